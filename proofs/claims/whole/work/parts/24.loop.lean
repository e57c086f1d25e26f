/-! loops -/
/-- k rounds from i on -/
def itr {σ : Type} (f : Nat → σ → σ) (i k : Nat) (s : σ) : σ := match k with
  | 0 => s
  | k + 1 => itr f (i + 1) k (f i s)
theorem itr_inv {σ : Type} {f : Nat → σ → σ} {I : Nat → σ → Prop} {n : Nat} (hI : ∀ i s, i < n → I i s → I (i + 1) (f i s)) : ∀ (k i : Nat) (s : σ), i + k = n → I i s → I n (itr f i k s) := by
  intro k
  induction k with
  | zero => intro i s e h; have : i = n := by omega
            subst this; exact h
  | succ k ih => intro i s e h; exact ih (i + 1) (f i s) (by omega) (hI i s (by omega) h)
theorem itr_eq {σ α : Type} {f : Nat → σ → σ} {I : Nat → σ → Prop} {n : Nat} {G : Nat → σ → α} (hI : ∀ i s, i < n → I i s → I (i + 1) (f i s)) (hG : ∀ i s, i < n → I i s → G i s = G (i + 1) (f i s)) : ∀ (k i : Nat) (s : σ), i + k = n → I i s → G i s = G n (itr f i k s) := by
  intro k
  induction k with
  | zero => intro i s e h; have : i = n := by omega
            subst this; rfl
  | succ k ih => intro i s e h; rw [hG i s (by omega) h]; exact ih (i + 1) (f i s) (by omega) (hI i s (by omega) h)
theorem itr_congr {σ : Type} {f g : Nat → σ → σ} {I : Nat → σ → Prop} {n : Nat} (hI : ∀ i s, i < n → I i s → I (i + 1) (f i s)) (hf : ∀ i s, i < n → I i s → f i s = g i s) : ∀ (k i : Nat) (s : σ), i + k = n → I i s → itr f i k s = itr g i k s := by
  intro k
  induction k with
  | zero => intro i s e h; rfl
  | succ k ih =>
    intro i s e h
    show itr f (i + 1) k (f i s) = itr g (i + 1) k (g i s)
    rw [← hf i s (by omega) h]
    exact ih (i + 1) (f i s) (by omega) (hI i s (by omega) h)
theorem nI_ltT {a b : Nat} (h : a < b) (hb : b < 2000000000) : (nI a < nI b) = True := eq_true (nI_lt h (by omega))
theorem nI_ltF {a b : Nat} (h : b ≤ a) (ha : a < 2000000000) : (nI a < nI b) = False := eq_false (nI_nlt h (by omega))
theorem nI_s {a : Nat} : nI a + 1 = nI (a + 1) := (nI_succ a).symm
theorem nI_c {a : Nat} (h : a < 2000000000) : (nI a).toNatClampNeg = a := nI_clamp (by omega)
theorem nI_p {a : Nat} (h : a < 2000000000) : (0 ≤ nI a) = True := eq_true (nI_pos' (by omega))
theorem nI_z : (0 : Int32) = nI 0 := rfl
theorem nI_a {a b : Nat} : nI a + nI b = nI (a + b) := by unfold nI; exact (Int32.ofNat_add a b).symm
theorem nI_m {a b : Nat} : nI a * nI b = nI (a * b) := by unfold nI; exact (Int32.ofNat_mul a b).symm
theorem nI_inj {a b : Nat} (ha : a < 2000000000) (hb : b < 2000000000) : (nI a = nI b) = (a = b) := by
  apply propext
  constructor
  · intro h
    have := congrArg Int32.toNatClampNeg h
    rwa [nI_c ha, nI_c hb] at this
  · intro h; rw [h]
theorem nI_n1 {a : Nat} (h : a < 2000000000) : (nI a = -1) = False := by
  apply eq_false
  intro e
  have := nI_pos' (n := a) (by omega)
  rw [e] at this
  exact absurd this (by decide)
/-! places of the rows of turns, yeses, ends .. in the reference's row of numbers -/
theorem ixT0 {i : Nat} (hi : i < 200) : (166 + 5 * nI i).toNatClampNeg = 166 + 5 * i := by
  show (nI 166 + nI 5 * nI i).toNatClampNeg = _
  rw [nI_m, nI_a, nI_c (by omega)]
theorem ipT0 {i : Nat} (hi : i < 200) : (0 ≤ 166 + 5 * nI i) = True := by
  show (0 ≤ nI 166 + nI 5 * nI i) = True
  rw [nI_m, nI_a, nI_p (by omega)]
theorem ixT1 {i : Nat} (hi : i < 200) : (166 + 5 * nI i + 1).toNatClampNeg = 166 + 5 * i + 1 := by
  show (nI 166 + nI 5 * nI i + nI 1).toNatClampNeg = _
  rw [nI_m, nI_a, nI_a, nI_c (by omega)]
theorem ipT1 {i : Nat} (hi : i < 200) : (0 ≤ 166 + 5 * nI i + 1) = True := by
  show (0 ≤ nI 166 + nI 5 * nI i + nI 1) = True
  rw [nI_m, nI_a, nI_a, nI_p (by omega)]
theorem ixT2 {i : Nat} (hi : i < 200) : (166 + 5 * nI i + 2).toNatClampNeg = 166 + 5 * i + 2 := by
  show (nI 166 + nI 5 * nI i + nI 2).toNatClampNeg = _
  rw [nI_m, nI_a, nI_a, nI_c (by omega)]
theorem ipT2 {i : Nat} (hi : i < 200) : (0 ≤ 166 + 5 * nI i + 2) = True := by
  show (0 ≤ nI 166 + nI 5 * nI i + nI 2) = True
  rw [nI_m, nI_a, nI_a, nI_p (by omega)]
theorem ixT3 {i : Nat} (hi : i < 200) : (166 + 5 * nI i + 3).toNatClampNeg = 166 + 5 * i + 3 := by
  show (nI 166 + nI 5 * nI i + nI 3).toNatClampNeg = _
  rw [nI_m, nI_a, nI_a, nI_c (by omega)]
theorem ipT3 {i : Nat} (hi : i < 200) : (0 ≤ 166 + 5 * nI i + 3) = True := by
  show (0 ≤ nI 166 + nI 5 * nI i + nI 3) = True
  rw [nI_m, nI_a, nI_a, nI_p (by omega)]
theorem ixT4 {i : Nat} (hi : i < 200) : (166 + 5 * nI i + 4).toNatClampNeg = 166 + 5 * i + 4 := by
  show (nI 166 + nI 5 * nI i + nI 4).toNatClampNeg = _
  rw [nI_m, nI_a, nI_a, nI_c (by omega)]
theorem ipT4 {i : Nat} (hi : i < 200) : (0 ≤ 166 + 5 * nI i + 4) = True := by
  show (0 ≤ nI 166 + nI 5 * nI i + nI 4) = True
  rw [nI_m, nI_a, nI_a, nI_p (by omega)]
theorem ixY0 {i : Nat} (hi : i < 200) : (617 + 3 * nI i).toNatClampNeg = 617 + 3 * i := by
  show (nI 617 + nI 3 * nI i).toNatClampNeg = _
  rw [nI_m, nI_a, nI_c (by omega)]
theorem ipY0 {i : Nat} (hi : i < 200) : (0 ≤ 617 + 3 * nI i) = True := by
  show (0 ≤ nI 617 + nI 3 * nI i) = True
  rw [nI_m, nI_a, nI_p (by omega)]
theorem ixY1 {i : Nat} (hi : i < 200) : (617 + 3 * nI i + 1).toNatClampNeg = 617 + 3 * i + 1 := by
  show (nI 617 + nI 3 * nI i + nI 1).toNatClampNeg = _
  rw [nI_m, nI_a, nI_a, nI_c (by omega)]
theorem ipY1 {i : Nat} (hi : i < 200) : (0 ≤ 617 + 3 * nI i + 1) = True := by
  show (0 ≤ nI 617 + nI 3 * nI i + nI 1) = True
  rw [nI_m, nI_a, nI_a, nI_p (by omega)]
theorem ixY2 {i : Nat} (hi : i < 200) : (617 + 3 * nI i + 2).toNatClampNeg = 617 + 3 * i + 2 := by
  show (nI 617 + nI 3 * nI i + nI 2).toNatClampNeg = _
  rw [nI_m, nI_a, nI_a, nI_c (by omega)]
theorem ipY2 {i : Nat} (hi : i < 200) : (0 ≤ 617 + 3 * nI i + 2) = True := by
  show (0 ≤ nI 617 + nI 3 * nI i + nI 2) = True
  rw [nI_m, nI_a, nI_a, nI_p (by omega)]
theorem ixE0 {i : Nat} (hi : i < 200) : (12 + 4 * nI i).toNatClampNeg = 12 + 4 * i := by
  show (nI 12 + nI 4 * nI i).toNatClampNeg = _
  rw [nI_m, nI_a, nI_c (by omega)]
theorem ipE0 {i : Nat} (hi : i < 200) : (0 ≤ 12 + 4 * nI i) = True := by
  show (0 ≤ nI 12 + nI 4 * nI i) = True
  rw [nI_m, nI_a, nI_p (by omega)]
theorem ixE1 {i : Nat} (hi : i < 200) : (12 + 4 * nI i + 1).toNatClampNeg = 12 + 4 * i + 1 := by
  show (nI 12 + nI 4 * nI i + nI 1).toNatClampNeg = _
  rw [nI_m, nI_a, nI_a, nI_c (by omega)]
theorem ipE1 {i : Nat} (hi : i < 200) : (0 ≤ 12 + 4 * nI i + 1) = True := by
  show (0 ≤ nI 12 + nI 4 * nI i + nI 1) = True
  rw [nI_m, nI_a, nI_a, nI_p (by omega)]
theorem ixE2 {i : Nat} (hi : i < 200) : (12 + 4 * nI i + 2).toNatClampNeg = 12 + 4 * i + 2 := by
  show (nI 12 + nI 4 * nI i + nI 2).toNatClampNeg = _
  rw [nI_m, nI_a, nI_a, nI_c (by omega)]
theorem ipE2 {i : Nat} (hi : i < 200) : (0 ≤ 12 + 4 * nI i + 2) = True := by
  show (0 ≤ nI 12 + nI 4 * nI i + nI 2) = True
  rw [nI_m, nI_a, nI_a, nI_p (by omega)]
theorem ixE3 {i : Nat} (hi : i < 200) : (12 + 4 * nI i + 3).toNatClampNeg = 12 + 4 * i + 3 := by
  show (nI 12 + nI 4 * nI i + nI 3).toNatClampNeg = _
  rw [nI_m, nI_a, nI_a, nI_c (by omega)]
theorem ipE3 {i : Nat} (hi : i < 200) : (0 ≤ 12 + 4 * nI i + 3) = True := by
  show (0 ≤ nI 12 + nI 4 * nI i + nI 3) = True
  rw [nI_m, nI_a, nI_a, nI_p (by omega)]
theorem ixG0 {i : Nat} (hi : i < 200) : (30 + 3 * nI i).toNatClampNeg = 30 + 3 * i := by
  show (nI 30 + nI 3 * nI i).toNatClampNeg = _
  rw [nI_m, nI_a, nI_c (by omega)]
theorem ipG0 {i : Nat} (hi : i < 200) : (0 ≤ 30 + 3 * nI i) = True := by
  show (0 ≤ nI 30 + nI 3 * nI i) = True
  rw [nI_m, nI_a, nI_p (by omega)]
theorem ixG1 {i : Nat} (hi : i < 200) : (30 + 3 * nI i + 1).toNatClampNeg = 30 + 3 * i + 1 := by
  show (nI 30 + nI 3 * nI i + nI 1).toNatClampNeg = _
  rw [nI_m, nI_a, nI_a, nI_c (by omega)]
theorem ipG1 {i : Nat} (hi : i < 200) : (0 ≤ 30 + 3 * nI i + 1) = True := by
  show (0 ≤ nI 30 + nI 3 * nI i + nI 1) = True
  rw [nI_m, nI_a, nI_a, nI_p (by omega)]
theorem ixG2 {i : Nat} (hi : i < 200) : (30 + 3 * nI i + 2).toNatClampNeg = 30 + 3 * i + 2 := by
  show (nI 30 + nI 3 * nI i + nI 2).toNatClampNeg = _
  rw [nI_m, nI_a, nI_a, nI_c (by omega)]
theorem ipG2 {i : Nat} (hi : i < 200) : (0 ≤ 30 + 3 * nI i + 2) = True := by
  show (0 ≤ nI 30 + nI 3 * nI i + nI 2) = True
  rw [nI_m, nI_a, nI_a, nI_p (by omega)]
theorem ixH0 {i : Nat} (hi : i < 200) : (54 + 4 * nI i).toNatClampNeg = 54 + 4 * i := by
  show (nI 54 + nI 4 * nI i).toNatClampNeg = _
  rw [nI_m, nI_a, nI_c (by omega)]
theorem ipH0 {i : Nat} (hi : i < 200) : (0 ≤ 54 + 4 * nI i) = True := by
  show (0 ≤ nI 54 + nI 4 * nI i) = True
  rw [nI_m, nI_a, nI_p (by omega)]
theorem ixH1 {i : Nat} (hi : i < 200) : (54 + 4 * nI i + 1).toNatClampNeg = 54 + 4 * i + 1 := by
  show (nI 54 + nI 4 * nI i + nI 1).toNatClampNeg = _
  rw [nI_m, nI_a, nI_a, nI_c (by omega)]
theorem ipH1 {i : Nat} (hi : i < 200) : (0 ≤ 54 + 4 * nI i + 1) = True := by
  show (0 ≤ nI 54 + nI 4 * nI i + nI 1) = True
  rw [nI_m, nI_a, nI_a, nI_p (by omega)]
theorem ixH2 {i : Nat} (hi : i < 200) : (54 + 4 * nI i + 2).toNatClampNeg = 54 + 4 * i + 2 := by
  show (nI 54 + nI 4 * nI i + nI 2).toNatClampNeg = _
  rw [nI_m, nI_a, nI_a, nI_c (by omega)]
theorem ipH2 {i : Nat} (hi : i < 200) : (0 ≤ 54 + 4 * nI i + 2) = True := by
  show (0 ≤ nI 54 + nI 4 * nI i + nI 2) = True
  rw [nI_m, nI_a, nI_a, nI_p (by omega)]
theorem ixH3 {i : Nat} (hi : i < 200) : (54 + 4 * nI i + 3).toNatClampNeg = 54 + 4 * i + 3 := by
  show (nI 54 + nI 4 * nI i + nI 3).toNatClampNeg = _
  rw [nI_m, nI_a, nI_a, nI_c (by omega)]
theorem ipH3 {i : Nat} (hi : i < 200) : (0 ≤ 54 + 4 * nI i + 3) = True := by
  show (0 ≤ nI 54 + nI 4 * nI i + nI 3) = True
  rw [nI_m, nI_a, nI_a, nI_p (by omega)]
