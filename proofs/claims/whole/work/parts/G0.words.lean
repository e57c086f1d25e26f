/-! the words of the tape: by letters, and by a number of base 64 -/
section WORDH
variable {d : Nat} {h : am_h} {Q : Option Value → am_h → Prop} {t u : Nat → Nat} {fr k l m i j : Nat}
/-- k letters from i on as a number -/
def hs (t : Nat → Nat) (i : Nat) : Nat → Nat
  | 0 => 0
  | k + 1 => 64 * hs t i k + (t (i + k) - 64)
theorem lt_b {c : Nat} (g : lt c = true) : 65 ≤ c ∧ c ≤ 122 := by
  unfold lt at g
  rw [decide_eq_true_eq] at g
  omega
theorem hs_inj : ∀ (k m : Nat), (∀ e, e < k → 65 ≤ t (i + e) ∧ t (i + e) ≤ 122) → (∀ e, e < m → 65 ≤ u (j + e) ∧ u (j + e) ≤ 122) → hs t i k = hs u j m → k = m ∧ ∀ e, e < k → t (i + e) = u (j + e) := by
  intro k
  induction k with
  | zero =>
    intro m _ b e
    cases m with
    | zero => exact ⟨rfl, fun e z => absurd z (Nat.not_lt_zero e)⟩
    | succ m =>
      have := b m (by omega)
      have e2 : (0 : Nat) = 64 * hs u j m + (u (j + m) - 64) := e
      omega
  | succ k ih =>
    intro m a b e
    cases m with
    | zero =>
      have := a k (by omega)
      have e2 : 64 * hs t i k + (t (i + k) - 64) = 0 := e
      omega
    | succ m =>
      have a1 := a k (by omega)
      have b1 := b m (by omega)
      have e2 : 64 * hs t i k + (t (i + k) - 64) = 64 * hs u j m + (u (j + m) - 64) := e
      obtain ⟨km, z⟩ := ih m (fun e l => a e (by omega)) (fun e l => b e (by omega)) (by omega)
      subst km
      refine ⟨rfl, fun e l => ?_⟩
      by_cases c : e = k
      · subst c; omega
      · exact z e (by omega)
theorem hs_congr : ∀ (k : Nat), (∀ e, e < k → t (i + e) = u (j + e)) → hs t i k = hs u j k := by
  intro k
  induction k with
  | zero => intro _; rfl
  | succ k ih =>
    intro a
    show 64 * hs t i k + (t (i + k) - 64) = 64 * hs u j k + (u (j + k) - 64)
    rw [ih (fun e l => a e (by omega)), a k (by omega)]
theorem hs_lt : ∀ (k : Nat), (∀ e, e < k → 65 ≤ t (i + e) ∧ t (i + e) ≤ 122) → hs t i k < 64 ^ k := by
  intro k
  induction k with
  | zero => intro _; exact Nat.one_pos
  | succ k ih =>
    intro a
    have := ih (fun e l => a e (by omega))
    have a1 := a k (by omega)
    show 64 * hs t i k + (t (i + k) - 64) < 64 ^ (k + 1)
    rw [Nat.pow_succ]
    omega
theorem spw_iff {l fr : Nat} : ∀ (k i : Nat), spw t l fr k i = true ↔ ∀ e, e < k → t (i + e) = wN (l + (i + e) - fr) := by
  intro k
  induction k with
  | zero => intro i; exact ⟨fun _ e z => absurd z (Nat.not_lt_zero e), fun _ => rfl⟩
  | succ k ih =>
    intro i
    show (if t i = wN (l + i - fr) then spw t l fr k (i + 1) else false) = true ↔ _
    by_cases c : t i = wN (l + i - fr)
    · rw [if_pos c, ih]
      constructor
      · intro a e z
        cases e with
        | zero => exact c
        | succ e =>
          have := a e (by omega)
          rw [show i + 1 + e = i + (e + 1) by omega] at this
          exact this
      · intro a e z
        have := a (e + 1) (by omega)
        rw [show i + (e + 1) = i + 1 + e by omega] at this
        exact this
    · rw [if_neg c]
      refine ⟨fun z => absurd z (by simp), fun a => absurd (a 0 (by omega)) c⟩
def okW (y : Nat × Nat) : Prop := y.1 + y.2 < 154 ∧ wN (y.1 + y.2) = 32 ∧ ∀ e, e < y.2 → 65 ≤ wN (y.1 + e) ∧ wN (y.1 + e) ≤ 122
theorem spt_hs (hm : okW (l, m)) (ht : ∀ e, e < k → 65 ≤ t (fr + e) ∧ t (fr + e) ≤ 122) : spt t l fr (fr + k) = true ↔ hs t fr k = hs wN l m := by
  obtain ⟨m1, m2, m3⟩ := hm
  have m1 : l + m < 154 := m1
  have m2 : wN (l + m) = 32 := m2
  have m3 : ∀ e, e < m → 65 ≤ wN (l + e) ∧ wN (l + e) ≤ 122 := m3
  unfold spt
  rw [show l + (fr + k) - fr = l + k by omega, show fr + k - fr = k by omega]
  constructor
  · intro z
    split at z
    · rename_i c
      have sp := (spw_iff _ _).mp z
      have sp2 : ∀ e, e < k → t (fr + e) = wN (l + e) := fun e l1 => by
        have := sp e l1
        rwa [show l + (fr + e) - fr = l + e by omega] at this
      have km : k = m := by
        by_cases c1 : k < m
        · have := (m3 k c1).1
          omega
        · by_cases c2 : m < k
          · have := (ht m c2).1
            rw [sp2 m c2] at this
            omega
          · omega
      subst km
      exact hs_congr k sp2
    · exact absurd z (by simp)
  · intro z
    obtain ⟨km, e1⟩ := hs_inj k m ht m3 z
    subst km
    rw [if_pos ⟨m1, m2⟩]
    refine (spw_iff _ _).mpr (fun e l1 => ?_)
    rw [show l + (fr + e) - fr = l + e by omega]
    exact e1 e l1
def goP (t : Nat → Nat) (fr to : Nat) : List Nat → Nat → Nat
  | [], _ => 32
  | p :: ps, w => if spt t p fr to = true then w else goP t fr to ps (w + 1)
def blkS : Nat → Nat → List Nat
  | 0, _ => []
  | k + 1, i => if wN i = 32 then (i + 1) :: blkS k (i + 1) else blkS k (i + 1)
theorem nwd_go {to : Nat} : ∀ (k i w : Nat), nwd t fr to k i w = goP t fr to (blkS k i) w := by
  intro k
  induction k with
  | zero => intro i w; rfl
  | succ k ih =>
    intro i w
    show (if wN i = 32 then (if spt t (i + 1) fr to = true then w else nwd t fr to k (i + 1) (w + 1)) else nwd t fr to k (i + 1) w) = goP t fr to (if wN i = 32 then (i + 1) :: blkS k (i + 1) else blkS k (i + 1)) w
    by_cases c : wN i = 32
    · rw [if_pos c, if_pos c, ih]
      rfl
    · rw [if_neg c, if_neg c, ih]
def fH (x : Nat) : List Nat → Nat → Nat
  | [], _ => 32
  | H :: r, w => if x = H then w else fH x r (w + 1)
theorem go_fH (ht : ∀ e, e < k → 65 ≤ t (fr + e) ∧ t (fr + e) ≤ 122) : ∀ (L : List (Nat × Nat)) (w : Nat), (∀ y ∈ L, okW y) → goP t fr (fr + k) (L.map Prod.fst) w = fH (hs t fr k) (L.map (fun y => hs wN y.1 y.2)) w := by
  intro L
  induction L with
  | nil => intro w _; rfl
  | cons y L ih =>
    intro w ok
    have s := spt_hs (t := t) (fr := fr) (k := k) (ok y List.mem_cons_self) ht
    show (if spt t y.1 fr (fr + k) = true then w else goP t fr (fr + k) (L.map Prod.fst) (w + 1)) = if hs t fr k = hs wN y.1 y.2 then w else fH (hs t fr k) (L.map (fun y => hs wN y.1 y.2)) (w + 1)
    by_cases c : hs t fr k = hs wN y.1 y.2
    · rw [if_pos c, if_pos (s.mpr c)]
    · rw [if_neg c, if_neg (fun z => c (s.mp z)), ih _ (fun y m => ok y (List.mem_cons_of_mem _ m))]
def Lw : List (Nat × Nat) := [(1, 4), (6, 5), (12, 4), (17, 4), (22, 5), (28, 5), (34, 4), (39, 3), (43, 2), (46, 5), (52, 4), (57, 3), (61, 2), (64, 2), (67, 2), (70, 4), (75, 4), (80, 3), (84, 2), (87, 3), (91, 3), (95, 3), (99, 4), (104, 5), (110, 5), (116, 3), (120, 5), (126, 6), (133, 4), (138, 6), (145, 3), (149, 4)]
def Hc : List Nat := [14555764, 869465139, 11729831, 9370404, 679951653, 868374635, 10706152, 235891, 2543, 613861497, 13327141, 158706, 3375, 2233, 2662, 13797742, 9882853, 154532, 3058, 138148, 191476, 227887, 9890099, 852937060, 886516659, 146804, 931568947, 55579400292, 13585392, 47877618984, 161904, 10939695]
theorem Lw_ok : ∀ y ∈ Lw, okW y := by
  have : ∀ y ∈ Lw, y.1 + y.2 < 154 ∧ wN (y.1 + y.2) = 32 ∧ ∀ e, e < y.2 → 65 ≤ wN (y.1 + e) ∧ wN (y.1 + e) ≤ 122 := by decide +kernel
  exact this
theorem Lw_b : blkS 153 0 = Lw.map Prod.fst := by decide +kernel
theorem Lw_h : Lw.map (fun y => hs wN y.1 y.2) = Hc := by decide +kernel
theorem Lw_m : ∀ y ∈ Lw, y.2 ≤ 6 := by decide +kernel
theorem nwd_f (ht : ∀ e, e < k → 65 ≤ t (fr + e) ∧ t (fr + e) ≤ 122) : nwd t fr (fr + k) 153 0 0 = fH (hs t fr k) Hc 0 := by
  rw [nwd_go, Lw_b, go_fH ht Lw 0 Lw_ok, Lw_h]
theorem fH_no {x : Nat} : ∀ (L : List Nat) (w : Nat), (∀ y ∈ L, ¬ x = y) → fH x L w = 32 := by
  intro L
  induction L with
  | nil => intro w _; rfl
  | cons y L ih =>
    intro w a
    show (if x = y then w else fH x L (w + 1)) = 32
    rw [if_neg (a y List.mem_cons_self), ih _ (fun y m => a y (List.mem_cons_of_mem _ m))]
theorem nwd_long (ht : ∀ e, e < k → 65 ≤ t (fr + e) ∧ t (fr + e) ≤ 122) (hk : 6 < k) : nwd t fr (fr + k) 153 0 0 = 32 := by
  rw [nwd_f ht, ← Lw_h]
  refine fH_no _ _ (fun y my e => ?_)
  obtain ⟨x, mx, rfl⟩ := List.mem_map.mp my
  have := (hs_inj k x.2 ht (Lw_ok x mx).2.2 e).1
  have := Lw_m x mx
  omega
/-- the other side's number of a word -/
def wm (w : Nat) : Nat := [0, 1, 2, 3, 4, 5, 6, 7, 8, 9, 10, 11, 12, 13, 17, 18, 19, 20, 14, 15, 16, 21, 22, 23, 24, 25, 26, 27, 28, 29, 30, 31].getD w 0
theorem lgc {x c : Nat} (hx : x < 2 ^ 62) (hc : c < 2 ^ 62) : (lg_cmp (lN x) (lN c) = 0) = (x = c) := by
  have ix : (lN x).toInt = (x : Int) := lg_ofNat_toInt (by omega)
  have ic : (lN c).toInt = (c : Int) := lg_ofNat_toInt (by omega)
  unfold lg_cmp
  by_cases e : x = c
  · subst e
    simp [Int64.lt_irrefl]
  · have ne : ¬ lN x = lN c := fun z => by
      have := congrArg Int64.toInt z
      rw [ix, ic] at this
      omega
    by_cases g : lN x > lN c
    · simp [g, e]
    · simp [g, ne, e]
set_option maxRecDepth 20000 in
set_option maxHeartbeats 2000000 in
theorem q_wd (hR : sh_R (a_t h) (a_r h)) (ht : ∀ e, e < k → 65 ≤ t (fr + e) ∧ t (fr + e) ≤ 122) (hk : k ≤ 7) : (nwd t fr (fr + k) 153 0 0 < 32 ∧ ∀ Q, Cal d mX12_wordOf [.long (lN (hs t fr k))] h Q = Q (some (.int (nI (wm (nwd t fr (fr + k) 153 0 0))))) h) ∨ (nwd t fr (fr + k) 153 0 0 = 32 ∧ ∀ Q, Cal d mX12_wordOf [.long (lN (hs t fr k))] h Q = Q (some (.int (-1))) h) := by
  have hx : hs t fr k < 2 ^ 62 := by
    have h1 := hs_lt k ht
    have h2 : (64 : Nat) ^ k ≤ 64 ^ 7 := Nat.pow_le_pow_right (by omega) hk
    have h3 : (64 : Nat) ^ 7 < 2 ^ 62 := by decide
    omega
  rw [nwd_f ht]
  generalize hs t fr k = x at hx
  have l0 : (lg_cmp (lN x) 14555764 = 0) = (x = 14555764) := lgc hx (by decide)
  have l1 : (lg_cmp (lN x) 869465139 = 0) = (x = 869465139) := lgc hx (by decide)
  have l2 : (lg_cmp (lN x) 11729831 = 0) = (x = 11729831) := lgc hx (by decide)
  have l3 : (lg_cmp (lN x) 9370404 = 0) = (x = 9370404) := lgc hx (by decide)
  have l4 : (lg_cmp (lN x) 679951653 = 0) = (x = 679951653) := lgc hx (by decide)
  have l5 : (lg_cmp (lN x) 868374635 = 0) = (x = 868374635) := lgc hx (by decide)
  have l6 : (lg_cmp (lN x) 10706152 = 0) = (x = 10706152) := lgc hx (by decide)
  have l7 : (lg_cmp (lN x) 235891 = 0) = (x = 235891) := lgc hx (by decide)
  have l8 : (lg_cmp (lN x) 2543 = 0) = (x = 2543) := lgc hx (by decide)
  have l9 : (lg_cmp (lN x) 613861497 = 0) = (x = 613861497) := lgc hx (by decide)
  have l10 : (lg_cmp (lN x) 13327141 = 0) = (x = 13327141) := lgc hx (by decide)
  have l11 : (lg_cmp (lN x) 158706 = 0) = (x = 158706) := lgc hx (by decide)
  have l12 : (lg_cmp (lN x) 3375 = 0) = (x = 3375) := lgc hx (by decide)
  have l13 : (lg_cmp (lN x) 2233 = 0) = (x = 2233) := lgc hx (by decide)
  have l14 : (lg_cmp (lN x) 3058 = 0) = (x = 3058) := lgc hx (by decide)
  have l15 : (lg_cmp (lN x) 138148 = 0) = (x = 138148) := lgc hx (by decide)
  have l16 : (lg_cmp (lN x) 191476 = 0) = (x = 191476) := lgc hx (by decide)
  have l17 : (lg_cmp (lN x) 2662 = 0) = (x = 2662) := lgc hx (by decide)
  have l18 : (lg_cmp (lN x) 13797742 = 0) = (x = 13797742) := lgc hx (by decide)
  have l19 : (lg_cmp (lN x) 9882853 = 0) = (x = 9882853) := lgc hx (by decide)
  have l20 : (lg_cmp (lN x) 154532 = 0) = (x = 154532) := lgc hx (by decide)
  have l21 : (lg_cmp (lN x) 227887 = 0) = (x = 227887) := lgc hx (by decide)
  have l22 : (lg_cmp (lN x) 9890099 = 0) = (x = 9890099) := lgc hx (by decide)
  have l23 : (lg_cmp (lN x) 852937060 = 0) = (x = 852937060) := lgc hx (by decide)
  have l24 : (lg_cmp (lN x) 886516659 = 0) = (x = 886516659) := lgc hx (by decide)
  have l25 : (lg_cmp (lN x) 146804 = 0) = (x = 146804) := lgc hx (by decide)
  have l26 : (lg_cmp (lN x) 931568947 = 0) = (x = 931568947) := lgc hx (by decide)
  have l27 : (lg_cmp (lN x) 55579400292 = 0) = (x = 55579400292) := lgc hx (by decide)
  have l28 : (lg_cmp (lN x) 13585392 = 0) = (x = 13585392) := lgc hx (by decide)
  have l29 : (lg_cmp (lN x) 47877618984 = 0) = (x = 47877618984) := lgc hx (by decide)
  have l30 : (lg_cmp (lN x) 161904 = 0) = (x = 161904) := lgc hx (by decide)
  have l31 : (lg_cmp (lN x) 10939695 = 0) = (x = 10939695) := lgc hx (by decide)
  have z := fun Q => q_X12_wordOf (d := d) (h := h) (Q := Q) (eq_true hR) (v0 := lN x)
  simp only [l0, l1, l2, l3, l4, l5, l6, l7, l8, l9, l10, l11, l12, l13, l14, l15, l16, l17, l18, l19, l20, l21, l22, l23, l24, l25, l26, l27, l28, l29, l30, l31] at z
  by_cases c0 : x = 14555764
  · subst c0
    refine Or.inl ⟨by decide, fun Q => ?_⟩
    rw [z, show fH 14555764 Hc 0 = 0 from by decide]
    simp [show wm 0 = 0 from rfl, show nI 0 = 0 from rfl]
  by_cases c1 : x = 869465139
  · subst c1
    refine Or.inl ⟨by decide, fun Q => ?_⟩
    rw [z, show fH 869465139 Hc 0 = 1 from by decide]
    simp [show wm 1 = 1 from rfl, show nI 1 = 1 from rfl]
  by_cases c2 : x = 11729831
  · subst c2
    refine Or.inl ⟨by decide, fun Q => ?_⟩
    rw [z, show fH 11729831 Hc 0 = 2 from by decide]
    simp [show wm 2 = 2 from rfl, show nI 2 = 2 from rfl]
  by_cases c3 : x = 9370404
  · subst c3
    refine Or.inl ⟨by decide, fun Q => ?_⟩
    rw [z, show fH 9370404 Hc 0 = 3 from by decide]
    simp [show wm 3 = 3 from rfl, show nI 3 = 3 from rfl]
  by_cases c4 : x = 679951653
  · subst c4
    refine Or.inl ⟨by decide, fun Q => ?_⟩
    rw [z, show fH 679951653 Hc 0 = 4 from by decide]
    simp [show wm 4 = 4 from rfl, show nI 4 = 4 from rfl]
  by_cases c5 : x = 868374635
  · subst c5
    refine Or.inl ⟨by decide, fun Q => ?_⟩
    rw [z, show fH 868374635 Hc 0 = 5 from by decide]
    simp [show wm 5 = 5 from rfl, show nI 5 = 5 from rfl]
  by_cases c6 : x = 10706152
  · subst c6
    refine Or.inl ⟨by decide, fun Q => ?_⟩
    rw [z, show fH 10706152 Hc 0 = 6 from by decide]
    simp [show wm 6 = 6 from rfl, show nI 6 = 6 from rfl]
  by_cases c7 : x = 235891
  · subst c7
    refine Or.inl ⟨by decide, fun Q => ?_⟩
    rw [z, show fH 235891 Hc 0 = 7 from by decide]
    simp [show wm 7 = 7 from rfl, show nI 7 = 7 from rfl]
  by_cases c8 : x = 2543
  · subst c8
    refine Or.inl ⟨by decide, fun Q => ?_⟩
    rw [z, show fH 2543 Hc 0 = 8 from by decide]
    simp [show wm 8 = 8 from rfl, show nI 8 = 8 from rfl]
  by_cases c9 : x = 613861497
  · subst c9
    refine Or.inl ⟨by decide, fun Q => ?_⟩
    rw [z, show fH 613861497 Hc 0 = 9 from by decide]
    simp [show wm 9 = 9 from rfl, show nI 9 = 9 from rfl]
  by_cases c10 : x = 13327141
  · subst c10
    refine Or.inl ⟨by decide, fun Q => ?_⟩
    rw [z, show fH 13327141 Hc 0 = 10 from by decide]
    simp [show wm 10 = 10 from rfl, show nI 10 = 10 from rfl]
  by_cases c11 : x = 158706
  · subst c11
    refine Or.inl ⟨by decide, fun Q => ?_⟩
    rw [z, show fH 158706 Hc 0 = 11 from by decide]
    simp [show wm 11 = 11 from rfl, show nI 11 = 11 from rfl]
  by_cases c12 : x = 3375
  · subst c12
    refine Or.inl ⟨by decide, fun Q => ?_⟩
    rw [z, show fH 3375 Hc 0 = 12 from by decide]
    simp [show wm 12 = 12 from rfl, show nI 12 = 12 from rfl]
  by_cases c13 : x = 2233
  · subst c13
    refine Or.inl ⟨by decide, fun Q => ?_⟩
    rw [z, show fH 2233 Hc 0 = 13 from by decide]
    simp [show wm 13 = 13 from rfl, show nI 13 = 13 from rfl]
  by_cases c14 : x = 2662
  · subst c14
    refine Or.inl ⟨by decide, fun Q => ?_⟩
    rw [z, show fH 2662 Hc 0 = 14 from by decide]
    simp [show wm 14 = 17 from rfl, show nI 17 = 17 from rfl]
  by_cases c15 : x = 13797742
  · subst c15
    refine Or.inl ⟨by decide, fun Q => ?_⟩
    rw [z, show fH 13797742 Hc 0 = 15 from by decide]
    simp [show wm 15 = 18 from rfl, show nI 18 = 18 from rfl]
  by_cases c16 : x = 9882853
  · subst c16
    refine Or.inl ⟨by decide, fun Q => ?_⟩
    rw [z, show fH 9882853 Hc 0 = 16 from by decide]
    simp [show wm 16 = 19 from rfl, show nI 19 = 19 from rfl]
  by_cases c17 : x = 154532
  · subst c17
    refine Or.inl ⟨by decide, fun Q => ?_⟩
    rw [z, show fH 154532 Hc 0 = 17 from by decide]
    simp [show wm 17 = 20 from rfl, show nI 20 = 20 from rfl]
  by_cases c18 : x = 3058
  · subst c18
    refine Or.inl ⟨by decide, fun Q => ?_⟩
    rw [z, show fH 3058 Hc 0 = 18 from by decide]
    simp [show wm 18 = 14 from rfl, show nI 14 = 14 from rfl]
  by_cases c19 : x = 138148
  · subst c19
    refine Or.inl ⟨by decide, fun Q => ?_⟩
    rw [z, show fH 138148 Hc 0 = 19 from by decide]
    simp [show wm 19 = 15 from rfl, show nI 15 = 15 from rfl]
  by_cases c20 : x = 191476
  · subst c20
    refine Or.inl ⟨by decide, fun Q => ?_⟩
    rw [z, show fH 191476 Hc 0 = 20 from by decide]
    simp [show wm 20 = 16 from rfl, show nI 16 = 16 from rfl]
  by_cases c21 : x = 227887
  · subst c21
    refine Or.inl ⟨by decide, fun Q => ?_⟩
    rw [z, show fH 227887 Hc 0 = 21 from by decide]
    simp [show wm 21 = 21 from rfl, show nI 21 = 21 from rfl]
  by_cases c22 : x = 9890099
  · subst c22
    refine Or.inl ⟨by decide, fun Q => ?_⟩
    rw [z, show fH 9890099 Hc 0 = 22 from by decide]
    simp [show wm 22 = 22 from rfl, show nI 22 = 22 from rfl]
  by_cases c23 : x = 852937060
  · subst c23
    refine Or.inl ⟨by decide, fun Q => ?_⟩
    rw [z, show fH 852937060 Hc 0 = 23 from by decide]
    simp [show wm 23 = 23 from rfl, show nI 23 = 23 from rfl]
  by_cases c24 : x = 886516659
  · subst c24
    refine Or.inl ⟨by decide, fun Q => ?_⟩
    rw [z, show fH 886516659 Hc 0 = 24 from by decide]
    simp [show wm 24 = 24 from rfl, show nI 24 = 24 from rfl]
  by_cases c25 : x = 146804
  · subst c25
    refine Or.inl ⟨by decide, fun Q => ?_⟩
    rw [z, show fH 146804 Hc 0 = 25 from by decide]
    simp [show wm 25 = 25 from rfl, show nI 25 = 25 from rfl]
  by_cases c26 : x = 931568947
  · subst c26
    refine Or.inl ⟨by decide, fun Q => ?_⟩
    rw [z, show fH 931568947 Hc 0 = 26 from by decide]
    simp [show wm 26 = 26 from rfl, show nI 26 = 26 from rfl]
  by_cases c27 : x = 55579400292
  · subst c27
    refine Or.inl ⟨by decide, fun Q => ?_⟩
    rw [z, show fH 55579400292 Hc 0 = 27 from by decide]
    simp [show wm 27 = 27 from rfl, show nI 27 = 27 from rfl]
  by_cases c28 : x = 13585392
  · subst c28
    refine Or.inl ⟨by decide, fun Q => ?_⟩
    rw [z, show fH 13585392 Hc 0 = 28 from by decide]
    simp [show wm 28 = 28 from rfl, show nI 28 = 28 from rfl]
  by_cases c29 : x = 47877618984
  · subst c29
    refine Or.inl ⟨by decide, fun Q => ?_⟩
    rw [z, show fH 47877618984 Hc 0 = 29 from by decide]
    simp [show wm 29 = 29 from rfl, show nI 29 = 29 from rfl]
  by_cases c30 : x = 161904
  · subst c30
    refine Or.inl ⟨by decide, fun Q => ?_⟩
    rw [z, show fH 161904 Hc 0 = 30 from by decide]
    simp [show wm 30 = 30 from rfl, show nI 30 = 30 from rfl]
  by_cases c31 : x = 10939695
  · subst c31
    refine Or.inl ⟨by decide, fun Q => ?_⟩
    rw [z, show fH 10939695 Hc 0 = 31 from by decide]
    simp [show wm 31 = 31 from rfl, show nI 31 = 31 from rfl]
  refine Or.inr ⟨fH_no _ _ (fun y my e => ?_), fun Q => ?_⟩
  · unfold Hc at my
    simp only [List.mem_cons, List.not_mem_nil, or_false] at my
    omega
  · rw [z]
    simp only [c0, c1, c2, c3, c4, c5, c6, c7, c8, c9, c10, c11, c12, c13, c14, c15, c16, c17, c18, c19, c20, c21, c22, c23, c24, c25, c26, c27, c28, c29, c30, c31, if_false]
end WORDH
