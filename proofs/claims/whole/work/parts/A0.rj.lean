/-! a tenth: the other side's cells against the plain state -/
section RJ
variable {e n m j i T r c d : Nat} {s : TS} {h0 h h1 : am_h} {b0 v z kd b l : Int32} {u : Nat → Int32} {V : (Nat → Int32) → Int32 → Int32} {w : Nat} {g : Nat → Int32}
def sum16 (f : Nat → Int32) : Int32 := itr (fun k a => a + f k) 0 16 0
def jch (m q j : Nat) : Prop := (q = 126 ∧ 42 ≤ j ∧ j ≤ 49) ∨ (150 ≤ q ∧ q ≤ 166) ∨ (m = 0 ∧ q = 127 ∧ 90 ≤ j ∧ j < 737)
def rJe (m : Nat) (u : Nat → Int32) (h : am_h) (s : TS) (e : Nat) : Prop := a_i h 152 e = s 1 e ∧ a_i h 153 e = s 2 e ∧ a_i h 154 e = s 3 e ∧ a_i h 155 e = s 4 e ∧ a_i h 156 e = s 5 e ∧ a_i h 157 e = s 6 e ∧ a_i h 160 e = s 20 e ∧ a_i h 161 e = s 18 e ∧ a_i h 162 e = s 19 e ∧ (s 1 e = 1 → a_i h 158 e = u e - s 23 e ∧ a_i h 159 e = s 22 e ∧ (m = 0 → a_i h 163 e = s 21 e))
def rJn (m n : Nat) (b0 : Int32) (h : am_h) (s : TS) : Prop := a_i h 126 42 = nI m ∧ a_i h 126 43 = nI n ∧ a_i h 126 44 = s 0 1 ∧ a_i h 126 45 = s 0 0 ∧ a_i h 126 46 = s 0 2 ∧ a_i h 126 47 = s 0 3 - b0
def rJr (h : am_h) (s : TS) : Prop := ∀ c i, (7 ≤ c ∧ c < 18) ∨ (c = 0 ∧ (i = 0 ∨ i = 3 ∨ i = 4)) → dec (a_i h 127) 90 c i = s c i
def rJ (m n : Nat) (b0 : Int32) (u : Nat → Int32) (h0 h : am_h) (s : TS) : Prop :=
  sm h0 h ∧ rJn m n b0 h s ∧ (∀ e, e < 4 → rJe m u h s e) ∧ (∀ k, k < 16 → a_i h 165 k = s 7 k)
  ∧ (m = 0 → rJr h s) ∧ (m = 1 → a_i h 126 48 = sum16 (s 8) ∧ a_i h 126 49 = sum16 (s 9))
  ∧ (∀ q j, ¬ jch m q j → a_i h q j = a_i h0 q j) ∧ ∀ q j, ¬ q = 151 → a_l h q j = a_l h0 q j
/-- nothing of the model changes -/
theorem rJ.fr (k : rJ m n b0 u h0 h s) (hs : sm h h1) (hi : ∀ q j, ¬ (150 ≤ q ∧ q ≤ 151) → ¬ (q = 164) → ¬ (q = 166) → a_i h1 q j = a_i h q j) (hl : ∀ q j, ¬ q = 151 → a_l h1 q j = a_l h q j) : rJ m n b0 u h0 h1 s := by
  obtain ⟨k1, k2, k3, k4, k5, k6, k7, k8⟩ := k
  have e127 : a_i h1 127 = a_i h 127 := funext fun j => hi _ _ (by omega) (by omega) (by omega)
  refine ⟨k1.tr hs, ?_, fun e he => ?_, fun k hk => ?_, fun z => ?_, fun z => ?_, fun q j c => ?_, fun q j c => ?_⟩
  · unfold rJn at k2 ⊢
    simp (disch := omega) only [hi]
    exact k2
  · have := k3 e he
    unfold rJe at this ⊢
    simp (disch := omega) only [hi]
    exact this
  · rw [hi _ _ (by omega) (by omega) (by omega)]; exact k4 k hk
  · unfold rJr
    rw [e127]
    exact k5 z
  · rw [hi _ _ (by omega) (by omega) (by omega), hi _ _ (by omega) (by omega) (by omega)]; exact k6 z
  · rw [hi _ _ (fun z => c (by unfold jch; omega)) (fun z => c (by unfold jch; omega)) (fun z => c (by unfold jch; omega))]
    exact k7 q j c
  · rw [hl q j c]; exact k8 q j c
theorem rJ.lw (k : rJ m n b0 u h0 h s) (x : lwr h h1) : rJ m n b0 u h0 h1 s := k.fr x.1 (fun q j c _ _ => x.2.2 q j (by omega)) x.2.1
theorem rJ.X (k : rJ m n b0 u h0 h s) (x : LX h0 w V) : LX h w V := by
  obtain ⟨k1, k2, k3, k4, k5, k6, k7, k8⟩ := k
  exact LX_fr k1.1 k1.2.1 (fun q j c => k7 q j (by unfold jch; omega)) (k7 _ _ (by unfold jch; omega)) x
theorem rJ.R (hR : sh_R (a_t h0) (a_r h0)) (k : rJ m n b0 u h0 h s) : sh_R (a_t h) (a_r h) := by rw [k.1.1, k.1.2.1]; exact hR
/-- the first numbers -/
theorem rJ.gg (k : rJ m n b0 u h0 h s) {x : Nat} (hx : x < 90) : a_i h 127 x = a_i h0 127 x := k.2.2.2.2.2.2.1 127 x (by unfold jch; omega)
theorem a127_sc {r i : Nat} {v : Int32} (hr : ¬ r = 127) : a_i (s_i h r i v) 127 = a_i h 127 := a127_si (fun z => hr z.symm)
/-- a column of ends -/
theorem rJ.uc (k : rJ m n b0 u h0 h s) (he : e < 4) (hc : 2 ≤ c ∧ c ≤ 6) (hr : r = 151 + c) : rJ m n b0 u h0 (s_i h r e v) (up s c e v) := by
  subst hr
  obtain ⟨k1, k2, k3, k4, k5, k6, k7, k8⟩ := k
  refine ⟨k1.tr ⟨rfl, rfl, rfl⟩, ?_, fun e' he' => ?_, fun k hk => ?_, fun z => ?_, fun z => ?_, fun q j c' => ?_, k8⟩
  · unfold rJn at k2 ⊢
    simp (disch := omega) only [ine, upn]
    exact k2
  · obtain ⟨z1, z2, z3, z4, z5, z6, z7, z8, z9, z10⟩ := k3 e' he'
    have F : ∀ q cc, (q = 151 + cc) → a_i h q e' = s cc e' → a_i (s_i h (151 + c) e v) q e' = up s c e v cc e' := by
      intro q cc hq h
      by_cases a : cc = c ∧ e' = e
      · rw [ieq (by omega) a.2, upe' a.1 a.2]
      · rw [ine (by omega), upn (by omega)]; exact h
    refine ⟨?_, F 153 2 rfl z2, F 154 3 rfl z3, F 155 4 rfl z4, F 156 5 rfl z5, F 157 6 rfl z6, ?_, ?_, ?_, fun h1 => ?_⟩
    · rw [ine (by omega), upn (by omega)]; exact z1
    · rw [ine (by omega), upn (by omega)]; exact z7
    · rw [ine (by omega), upn (by omega)]; exact z8
    · rw [ine (by omega), upn (by omega)]; exact z9
    · rw [upn (by omega)] at h1
      obtain ⟨y1, y2, y3⟩ := z10 h1
      refine ⟨?_, ?_, fun hm => ?_⟩
      · rw [ine (by omega), upn (by omega)]; exact y1
      · rw [ine (by omega), upn (by omega)]; exact y2
      · rw [ine (by omega), upn (by omega)]; exact y3 hm
  · rw [ine (by omega), upn (by omega)]; exact k4 k hk
  · intro c' i' hc'
    rw [a127_sc (by omega), upn (by omega)]
    exact k5 z c' i' hc'
  · have e8 : up s c e v 8 = s 8 := funext fun i => upn (by omega)
    have e9 : up s c e v 9 = s 9 := funext fun i => upn (by omega)
    rw [ine (by omega), ine (by omega), e8, e9]
    exact k6 z
  · rw [ine (fun z => c' (by unfold jch; omega))]
    exact k7 q j c'
/-- x -/
theorem rJ.ux (k : rJ m n b0 u h0 h s) : rJ m n b0 u h0 (s_i h 126 46 v) (up s 0 2 v) := by
  obtain ⟨k1, ⟨a1, a2, a3, a4, a5, a6⟩, k3, k4, k5, k6, k7, k8⟩ := k
  refine ⟨k1.tr ⟨rfl, rfl, rfl⟩, ⟨?_, ?_, ?_, ?_, ?_, ?_⟩, fun e' he' => ?_, fun k hk => ?_, fun z => ?_, fun z => ?_, fun q j c' => ?_, k8⟩
  · rw [ine (by omega)]; exact a1
  · rw [ine (by omega)]; exact a2
  · rw [ine (by omega), upn (by omega)]; exact a3
  · rw [ine (by omega), upn (by omega)]; exact a4
  · rw [ieq rfl rfl, upe' rfl rfl]
  · rw [ine (by omega), upn (by omega)]; exact a6
  · have := k3 e' he'
    unfold rJe at this ⊢
    simp (disch := omega) only [ine, upn]
    exact this
  · rw [ine (by omega), upn (by omega)]; exact k4 k hk
  · intro c' i' hc'
    rw [a127_sc (by omega), upn (by omega)]
    exact k5 z c' i' hc'
  · have e8 : up s 0 2 v 8 = s 8 := funext fun i => upn (by omega)
    have e9 : up s 0 2 v 9 = s 9 := funext fun i => upn (by omega)
    rw [ine (by omega), ine (by omega), e8, e9]
    exact k6 z
  · rw [ine (fun z => c' (by unfold jch; omega))]
    exact k7 q j c'
theorem sub_11 {a b : Int32} : (a + 1) - (b + 1) = a - b := by
  rw [Int32.sub_eq_add_neg (a + 1), Int32.neg_add, Int32.sub_eq_add_neg (-b) 1, show a + 1 + (-b + -1) = a + -b + (1 + -1) by ac_rfl, show (1 : Int32) + -1 = 0 by decide, Int32.add_zero, Int32.sub_eq_add_neg]
/-- one tenth more spoken -/
theorem rJ.sp {u' : Nat → Int32} (k : rJ m n b0 u h0 h s) (hu : ∀ e', u' e' = if e' = e then u e + 1 else u e') : rJ m n b0 u' h0 h (up s 23 e (s 23 e + 1)) := by
  obtain ⟨k1, k2, k3, k4, k5, k6, k7, k8⟩ := k
  refine ⟨k1, ?_, fun e' he' => ?_, fun k hk => ?_, fun z => ?_, fun z => ?_, k7, k8⟩
  · unfold rJn at k2 ⊢
    simp (disch := omega) only [upn]
    exact k2
  · obtain ⟨z1, z2, z3, z4, z5, z6, z7, z8, z9, z10⟩ := k3 e' he'
    refine ⟨?_, ?_, ?_, ?_, ?_, ?_, ?_, ?_, ?_, fun h1 => ?_⟩
    · rw [upn (by omega)]; exact z1
    · rw [upn (by omega)]; exact z2
    · rw [upn (by omega)]; exact z3
    · rw [upn (by omega)]; exact z4
    · rw [upn (by omega)]; exact z5
    · rw [upn (by omega)]; exact z6
    · rw [upn (by omega)]; exact z7
    · rw [upn (by omega)]; exact z8
    · rw [upn (by omega)]; exact z9
    · rw [upn (by omega)] at h1
      obtain ⟨y1, y2, y3⟩ := z10 h1
      refine ⟨?_, ?_, fun hm => ?_⟩
      · rw [hu]
        by_cases c : e' = e
        · subst c
          rw [if_pos rfl, upe' rfl rfl, y1]
          exact sub_11.symm
        · rw [if_neg c, upn (by omega)]; exact y1
      · rw [upn (by omega)]; exact y2
      · rw [upn (by omega)]; exact y3 hm
  · rw [upn (by omega)]; exact k4 k hk
  · intro c' i' hc'
    rw [upn (by omega)]
    exact k5 z c' i' hc'
  · have e8 : up s 23 e (s 23 e + 1) 8 = s 8 := funext fun i => upn (by omega)
    have e9 : up s 23 e (s 23 e + 1) 9 = s 9 := funext fun i => upn (by omega)
    rw [e8, e9]
    exact k6 z
/-- u matters for those that speak alone -/
theorem rJ.uu {u' : Nat → Int32} (k : rJ m n b0 u h0 h s) (hu : ∀ e, e < 4 → s 1 e = 1 → u' e = u e) : rJ m n b0 u' h0 h s := by
  obtain ⟨k1, k2, k3, k4, k5, k6, k7, k8⟩ := k
  refine ⟨k1, k2, fun e he => ?_, k4, k5, k6, k7, k8⟩
  obtain ⟨z1, z2, z3, z4, z5, z6, z7, z8, z9, z10⟩ := k3 e he
  refine ⟨z1, z2, z3, z4, z5, z6, z7, z8, z9, fun h1 => ?_⟩
  obtain ⟨y1, y2, y3⟩ := z10 h1
  exact ⟨by rw [hu e he h1]; exact y1, y2, y3⟩
end RJ
