/-! way: both sides -/
section WAYB
variable {X : PX} {d : Nat} {h y : am_h}
theorem itr_cut {σ : Type} {f : Nat → σ → σ} : ∀ (a i b : Nat) (s : σ), itr f i (a + b) s = itr f (i + a) b (itr f i a s) := by
  intro a
  induction a with
  | zero => intro i b s; rw [Nat.zero_add]; rfl
  | succ a ih =>
    intro i b s
    rw [show a + 1 + b = (a + b) + 1 by omega]
    show itr f (i + 1) (a + b) (f i s) = itr f (i + (a + 1)) b (itr f (i + 1) a (f i s))
    rw [ih, show i + 1 + a = i + (a + 1) by omega]
def wPx (z : Bool) (b t P : Nat) : Nat := if z = true ∧ b < t then P + 1 else 0
theorem wE_0 {E P S L t : Nat} (e : wE E P S L t = 0) (ht : 0 < t) : E = 0 ∧ wY E P S = false ∧ ¬ L ≤ t := by
  unfold wE at e
  split at e
  · rename_i c
    split at e
    · omega
    · rename_i c2
      refine ⟨c, ?_, fun q => c2 (Or.inr q)⟩
      cases q : wY E P S
      · rfl
      · exact absurd (Or.inl q) c2
  · omega
theorem or_0 {y0 y1 : Bool} : wI y0 y1 ||| 1 = wI true y1 := by cases y0 <;> cases y1 <;> decide
theorem wyH0 (hR : sh_R (a_t y) (a_r y)) {o1 o2 o w t b E P S L : Nat} {z y0 y1 : Bool} (ht : t < 300) (ho : o < 4) (hb : b < 300) (hP : P < 1000) (hS : S ≤ 99) (hL : L ≤ 99) (L1 : 1 ≤ L)
    (hG : a_i y 173 0 = if t ≤ b then 0 else if E = 0 then 1 else 2) (hB : a_i y 174 0 = nI b) (hp : E = 0 → a_i y 175 0 = nI P) (tb : t ≤ b → E = 0 ∧ P = 0)
    (sS : a_i y 127 (12 + 4 * o + 2) = nI S) (sL : a_i y 127 (12 + 4 * o + 3) = nI L) {v8 : Int32} {x10 : Option Value} : ∃ (y' : am_h) (x10' : Option Value), (∀ Q, WP (d + 1) mX12_way 194 [some (.ref 126), some (.int (nI o1)), some (.int (nI o2)), some (.int (nI w)), some (.int (wI y0 y1)), some (.int (nI t)), some (.int 0), some (.int (nI o)), some (.int v8), some (.int (bI z)), x10] [] y Q = WP (d + 1) mX12_way 123 [some (.ref 126), some (.int (nI o1)), some (.int (nI o2)), some (.int (nI w)), some (.int (wI (y0 || wY E (wPx z b t P) S) y1)), some (.int (nI t)), some (.int 1), some (.int (nI o)), some (.int v8), some (.int (bI z)), x10'] [] y' Q)
    ∧ sm y y' ∧ a_l y' = a_l y ∧ (∀ q j, ¬ (q = 173 ∧ j = 0) → ¬ (q = 175 ∧ j = 0) → ¬ (q = 176 ∧ j = t) → a_i y' q j = a_i y q j)
    ∧ a_i y' 173 0 = (if t + 1 ≤ b then 0 else if wE E (wPx z b t P) S (b + L) t = 0 then 1 else 2)
    ∧ (wE E (wPx z b t P) S (b + L) t = 0 → a_i y' 175 0 = nI (wPx z b t P))
    ∧ a_i y' 176 t = a_i y 176 t ||| (if b ≤ t ∧ wE E (wPx z b t P) S (b + L) t = 0 then 1 else 0) := by
  have orz : ∀ v : Int32, v ||| 0 = v := fun v => Int32.or_zero
  by_cases c : t ≤ b
  · obtain ⟨rfl, rfl⟩ := tb c
    have p0 : wPx z b t 0 = 0 := if_neg (by omega)
    have y00 : wY 0 (wPx z b t 0) S = false := decide_eq_false (by rw [p0]; omega)
    have e0 : wE 0 (wPx z b t 0) S (b + L) t = 0 := by
      unfold wE
      rw [if_pos rfl, if_neg (fun q => q.elim (fun q => by rw [y00] at q; cases q) (by omega))]
    rw [e0, y00, p0, Bool.or_false]
    rw [if_pos c] at hG
    by_cases c2 : t = b
    · subst c2
      refine ⟨_, x10, fun Q => wyB0_0 (b := 0) hR ht hG hB, ⟨rfl, rfl, rfl⟩, rfl, fun q j c1 c2 c3 => by rw [ine (by omega), ine (by omega)], ?_, fun _ => ?_, ?_⟩
      · rw [ine (by omega), ieq rfl rfl, if_neg (by omega), if_pos rfl]
      · rw [ine (by omega), ine (by omega)]; exact hp rfl
      · rw [ieq rfl rfl, if_pos ⟨Nat.le_refl _, rfl⟩]
    · refine ⟨y, x10, fun Q => wyB0_n hR ht hb hG hB c2, ⟨rfl, rfl, rfl⟩, rfl, fun q j c1 c2 c3 => rfl, ?_, fun _ => hp rfl, ?_⟩
      · rw [if_pos (by omega)]; exact hG
      · rw [if_neg (by omega), orz]
  · rw [if_neg c] at hG
    have ep : wPx z b t P = if z = true then P + 1 else 0 := by
      unfold wPx
      cases z
      · rw [if_neg (by simp), if_neg (by simp)]
      · rw [if_pos ⟨rfl, by omega⟩, if_pos rfl]
    by_cases c2 : E = 0
    · rw [if_pos c2] at hG
      have y0e : wY E (wPx z b t P) S = decide (¬ S = 0 ∧ (if z = true then P + 1 else 0) = S) := by
        unfold wY
        rw [ep]
        exact decide_eq_decide.mpr ⟨fun q => ⟨by omega, q.2.2⟩, fun q => ⟨c2, by omega, q.2⟩⟩
      by_cases c3 : ¬ S = 0 ∧ (if z = true then P + 1 else 0) = S
      · have y1e : wY E (wPx z b t P) S = true := by rw [y0e]; exact decide_eq_true c3
        have e1 : wE E (wPx z b t P) S (b + L) t = t := by unfold wE; rw [if_pos c2, if_pos (Or.inl y1e)]
        rw [e1, y1e]
        refine ⟨s_i (s_i y 175 0 (nI (if z = true then P + 1 else 0))) 173 0 2, some (.int (nI S)), fun Q => (by rw [Bool.or_true, ← or_0 (y0 := y0) (y1 := y1)]; exact wyB0_y (v9 := 0) hR ht ho (by omega) hP hS hL hG hB (hp c2) sS sL c3.1 c3.2), ⟨rfl, rfl, rfl⟩, rfl, fun q j c1 c2 c3 => by rw [ine (by omega), ine (by omega)], ?_, fun q => absurd q (by omega), ?_⟩
        · rw [ieq rfl rfl, if_neg (by omega), if_neg (by omega)]
        · rw [ine (by omega), ine (by omega), if_neg (by omega), orz]
      · have y1e : wY E (wPx z b t P) S = false := by rw [y0e]; exact decide_eq_false c3
        by_cases c4 : b + L ≤ t
        · have e1 : wE E (wPx z b t P) S (b + L) t = t := by unfold wE; rw [if_pos c2, if_pos (Or.inr c4)]
          rw [e1, y1e, Bool.or_false]
          refine ⟨_, some (.int (nI S)), fun Q => wyB0_l (v9 := 0) hR ht ho (by omega) hP hS hL hG hB (hp c2) sS sL c3 c4, ⟨rfl, rfl, rfl⟩, rfl, fun q j c1 c2 c3 => by rw [ine (by omega), ine (by omega)], ?_, fun q => absurd q (by omega), ?_⟩
          · rw [ieq rfl rfl, if_neg (by omega), if_neg (by omega)]
          · rw [ine (by omega), ine (by omega), if_neg (by omega), orz]
        · have e1 : wE E (wPx z b t P) S (b + L) t = 0 := by unfold wE; rw [if_pos c2, if_neg (fun q => q.elim (fun q => by rw [y1e] at q; cases q) c4)]
          rw [e1, y1e, Bool.or_false]
          refine ⟨_, some (.int (nI S)), fun Q => wyB0_s (v9 := 0) hR ht ho (by omega) hP hS hL hG hB (hp c2) sS sL c3 c4, ⟨rfl, rfl, rfl⟩, rfl, fun q j c1 c2 c3 => by rw [ine (by omega), ine (by omega)], ?_, fun q => ?_, ?_⟩
          · rw [ine (by omega), ine (by omega), hG, if_neg (by omega), if_pos rfl]
          · rw [ine (by omega), ieq rfl rfl, ep]
          · rw [ieq rfl rfl, if_pos ⟨by omega, rfl⟩]
    · rw [if_neg c2] at hG
      have y1e : wY E (wPx z b t P) S = false := decide_eq_false (fun q => c2 q.1)
      have e1 : wE E (wPx z b t P) S (b + L) t = E := if_neg c2
      rw [e1, y1e, Bool.or_false]
      refine ⟨y, x10, fun Q => wyB0_2 (b := 0) hR ht hG, ⟨rfl, rfl, rfl⟩, rfl, fun q j c1 c2 c3 => rfl, ?_, fun q => absurd q c2, ?_⟩
      · rw [hG, if_neg (by omega), if_neg c2]
      · rw [if_neg (fun q => c2 q.2), orz]
theorem or_1 {y0 y1 : Bool} : wI y0 y1 ||| 2 = wI y0 true := by cases y0 <;> cases y1 <;> decide
theorem wyH1 (hR : sh_R (a_t y) (a_r y)) {o1 o2 o w t b E P S L : Nat} {z y0 y1 : Bool} (ht : t < 300) (ho : o < 4) (hb : b < 300) (hP : P < 1000) (hS : S ≤ 99) (hL : L ≤ 99) (L1 : 1 ≤ L)
    (hG : a_i y 173 1 = if t ≤ b then 0 else if E = 0 then 1 else 2) (hB : a_i y 174 1 = nI b) (hp : E = 0 → a_i y 175 1 = nI P) (tb : t ≤ b → E = 0 ∧ P = 0)
    (sS : a_i y 127 (12 + 4 * o + 2) = nI S) (sL : a_i y 127 (12 + 4 * o + 3) = nI L) {v8 : Int32} {x10 : Option Value} : ∃ (y' : am_h) (x10' : Option Value), (∀ Q, WP (d + 1) mX12_way 194 [some (.ref 126), some (.int (nI o1)), some (.int (nI o2)), some (.int (nI w)), some (.int (wI y0 y1)), some (.int (nI t)), some (.int 1), some (.int (nI o)), some (.int v8), some (.int (bI z)), x10] [] y Q = WP (d + 1) mX12_way 123 [some (.ref 126), some (.int (nI o1)), some (.int (nI o2)), some (.int (nI w)), some (.int (wI y0 (y1 || wY E (wPx z b t P) S))), some (.int (nI t)), some (.int 2), some (.int (nI o)), some (.int v8), some (.int (bI z)), x10'] [] y' Q)
    ∧ sm y y' ∧ a_l y' = a_l y ∧ (∀ q j, ¬ (q = 173 ∧ j = 1) → ¬ (q = 175 ∧ j = 1) → ¬ (q = 176 ∧ j = t) → a_i y' q j = a_i y q j)
    ∧ a_i y' 173 1 = (if t + 1 ≤ b then 0 else if wE E (wPx z b t P) S (b + L) t = 0 then 1 else 2)
    ∧ (wE E (wPx z b t P) S (b + L) t = 0 → a_i y' 175 1 = nI (wPx z b t P))
    ∧ a_i y' 176 t = a_i y 176 t ||| (if b ≤ t ∧ wE E (wPx z b t P) S (b + L) t = 0 then 2 else 0) := by
  have orz : ∀ v : Int32, v ||| 0 = v := fun v => Int32.or_zero
  by_cases c : t ≤ b
  · obtain ⟨rfl, rfl⟩ := tb c
    have p0 : wPx z b t 0 = 0 := if_neg (by omega)
    have y00 : wY 0 (wPx z b t 0) S = false := decide_eq_false (by rw [p0]; omega)
    have e0 : wE 0 (wPx z b t 0) S (b + L) t = 0 := by
      unfold wE
      rw [if_pos rfl, if_neg (fun q => q.elim (fun q => by rw [y00] at q; cases q) (by omega))]
    rw [e0, y00, p0, Bool.or_false]
    rw [if_pos c] at hG
    by_cases c2 : t = b
    · subst c2
      refine ⟨_, x10, fun Q => wyB1_0 (b := 0) hR ht hG hB, ⟨rfl, rfl, rfl⟩, rfl, fun q j c1 c2 c3 => by rw [ine (by omega), ine (by omega)], ?_, fun _ => ?_, ?_⟩
      · rw [ine (by omega), ieq rfl rfl, if_neg (by omega), if_pos rfl]
      · rw [ine (by omega), ine (by omega)]; exact hp rfl
      · rw [ieq rfl rfl, if_pos ⟨Nat.le_refl _, rfl⟩]
    · refine ⟨y, x10, fun Q => wyB1_n hR ht hb hG hB c2, ⟨rfl, rfl, rfl⟩, rfl, fun q j c1 c2 c3 => rfl, ?_, fun _ => hp rfl, ?_⟩
      · rw [if_pos (by omega)]; exact hG
      · rw [if_neg (by omega), orz]
  · rw [if_neg c] at hG
    have ep : wPx z b t P = if z = true then P + 1 else 0 := by
      unfold wPx
      cases z
      · rw [if_neg (by simp), if_neg (by simp)]
      · rw [if_pos ⟨rfl, by omega⟩, if_pos rfl]
    by_cases c2 : E = 0
    · rw [if_pos c2] at hG
      have y0e : wY E (wPx z b t P) S = decide (¬ S = 0 ∧ (if z = true then P + 1 else 0) = S) := by
        unfold wY
        rw [ep]
        exact decide_eq_decide.mpr ⟨fun q => ⟨by omega, q.2.2⟩, fun q => ⟨c2, by omega, q.2⟩⟩
      by_cases c3 : ¬ S = 0 ∧ (if z = true then P + 1 else 0) = S
      · have y1e : wY E (wPx z b t P) S = true := by rw [y0e]; exact decide_eq_true c3
        have e1 : wE E (wPx z b t P) S (b + L) t = t := by unfold wE; rw [if_pos c2, if_pos (Or.inl y1e)]
        rw [e1, y1e]
        refine ⟨s_i (s_i y 175 1 (nI (if z = true then P + 1 else 0))) 173 1 2, some (.int (nI S)), fun Q => (by rw [Bool.or_true, ← or_1 (y0 := y0) (y1 := y1)]; exact wyB1_y (v9 := 0) hR ht ho (by omega) hP hS hL hG hB (hp c2) sS sL c3.1 c3.2), ⟨rfl, rfl, rfl⟩, rfl, fun q j c1 c2 c3 => by rw [ine (by omega), ine (by omega)], ?_, fun q => absurd q (by omega), ?_⟩
        · rw [ieq rfl rfl, if_neg (by omega), if_neg (by omega)]
        · rw [ine (by omega), ine (by omega), if_neg (by omega), orz]
      · have y1e : wY E (wPx z b t P) S = false := by rw [y0e]; exact decide_eq_false c3
        by_cases c4 : b + L ≤ t
        · have e1 : wE E (wPx z b t P) S (b + L) t = t := by unfold wE; rw [if_pos c2, if_pos (Or.inr c4)]
          rw [e1, y1e, Bool.or_false]
          refine ⟨_, some (.int (nI S)), fun Q => wyB1_l (v9 := 0) hR ht ho (by omega) hP hS hL hG hB (hp c2) sS sL c3 c4, ⟨rfl, rfl, rfl⟩, rfl, fun q j c1 c2 c3 => by rw [ine (by omega), ine (by omega)], ?_, fun q => absurd q (by omega), ?_⟩
          · rw [ieq rfl rfl, if_neg (by omega), if_neg (by omega)]
          · rw [ine (by omega), ine (by omega), if_neg (by omega), orz]
        · have e1 : wE E (wPx z b t P) S (b + L) t = 0 := by unfold wE; rw [if_pos c2, if_neg (fun q => q.elim (fun q => by rw [y1e] at q; cases q) c4)]
          rw [e1, y1e, Bool.or_false]
          refine ⟨_, some (.int (nI S)), fun Q => wyB1_s (v9 := 0) hR ht ho (by omega) hP hS hL hG hB (hp c2) sS sL c3 c4, ⟨rfl, rfl, rfl⟩, rfl, fun q j c1 c2 c3 => by rw [ine (by omega), ine (by omega)], ?_, fun q => ?_, ?_⟩
          · rw [ine (by omega), ine (by omega), hG, if_neg (by omega), if_pos rfl]
          · rw [ine (by omega), ieq rfl rfl, ep]
          · rw [ieq rfl rfl, if_pos ⟨by omega, rfl⟩]
    · rw [if_neg c2] at hG
      have y1e : wY E (wPx z b t P) S = false := decide_eq_false (fun q => c2 q.1)
      have e1 : wE E (wPx z b t P) S (b + L) t = E := if_neg c2
      rw [e1, y1e, Bool.or_false]
      refine ⟨y, x10, fun Q => wyB1_2 (b := 0) hR ht hG, ⟨rfl, rfl, rfl⟩, rfl, fun q j c1 c2 c3 => rfl, ?_, fun q => absurd q c2, ?_⟩
      · rw [hG, if_neg (by omega), if_neg c2]
      · rw [if_neg (fun q => c2 q.2), orz]
/-- the other side's cells after the tenths ahead of t -/
def RW (w t : Nat) (s : WT) (h y : am_h) : Prop := wv h y ∧ a_i y 173 0 = (if t ≤ 0 then 0 else if s.1.1.1 = 0 then 1 else 2) ∧ a_i y 173 1 = (if t ≤ w then 0 else if s.1.1.2 = 0 then 1 else 2) ∧ a_i y 174 0 = nI 0 ∧ a_i y 174 1 = nI w
  ∧ (s.1.1.1 = 0 → a_i y 175 0 = nI s.1.2.1) ∧ (s.1.1.2 = 0 → a_i y 175 1 = nI s.1.2.2)
  ∧ (∀ u, u < t → a_i y 176 u = wI (decide (s.1.1.1 = 0 ∨ u < s.1.1.1)) (decide (w ≤ u ∧ (s.1.1.2 = 0 ∨ u < s.1.1.2)))) ∧ ∀ u, t ≤ u → u < 600 → a_i y 176 u = 0
def wOk (w L0 L1 t : Nat) (s : WT) : Prop := (s.1.1.1 = 0 ∧ t ≤ L0 ∨ 0 < s.1.1.1 ∧ s.1.1.1 < t) ∧ (s.1.1.2 = 0 ∧ t ≤ w + L1 ∨ w < s.1.1.2 ∧ s.1.1.2 < t) ∧ s.1.2.1 ≤ t ∧ s.1.2.2 ≤ t ∧ (t ≤ w + 1 → s.1.2.2 = 0) ∧ (t ≤ 1 → s.1.2.1 = 0)
theorem wP0_x {w B t : Nat} {s : WT} : wP0 w B t s = wPx (wHr s.1.1.2 w B t) 0 t s.1.2.1 := by
  unfold wP0 wPx
  by_cases c : wHr s.1.1.2 w B t = true
  · have := of_decide_eq_true c
    rw [if_pos c, if_pos ⟨c, by omega⟩]
  · rw [if_neg c, if_neg (fun q => c q.1)]
theorem wP1_x {w A t : Nat} {s : WT} : wP1 w A t s = wPx (wHr s.1.1.1 0 A t) w t s.1.2.2 := rfl
theorem wPx_le {z : Bool} {b t P : Nat} (k : P ≤ t) : wPx z b t P ≤ t + 1 := by
  unfold wPx; split <;> omega
theorem wE_c {E P S L t : Nat} : wE E P S L t = E ∨ (E = 0 ∧ wE E P S L t = t ∧ (0 < P ∨ L ≤ t)) := by
  unfold wE
  by_cases c : E = 0
  · rw [if_pos c]
    split
    · rename_i q
      refine Or.inr ⟨c, rfl, q.elim (fun q => Or.inl (of_decide_eq_true q).2.1) Or.inr⟩
    · exact Or.inl c.symm
  · rw [if_neg c]; exact Or.inl rfl
theorem wOk_s {w A B S0 S1 L0 L1 t : Nat} {s : WT} (h0 : 1 ≤ L0) (h1 : 1 ≤ L1) (k : wOk w L0 L1 t s) : wOk w L0 L1 (t + 1) (wSt w A B S0 S1 L0 L1 t s) := by
  obtain ⟨k1, k2, k3, k4, k5, k6⟩ := k
  unfold wOk wSt
  simp only []
  have p0 : wP0 w B t s ≤ t + 1 := by rw [wP0_x]; exact wPx_le k3
  have p1 : wP1 w A t s ≤ t + 1 := by rw [wP1_x]; exact wPx_le k4
  have n0 : 0 < wP0 w B t s → 0 < t := by
    rw [wP0_x]; unfold wPx; split <;> omega
  have n1 : 0 < wP1 w A t s → w < t := by
    unfold wP1; split <;> omega
  refine ⟨?_, ?_, p0, p1, by omega, by omega⟩
  · rcases wE_c (E := s.1.1.1) (P := wP0 w B t s) (S := S0) (L := L0) (t := t) with e | ⟨e1, e2, e3⟩
    · by_cases c : t = 0
      · rw [e]
        rcases k1 with k1 | k1
        · exact Or.inl ⟨k1.1, by omega⟩
        · omega
      · by_cases c2 : wE s.1.1.1 (wP0 w B t s) S0 L0 t = 0
        · have := wE_0 c2 (by omega)
          exact Or.inl ⟨c2, by omega⟩
        · rw [e] at c2 ⊢
          omega
    · rw [e2]
      refine Or.inr ⟨?_, by omega⟩
      rcases e3 with e3 | e3
      · exact n0 e3
      · omega
  · rcases wE_c (E := s.1.1.2) (P := wP1 w A t s) (S := S1) (L := w + L1) (t := t) with e | ⟨e1, e2, e3⟩
    · by_cases c : t = 0
      · rw [e]
        rcases k2 with k2 | k2
        · exact Or.inl ⟨k2.1, by omega⟩
        · omega
      · by_cases c2 : wE s.1.1.2 (wP1 w A t s) S1 (w + L1) t = 0
        · have := wE_0 c2 (by omega)
          exact Or.inl ⟨c2, by omega⟩
        · rw [e] at c2 ⊢
          omega
    · rw [e2]
      refine Or.inr ⟨?_, by omega⟩
      rcases e3 with e3 | e3
      · exact n1 e3
      · omega
theorem wSt_d {w A B S0 S1 L0 L1 : Nat} : ∀ (k t : Nat) (s : WT), ¬ s.1.1.1 = 0 → ¬ s.1.1.2 = 0 → (itr (wSt w A B S0 S1 L0 L1) t k s).2 = s.2 := by
  intro k
  induction k with
  | zero => intro t s _ _; rfl
  | succ k ih =>
    intro t s c1 c2
    show (itr (wSt w A B S0 S1 L0 L1) (t + 1) k (wSt w A B S0 S1 L0 L1 t s)).2 = s.2
    have e1 : (wSt w A B S0 S1 L0 L1 t s).1.1.1 = s.1.1.1 := if_neg c1
    have e2 : (wSt w A B S0 S1 L0 L1 t s).1.1.2 = s.1.1.2 := if_neg c2
    have z1 : ∀ P S, wY s.1.1.1 P S = false := fun P S => decide_eq_false (fun q => c1 q.1)
    have z2 : ∀ P S, wY s.1.1.2 P S = false := fun P S => decide_eq_false (fun q => c2 q.1)
    rw [ih _ _ (by rw [e1]; exact c1) (by rw [e2]; exact c2)]
    unfold wSt
    rw [z1, z2, Bool.or_false, Bool.or_false]
end WAYB
