/-! a tenth: the class's cells against the plain state -/
section CK
variable {I I' : Nat → Nat → Int32} {J J' : Nat → Nat → Int64} {p q e c j n m i T B d : Nat} {s : TS} {v z kd b l sp : Int32}
theorem rM_fr (hI : ∀ r j, p ≤ r → r < p + 9 → ¬ (p + 5 ≤ r ∧ j = 4) → I' r j = I r j) (hJ : ∀ e, e < 4 → J' (p + 5 + e) 13 = J (p + 5 + e) 13) (k : rM I J p s) : rM I' J' p s := by
  obtain ⟨⟨m0, m1, m2, m3, m4⟩, m5, m6⟩ := k
  refine ⟨⟨?_, ?_, ?_, ?_, ?_⟩, fun i hi => ?_, fun e he => ?_⟩
  · rw [hI _ _ (by omega) (by omega) (by omega)]; exact m0
  · rw [hI _ _ (by omega) (by omega) (by omega)]; exact m1
  · rw [hI _ _ (by omega) (by omega) (by omega)]; exact m2
  · rw [hI _ _ (by omega) (by omega) (by omega)]; exact m3
  · rw [hI _ _ (by omega) (by omega) (by omega)]; exact m4
  · rw [hI _ _ (by omega) (by omega) (by omega), hI _ _ (by omega) (by omega) (by omega), hI _ _ (by omega) (by omega) (by omega)]
    exact m5 i hi
  · have h := m6 e he
    unfold rMe at h ⊢
    rw [hJ e he]
    simp (disch := omega) only [hI]
    exact h
/-- a column of ends and a field of theirs change together -/
theorem rM_ue (k : rM I J p s) (he : e < 4) (hc : (c = 2 ∧ j = 1) ∨ (c = 3 ∧ j = 2) ∨ (c = 4 ∧ j = 3) ∨ (c = 5 ∧ j = 5) ∨ (c = 6 ∧ j = 6) ∨ (c = 23 ∧ j = 9)) (h1 : I' (p + 5 + e) j = v) (ho : ∀ r i, p ≤ r → r < p + 9 → ¬ (p + 5 ≤ r ∧ i = 4) → ¬ (r = p + 5 + e ∧ i = j) → I' r i = I r i) : rM I' J p (up s c e v) := by
  obtain ⟨⟨m0, m1, m2, m3, m4⟩, m5, m6⟩ := k
  refine ⟨⟨?_, ?_, ?_, ?_, ?_⟩, fun i hi => ?_, fun e' he' => ?_⟩
  · rw [ho _ _ (by omega) (by omega) (by omega) (by omega), upn (by omega)]; exact m0
  · rw [ho _ _ (by omega) (by omega) (by omega) (by omega), upn (by omega)]; exact m1
  · rw [ho _ _ (by omega) (by omega) (by omega) (by omega), upn (by omega)]; exact m2
  · rw [ho _ _ (by omega) (by omega) (by omega) (by omega), upn (by omega)]; exact m3
  · rw [ho _ _ (by omega) (by omega) (by omega) (by omega), upn (by omega)]; exact m4
  · rw [ho _ _ (by omega) (by omega) (by omega) (by omega), ho _ _ (by omega) (by omega) (by omega) (by omega), ho _ _ (by omega) (by omega) (by omega) (by omega), upn (by omega), upn (by omega), upn (by omega)]
    exact m5 i hi
  · obtain ⟨z1, z2, z3, z4, z5, z6, z7, z8, z9, z10, z11⟩ := m6 e' he'
    have F : ∀ jj cc, ¬ jj = 4 → (jj = j ↔ cc = c) → I (p + 5 + e') jj = s cc e' → I' (p + 5 + e') jj = up s c e v cc e' := by
      intro jj cc h4 hj h
      by_cases a : e' = e ∧ cc = c
      · obtain ⟨a1, a2⟩ := a
        subst a1
        rw [upe' a2 rfl, hj.mpr a2]
        exact h1
      · rw [upn (by omega), ho _ _ (by omega) (by omega) (by omega) (fun w => a ⟨by omega, hj.mp w.2⟩)]
        exact h
    refine ⟨F 0 1 (by omega) (by omega) z1, F 1 2 (by omega) (by omega) z2, F 2 3 (by omega) (by omega) z3, F 3 4 (by omega) (by omega) z4, F 5 5 (by omega) (by omega) z5, F 6 6 (by omega) (by omega) z6, F 10 18 (by omega) (by omega) z7, F 11 19 (by omega) (by omega) z8, F 12 20 (by omega) (by omega) z9, fun h => ?_, fun k hk => ?_⟩
    · rw [upn (by omega)] at h
      obtain ⟨a1, a2, a3⟩ := z10 h
      exact ⟨F 7 21 (by omega) (by omega) a1, F 8 22 (by omega) (by omega) a2, F 9 23 (by omega) (by omega) a3⟩
    · rw [upn (by omega)]
      exact z11 k hk
/-- the line's x -/
theorem rM_ux (k : rM I J p s) (h1 : I' p 2 = v) (ho : ∀ r i, p ≤ r → r < p + 9 → ¬ (r = p ∧ i = 2) → I' r i = I r i) : rM I' J p (up s 0 2 v) := by
  obtain ⟨⟨m0, m1, m2, m3, m4⟩, m5, m6⟩ := k
  refine ⟨⟨?_, ?_, ?_, ?_, ?_⟩, fun i hi => ?_, fun e' he' => ?_⟩
  · rw [ho _ _ (by omega) (by omega) (by omega), upn (by omega)]; exact m0
  · rw [ho _ _ (by omega) (by omega) (by omega), upn (by omega)]; exact m1
  · rw [upe' rfl rfl]; exact h1
  · rw [ho _ _ (by omega) (by omega) (by omega), upn (by omega)]; exact m3
  · rw [ho _ _ (by omega) (by omega) (by omega), upn (by omega)]; exact m4
  · rw [ho _ _ (by omega) (by omega) (by omega), ho _ _ (by omega) (by omega) (by omega), ho _ _ (by omega) (by omega) (by omega), upn (by omega), upn (by omega), upn (by omega)]
    exact m5 i hi
  · have h := m6 e' he'
    unfold rMe at h ⊢
    simp (disch := omega) only [ho, upn]
    exact h
/-- what changes while tenths go by -/
def tch (m p q : Nat) : Prop := (p ≤ q ∧ q < p + 9) ∨ (91 ≤ q ∧ q ≤ 93) ∨ (m = 0 ∧ 17 ≤ q ∧ q ≤ 21)
def cK (m p : Nat) (h0 h : am_h) (s : TS) : Prop := sm h0 h ∧ rM (a_i h) (a_l h) p s ∧ (m = 0 → rBk (a_i h) 0 s) ∧ (∀ q j, ¬ tch m p q → a_i h q j = a_i h0 q j) ∧ ∀ q j, ¬ (p + 5 ≤ q ∧ q < p + 9) → a_l h q j = a_l h0 q j
def mpB (m p B : Nat) : Prop := (m = 0 ∧ p = 7 ∧ B = 16) ∨ (m = 1 ∧ p = 67 ∧ B = 76)
theorem shL_67 {t : Nat → Nat × Nat} {r : Nat → Nat → Option Nat} (k : sh_C t r) : shL t r 67 := by
  have e : ∀ e, e < 4 → t (67 + 5 + e) = (3, 14) ∧ r (67 + 4) e = some (67 + 5 + e) := by
    intro e he
    unfold sh_C at k
    have : e = 0 ∨ e = 1 ∨ e = 2 ∨ e = 3 := by omega
    rcases this with rfl | rfl | rfl | rfl <;> simp [k]
  unfold sh_C at k
  refine ⟨?_, ?_, ?_, ?_, ?_, e, ?_, ?_, ?_, ?_⟩ <;> simp [k]
theorem shL_m {t : Nat → Nat × Nat} {r : Nat → Nat → Option Nat} (hm : mpB m p B) (k : sh_C t r) : shL t r p := by
  rcases hm with ⟨-, rfl, -⟩ | ⟨-, rfl, -⟩
  · exact shL_7 k
  · exact shL_67 k
variable {h0 h h1 : am_h} {V : (Nat → Int32) → Int32 → Int32} {w : Nat} {g : Nat → Int32}
theorem cK.X (hm : mpB m p B) (K : cK m p h0 h s) (k : LX h0 w V) : LX h w V := by
  obtain ⟨k1, k2, k3, k4, k5⟩ := K
  have hh : ∀ q, (94 ≤ q ∧ q < 126) ∨ (130 ≤ q ∧ q < 138) ∨ 1000000 ≤ q ∨ q = 127 → ¬ tch m p q := by
    intro q hq
    unfold tch
    unfold mpB at hm
    omega
  exact LX_fr k1.1 k1.2.1 (fun q j c => k4 q j (hh q (by omega))) (k4 _ _ (hh _ (by omega))) k
theorem cK.td (hm : mpB m p B) (K : cK m p h0 h s) (k : tdC h0 g e) : tdC h g e := by
  obtain ⟨k1, k2, k3, k4, k5⟩ := K
  have hh : ∀ q, q ≤ 6 → ¬ tch m p q := by
    intro q hq
    unfold tch
    unfold mpB at hm
    omega
  unfold tdC at k ⊢
  rw [k4 _ _ (hh 2 (by omega)), k4 _ _ (hh 3 (by omega)), k4 _ _ (hh 4 (by omega)), k4 _ _ (hh 5 (by omega)), k4 _ _ (hh 6 (by omega))]
  exact k
/-- scratch of laws alone -/
theorem cK.lw (hm : mpB m p B) (K : cK m p h0 h s) (k : lwf h h1) : cK m p h0 h1 s := by
  obtain ⟨k1, k2, k3, k4, k5⟩ := K
  obtain ⟨l1, l2, l3⟩ := k
  refine ⟨k1.tr l1, rM_fr (fun r j c1 c2 c3 => l3 r j (by unfold mpB at hm; omega)) (fun e he => by rw [l2]) k2, fun z => ?_, fun q j c => ?_, fun q j c => by rw [l2]; exact k5 q j c⟩
  · exact rBk_fr (fun k j hk => l3 _ j (by omega)) (k3 z)
  · rw [l3 q j (fun z => c (by unfold tch; omega))]
    exact k4 q j c
/-- hears alone, or nothing of the model -/
theorem cK.hr (hm : mpB m p B) (K : cK m p h0 h s) (h1s : sm h h1) (hl : a_l h1 = a_l h) (hi : ∀ r j, ¬ (p + 5 ≤ r ∧ r < p + 9 ∧ j = 4) → a_i h1 r j = a_i h r j) : cK m p h0 h1 s := by
  obtain ⟨k1, k2, k3, k4, k5⟩ := K
  refine ⟨k1.tr h1s, rM_fr (fun r j c1 c2 c3 => hi r j (by omega)) (fun e he => by rw [hl]) k2, fun z => ?_, fun q j c => ?_, fun q j c => by rw [hl]; exact k5 q j c⟩
  · exact rBk_fr (fun k j hk => hi _ j (by unfold mpB at hm; omega)) (k3 z)
  · rw [hi q j (fun z => c (by unfold tch; omega))]
    exact k4 q j c
/-- a column of ends -/
theorem cK.uc (hm : mpB m p B) (K : cK m p h0 h s) (he : e < 4) (hc : (c = 2 ∧ j = 1) ∨ (c = 3 ∧ j = 2) ∨ (c = 4 ∧ j = 3) ∨ (c = 5 ∧ j = 5) ∨ (c = 6 ∧ j = 6) ∨ (c = 23 ∧ j = 9)) : cK m p h0 (s_i h (p + 5 + e) j v) (up s c e v) := by
  obtain ⟨k1, k2, k3, k4, k5⟩ := K
  refine ⟨k1.tr ⟨rfl, rfl, rfl⟩, rM_ue k2 he hc (ieq rfl rfl) (fun r i _ _ _ c1 => ine c1), fun z => ?_, fun q i c1 => ?_, fun q j c1 => k5 q j c1⟩
  · refine rBk_s (s := s) (fun c' i' hc' => upn (by omega)) ?_
    exact rBk_fr (fun k j hk => ine (by unfold mpB at hm; omega)) (k3 z)
  · rw [ine (fun z => c1 (by unfold tch; omega))]
    exact k4 q i c1
theorem cK.ux (hm : mpB m p B) (K : cK m p h0 h s) : cK m p h0 (s_i h p 2 v) (up s 0 2 v) := by
  obtain ⟨k1, k2, k3, k4, k5⟩ := K
  refine ⟨k1.tr ⟨rfl, rfl, rfl⟩, rM_ux k2 (ieq rfl rfl) (fun r i _ _ c1 => ine c1), fun z => ?_, fun q i c1 => ?_, fun q j c1 => k5 q j c1⟩
  · refine rBk_s (s := s) (fun c' i' hc' => upn (by omega)) ?_
    exact rBk_fr (fun k j hk => ine (by unfold mpB at hm; omega)) (k3 z)
  · rw [ine (fun z => c1 (by unfold tch; omega))]
    exact k4 q i c1
theorem rBk_cls (hi : i < 90) (k : rBk I 0 s) (h1 : I' 20 i = z) (h2 : I' 21 i = kd) (ho : ∀ q j, 17 ≤ q → q < 25 → ¬ (q = 20 ∧ j = i) → ¬ (q = 21 ∧ j = i) → I' q j = I q j) : rBk I' 0 (cls s e i z kd) := by
  obtain ⟨k1, k2⟩ := k
  refine ⟨fun j hj => ?_, fun j hj => ?_⟩
  · rw [cls_03] at hj
    obtain ⟨a1, a2, a3, a4, a5⟩ := k1 j hj
    by_cases c : j = i
    · subst c
      refine ⟨?_, ?_, ?_, ?_, ?_⟩
      · rw [ho _ _ (by omega) (by omega) (by omega) (by omega), cls_o (by omega) (by omega) (by omega)]; exact a1
      · rw [ho _ _ (by omega) (by omega) (by omega) (by omega), cls_o (by omega) (by omega) (by omega)]; exact a2
      · rw [ho _ _ (by omega) (by omega) (by omega) (by omega), cls_o (by omega) (by omega) (by omega)]; exact a3
      · rw [cls_i.1]; exact h1
      · rw [cls_i.2]; exact h2
    · rw [ho _ _ (by omega) (by omega) (by omega) (by omega), ho _ _ (by omega) (by omega) (by omega) (by omega), ho _ _ (by omega) (by omega) (by omega) (by omega), ho _ _ (by omega) (by omega) (by omega) (by omega), ho _ _ (by omega) (by omega) (by omega) (by omega)]
      rw [cls_o (by omega) (by omega) (by omega), cls_o (by omega) (by omega) (by omega), cls_o (by omega) (by omega) (by omega), cls_o (by omega) (by omega) (by omega), cls_o (by omega) (by omega) (by omega)]
      exact ⟨a1, a2, a3, a4, a5⟩
  · rw [cls_03] at hj
    rw [ho _ _ (by omega) (by omega) (by omega) (by omega), ho _ _ (by omega) (by omega) (by omega) (by omega), ho _ _ (by omega) (by omega) (by omega) (by omega)]
    rw [cls_o (by omega) (by omega) (by omega), cls_o (by omega) (by omega) (by omega), cls_o (by omega) (by omega) (by omega)]
    exact k2 j hj
theorem rBk_opn (hT : Nn (s 0 3) = T) (hT2 : T < 90) (k : rBk I 0 s) (h1 : I' 17 T = nI e ∧ I' 18 T = b ∧ I' 19 T = l ∧ I' 20 T = -1 ∧ I' 21 T = 0) (ho : ∀ q j, 17 ≤ q → q < 25 → ¬ (q ≤ 21 ∧ j = T) → I' q j = I q j) : rBk I' 0 (opn s e T b l sp) := by
  obtain ⟨k1, k2⟩ := k
  refine ⟨fun j hj => ?_, fun j hj => ?_⟩
  · rw [opn_03, Nn_n (by omega)] at hj
    by_cases c : j = T
    · subst c
      obtain ⟨t1, t2, t3, t4, t5⟩ := opn_T (s := s) (e := e) (T := j) (b := b) (l := l) (sp := sp)
      rw [t1, t2, t3, t4, t5]
      exact h1
    · obtain ⟨a1, a2, a3, a4, a5⟩ := k1 j (by omega)
      rw [ho _ _ (by omega) (by omega) (by omega), ho _ _ (by omega) (by omega) (by omega), ho _ _ (by omega) (by omega) (by omega), ho _ _ (by omega) (by omega) (by omega), ho _ _ (by omega) (by omega) (by omega)]
      rw [opn_lt (by omega) (by omega) (by omega), opn_lt (by omega) (by omega) (by omega), opn_lt (by omega) (by omega) (by omega), opn_lt (by omega) (by omega) (by omega), opn_lt (by omega) (by omega) (by omega)]
      exact ⟨a1, a2, a3, a4, a5⟩
  · rw [opn_0 (by omega)] at hj
    rw [ho _ _ (by omega) (by omega) (by omega), ho _ _ (by omega) (by omega) (by omega), ho _ _ (by omega) (by omega) (by omega)]
    rw [opn_c (by omega), opn_c (by omega), opn_c (by omega)]
    exact k2 j hj
set_option maxHeartbeats 1000000 in
/-- a turn closed -/
theorem cK.xcls (hm : mpB m p B) (hC : sh_C (a_t h0) (a_r h0)) (K : cK m p h0 h s) (he : e < 4) (h1e : s 1 e = 1) (hi : m = 0 → ∃ i, i < 90 ∧ s 21 e = nI i) : ∃ h', (∀ Q, Cal (d + 2) mX5_closeTurn [.ref p, .int (nI e), .int z, .int kd, .ref B] h Q = Q none h') ∧ cK m p h0 h' (cls s e (Nn (s 21 e)) z kd) ∧ ∀ r, p + 5 ≤ r → r < p + 9 → a_i h' r 4 = a_i h r 4 := by
  have K' := K
  obtain ⟨k1, k2, k3, k4, k5⟩ := K'
  have hCh : sh_C (a_t h) (a_r h) := by rw [k1.1, k1.2.1]; exact hC
  have hp := shL_m hm hCh
  have k2' := k2
  obtain ⟨m0, m5, m6⟩ := k2'
  obtain ⟨y1, y2, y3⟩ := (m6 e he).2.2.2.2.2.2.2.2.2.1 h1e
  rcases hm with ⟨rfl, rfl, rfl⟩ | ⟨rfl, rfl, rfl⟩
  · obtain ⟨i, i1, i2⟩ := hi rfl
    have lt : (nI i < 90) = True := nI_ltT (b := 90) i1 (by omega)
    have lt0 : ¬ nI i < 0 := Int32.not_lt.mpr (nI_pos' (by omega))
    obtain ⟨h3, c1, c2, c3, c4, c5, c6, c7, c8⟩ := cT (d := d) (z := z) (kd := kd) (B := 16) (bk := fun H => s_i (s_i H 20 i z) 21 i kd) hp he (t := nI i) (by rw [y1, i2]) (fun H sH Q => by
      rw [q_X2_closeTurn_16 (eq_true (by rw [sH.1, sH.2.1]; exact hCh))]
      simp [lt0, lt, nI_c (a := i) (by omega), nI_p (a := i) (by omega), i1]) (by simp [hCh.e])
    refine ⟨_, c1, ⟨k1.tr c2, ?_, fun _ => ?_, fun q j c => ?_, fun q j c => ?_⟩, fun r r1 r2 => ?_⟩
    · show rM _ (a_l h3) 7 _
      rw [c3]
      refine rM_cls k2 he ?_ ?_ ?_ ?_ (fun j hj => ?_) (fun q j _ _ hq => ?_)
      · rw [ine (by omega), ine (by omega)]; exact c4
      · rw [ine (by omega), ine (by omega)]; exact c5
      · rw [ine (by omega), ine (by omega)]; exact c6
      · rw [ine (by omega), ine (by omega), c7, y3]
      · rw [ine (by omega), ine (by omega)]; exact c8 _ _ (by omega)
      · rw [ine (by omega), ine (by omega)]; exact c8 _ _ (by omega)
    · rw [i2, Nn_n (by omega)]
      refine rBk_cls i1 (k3 rfl) ?_ (ieq rfl rfl) (fun q j _ _ _ _ => ?_)
      · rw [ine (by omega), ieq rfl rfl]
      · rw [ine (by omega), ine (by omega)]; exact c8 _ _ (by omega)
    · have : ¬ (q = 12 + e) ∧ ¬ q = 20 ∧ ¬ q = 21 := by unfold tch at c; omega
      rw [ine (by omega), ine (by omega), c8 _ _ (by omega)]
      exact k4 q j c
    · show a_l h3 q j = _
      rw [c3]
      exact k5 q j c
    · rw [ine (by omega), ine (by omega), c8 _ _ (by omega)]
  · obtain ⟨h3, c1, c2, c3, c4, c5, c6, c7, c8⟩ := cT (d := d) (z := z) (kd := kd) (B := 76) (bk := fun H => H) hp he (t := s 21 e) y1 (fun H sH Q => by
      rw [q_X2_closeTurn_76 (eq_true (by rw [sH.1, sH.2.1]; exact hCh))]
      by_cases c : s 21 e < 0
      · rw [if_pos c]
      · rw [if_neg c, eq_true (Int32.not_lt.mp c), true_and]) (by simp [hCh.e])
    refine ⟨_, c1, ⟨k1.tr c2, ?_, fun z => absurd z (by omega), fun q j c => ?_, fun q j c => ?_⟩, fun r r1 r2 => ?_⟩
    · rw [c3]
      refine rM_cls k2 he c4 c5 c6 ?_ (fun j hj => c8 _ _ (by omega)) (fun q j _ _ hq => c8 _ _ (by omega))
      rw [c7, y3]
    · rw [c8 _ _ (fun z => c (by unfold tch; omega))]
      exact k4 q j c
    · rw [c3]
      exact k5 q j c
    · exact c8 _ _ (by omega)
set_option maxHeartbeats 1000000 in
/-- a turn opened, and its first tenth spoken -/
theorem cK.xopn (hm : mpB m p B) (hC : sh_C (a_t h0) (a_r h0)) (K : cK m p h0 h s) (he : e < 4) (hT : s 0 3 = nI T) (hT2 : T < 2000000) (hT3 : m = 0 → T < 90) : ∃ h', (∀ Q, Cal (d + 2) mX5_openTurn [.ref p, .int (nI e), .int b, .int l, .ref B] h Q = Q none h') ∧ sm h h' ∧ cK m p h0 (s_i h' (p + 5 + e) 9 1) (opn s e T b l 1) ∧ ∀ r, p + 5 ≤ r → r < p + 9 → a_i h' r 4 = a_i h r 4 := by
  have K' := K
  obtain ⟨k1, k2, k3, k4, k5⟩ := K'
  have hCh : sh_C (a_t h) (a_r h) := by rw [k1.1, k1.2.1]; exact hC
  have hp := shL_m hm hCh
  have hp3 : a_i h p 3 = nI T := k2.1.2.2.2.1.trans hT
  rcases hm with ⟨rfl, rfl, rfl⟩ | ⟨rfl, rfl, rfl⟩
  · have i1 := hT3 rfl
    have lt : (nI T < 90) = True := nI_ltT (b := 90) i1 (by omega)
    have lt0 : ¬ nI T < 0 := Int32.not_lt.mpr (nI_pos' (by omega))
    obtain ⟨h3, c1, c2, c3, c4, c5, c6, c7, c8, c9, c10⟩ := oT (d := d) (b := b) (l := l) (B := 16) (bk := fun H => s_i (s_i (s_i (s_i (s_i H 17 T (nI e)) 18 T b) 19 T l) 20 T (-1)) 21 T 0) hp he (t := nI T) hp3 (fun H sH Q => by
      rw [q_X2_openTurn_16 (eq_true (by rw [sH.1, sH.2.1]; exact hCh))]
      simp [lt, lt0, nI_c (a := T) (by omega), nI_p (a := T) (by omega), i1]) (by simp [hCh.e]) (fun H => ⟨rfl, rfl, rfl⟩) (fun H => by simp (disch := omega) only [ine])
    refine ⟨_, c1, c2, ⟨k1.tr c2, ?_, fun _ => ?_, fun q j c => ?_, fun q j c => ?_⟩, fun r r1 r2 => ?_⟩
    · show rM _ (a_l h3) 7 _
      rw [c3]
      refine rM_opn k2 he ?_ ?_ ?_ ?_ (ieq rfl rfl) ?_ (fun j hj => ?_) ?_ (fun q j _ _ hq hq2 => ?_)
      · simp (disch := omega) only [ine]; exact c4
      · simp (disch := omega) only [ine]; exact c5
      · simp (disch := omega) only [ine]; exact c6
      · simp (disch := omega) only [ine]; exact c7
      · simp (disch := omega) only [ine]; exact c9
      · simp (disch := omega) only [ine]; exact c10 _ _ (by omega)
      · rw [ine (by omega), ieq rfl rfl, nI_s]
      · simp (disch := omega) only [ine]; exact c10 _ _ (by omega)
    · refine rBk_opn (by rw [hT]; exact Nn_n (by omega)) i1 (k3 rfl) ?_ (fun q j _ _ _ => ?_)
      · refine ⟨?_, ?_, ?_, ?_, ?_⟩ <;> simp (disch := omega) only [ine, ieq]
      · simp (disch := omega) only [ine]; exact c10 _ _ (by omega)
    · have : ¬ (7 ≤ q ∧ q < 16) ∧ ¬ (17 ≤ q ∧ q ≤ 21) := by unfold tch at c; omega
      simp (disch := omega) only [ine]
      rw [c10 _ _ (by omega)]
      exact k4 q j c
    · show a_l h3 q j = _
      rw [c3]
      exact k5 q j c
    · simp (disch := omega) only [ine]
      exact c10 _ _ (by omega)
  · have lt0 : ¬ nI T < 0 := Int32.not_lt.mpr (nI_pos' (by omega))
    obtain ⟨h3, c1, c2, c3, c4, c5, c6, c7, c8, c9, c10⟩ := oT (d := d) (b := b) (l := l) (B := 76) (bk := fun H => H) hp he (t := nI T) hp3 (fun H sH Q => by
      rw [q_X2_openTurn_76 (eq_true (by rw [sH.1, sH.2.1]; exact hCh)), if_neg lt0, eq_true (Int32.not_lt.mp lt0), true_and]) (by simp [hCh.e]) (fun H => ⟨rfl, rfl, rfl⟩) (fun H => rfl)
    refine ⟨_, c1, c2, ⟨k1.tr c2, ?_, fun z => absurd z (by omega), fun q j c => ?_, fun q j c => ?_⟩, fun r r1 r2 => ?_⟩
    · show rM _ (a_l h3) 67 _
      rw [c3]
      refine rM_opn k2 he ?_ ?_ ?_ ?_ (ieq rfl rfl) ?_ (fun j hj => ?_) ?_ (fun q j _ _ hq hq2 => ?_)
      · simp (disch := omega) only [ine]; exact c4
      · simp (disch := omega) only [ine]; exact c5
      · simp (disch := omega) only [ine]; exact c6
      · simp (disch := omega) only [ine]; exact c7
      · simp (disch := omega) only [ine]; exact c9
      · simp (disch := omega) only [ine]; exact c10 _ _ (by omega)
      · rw [ine (by omega), ieq rfl rfl, nI_s]
      · simp (disch := omega) only [ine]; exact c10 _ _ (by omega)
    · have : ¬ (67 ≤ q ∧ q < 76) := by unfold tch at c; omega
      simp (disch := omega) only [ine]
      rw [c10 _ _ (by omega)]
      exact k4 q j c
    · show a_l h3 q j = _
      rw [c3]
      exact k5 q j c
    · simp (disch := omega) only [ine]
      exact c10 _ _ (by omega)
end CK
