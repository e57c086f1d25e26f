/-! two fresh ends: comesAt of the class -/
section COMES
variable {d : Nat} {y yy : am_h} {q : Nat} {m : FMo}
/-- what comesAt may write -/
def pcl (q p j : Nat) : Prop := p = q + 1 ∨ (q + 4 ≤ p ∧ p < q + 15) ∨ (p = q ∧ j = 10)
def pf (q : Nat) (y0 y : am_h) : Prop := sm y0 y ∧ a_l y = a_l y0 ∧ ∀ p j, ¬ pcl q p j → a_i y p j = a_i y0 p j
theorem pf.refl : pf q y y := ⟨⟨rfl, rfl, rfl⟩, rfl, fun _ _ _ => rfl⟩
theorem pf.si (k : pf q y yy) {p j : Nat} {v : Int32} (h : pcl q p j) : pf q y (s_i yy p j v) := ⟨k.1.tr ⟨rfl, rfl, rfl⟩, k.2.1, fun r j' c => by
  rw [ine (fun z => c (by rw [z.1, z.2]; exact h))]; exact k.2.2 r j' c⟩
theorem pf.P (k : pf q y yy) (sP : shP (a_t y) (a_r y) q) : shP (a_t yy) (a_r yy) q := by rw [k.1.1, k.1.2.1]; exact sP
/-- the loop of comesAt -/
def LI (q : Nat) (m : FMo) (y0 : am_h) (i T : Nat) (y : am_h) : Prop :=
  pf q y0 y ∧ T ≤ 999
  ∧ (a_i y (q + 1) 0 = nI (m.1 0) ∧ a_i y (q + 1) 1 = nI (m.1 1) ∧ a_i y (q + 2) 0 = nI (m.2.1 0) ∧ a_i y (q + 2) 1 = nI (m.2.1 1) ∧ a_i y q 2 = nI m.2.2.1 ∧ a_i y q 3 = nI m.2.2.2)
  ∧ ∃ (n0 n1 r0 r1 u0 u1 b : Nat) (b0 e0 k0 b1 e1 k1 : Nat → Nat), rPD y q 0 n0 b0 e0 k0 ∧ rPD y q 1 n1 b1 e1 k1 ∧ stD m 0 T n0 b0 e0 k0 ∧ stD m 1 T n1 b1 e1 k1
    ∧ (a_i y (q + 13) 0 = nI r0 ∧ r0 ≤ n1 ∧ ∀ j, j < r0 → ¬ e1 j = 0 ∧ e1 j + m.2.1 1 ≤ sinc n0 b0 e0)
    ∧ (a_i y (q + 13) 1 = nI r1 ∧ r1 ≤ n0 ∧ ∀ j, j < r1 → ¬ e0 j = 0 ∧ e0 j + m.2.1 0 ≤ sinc n1 b1 e1)
    ∧ (a_i y (q + 14) 0 = nI u0 ∧ bsJ m 0 n0 u0 b0 e0 b) ∧ (a_i y (q + 14) 1 = nI u1 ∧ bsJ m 1 n1 u1 b1 e1 b)
    ∧ a_i y q 10 = bsB b ∧ bsE m T b ∧ b ≤ 2000 ∧ i = cntE n0 e0 + cntE n1 e1
theorem sinc_en {n T : Nat} {bg en : Nat → Nat} (T0 : ¬ T = 0) : sinc n bg (un en (n - 1) T) = T := by
  unfold sinc
  rw [une rfl]
  exact if_neg T0
theorem sinc_bg {n T : Nat} {bg en : Nat → Nat} : sinc (n + 1) (un bg n T) (un en n 0) = T := by
  unfold sinc
  rw [Nat.add_sub_cancel, une rfl, une rfl]
  exact if_pos rfl
theorem stD.si {e T n : Nat} {bg en kd : Nat → Nat} (k : stD m e T n bg en kd) : sinc n bg en ≤ T := by
  obtain ⟨s, s1, s2, D⟩ := k.D
  have n1 := D.1
  have a := D.2.2.1 (n - 1) (by omega)
  unfold sinc
  split
  · omega
  · rename_i c
    have := (a.2.2.2 c).2.1
    omega
theorem cntE_en {n T : Nat} {en : Nat → Nat} (hn : 1 ≤ n) (z : en (n - 1) = 0) (T0 : ¬ T = 0) : cntE n (un en (n - 1) T) = cntE n en + 1 := by
  unfold cntE
  rw [une rfl, if_neg T0, if_pos z]
  omega
theorem cntE_bg {n : Nat} {en : Nat → Nat} (hn : 1 ≤ n) (z : ¬ en (n - 1) = 0) : cntE (n + 1) (un en n 0) = cntE n en + 1 := by
  unfold cntE
  rw [Nat.add_sub_cancel, une rfl, if_pos rfl, if_neg z]
  omega
theorem jY_self {e u b : Nat} (h1 : a_i y (q + 14) e = nI u) (h2 : a_i y q 10 = bsB b) : jY y q e u b = y := by
  unfold jY
  rw [si_self h1, si_self h2]
theorem pf.jY (k : pf q y yy) {e u b : Nat} : pf q y (jY yy q e u b) := (k.si (Or.inr (Or.inl ⟨by omega, by omega⟩))).si (Or.inr (Or.inr ⟨rfl, rfl⟩))
set_option maxRecDepth 20000 in
set_option maxHeartbeats 4000000 in
theorem comes_lp (sP : shP (a_t y) (a_r y) q) (h0 : 1 ≤ m.2.1 0) (h1 : 1 ≤ m.2.1 1) (g0 : m.2.1 0 ≤ 61) (g1 : m.2.1 1 ≤ 61) (w0 : m.1 0 ≤ 99) (w1 : m.1 1 ≤ 99) (L1 : 1 ≤ m.2.2.1) (hL : m.2.2.1 ≤ 99) (hS : m.2.2.2 ≤ 99) {p1 p2 : Int32} : ∀ (k i T : Nat) (yy : am_h) (x4 x5 x6 : Option Value), i + k = 4000 → LI q m y i T yy → ∃ y' b, (∀ Q, WP (d + 3) mX6_comesAt 61 [some (.ref q), some (.int p1), some (.int p2), some (.int (nI i)), x4, x5, x6] [] yy Q = Q (some (.int (bsB b))) y') ∧ pf q y y' ∧ isAns m b := by
  intro k
  induction k with
  | zero =>
    intro i T yy x4 x5 x6 e h
    obtain ⟨_, hT, _, n0, n1, r0, r1, u0, u1, b, b0, e0, k0, b1, e1, k1, D0, D1, S0, S1, _, _, _, _, _, _, _, ei⟩ := h
    have := S0.cnt
    have := S1.cnt
    omega
  | succ k ih =>
    intro i T yy x4 x5 x6 e h
    obtain ⟨f, hT, ⟨pw0, pw1, pl0, pl1, pL, pS⟩, n0, n1, r0, r1, u0, u1, b, b0, e0, k0, b1, e1, k1, D0, D1, S0, S1, ⟨pn0, hr0, nf0⟩, ⟨pn1, hr1, nf1⟩, ⟨pu0, J0⟩, ⟨pu1, J1⟩, pb, E, hb, ei⟩ := h
    have sPy := f.P sP
    have sPz := sPy
    unfold shP at sPz
    have gi : (nI i < 4000) = True := nI_ltT (b := 4000) (by omega) (by omega)
    obtain ⟨st, t1, t2⟩ := q_X6_isSettled (d := d + 1) sPy D0 D1 pu0 pu1 J0.1 J1.1 hb pb
    cases hst : st
    · rw [hst] at t1
      -- the next changes
      obtain ⟨r0', ra, c0⟩ := q_X6_nextChange (d := d + 1) sPy (e := 0) (o := 1) (by omega) rfl D0 D1 (m := m) w0 g1 hL hS pw0 pl1 pL pS pn0 (Nat.le_refl _) hr0 nf0
      obtain ⟨y1, ey1⟩ : ∃ y1, y1 = s_i yy (q + 13) 0 (nI r0') := ⟨_, rfl⟩
      rw [← ey1] at c0
      have f1 : pf q y y1 := by rw [ey1]; exact f.si (Or.inr (Or.inl ⟨by omega, by omega⟩))
      have i1 : ∀ p j, ¬ (p = q + 13 ∧ j = 0) → a_i y1 p j = a_i yy p j := fun p j c => by rw [ey1]; exact ine c
      have D01 : rPD y1 q 0 n0 b0 e0 k0 := by rw [ey1]; exact D0.si (by omega) (by omega) (by omega) (by omega)
      have D11 : rPD y1 q 1 n1 b1 e1 k1 := by rw [ey1]; exact D1.si (by omega) (by omega) (by omega) (by omega)
      have sP1 := f1.P sP
      obtain ⟨r1', rb, c1⟩ := q_X6_nextChange (d := d + 1) sP1 (e := 1) (o := 0) (by omega) rfl D11 D01 (m := m) w1 g0 hL hS (by rw [i1 _ _ (by omega)]; exact pw1) (by rw [i1 _ _ (by omega)]; exact pl0) (by rw [i1 _ _ (by omega)]; exact pL) (by rw [i1 _ _ (by omega)]; exact pS) (by rw [i1 _ _ (by omega)]; exact pn1) (Nat.le_refl _) hr1 nf1
      obtain ⟨y2, ey2⟩ : ∃ y2, y2 = s_i y1 (q + 13) 1 (nI r1') := ⟨_, rfl⟩
      rw [← ey2] at c1
      have f2 : pf q y y2 := by rw [ey2]; exact f1.si (Or.inr (Or.inl ⟨by omega, by omega⟩))
      have i2 : ∀ p j, ¬ p = q + 13 → a_i y2 p j = a_i yy p j := fun p j c => by rw [ey2, ine (by omega)]; exact i1 p j (by omega)
      have D02 : rPD y2 q 0 n0 b0 e0 k0 := by rw [ey2]; exact D01.si (by omega) (by omega) (by omega) (by omega)
      have D12 : rPD y2 q 1 n1 b1 e1 k1 := by rw [ey2]; exact D11.si (by omega) (by omega) (by omega) (by omega)
      have sP2 := f2.P sP
      obtain ⟨C0, eC0⟩ : ∃ c, c = nC m 0 1 n0 b0 e0 r0' n1 b1 e1 := ⟨_, rfl⟩
      obtain ⟨C1, eC1⟩ : ∃ c, c = nC m 1 0 n1 b1 e1 r1' n0 b0 e0 := ⟨_, rfl⟩
      have A0 := nC_at (e := 0) (o := 1) rfl h1 L1 S0 S1 ra hT
      have A1 := nC_at (e := 1) (o := 0) rfl h0 L1 S1 S0 rb hT
      rw [← eC0] at c0 A0
      rw [← eC1] at c1 A1
      -- the tenth
      obtain ⟨T', eT'⟩ : ∃ T', T' = mnN 1000 (mnN C0 C1) := ⟨_, rfl⟩
      have mm : T' ≤ 1000 ∧ T' ≤ C0 ∧ T' ≤ C1 ∧ (T' = 1000 ∨ T' = C0 ∨ T' = C1) ∧ T ≤ T' := by
        have a := mnN_le (a := C0) (b := C1)
        have b := mnN_le (a := 1000) (b := mnN C0 C1)
        omega
      obtain ⟨S0', S1'⟩ := st_adv h0 h1 L1 ra rb mm.1 (by omega) (by omega) (T' - T) T (by omega) S0 S1
      obtain ⟨s0, s01, s02, F0⟩ := S0'.D
      obtain ⟨s1, s11, s12, F1⟩ := S1'.D
      -- judging
      have pu0' : a_i y2 (q + 14) 0 = nI u0 := by rw [i2 _ _ (by omega)]; exact pu0
      have pu1' : a_i y2 (q + 14) 1 = nI u1 := by rw [i2 _ _ (by omega)]; exact pu1
      have pb' : a_i y2 q 10 = bsB b := by rw [i2 _ _ (by omega)]; exact pb
      obtain ⟨v0, ba, j0, J0a, L0a, Ea, hba, la⟩ := q_X6_judge (d := d + 1) sP2 (e := 0) (o := 1) (by omega) rfl D02 D12 F0 F1 mm.1 s01 s02 s11 h0 g0 L1 hL (by rw [i2 _ _ (by omega)]; exact pl0) (by rw [i2 _ _ (by omega)]; exact pL) (n0 - u0) u0 b none none none (by have := J0.1; omega) J0 (E.tx mm.2.2.2.2) hb
      rw [jY_self pu0' pb'] at j0
      obtain ⟨y3, ey3⟩ : ∃ y3, y3 = jY y2 q 0 v0 ba := ⟨_, rfl⟩
      rw [← ey3] at j0
      have f3 : pf q y y3 := by rw [ey3]; exact f2.jY
      have i3 : ∀ p j, ¬ (p = q + 14 ∧ j = 0) → ¬ (p = q ∧ j = 10) → a_i y3 p j = a_i y2 p j := fun p j c c' => by rw [ey3]; exact jY_i c c'
      have D03 : rPD y3 q 0 n0 b0 e0 k0 := by rw [ey3]; exact D02.jY (by omega)
      have D13 : rPD y3 q 1 n1 b1 e1 k1 := by rw [ey3]; exact D12.jY (by omega)
      have sP3 := f3.P sP
      have pu1'' : a_i y3 (q + 14) 1 = nI u1 := by rw [i3 _ _ (by omega) (by omega)]; exact pu1'
      have pb'' : a_i y3 q 10 = bsB ba := by rw [ey3]; exact jY_ib
      have pv0 : a_i y3 (q + 14) 0 = nI v0 := by rw [ey3]; exact jY_iu
      obtain ⟨v1, bb, j1, J1b, L1b, Eb, hbb, lb⟩ := q_X6_judge (d := d + 1) sP3 (e := 1) (o := 0) (by omega) rfl D13 D03 F1 F0 mm.1 s11 s12 s01 h1 g1 L1 hL (by rw [i3 _ _ (by omega) (by omega), i2 _ _ (by omega)]; exact pl1) (by rw [i3 _ _ (by omega) (by omega), i2 _ _ (by omega)]; exact pL) (n1 - u1) u1 ba none none none (by have := J1.1; omega) (J1.bx la) Ea hba
      rw [jY_self pu1'' pb''] at j1
      obtain ⟨y4, ey4⟩ : ∃ y4, y4 = jY y3 q 1 v1 bb := ⟨_, rfl⟩
      rw [← ey4] at j1
      have f4 : pf q y y4 := by rw [ey4]; exact f3.jY
      have i4 : ∀ p j, ¬ (p = q + 14) → ¬ (p = q ∧ j = 10) → a_i y4 p j = a_i y2 p j := fun p j c c' => by rw [ey4, jY_i (by omega) c', i3 p j (by omega) c']
      have D04 : rPD y4 q 0 n0 b0 e0 k0 := by rw [ey4]; exact D03.jY (by omega)
      have D14 : rPD y4 q 1 n1 b1 e1 k1 := by rw [ey4]; exact D13.jY (by omega)
      have sP4 := f4.P sP
      have pv1 : a_i y4 (q + 14) 1 = nI v1 := by rw [ey4]; exact jY_iu
      have pw0' : a_i y4 (q + 14) 0 = nI v0 := by rw [ey4, jY_i (by omega) (by omega)]; exact pv0
      have pbb : a_i y4 q 10 = bsB bb := by rw [ey4]; exact jY_ib
      have J0b := J0a.bx lb
      have nb0 : C0 ≤ 2000 := by
        rw [eC0]; unfold nC
        have z := (D0.2.2.2 (n0 - 1) (by have := D0.1; omega))
        split
        · have := mnN_le (a := b0 (n0 - 1) + m.2.2.1) (b := yIn m.2.2.2 (m.2.1 1) n1 r0' b1); omega
        · have : ∀ k i qf, i + k = n1 → qf ≤ 1061 → bIn (m.1 0) (m.2.1 1) b1 e1 k i qf ≤ 2000 := by
            intro k
            induction k with
            | zero => intro i qf _ h; show qf + m.1 0 ≤ 2000; omega
            | succ k ih =>
              intro i qf e h
              unfold bIn
              have z := D1.2.2.2 i (by omega)
              split
              · omega
              · split
                · omega
                · exact ih _ _ (by omega) (by split <;> omega)
          exact this _ _ _ (by have := ra.1; omega) (by omega)
      have nb1 : C1 ≤ 2000 := by
        rw [eC1]; unfold nC
        have z := (D1.2.2.2 (n1 - 1) (by have := D1.1; omega))
        split
        · have := mnN_le (a := b1 (n1 - 1) + m.2.2.1) (b := yIn m.2.2.2 (m.2.1 0) n0 r1' b0); omega
        · have : ∀ k i qf, i + k = n0 → qf ≤ 1061 → bIn (m.1 1) (m.2.1 0) b0 e0 k i qf ≤ 2000 := by
            intro k
            induction k with
            | zero => intro i qf _ h; show qf + m.1 1 ≤ 2000; omega
            | succ k ih =>
              intro i qf e h
              unfold bIn
              have z := D0.2.2.2 i (by omega)
              split
              · omega
              · split
                · omega
                · exact ih _ _ (by omega) (by split <;> omega)
          exact this _ _ _ (by have := rb.1; omega) (by omega)
      have jd0 : ∀ Q, Cal (d + 2) mX6_judge [.ref q, .int 0, .int (nI T')] y2 Q = Q none y3 := fun Q => by
        unfold Cal
        rw [l_X6_judge]
        exact j0 Q
      have jd1 : ∀ Q, Cal (d + 2) mX6_judge [.ref q, .int 1, .int (nI T')] y3 Q = Q none y4 := fun Q => by
        unfold Cal
        rw [l_X6_judge]
        exact j1 Q
      have m1 : (if nI C1 < nI C0 then nI C1 else nI C0) = nI (mnN C0 C1) := by
        simp only [nI_lI (show C1 < 2000000000 by omega) (show C0 < 2000000000 by omega)]
        unfold mnN; split <;> rfl
      have mb : mnN C0 C1 < 2000000000 := by have := mnN_le (a := C0) (b := C1); omega
      have m2 : (if nI (mnN C0 C1) < 1000 then nI (mnN C0 C1) else 1000) = nI T' := by
        rw [eT']
        have : (nI (mnN C0 C1) < 1000) = (mnN C0 C1 < 1000) := nI_lI (b := 1000) mb (by omega)
        simp only [this]
        have gen : ∀ M : Nat, (if M < 1000 then nI M else 1000) = nI (mnN 1000 M) := fun M => by unfold mnN; split <;> rfl
        exact gen _
      have c0' : ∀ Q, Cal (d + 2) mX6_nextChange [.ref q, .int 0] yy Q = Q (some (.int (nI C0))) y1 := c0
      have c1' : ∀ Q, Cal (d + 2) mX6_nextChange [.ref q, .int 1] y1 Q = Q (some (.int (nI C1))) y2 := c1
      -- up to the judging
      have pre : ∀ Q, WP (d + 3) mX6_comesAt 61 [some (.ref q), some (.int p1), some (.int p2), some (.int (nI i)), x4, x5, x6] [] yy Q = WP (d + 3) mX6_comesAt 118 [some (.ref q), some (.int p1), some (.int p2), some (.int (nI i)), some (.int (nI C0)), some (.int (nI C1)), some (.int (nI T'))] [] y4 Q := fun Q => by
        simp [w_iload_n3 (M := mX6_comesAt) dX6_comesAt_61, w_sipush (M := mX6_comesAt) (v := 4000) dX6_comesAt_62 rfl, w_ic_ge (M := mX6_comesAt) (tgt := 155) dX6_comesAt_65 (by decide), w_aload_n0 (M := mX6_comesAt) dX6_comesAt_68, c_6_62 (M := mX6_comesAt) dX6_comesAt_69 rfl, w_if_ne (M := mX6_comesAt) (tgt := 155) dX6_comesAt_72 (by decide), w_aload_n0 (M := mX6_comesAt) dX6_comesAt_75, w_iconst (M := mX6_comesAt) (v := 0) dX6_comesAt_76 rfl, c_6_66 (M := mX6_comesAt) dX6_comesAt_77 rfl, w_istore (M := mX6_comesAt) dX6_comesAt_80 (by decide), w_aload_n0 (M := mX6_comesAt) dX6_comesAt_82, w_iconst (M := mX6_comesAt) (v := 1) dX6_comesAt_83 rfl, c_6_66 (M := mX6_comesAt) dX6_comesAt_84 rfl, w_istore (M := mX6_comesAt) dX6_comesAt_87 (by decide), w_sipush (M := mX6_comesAt) (v := 1000) dX6_comesAt_89 rfl, w_iload4 (M := mX6_comesAt) dX6_comesAt_92, w_iload5 (M := mX6_comesAt) dX6_comesAt_94, w_mn (M := mX6_comesAt) dX6_comesAt_96 lk_6_70, w_mn (M := mX6_comesAt) dX6_comesAt_99 lk_6_70, w_istore (M := mX6_comesAt) dX6_comesAt_102 (by decide), w_aload_n0 (M := mX6_comesAt) dX6_comesAt_104, w_iconst (M := mX6_comesAt) (v := 0) dX6_comesAt_105 rfl, w_iload6 (M := mX6_comesAt) dX6_comesAt_106, c_6_75 (M := mX6_comesAt) dX6_comesAt_108 rfl, w_aload_n0 (M := mX6_comesAt) dX6_comesAt_111, w_iconst (M := mX6_comesAt) (v := 1) dX6_comesAt_112 rfl, w_iload6 (M := mX6_comesAt) dX6_comesAt_113, c_6_75 (M := mX6_comesAt) dX6_comesAt_115 rfl, Kn_v_, Kn_n_, kl_i_, kl_a_, kl_l_, kl_n_, s1_0_, s2_0_, s1_1, s1_2, s1_3, s1_4, s1_5, s1_6, s1_7, s1_8, s1_9, s1_10, s1_11, s1_12, s1_13, s1_14, s2_1, s2_2, s2_3, s2_4, s2_5, s2_6, s2_7, s2_8, s2_9, s2_10, s2_11, s2_12, s2_13, s2_14, List.map_nil, List.map_cons, List.sum_nil, List.sum_cons, ct_i_, ct_r_, ct_l_, t_si_, t_sl_, t_sr_, n_si_, n_sl_, n_sr_, i_si_, i_sl_, i_sr_, l_si_, l_sl_, l_sr_, r_si_, r_sl_, r_sr_, vr_s_, vr_n_, nz_0_, nz_1_, sPz.1, sP1.1, sP2.1, sP3.1, gi, t1, bI_f, c0', c1', m1, m2, jd0, jd1]
      by_cases c : T' = 1000
      · refine ⟨y4, bb, fun Q => ?_, f4, ?_⟩
        · rw [pre Q, c]
          have sP5 := sP4
          unfold shP at sP5
          simp [w_iload6 (M := mX6_comesAt) dX6_comesAt_118, w_sipush (M := mX6_comesAt) (v := 1000) dX6_comesAt_120 rfl, w_ic_lt (M := mX6_comesAt) (tgt := 131) dX6_comesAt_123 (by decide), w_aload_n0 (M := mX6_comesAt) dX6_comesAt_126, w_getI (M := mX6_comesAt) dX6_comesAt_127 f_6_55 rfl (by decide) (by decide), w_iret (M := mX6_comesAt) dX6_comesAt_130 rfl, Kn_v_, Kn_n_, kl_i_, kl_a_, kl_l_, kl_n_, s1_0_, s2_0_, s1_1, s1_2, s1_3, s1_4, s1_5, s1_6, s1_7, s1_8, s1_9, s1_10, s1_11, s1_12, s1_13, s1_14, s2_1, s2_2, s2_3, s2_4, s2_5, s2_6, s2_7, s2_8, s2_9, s2_10, s2_11, s2_12, s2_13, s2_14, List.map_nil, List.map_cons, List.sum_nil, List.sum_cons, ct_i_, ct_r_, ct_l_, t_si_, t_sl_, t_sr_, n_si_, n_sl_, n_sr_, i_si_, i_sl_, i_sr_, l_si_, l_sl_, l_sr_, r_si_, r_sl_, r_sr_, vr_s_, vr_n_, nz_0_, nz_1_, sP5, pbb, show (nI 1000 < 1000) = False from nI_ltF (b := 1000) (Nat.le_refl _) (by omega)]
        · rw [c] at S0' S1' L0a L1b Eb
          exact ans_end h0 h1 L1 S0' S1' J0b J1b L0a L1b Eb
      · have T9 : T' ≤ 999 := by omega
        have TC1 : C1 < C0 → C1 = T' := fun q => by rcases mm with ⟨_, a, b, c2, _⟩; omega
        have TC0 : ¬ C1 < C0 → C0 = T' := fun q => by rcases mm with ⟨_, a, b, c2, _⟩; omega
        have lt : (nI T' < 1000) = True := nI_ltT (b := 1000) (by omega) (by omega)
        -- where a change is done, the loop goes on
        have go : ∀ (y5 : am_h) (e : Int32), (∀ Q, Cal (d + 2) mX6_change [.ref q, .int e, .int (nI T')] y4 Q = Q none y5) → (e = if C1 < C0 then 1 else 0) → LI q m y (i + 1) T' y5 → ∃ y' b, (∀ Q, WP (d + 3) mX6_comesAt 61 [some (.ref q), some (.int p1), some (.int p2), some (.int (nI i)), x4, x5, x6] [] yy Q = Q (some (.int (bsB b))) y') ∧ pf q y y' ∧ isAns m b := by
          intro y5 e ch ee li
          obtain ⟨y', b', z1, z2, z3⟩ := ih (i + 1) T' y5 (some (.int (nI C0))) (some (.int (nI C1))) (some (.int (nI T'))) (by omega) li
          refine ⟨y', b', fun Q => ?_, z2, z3⟩
          have z1' := z1 Q
          have cc : (nI C1 < nI C0) = (C1 < C0) := nI_lI (by omega) (by omega)
          rw [pre Q]
          by_cases c2 : C1 < C0
          · rw [if_pos c2] at ee
            subst ee
            simp [w_iload6 (M := mX6_comesAt) dX6_comesAt_118, w_sipush (M := mX6_comesAt) (v := 1000) dX6_comesAt_120 rfl, w_ic_lt (M := mX6_comesAt) (tgt := 131) dX6_comesAt_123 (by decide), w_aload_n0 (M := mX6_comesAt) dX6_comesAt_126, w_getI (M := mX6_comesAt) dX6_comesAt_127 f_6_55 rfl (by decide) (by decide), w_iret (M := mX6_comesAt) dX6_comesAt_130 rfl, w_aload_n0 (M := mX6_comesAt) dX6_comesAt_131, w_iload4 (M := mX6_comesAt) dX6_comesAt_132, w_iload5 (M := mX6_comesAt) dX6_comesAt_134, w_ic_gt (M := mX6_comesAt) (tgt := 143) dX6_comesAt_136 (by decide), w_iconst (M := mX6_comesAt) (v := 0) dX6_comesAt_139 rfl, w_goto (M := mX6_comesAt) (tgt := 144) dX6_comesAt_140 (by decide), w_iconst (M := mX6_comesAt) (v := 1) dX6_comesAt_143 rfl, w_iload6 (M := mX6_comesAt) dX6_comesAt_144, c_6_78 (M := mX6_comesAt) dX6_comesAt_146 rfl, w_iinc3 (M := mX6_comesAt) (v := 1) dX6_comesAt_149 rfl (by decide), w_goto (M := mX6_comesAt) (tgt := 61) dX6_comesAt_152 (by decide), Kn_v_, Kn_n_, kl_i_, kl_a_, kl_l_, kl_n_, s1_0_, s2_0_, s1_1, s1_2, s1_3, s1_4, s1_5, s1_6, s1_7, s1_8, s1_9, s1_10, s1_11, s1_12, s1_13, s1_14, s2_1, s2_2, s2_3, s2_4, s2_5, s2_6, s2_7, s2_8, s2_9, s2_10, s2_11, s2_12, s2_13, s2_14, List.map_nil, List.map_cons, List.sum_nil, List.sum_cons, ct_i_, ct_r_, ct_l_, t_si_, t_sl_, t_sr_, n_si_, n_sl_, n_sr_, i_si_, i_sl_, i_sr_, l_si_, l_sl_, l_sr_, r_si_, r_sl_, r_sr_, vr_s_, vr_n_, nz_0_, nz_1_, sP4.1, lt, cc, c2, ch, nI_s, z1']
          · rw [if_neg c2] at ee
            subst ee
            simp [w_iload6 (M := mX6_comesAt) dX6_comesAt_118, w_sipush (M := mX6_comesAt) (v := 1000) dX6_comesAt_120 rfl, w_ic_lt (M := mX6_comesAt) (tgt := 131) dX6_comesAt_123 (by decide), w_aload_n0 (M := mX6_comesAt) dX6_comesAt_126, w_getI (M := mX6_comesAt) dX6_comesAt_127 f_6_55 rfl (by decide) (by decide), w_iret (M := mX6_comesAt) dX6_comesAt_130 rfl, w_aload_n0 (M := mX6_comesAt) dX6_comesAt_131, w_iload4 (M := mX6_comesAt) dX6_comesAt_132, w_iload5 (M := mX6_comesAt) dX6_comesAt_134, w_ic_gt (M := mX6_comesAt) (tgt := 143) dX6_comesAt_136 (by decide), w_iconst (M := mX6_comesAt) (v := 0) dX6_comesAt_139 rfl, w_goto (M := mX6_comesAt) (tgt := 144) dX6_comesAt_140 (by decide), w_iconst (M := mX6_comesAt) (v := 1) dX6_comesAt_143 rfl, w_iload6 (M := mX6_comesAt) dX6_comesAt_144, c_6_78 (M := mX6_comesAt) dX6_comesAt_146 rfl, w_iinc3 (M := mX6_comesAt) (v := 1) dX6_comesAt_149 rfl (by decide), w_goto (M := mX6_comesAt) (tgt := 61) dX6_comesAt_152 (by decide), Kn_v_, Kn_n_, kl_i_, kl_a_, kl_l_, kl_n_, s1_0_, s2_0_, s1_1, s1_2, s1_3, s1_4, s1_5, s1_6, s1_7, s1_8, s1_9, s1_10, s1_11, s1_12, s1_13, s1_14, s2_1, s2_2, s2_3, s2_4, s2_5, s2_6, s2_7, s2_8, s2_9, s2_10, s2_11, s2_12, s2_13, s2_14, List.map_nil, List.map_cons, List.sum_nil, List.sum_cons, ct_i_, ct_r_, ct_l_, t_si_, t_sl_, t_sr_, n_si_, n_sl_, n_sr_, i_si_, i_sl_, i_sr_, l_si_, l_sl_, l_sr_, r_si_, r_sl_, r_sr_, vr_s_, vr_n_, nz_0_, nz_1_, sP4.1, lt, cc, c2, ch, nI_s, z1']
        have par : ∀ (y5 : am_h), (∀ p j, ¬ (q + 4 ≤ p ∧ p < q + 13) → a_i y5 p j = a_i y4 p j) → a_i y5 (q + 1) 0 = nI (m.1 0) ∧ a_i y5 (q + 1) 1 = nI (m.1 1) ∧ a_i y5 (q + 2) 0 = nI (m.2.1 0) ∧ a_i y5 (q + 2) 1 = nI (m.2.1 1) ∧ a_i y5 q 2 = nI m.2.2.1 ∧ a_i y5 q 3 = nI m.2.2.2 := by
          intro y5 i5
          have w : ∀ p j, p = q ∨ p = q + 1 ∨ p = q + 2 → ¬ j = 10 → a_i y5 p j = a_i yy p j := fun p j c c' => by
            rw [i5 p j (by omega), i4 p j (by omega) (by omega), i2 p j (by omega)]
          rw [w _ _ (by omega) (by omega), w _ _ (by omega) (by omega), w _ _ (by omega) (by omega), w _ _ (by omega) (by omega), w _ _ (by omega) (by omega), w _ _ (by omega) (by omega)]
          exact ⟨pw0, pw1, pl0, pl1, pL, pS⟩
        have q0 : a_i y4 (q + 13) 0 = nI r0' := by rw [i4 _ _ (by omega) (by omega), ey2, ine (by omega), ey1, ieq rfl rfl]
        have q1 : a_i y4 (q + 13) 1 = nI r1' := by rw [i4 _ _ (by omega) (by omega), ey2, ieq rfl rfl]
        have B0 := nC_at (e := 0) (o := 1) rfl h1 L1 S0' S1' ra T9
        have B1 := nC_at (e := 1) (o := 0) rfl h0 L1 S1' S0' rb T9
        rw [← eC0] at B0
        rw [← eC1] at B1
        have N0 := S0'.cnt
        have N1 := S1'.cnt
        have X0 := S0'.si
        have X1 := S1'.si
        by_cases c2 : C1 < C0
        · have TC : C1 = T' := TC1 c2
          have sel : (1 : Int32) = if C1 < C0 then 1 else 0 := by rw [if_pos c2]
          by_cases z : e1 (n1 - 1) = 0
          · obtain ⟨T0, F, ne, v⟩ := B1.2.2.1 TC z
            obtain ⟨y5, ey5⟩ : ∃ y5, y5 = s_i (s_i y4 (q + 10 + 1) (n1 - 1) (nI (if yIn m.2.2.2 (m.2.1 0) n0 r1' b0 = T' then 2 else 1))) (q + 7 + 1) (n1 - 1) (nI T') := ⟨_, rfl⟩
            have i5 : ∀ p j, ¬ (q + 4 ≤ p ∧ p < q + 12) → a_i y5 p j = a_i y4 p j := fun p j c => by rw [ey5, ine (by omega), ine (by omega)]
            refine go y5 1 (fun Q => ?_) sel ⟨?_, T9, par y5 (fun p j c => i5 p j (by omega)), n0, n1, r0', r1', v0, v1, bb, b0, e0, k0, b1, un e1 (n1 - 1) T', un k1 (n1 - 1) (if yIn m.2.2.2 (m.2.1 0) n0 r1' b0 = T' then 2 else 1), (by rw [ey5]; exact (D04.si (by omega) (by omega) (by omega) (by omega)).si (by omega) (by omega) (by omega) (by omega)), (by rw [ey5]; exact D14.enx (by omega) mm.1 T0), S0', Or.inr (Or.inl ⟨T0, une rfl, F.enx h0 L1 z ne T0 v.symm⟩), ⟨by rw [i5 _ _ (by omega)]; exact q0, ra.1, fun j hj => by have := ra.2.1 j hj; rw [unn (fun w => this.1 (by rw [w]; exact z))]; exact this⟩, ⟨by rw [i5 _ _ (by omega)]; exact q1, rb.1, fun j hj => by have := rb.2.1 j hj; rw [sinc_en T0]; omega⟩, ⟨by rw [i5 _ _ (by omega)]; exact pw0', J0b⟩, ⟨by rw [i5 _ _ (by omega)]; exact pv1, J1b.enx z⟩, ?_, Eb, hbb, ?_⟩
            · rw [ey5]
              exact q_X6_change_e (d := d + 1) sP4 (e := 1) (o := 0) (by omega) rfl D14 D04 z hS g0 (by rw [i4 _ _ (by omega) (by omega), i2 _ _ (by omega)]; exact pS) (by rw [i4 _ _ (by omega) (by omega), i2 _ _ (by omega)]; exact pl0) q1 rb.1 mm.1
            · rw [ey5]
              exact (f4.si (Or.inr (Or.inl ⟨by omega, by omega⟩))).si (Or.inr (Or.inl ⟨by omega, by omega⟩))
            · rw [i5 _ _ (by omega)]; exact pbb
            · have := cntE_en (T := T') D14.1 z T0
              omega
          · obtain ⟨T0, bA, s, F, hs⟩ := B1.2.2.2 TC z
            obtain ⟨y5, ey5⟩ : ∃ y5, y5 = s_i (s_i (s_i (s_i y4 (q + 4 + 1) n1 (nI T')) (q + 7 + 1) n1 (-1)) (q + 10 + 1) n1 0) (q + 12) 1 (nI (n1 + 1)) := ⟨_, rfl⟩
            have i5 : ∀ p j, ¬ (q + 4 ≤ p ∧ p < q + 13) → a_i y5 p j = a_i y4 p j := fun p j c => by rw [ey5, ine (by omega), ine (by omega), ine (by omega), ine (by omega)]
            refine go y5 1 (fun Q => ?_) sel ⟨?_, T9, par y5 i5, n0, n1 + 1, r0', r1', v0, v1, bb, b0, e0, k0, un b1 n1 T', un e1 n1 0, un k1 n1 0, (by rw [ey5]; exact (((D04.si (by omega) (by omega) (by omega) (by omega)).si (by omega) (by omega) (by omega) (by omega)).si (by omega) (by omega) (by omega) (by omega)).si (by omega) (by omega) (by omega) (by omega)), (by rw [ey5]; exact D14.bgx (by omega) (by omega) mm.1), S0', Or.inr (Or.inr ⟨by rw [Nat.add_sub_cancel, une rfl], by rw [Nat.add_sub_cancel, une rfl], F.bgx h0 z hs T0 bA⟩), ⟨by rw [i5 _ _ (by omega)]; exact q0, by have := ra.1; omega, fun j hj => by have := ra.2.1 j hj; have := ra.1; rw [unn (by omega)]; exact ra.2.1 j hj⟩, ⟨by rw [i5 _ _ (by omega)]; exact q1, rb.1, fun j hj => by have := rb.2.1 j hj; rw [sinc_bg]; omega⟩, ⟨by rw [i5 _ _ (by omega)]; exact pw0', J0b⟩, ⟨by rw [i5 _ _ (by omega)]; exact pv1, J1b.bgx⟩, ?_, Eb, hbb, ?_⟩
            · rw [ey5]
              exact q_X6_change_b (d := d + 1) sP4 (e := 1) (by omega) D14 (by omega) z
            · rw [ey5]
              exact (((f4.si (Or.inr (Or.inl ⟨by omega, by omega⟩))).si (Or.inr (Or.inl ⟨by omega, by omega⟩))).si (Or.inr (Or.inl ⟨by omega, by omega⟩))).si (Or.inr (Or.inl ⟨by omega, by omega⟩))
            · rw [i5 _ _ (by omega)]; exact pbb
            · have := cntE_bg D14.1 z
              omega
        · have TC : C0 = T' := TC0 c2
          have sel : (0 : Int32) = if C1 < C0 then 1 else 0 := by rw [if_neg c2]
          by_cases z : e0 (n0 - 1) = 0
          · obtain ⟨T0, F, ne, v⟩ := B0.2.2.1 TC z
            obtain ⟨y5, ey5⟩ : ∃ y5, y5 = s_i (s_i y4 (q + 10 + 0) (n0 - 1) (nI (if yIn m.2.2.2 (m.2.1 1) n1 r0' b1 = T' then 2 else 1))) (q + 7 + 0) (n0 - 1) (nI T') := ⟨_, rfl⟩
            have i5 : ∀ p j, ¬ (q + 4 ≤ p ∧ p < q + 12) → a_i y5 p j = a_i y4 p j := fun p j c => by rw [ey5, ine (by omega), ine (by omega)]
            refine go y5 0 (fun Q => ?_) sel ⟨?_, T9, par y5 (fun p j c => i5 p j (by omega)), n0, n1, r0', r1', v0, v1, bb, b0, un e0 (n0 - 1) T', un k0 (n0 - 1) (if yIn m.2.2.2 (m.2.1 1) n1 r0' b1 = T' then 2 else 1), b1, e1, k1, (by rw [ey5]; exact D04.enx (by omega) mm.1 T0), (by rw [ey5]; exact (D14.si (by omega) (by omega) (by omega) (by omega)).si (by omega) (by omega) (by omega) (by omega)), Or.inr (Or.inl ⟨T0, une rfl, F.enx h1 L1 z ne T0 v.symm⟩), S1', ⟨by rw [i5 _ _ (by omega)]; exact q0, ra.1, fun j hj => by have := ra.2.1 j hj; rw [sinc_en T0]; omega⟩, ⟨by rw [i5 _ _ (by omega)]; exact q1, rb.1, fun j hj => by have := rb.2.1 j hj; rw [unn (fun w => this.1 (by rw [w]; exact z))]; exact this⟩, ⟨by rw [i5 _ _ (by omega)]; exact pw0', J0b.enx z⟩, ⟨by rw [i5 _ _ (by omega)]; exact pv1, J1b⟩, ?_, Eb, hbb, ?_⟩
            · rw [ey5]
              exact q_X6_change_e (d := d + 1) sP4 (e := 0) (o := 1) (by omega) rfl D04 D14 z hS g1 (by rw [i4 _ _ (by omega) (by omega), i2 _ _ (by omega)]; exact pS) (by rw [i4 _ _ (by omega) (by omega), i2 _ _ (by omega)]; exact pl1) q0 ra.1 mm.1
            · rw [ey5]
              exact (f4.si (Or.inr (Or.inl ⟨by omega, by omega⟩))).si (Or.inr (Or.inl ⟨by omega, by omega⟩))
            · rw [i5 _ _ (by omega)]; exact pbb
            · have := cntE_en (T := T') D04.1 z T0
              omega
          · obtain ⟨T0, bA, s, F, hs⟩ := B0.2.2.2 TC z
            obtain ⟨y5, ey5⟩ : ∃ y5, y5 = s_i (s_i (s_i (s_i y4 (q + 4 + 0) n0 (nI T')) (q + 7 + 0) n0 (-1)) (q + 10 + 0) n0 0) (q + 12) 0 (nI (n0 + 1)) := ⟨_, rfl⟩
            have i5 : ∀ p j, ¬ (q + 4 ≤ p ∧ p < q + 13) → a_i y5 p j = a_i y4 p j := fun p j c => by rw [ey5, ine (by omega), ine (by omega), ine (by omega), ine (by omega)]
            refine go y5 0 (fun Q => ?_) sel ⟨?_, T9, par y5 i5, n0 + 1, n1, r0', r1', v0, v1, bb, un b0 n0 T', un e0 n0 0, un k0 n0 0, b1, e1, k1, (by rw [ey5]; exact D04.bgx (by omega) (by omega) mm.1), (by rw [ey5]; exact (((D14.si (by omega) (by omega) (by omega) (by omega)).si (by omega) (by omega) (by omega) (by omega)).si (by omega) (by omega) (by omega) (by omega)).si (by omega) (by omega) (by omega) (by omega)), Or.inr (Or.inr ⟨by rw [Nat.add_sub_cancel, une rfl], by rw [Nat.add_sub_cancel, une rfl], F.bgx h1 z hs T0 bA⟩), S1', ⟨by rw [i5 _ _ (by omega)]; exact q0, ra.1, fun j hj => by have := ra.2.1 j hj; rw [sinc_bg]; omega⟩, ⟨by rw [i5 _ _ (by omega)]; exact q1, by have := rb.1; omega, fun j hj => by have := rb.2.1 j hj; have := rb.1; rw [unn (by omega)]; exact rb.2.1 j hj⟩, ⟨by rw [i5 _ _ (by omega)]; exact pw0', J0b.bgx⟩, ⟨by rw [i5 _ _ (by omega)]; exact pv1, J1b⟩, ?_, Eb, hbb, ?_⟩
            · rw [ey5]
              exact q_X6_change_b (d := d + 1) sP4 (e := 0) (by omega) D04 (by omega) z
            · rw [ey5]
              exact (((f4.si (Or.inr (Or.inl ⟨by omega, by omega⟩))).si (Or.inr (Or.inl ⟨by omega, by omega⟩))).si (Or.inr (Or.inl ⟨by omega, by omega⟩))).si (Or.inr (Or.inl ⟨by omega, by omega⟩))
            · rw [i5 _ _ (by omega)]; exact pbb
            · have := cntE_bg D04.1 z
              omega
    · rw [hst] at t1 t2
      obtain ⟨nb, q0, q1⟩ := t2 rfl
      refine ⟨yy, b, fun Q => ?_, f, ans_set h0 h1 L1 S0 S1 J0 J1 E nb q0 q1⟩
      simp [w_iload_n3 (M := mX6_comesAt) dX6_comesAt_61, w_sipush (M := mX6_comesAt) (v := 4000) dX6_comesAt_62 rfl, w_ic_ge (M := mX6_comesAt) (tgt := 155) dX6_comesAt_65 (by decide), w_aload_n0 (M := mX6_comesAt) dX6_comesAt_68, c_6_62 (M := mX6_comesAt) dX6_comesAt_69 rfl, w_if_ne (M := mX6_comesAt) (tgt := 155) dX6_comesAt_72 (by decide), w_aload_n0 (M := mX6_comesAt) dX6_comesAt_155, w_getI (M := mX6_comesAt) dX6_comesAt_156 f_6_55 rfl (by decide) (by decide), w_iret (M := mX6_comesAt) dX6_comesAt_159 rfl, Kn_v_, Kn_n_, kl_i_, kl_a_, kl_l_, kl_n_, s1_0_, s2_0_, s1_1, s1_2, s1_3, s1_4, s1_5, s1_6, s1_7, s1_8, s1_9, s1_10, s1_11, s1_12, s1_13, s1_14, s2_1, s2_2, s2_3, s2_4, s2_5, s2_6, s2_7, s2_8, s2_9, s2_10, s2_11, s2_12, s2_13, s2_14, List.map_nil, List.map_cons, List.sum_nil, List.sum_cons, ct_i_, ct_r_, ct_l_, t_si_, t_sl_, t_sr_, n_si_, n_sl_, n_sr_, i_si_, i_sl_, i_sr_, l_si_, l_sl_, l_sr_, r_si_, r_sl_, r_sr_, vr_s_, vr_n_, nz_0_, nz_1_, sPz, gi, t1, bI_t, pb]
end COMES
