/-! a choice -/
section CHOICE
variable {t : Nat → Nat} {T : List (Nat × Nat × Nat)} {n q w c0 g0 d j p m ω o dc e c k e1 p1 p3 B : Nat} {l : List Bool} {h hc hr : am_h} {x : Nat × Nat × Nat} {v : Int32}
/-- a word of code is changed -/
theorem okC.ld (K : okC q T c j h) : okC q T c j (s_i h (q + 7) k v) := by
  obtain ⟨Z, z2, z3, z4, z5, z6, x', ex, y1, y2, y3⟩ := K
  obtain ⟨-, l2, l3, -⟩ := id Z
  exact ⟨Z.sm sm.rf, ⟨by rw [ine (by omega)]; exact z2.1, z2.2.1, fun i x e => by rw [ine (by omega), ine (by omega), ine (by omega)]; exact z2.2.2 i x e⟩, by rw [ine (by omega)]; exact z3, by rw [ine (by omega)]; exact z4, by rw [ine (by omega)]; exact z5, z6, x', ex, by rw [ine (by omega)]; exact y1, by rw [ine (by omega)]; exact y2, by rw [ine (by omega)]; exact y3⟩
theorem cF.ld (lk : c ≤ k) : cF q c h (s_i h (q + 7) k v) := ⟨sm.rf, rfl, fun p i n1 n2 n3 => ine (by omega)⟩
theorem cF.lo {h' : am_h} {c' : Nat} (a : cF q c h h') (l : c' ≤ c) : cF q c' h h' := cF.rf.tr a l
theorem rF.lo {φ φ' ω' g g' : Nat} {h' : am_h} (a : rF φ' ω' g' h h') (l1 : φ ≤ φ') (l2 : ω ≤ ω') (l3 : g ≤ g') : rF φ ω g h h' := rF.rf.tr a l1 l2 l3
theorem ch_SW {h' : am_h} (SS : ∀ i, i < ω → ∃ z, z ≤ m ∧ a_i h 141 i = nI z) (F : ∀ i, i < ω → a_i h' 141 i = a_i h 141 i) : stp k (m + 1) ω h' := fun a ea => by
  obtain ⟨z, z1, z2⟩ := SS a (by omega)
  exact Or.inl ⟨z, by omega, by rw [F a (by omega)]; exact z2⟩
theorem ch3_at (SM : SumP t n T q w c0 g0 d j) (lo : o + 1 ≤ 8) (lm : m + 1 ≤ 2 * (o + 1)) (lω : ω ≤ 4 * o + 2) (ld : 7 * (8 - (o + 1)) + 11 ≤ e + 11) (pr : pre t n T q w c0 g0 j (p3 + 1) (m + 1) ω (o + 1) hc hr) (SS : ∀ i, i < ω → ∃ z, z ≤ m ∧ a_i hr 141 i = nI z) (hs : a_i hr 126 28 = 1) (ht : a_i hr 138 m = 9) (h142 : a_i hr 142 (m + 1) = nI (g0 + p3)) (hcw : a_i hc (q + 7) (c0 + p3) = 0 * 32 + 2) : (∃ (j' : Nat) (ws : List (Nat × Nat)) (hc' hr' : am_h), (∀ Q, WP (e + 11) mX7_readChoice 50 [some (.ref 86), some (.int (nI (o + 1))), some (.int (nI e1)), some (.int (nI (c0 + p3)))] [] hc Q = Q none hc') ∧ okC q T (c0 + (p3 + 1) + ws.length) j' hc' ∧ cF q (c0 + p3) hc hc' ∧ a_i hc' (q + 7) (c0 + p3) = cwd c0 (2, p3 + 1 + ws.length) ∧ wdC hc' q c0 (p3 + 1) ws ∧ okP t n T w j' hr' ∧ okK (g0 + (p3 + 1) + ws.length) m ω o hr' ∧ rF m ω (g0 + p3) hr hr' ∧ a_i hr' 148 (g0 + p3) = a_i hr 148 (g0 + p3) ∧ a_i hr' 149 (g0 + p3) = rwd g0 (2, p3 + 1 + ws.length) ∧ wdR hr' g0 (p3 + 1) ws ∧ j + ws.length + 1 ≤ j' ∧ Seg w (l.length + 3 + 5 * (8 - (o + 1))) (p3 + 1) l ws (false :: l) ∧ ∀ h'', (∀ Q, Cal (d + 8) mX12_oneIsOver [.ref 126] hr' Q = Q none h'') → ∀ Q, LPH d hr Q = LPH d h'' Q) ∨ ∃ (f s : Int32) (hc' hr' : am_h), (∀ Q, WP (e + 11) mX7_readChoice 50 [some (.ref 86), some (.int (nI (o + 1))), some (.int (nI e1)), some (.int (nI (c0 + p3)))] [] hc Q = Q none hc') ∧ flS q f s hc hc' ∧ (∀ Q, LPH d hr Q = LPH d hr' Q) ∧ flR f s hr hr' := by
  obtain ⟨b1, b2, b3, b4⟩ := pr.K
  obtain ⟨K, kw, P, KK, lg⟩ := id pr
  have Z := K.1
  rcases SM (o + 1) m ω (p3 + 1) (e + 10) l hc hr lo (by omega) (by omega) (by omega) pr hs (by rw [ht]; decide) (ch_SW SS (fun _ _ => rfl)) with ⟨j1, ws, hc1, hq1, hq2, x1, s1, s2, s3, s4, s5, s6, s7, s8⟩ | ⟨f, s, hc1, hr1, s1, s2, s3, s4⟩
  · obtain ⟨C1, cf1, wc1, P1, K1, rf1, wr1, lj1, lj1'⟩ := id s2
    have sx1 := (P1.tk s7).2.small
    have ln1 := C1.len
    have S1 : ∀ i, i < ω → a_i hq2 141 i = a_i hr 141 i := fun i hi => rf1.2.2 _ _ (by omega) (by omega) (by omega) (by omega) (by omega) (by omega)
    have ht1 : a_i hq2 138 m = 9 := (rf1.2.2 _ _ (by omega) (by omega) (by omega) (by omega) (by omega) (by omega)).trans ht
    have h142' : a_i hq2 142 (m + 1) = nI (g0 + p3) := (rf1.2.2 _ _ (by omega) (by omega) (by omega) (by omega) (by omega) (by omega)).trans h142
    by_cases g : isW x1 17
    · left
      have x4 : x1.1 = 3 := g.1
      have l2 := P1.l s7 (by omega)
      obtain ⟨c1, c2, c3⟩ := cq_come (d := e + 9) C1 l2
      obtain ⟨hr2, t1, t2, t3, t4, t5, t6⟩ := go_end (d := d) s4 P1 s7 K1 (fun i hi => by rw [S1 i hi]; exact SS i hi) s6 (s4.W P1 K1 (ch_SW SS S1) (by omega) (by omega) (by omega)) (by omega) (by omega) (by omega) h142' (by omega) ht1 g
      have la := fun Q => q_X9_landHere (d := e + 10) (Q := Q) (k := c0 + p3) c2.1 c2.2.2.2.2.1 (by omega) (by omega)
      have lt : c0 + p3 < c0 + (p3 + 1) + ws.length := by omega
      have cw : a_i (cmA hc1 (j1 + 1)) (q + 7) (c0 + p3) = 0 * 32 + 2 := by
        rw [c3.2.2 _ _ (by have := Z.2.1; omega) (by omega) (by omega), cf1.2.2 _ _ (by have := Z.2.1; omega) (by omega) (by omega)]
        exact hcw
      rw [if_pos lt, cw] at la
      have lt2 : ∀ Q, Cal (e + 10) mX9_landHere [.ref q, .int (nI (c0 + p3))] (cmA hc1 (j1 + 1)) Q = Q none (s_i (cmA hc1 (j1 + 1)) (q + 7) (c0 + p3) (nI (c0 + (p3 + 1) + ws.length) * 32 + (0 * 32 + 2 - (0 * 32 + 2) / 32 * 32))) := la
      refine ⟨j1 + 1, ws, _, hr2, fun Q => cm_ch3 Z C1.1 c2.1 s1 (cx1 (d := e + 9) C1 s7 sx1 l2 (y := 17) (by omega) rfl g) lt2, c2.ld, (cf1.lo (by omega)).tr ((c3.lo (by omega)).tr (cF.ld (Nat.le_refl _)) (Nat.le_refl _)) (Nat.le_refl _), ?_, fun i y ey => ?_, t1, t2, (rF.lo rf1 (Nat.le_succ _) (Nat.le_refl _) (by omega)).tr t3 (Nat.le_refl _) (Nat.le_refl _) (Nat.le_refl _), ?_, ?_, fun i y ey => ?_, by omega, s3, fun h'' c Q => by rw [s5]; exact t6 h'' c Q⟩
      · rw [ieq rfl rfl]
        unfold cwd
        rw [if_pos (Or.inl rfl)]
        show nI (c0 + (p3 + 1) + ws.length) * nI 32 + nI 2 = nI ((c0 + (p3 + 1 + ws.length)) * 32 + 2)
        rw [nI_m, nI_a]
        exact congrArg nI (by omega)
      · have li := ix_lt ey
        rw [ine (by omega), c3.2.2 _ _ (by have := Z.2.1; omega) (by omega) (by omega)]
        exact wc1 i y ey
      · rw [t5 _ _ (Or.inl rfl) (by omega), rf1.2.2 _ _ (by omega) (by omega) (by omega) (by omega) (by omega) (by omega)]
      · rw [t4]
        unfold rwd
        rw [if_pos (Or.inl rfl)]
        exact congrArg nI (by omega)
      · have li := ix_lt ey
        rw [t5 _ _ (Or.inl rfl) (by omega), t5 _ _ (Or.inr rfl) (by omega)]
        exact wr1 i y ey
    · right
      have F := C1.en s7 (f := 1) (by decide) (by omega)
      obtain ⟨hc3, r1, F3⟩ := fl_land (d := e + 10) F C1.1 (k := c0 + p3) (by omega)
      obtain ⟨hr3, t1, t2⟩ := go_err (d := d) s4 P1 s7 K1.2.1 s6 (by omega) s8 (Or.inr (Or.inr (Or.inl ⟨ht1, g⟩)))
      exact ⟨1, nI x1.2.2, hc3, hr3, fun Q => cm_ch3 Z C1.1 (F.C C1.1) s1 (cx0 (d := e + 9) C1 s7 sx1 (y := 17) (by omega) rfl g) r1, flS.re cf1 F3, fun Q => by rw [s5]; exact t2 Q, flR.re rf1 (t1.ve s4)⟩
  · right
    obtain ⟨h2, r1, F2⟩ := fl_land (d := e + 10) s2 Z (k := c0 + p3) (by omega)
    exact ⟨f, s, h2, hr1, fun Q => cm_ch3 Z (s2.C Z) (s2.C Z) s1 (fun Q => fl_eW (d := e + 9) s2 Z) r1, F2, s3, s4⟩
theorem ch2_at (SM : SumP t n T q w c0 g0 d j) (lo : o + 1 ≤ 8) (lm : m + 1 ≤ 2 * (o + 1)) (lω : ω ≤ 4 * o + 2) (ld : 7 * (8 - (o + 1)) + 11 ≤ e + 11) (pr : pre t n T q w c0 g0 j (p1 + 1) (m + 1) ω (o + 1) hc hr) (SS : ∀ i, i < ω → ∃ z, z ≤ m ∧ a_i hr 141 i = nI z) (hs : a_i hr 126 28 = 1) (ht : a_i hr 138 m = 8) (h142 : a_i hr 142 (m + 1) = nI (g0 + p1)) (hcw : a_i hc (q + 7) (c0 + p1) = 0 * 32 + 3) (hrw : a_i hr 148 (g0 + p1) = 403) : (∃ (j' : Nat) (ws : List (Nat × Nat)) (hc' hr' : am_h), (∀ Q, WP (e + 11) mX7_readChoice 21 [some (.ref 86), some (.int (nI (o + 1))), some (.int (nI (c0 + p1))), none] [] hc Q = WP (e + 11) mX7_readChoice 50 [some (.ref 86), some (.int (nI (o + 1))), some (.int (nI (c0 + p1))), some (.int (nI (c0 + (p1 + 1 + ws.length))))] [] hc' Q) ∧ pre t n T q w c0 g0 j' (p1 + 1 + ws.length + 1) (m + 1) ω (o + 1) hc' hr' ∧ cF q (c0 + p1) hc hc' ∧ a_i hc' (q + 7) (c0 + p1) = cwd c0 (3, p1 + 1 + ws.length + 1) ∧ wdC hc' q c0 (p1 + 1) ws ∧ a_i hc' (q + 7) (c0 + (p1 + 1 + ws.length)) = 0 * 32 + 2 ∧ rF m ω (g0 + p1) hr hr' ∧ a_i hr' 148 (g0 + p1) = 403 ∧ a_i hr' 149 (g0 + p1) = rwd g0 (3, p1 + 1 + ws.length + 1) ∧ wdR hr' g0 (p1 + 1) ws ∧ a_i hr' 148 (g0 + (p1 + 1 + ws.length)) = 404 ∧ a_i hr' 142 (m + 1) = nI (g0 + (p1 + 1 + ws.length)) ∧ a_i hr' 138 m = 9 ∧ a_i hr' 126 28 = 1 ∧ j + ws.length + 1 ≤ j' ∧ Seg w (l.length + 3 + 5 * (8 - (o + 1))) (p1 + 1) l ws (false :: l) ∧ ∀ Q, LPH d hr Q = LPH d hr' Q) ∨ ∃ (f s : Int32) (hc' hr' : am_h), (∀ Q, WP (e + 11) mX7_readChoice 21 [some (.ref 86), some (.int (nI (o + 1))), some (.int (nI (c0 + p1))), none] [] hc Q = Q none hc') ∧ flS q f s hc hc' ∧ (∀ Q, LPH d hr Q = LPH d hr' Q) ∧ flR f s hr hr' := by
  obtain ⟨b1, b2, b3, b4⟩ := pr.K
  obtain ⟨K, kw, P, KK, lg⟩ := id pr
  have Z := K.1
  have l94 := Z.2.1
  rcases SM (o + 1) m ω (p1 + 1) (e + 10) l hc hr lo (by omega) (by omega) (by omega) pr hs (by rw [ht]; decide) (ch_SW SS (fun _ _ => rfl)) with ⟨j1, ws, hc1, hq1, hq2, x1, s1, s2, s3, s4, s5, s6, s7, s8⟩ | ⟨f, s, hc1, hr1, s1, s2, s3, s4⟩
  · have pr1 := pr.nxt s2
    obtain ⟨-, cf1, wc1, -, -, rf1, wr1, lj1, lj1'⟩ := id s2
    obtain ⟨C1, kw1, P1, K1, lg1⟩ := id pr1
    have sx1 := (P1.tk s7).2.small
    have ln1 := C1.len
    have S1 : ∀ i, i < ω → a_i hq2 141 i = a_i hr 141 i := fun i hi => rf1.2.2 _ _ (by omega) (by omega) (by omega) (by omega) (by omega) (by omega)
    have ht1 : a_i hq2 138 m = 8 := (rf1.2.2 _ _ (by omega) (by omega) (by omega) (by omega) (by omega) (by omega)).trans ht
    have h142' : a_i hq2 142 (m + 1) = nI (g0 + p1) := (rf1.2.2 _ _ (by omega) (by omega) (by omega) (by omega) (by omega) (by omega)).trans h142
    have hrw' : a_i hq2 148 (g0 + p1) = 403 := (rf1.2.2 _ _ (by omega) (by omega) (by omega) (by omega) (by omega) (by omega)).trans hrw
    by_cases g : isW x1 16
    · left
      have x4 : x1.1 = 3 := g.1
      have l2 := P1.l s7 (by omega)
      obtain ⟨c1, c2, c3⟩ := cq_come (d := e + 9) C1 l2
      obtain ⟨e1, e2, e3, e4⟩ := cq_em (d := e + 10) (a1 := 2) (a2 := 0) (v := 0 * 32 + 2) c2 (by omega)
      obtain ⟨hr2, t1, t2, t3, t4, t5, t6, t7, t8, t9, t10⟩ := go_else (d := d) s4 P1 s7 K1 s6 (s4.W P1 K1 (ch_SW SS S1) (by omega) (by omega) (by omega)) (by omega) (by omega) h142' (by omega) ht1 g
      have la := fun Q => q_X9_landHere (d := e + 10) (Q := Q) (k := c0 + p1) e2.1 e2.2.2.2.2.1 (by omega) (by omega)
      have lt : c0 + p1 < c0 + (p1 + 1 + ws.length) + 1 := by omega
      have cw : a_i (emA (cmA hc1 (j1 + 1)) q (c0 + (p1 + 1 + ws.length)) (0 * 32 + 2)) (q + 7) (c0 + p1) = 0 * 32 + 3 := by
        rw [e3.2.2 _ _ (by omega) (by omega) (by omega), c3.2.2 _ _ (by omega) (by omega) (by omega), cf1.2.2 _ _ (by omega) (by omega) (by omega)]
        exact hcw
      rw [if_pos lt, cw] at la
      have prx : pre t n T q w c0 g0 (j1 + 1) (p1 + 1 + ws.length + 1) (m + 1) ω (o + 1) (s_i (emA (cmA hc1 (j1 + 1)) q (c0 + (p1 + 1 + ws.length)) (0 * 32 + 2)) (q + 7) (c0 + p1) (nI (c0 + (p1 + 1 + ws.length) + 1) * 32 + (0 * 32 + 3 - (0 * 32 + 3) / 32 * 32))) hr2 := by
        refine ⟨by rw [← Nat.add_assoc]; exact e2.ld, ?_, t1, by rw [← Nat.add_assoc]; exact t2, by omega⟩
        rw [ine (by omega), e3.2.2 _ _ (by omega) (by omega) (by omega), c3.2.2 _ _ (by omega) (by omega) (by omega)]
        exact kw1
      refine ⟨j1 + 1, ws, _, hr2, fun Q => cm_ch2 Z C1.1 c2.1 e2.1 s1 (cx1 (d := e + 9) C1 s7 sx1 l2 (y := 16) (by omega) rfl g) e1 la, prx, (cf1.lo (by omega)).tr ((c3.lo (by omega)).tr ((e3.lo (by omega)).tr (cF.ld (Nat.le_refl _)) (Nat.le_refl _)) (Nat.le_refl _)) (Nat.le_refl _), ?_, fun i y ey => ?_, ?_, (rF.lo rf1 (Nat.le_succ _) (Nat.le_refl _) (by omega)).tr t3 (Nat.le_refl _) (Nat.le_refl _) (Nat.le_refl _), ?_, ?_, fun i y ey => ?_, t6, t4, t5, t7, by omega, s3, fun Q => by rw [s5]; exact t10 Q⟩
      · rw [ieq rfl rfl]
        unfold cwd
        rw [if_pos (Or.inr rfl)]
        show nI (c0 + (p1 + 1 + ws.length) + 1) * nI 32 + nI 3 = nI ((c0 + (p1 + 1 + ws.length + 1)) * 32 + 3)
        rw [nI_m, nI_a]
        exact congrArg nI (by omega)
      · have li := ix_lt ey
        rw [ine (by omega), e3.2.2 _ _ (by omega) (by omega) (by omega), c3.2.2 _ _ (by omega) (by omega) (by omega)]
        exact wc1 i y ey
      · rw [ine (by omega)]; exact e4
      · rw [t9 _ _ (Or.inl rfl) (by omega) (by omega)]; exact hrw'
      · rw [t8]
        unfold rwd
        rw [if_pos (Or.inr rfl)]
        exact congrArg nI (by omega)
      · have li := ix_lt ey
        rw [t9 _ _ (Or.inl rfl) (by omega) (by omega), t9 _ _ (Or.inr rfl) (by omega) (by omega)]
        exact wr1 i y ey
    · right
      have F := C1.en s7 (f := 1) (by decide) (by omega)
      obtain ⟨h6, k6, lk6, r1, F6⟩ := fl_emit (d := e + 10) (a := 2) (b := 0) F C1.1
      obtain ⟨h7, r2, F7⟩ := fl_land (d := e + 10) F6 C1.1 (k := c0 + p1) (by omega)
      obtain ⟨h8, r3, F8⟩ := fl_ch3 (d := e + 6) (a := nI (o + 1)) (e1 := c0 + p1) F7 C1.1 lk6
      obtain ⟨hr3, t1, t2⟩ := go_err (d := d) s4 P1 s7 K1.2.1 s6 (by omega) s8 (Or.inr (Or.inl ⟨ht1, g⟩))
      refine ⟨1, nI x1.2.2, h8, hr3, fun Q => ?_, flS.re cf1 F8, fun Q => by rw [s5]; exact t2 Q, flR.re rf1 (t1.ve s4)⟩
      rw [cm_ch2 Z C1.1 (F.C C1.1) (F6.C C1.1) s1 (cx0 (d := e + 9) C1 s7 sx1 (y := 16) (by omega) rfl g) r1 r2]
      exact r3 Q
  · right
    obtain ⟨h6, k6, lk6, r1, F6⟩ := fl_emit (d := e + 10) (a := 2) (b := 0) s2 Z
    obtain ⟨h7, r2, F7⟩ := fl_land (d := e + 10) F6 Z (k := c0 + p1) (by omega)
    obtain ⟨h8, r3, F8⟩ := fl_ch3 (d := e + 6) (a := nI (o + 1)) (e1 := c0 + p1) F7 Z lk6
    refine ⟨f, s, h8, hr1, fun Q => ?_, F8, s3, s4⟩
    rw [cm_ch2 Z (s2.C Z) (s2.C Z) (F6.C Z) s1 (fun Q => fl_eW (d := e + 9) s2 Z) r1 r2]
    exact r3 Q
set_option maxHeartbeats 1000000 in
theorem cho_at (EI : EitherP t n T q w c0 g0 d j) (SM : ∀ j', j < j' → SumP t n T q w c0 g0 d j') : ChoP t n T q w c0 g0 d j := by
  intro o m ω p dc l hc hr lo lm1 lm lω ld pr SS hs ht
  obtain ⟨e, rfl⟩ : ∃ e, dc = e + 11 := ⟨dc - 11, by omega⟩
  obtain ⟨b1, b2, b3, b4⟩ := pr.K
  obtain ⟨K, kw, P, KK, lg⟩ := id pr
  have Z := K.1
  have l94 := Z.2.1
  rcases EI (o + 1) m ω p (e + 10) l hc hr lo lm (by omega) (by omega) pr hs ht (ch_SW SS (fun _ _ => rfl)) with ⟨j1, ws1, hc1, hq1, hq2, x1, s1, s2, s3, s4, s5, s6, s7, s8⟩ | ⟨f, s, hc1, hr1, s1, s2, s3, s4⟩
  · have pr1 := pr.nxt s2
    obtain ⟨-, cf1, wc1, -, -, rf1, wr1, lj1, lj1'⟩ := id s2
    obtain ⟨C1, kw1, P1, K1, lg1⟩ := id pr1
    have sx1 := (P1.tk s7).2.small
    have ln1 := C1.len
    have S1 : ∀ i, i < ω → a_i hq2 141 i = a_i hr 141 i := fun i hi => rf1.2.2 _ _ (by omega) (by omega) (by omega) (by omega) (by omega) (by omega)
    have ht1 : a_i hq2 138 m = 2 := (rf1.2.2 _ _ (by omega) (by omega) (by omega) (by omega) (by omega) (by omega)).trans ht
    by_cases g : isW x1 15
    · have x4 : x1.1 = 3 := g.1
      have l2 := P1.l s7 (by omega)
      obtain ⟨c1, c2, c3⟩ := cq_come (d := e + 9) C1 l2
      obtain ⟨e1, e2, e3, e4⟩ := cq_em (d := e + 10) (a1 := 3) (a2 := 0) (v := 0 * 32 + 3) c2 (by omega)
      obtain ⟨hr2, t1, t2, t3, t4, t5, t6, t7, t8⟩ := as_then (d := d) s4 P1 s7 K1 s6 (s4.W P1 K1 (ch_SW SS S1) (by omega) (by omega) (by omega)) (by omega) (by omega) ht1 g
      obtain ⟨hc3, ehc3⟩ : ∃ hc3, hc3 = emA (cmA hc1 (j1 + 1)) q (c0 + (p + ws1.length)) (0 * 32 + 3) := ⟨_, rfl⟩
      have e1' : ∀ Q, Cal (e + 10) mX9_emit [.ref q, .int 3, .int 0] (cmA hc1 (j1 + 1)) Q = Q (some (.int (nI (c0 + (p + ws1.length))))) hc3 := by rw [ehc3]; exact e1
      rw [← ehc3] at e2 e3 e4
      have pr2 : pre t n T q w c0 g0 (j1 + 1) (p + ws1.length + 1) (m + 1) ω (o + 1) hc3 hr2 := by
        refine ⟨by rw [← Nat.add_assoc]; exact e2, ?_, t1, by rw [← Nat.add_assoc]; exact t2, by omega⟩
        rw [e3.2.2 _ _ (by omega) (by omega) (by omega), c3.2.2 _ _ (by omega) (by omega) (by omega)]
        exact kw1
      have run1 : ∀ Q, Cal (e + 11) mX7_readChoice [.ref 86, .int (nI (o + 1))] hc Q = WP (e + 11) mX7_readChoice 21 [some (.ref 86), some (.int (nI (o + 1))), some (.int (nI (c0 + (p + ws1.length)))), none] [] hc3 Q := fun Q => cm_ch1 Z C1.1 c2.1 s1 (cx1 (d := e + 9) C1 s7 sx1 l2 (y := 15) (by omega) rfl g) e1'
      have S2 : ∀ i, i < ω → ∃ z, z ≤ m ∧ a_i hr2 141 i = nI z := fun i hi => by
        obtain ⟨z, z1, z2⟩ := SS i hi
        exact ⟨z, z1, by rw [t3.2.2 _ _ (by omega) (by omega) (by omega) (by omega) (by omega) (by omega), S1 i hi]; exact z2⟩
      have cf3 : cF q (c0 + p) hc hc3 := cf1.tr ((c3.lo (Nat.le_refl _)).tr e3 (Nat.le_refl _)) (by omega)
      have rf3 : rF m ω (g0 + p) hr hr2 := (rF.lo rf1 (Nat.le_succ _) (Nat.le_refl _) (Nat.le_refl _)).tr t3 (Nat.le_refl _) (Nat.le_refl _) (by omega)
      rcases ch2_at (l := l) (e := e) (SM (j1 + 1) (by omega)) lo lm lω ld pr2 S2 t7 t5 t4 e4 t6 with ⟨j2, ws2, hc5, hr5, u1, u2, u3, u4, u5, u6, u7, u8, u9, u10, u11, u12, u13, u14, u15, u16, u17⟩ | ⟨f, s, hc5, hr5, u1, u2, u3, u4⟩
      · have S5 : ∀ i, i < ω → ∃ z, z ≤ m ∧ a_i hr5 141 i = nI z := fun i hi => by
          obtain ⟨z, z1, z2⟩ := S2 i hi
          exact ⟨z, z1, by rw [u7.2.2 _ _ (by omega) (by omega) (by omega) (by omega) (by omega) (by omega)]; exact z2⟩
        rcases ch3_at (l := l) (e := e) (e1 := c0 + (p + ws1.length)) (SM j2 (by omega)) lo lm lω ld u2 S5 u14 u13 u12 u6 with ⟨j3, ws3, hc7, hr7, v1, v2, v3, v4, v5, v6, v7, v8, v9, v10, v11, v12, v13, v14⟩ | ⟨f, s, hc7, hr7, v1, v2, v3, v4⟩
        · left
          have ll := chW_l (p := p) (ws1 := ws1) (ws2 := ws2) (ws3 := ws3)
          have lc := v2.2.2.2.2.2.1
          have lv := v2.len
          refine ⟨j3, chW p ws1 ws2 ws3, hc7, hr7, fun Q => by rw [run1, u1, v1], ⟨?_, cf3.tr (u3.tr v3 (by omega)) (by omega), fun i y ey => ?_, v6, ?_, rf3.tr (u7.tr v8 (Nat.le_refl _) (Nat.le_refl _) (by omega)) (Nat.le_refl _) (Nat.le_refl _) (by omega), fun i y ey => ?_, by omega, by omega⟩, Seg.choice (s3.lo (by omega)) (u16.lo (by omega)) (v13.lo (by omega)) (by omega), fun h'' c Q => ?_⟩
          · rw [ll, show c0 + p + (ws1.length + 1 + ws2.length + 1 + ws3.length) = c0 + (p + ws1.length + 1 + ws2.length + 1) + ws3.length by omega]
            exact v2
          · rcases chW_i ey with ⟨y1, y2⟩ | ⟨y1, y2⟩ | ⟨k, y1, y2, y3⟩ | ⟨y1, y2⟩ | ⟨k, y1, y2, y3⟩
            · rw [v3.2.2 _ _ (by omega) (by omega) (by omega), u3.2.2 _ _ (by omega) (by omega) (by omega), e3.2.2 _ _ (by omega) (by omega) (by omega), c3.2.2 _ _ (by omega) (by omega) (by omega)]
              exact wc1 i y y2
            · subst y1 y2
              rw [v3.2.2 _ _ (by omega) (by omega) (by omega), show c0 + p + ws1.length = c0 + (p + ws1.length) by omega]
              exact u4
            · subst y1
              rw [v3.2.2 _ _ (by omega) (by omega) (by omega), show c0 + p + (ws1.length + 1 + k) = c0 + (p + ws1.length + 1) + k by omega]
              exact u5 k y y3
            · subst y1 y2
              rw [show c0 + p + (ws1.length + 1 + ws2.length) = c0 + (p + ws1.length + 1 + ws2.length) by omega]
              exact v4
            · subst y1
              rw [show c0 + p + (ws1.length + 1 + ws2.length + 1 + k) = c0 + (p + ws1.length + 1 + ws2.length + 1) + k by omega]
              exact v5 k y y3
          · rw [ll, show g0 + p + (ws1.length + 1 + ws2.length + 1 + ws3.length) = g0 + (p + ws1.length + 1 + ws2.length + 1) + ws3.length by omega]
            exact v7
          · rcases chW_i ey with ⟨y1, y2⟩ | ⟨y1, y2⟩ | ⟨k, y1, y2, y3⟩ | ⟨y1, y2⟩ | ⟨k, y1, y2, y3⟩
            · have fr : ∀ pp, (pp = 148 ∨ pp = 149) → a_i hr7 pp (g0 + p + i) = a_i hq2 pp (g0 + p + i) := fun pp hp => by
                rw [v8.2.2 _ _ (by omega) (by omega) (by omega) (by omega) (by omega) (by omega), u7.2.2 _ _ (by omega) (by omega) (by omega) (by omega) (by omega) (by omega), t3.2.2 _ _ (by omega) (by omega) (by omega) (by omega) (by omega) (by omega)]
              rw [fr _ (Or.inl rfl), fr _ (Or.inr rfl)]
              exact wr1 i y y2
            · subst y1 y2
              rw [v8.2.2 _ _ (by omega) (by omega) (by omega) (by omega) (by omega) (by omega), v8.2.2 _ _ (by omega) (by omega) (by omega) (by omega) (by omega) (by omega), show g0 + p + ws1.length = g0 + (p + ws1.length) by omega]
              exact ⟨u8, u9⟩
            · subst y1
              rw [v8.2.2 _ _ (by omega) (by omega) (by omega) (by omega) (by omega) (by omega), v8.2.2 _ _ (by omega) (by omega) (by omega) (by omega) (by omega) (by omega), show g0 + p + (ws1.length + 1 + k) = g0 + (p + ws1.length + 1) + k by omega]
              exact u10 k y y3
            · subst y1 y2
              rw [show g0 + p + (ws1.length + 1 + ws2.length) = g0 + (p + ws1.length + 1 + ws2.length) by omega]
              exact ⟨v9.trans u11, v10⟩
            · subst y1
              rw [show g0 + p + (ws1.length + 1 + ws2.length + 1 + k) = g0 + (p + ws1.length + 1 + ws2.length + 1) + k by omega]
              exact v11 k y y3
          · rw [s5, t8, u17]
            exact v14 h'' c Q
        · right
          exact ⟨f, s, hc7, hr7, fun Q => by rw [run1, u1, v1], flS.re (cf3.tr u3 (by omega)) v2, fun Q => by rw [s5, t8, u17]; exact v3 Q, flR.re (rf3.tr u7 (Nat.le_refl _) (Nat.le_refl _) (by omega)) v4⟩
      · right
        exact ⟨f, s, hc5, hr5, fun Q => by rw [run1, u1], flS.re cf3 u2, fun Q => by rw [s5, t8]; exact u3 Q, flR.re rf3 u4⟩
    · right
      have F := C1.en s7 (f := 1) (by decide) (by omega)
      obtain ⟨h3, k3, lk3, r1, F3⟩ := fl_emit (d := e + 10) (a := 3) (b := 0) F C1.1
      obtain ⟨h8, r3, F8⟩ := fl_ch2 (d := e + 6) (a := nI (o + 1)) F3 C1.1 lk3
      obtain ⟨hr3, t1, t2⟩ := as_err (d := d) s4 P1 s7 K1.2.1 s6 (by omega) s8.2 s8.1 g
      refine ⟨1, nI x1.2.2, h8, hr3, fun Q => ?_, flS.re cf1 F8, fun Q => by rw [s5]; exact t2 Q, flR.re rf1 (t1.ve s4)⟩
      rw [cm_ch1 Z C1.1 (F.C C1.1) s1 (cx0 (d := e + 9) C1 s7 sx1 (y := 15) (by omega) rfl g) r1]
      exact r3 Q
  · right
    obtain ⟨h3, k3, lk3, r1, F3⟩ := fl_emit (d := e + 10) (a := 3) (b := 0) s2 Z
    obtain ⟨h8, r3, F8⟩ := fl_ch2 (d := e + 6) (a := nI (o + 1)) F3 Z lk3
    refine ⟨f, s, h8, hr1, fun Q => ?_, F8, s3, s4⟩
    rw [cm_ch1 Z (s2.C Z) (s2.C Z) s1 (fun Q => fl_eW (d := e + 9) s2 Z) r1]
    exact r3 Q
/-! all of them, from the last token on -/
theorem all_at (lw : w < 5) : ∀ (k j : Nat), T.length - j ≤ k → OneP t n T q w c0 g0 d j ∧ ProdP t n T q w c0 g0 d j ∧ SumP t n T q w c0 g0 d j ∧ AskP t n T q w c0 g0 d j ∧ BothP t n T q w c0 g0 d j ∧ EitherP t n T q w c0 g0 d j ∧ ChoP t n T q w c0 g0 d j := by
  intro k
  induction k with
  | zero =>
    intro j lj
    have no : ∀ {p φ ω o hc hr}, ¬ pre t n T q w c0 g0 j p φ ω o hc hr := fun pr => by
      have := pr.K
      omega
    exact ⟨fun _ _ _ _ _ _ _ _ _ _ _ _ pr _ => absurd pr no, fun _ _ _ _ _ _ _ _ _ _ _ _ pr _ _ _ => absurd pr no, fun _ _ _ _ _ _ _ _ _ _ _ _ pr _ _ _ => absurd pr no, fun _ _ _ _ _ _ _ _ _ _ _ _ pr _ => absurd pr no, fun _ _ _ _ _ _ _ _ _ _ _ _ pr _ _ _ => absurd pr no, fun _ _ _ _ _ _ _ _ _ _ _ _ pr _ _ _ => absurd pr no, fun _ _ _ _ _ _ _ _ _ _ _ _ _ pr _ _ _ => absurd pr no⟩
  | succ k ih =>
    intro j lj
    have H : ∀ j', j < j' → OneP t n T q w c0 g0 d j' ∧ ProdP t n T q w c0 g0 d j' ∧ SumP t n T q w c0 g0 d j' ∧ AskP t n T q w c0 g0 d j' ∧ BothP t n T q w c0 g0 d j' ∧ EitherP t n T q w c0 g0 d j' ∧ ChoP t n T q w c0 g0 d j' := fun j' l => ih j' (by omega)
    obtain ⟨h1, h2, h3, h4, h5, h6, h7⟩ := H (j + 1) (by omega)
    have o1 : OneP t n T q w c0 g0 d j := one_at lw ⟨h1, h3, h7⟩
    have o2 : ProdP t n T q w c0 g0 d j := prod_at o1 (fun j' l => (H j' l).1)
    have o3 : SumP t n T q w c0 g0 d j := sum_at o2 (fun j' l => (H j' l).2.1)
    have o4 : AskP t n T q w c0 g0 d j := ask_at o3 (fun j' l => (H j' l).2.2.1) h4
    have o5 : BothP t n T q w c0 g0 d j := both_at o4 (fun j' l => (H j' l).2.2.2.1)
    have o6 : EitherP t n T q w c0 g0 d j := either_at o5 (fun j' l => (H j' l).2.2.2.2.1)
    exact ⟨o1, o2, o3, o4, o5, o6, cho_at o6 (fun j' l => (H j' l).2.2.1)⟩
end CHOICE
