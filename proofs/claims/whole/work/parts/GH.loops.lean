/-! chains of pieces: products, sums, both, either -/
section CHAINS
variable {t : Nat → Nat} {T : List (Nat × Nat × Nat)} {n q w c0 g0 d j j0 p m ω o dc e : Nat} {l : List Bool} {hc hr : am_h}
/-- the chain's loop -/
theorem prod_loop (IN : ∀ j', j < j' → OneP t n T q w c0 g0 d j') (lo : o ≤ 8) (lm : m ≤ 2 * o) (lω : ω ≤ 4 * o + 1) (ld : 7 * (8 - o) + 6 ≤ e + 6) (pr : pre t n T q w c0 g0 j p (m + 1) ω o hc hr) (ht : ¬ a_i hr 138 m = 7) (S : stp 4 (m + 1) ω hr) : ∀ (k j1 : Nat) (ws : List (Nat × Nat)) (hc1 hr1 hr2 : am_h) (i : Nat) (xv : Option Value), T.length - j1 ≤ k → pst t n T q w c0 g0 j p (m + 1) ω o j1 ws hc hc1 hr hr2 → Seg w (l.length + 2 + 5 * (8 - o)) p l ws (false :: l) → veq 4 hr1 hr2 → (∀ Q, LPH d hr Q = LPH d hr1 Q) → a_i hr2 126 28 = 2 → i < j1 → (∃ (j' : Nat) (ws' : List (Nat × Nat)) (hc' hs1 hs2 : am_h) (x : Nat × Nat × Nat), (∀ Q, WP (e + 6) mX7_readProduct 7 [some (.ref 86), some (.int (nI o)), some (.int (nI i)), xv] [] hc1 Q = Q none hc') ∧ pst t n T q w c0 g0 j p (m + 1) ω o j' ws' hc hc' hr hs2 ∧ Seg w (l.length + 2 + 5 * (8 - o)) p l ws' (false :: l) ∧ veq 4 hs1 hs2 ∧ (∀ Q, LPH d hr Q = LPH d hs1 Q) ∧ a_i hs2 126 28 = nI 2 ∧ T[j']? = some x ∧ (¬ isS x 42 ∧ ¬ isS x 47)) ∨ ∃ (f s : Int32) (hc' hr' : am_h), (∀ Q, WP (e + 6) mX7_readProduct 7 [some (.ref 86), some (.int (nI o)), some (.int (nI i)), xv] [] hc1 Q = Q none hc') ∧ flS q f s hc hc' ∧ (∀ Q, LPH d hr Q = LPH d hr' Q) ∧ flR f s hr hr' := by
  obtain ⟨b1, b2, b3, b4⟩ := pr.K
  have Zb := pr.1.1
  intro k
  induction k with
  | zero =>
    intro j1 ws hc1 hr1 hr2 i xv lk A G v lp s2 li
    have := A.1.len
    omega
  | succ k ih =>
    intro j1 ws hc1 hr1 hr2 i xv lk A G v lp s2 li
    have prn := pr.nxt A
    obtain ⟨A1, A2, A3, A4, A5, A6, A7, A8, A9⟩ := id A
    obtain ⟨A1, -, -, A5, -⟩ := id prn
    have ln := A1.len
    obtain ⟨x, hx⟩ : ∃ x, T[j1]? = some x := by
      obtain ⟨-, -, -, -, -, -, x, hx, -⟩ := A1
      exact ⟨x, hx⟩
    have sx := (A4.tk hx).2.small
    have S2 : stp 4 (m + 1) ω hr2 := S.fr A6
    by_cases go : isS x 42 ∨ isS x 47
    · have x4 : x.1 = 4 := by rcases go with z | z <;> exact z.1
      have l1 := A4.l hx (by omega)
      obtain ⟨c1, c2, c3⟩ := cq_come (d := e + 5) A1 l1
      have c1' : ∀ Q, Cal (e + 5) mX7_come [.ref 86] hc1 Q = Q none (cmA hc1 (j1 + 1)) := c1
      obtain ⟨y, op, ly, rk, ho, o1, y1, gg⟩ : ∃ y op : Nat, y < 1000 ∧ rkN y = 4 ∧ oOf op = nI y ∧ (6 ≤ op ∧ op < 10) ∧ (y = 43 ∨ y = 45 ∨ y = 42 ∨ y = 47) ∧ isS x y ∧ ((y = 42 ∧ op = 8) ∨ (y = 47 ∧ op = 9)) := by
        rcases go with z | z
        · exact ⟨42, 8, by omega, rfl, rfl, by omega, by omega, z, by omega⟩
        · exact ⟨47, 9, by omega, rfl, rfl, by omega, by omega, z, by omega⟩
      have W := v.W A4 A5 S2 (by omega) (by omega) (by omega)
      rw [← rk] at W
      obtain ⟨hr3, r1, r2, r3, r4, r5, r6, r7⟩ := go_op (d := d) v A4 hx A5 s2 W (by omega) (by omega) y1 gg.1
      have pr3 := prn.go c2 c3 r1 r2 (by omega)
      have fr3 : ∀ i, i < ω + 1 → i < ω → a_i hr3 141 i = a_i hr2 141 i := fun i _ hi => r3.2.2 _ _ (by omega) (by omega) (by omega) (by omega) (by omega) (by omega)
      rcases IN (j1 + 1) (by omega) o m (ω + 1) (p + ws.length) (e + 5) (false :: l) _ hr3 lo lm (by omega) (by omega) pr3 r6 with ⟨j3, ws3, hc3, hr4, t1, t2, t3, t4⟩ | ⟨f, s, hc3, hr4, t1, t2, t3, t4⟩
      · obtain ⟨B1, B2, B3, B4, B5, B6, B7, B8, B9⟩ := id t2
        have ln3 := B1.len
        have f5a : rF (m + 1) (ω + 1) (g0 + (p + ws.length)) hr3 hr4 := B6
        have tp : ¬ a_i hr4 138 m = 7 := by
          rw [B6.2.2 _ _ (by omega) (by omega) (by omega) (by omega) (by omega) (by omega), r3.2.2 _ _ (by omega) (by omega) (by omega) (by omega) (by omega) (by omega), A6.2.2 _ _ (by omega) (by omega) (by omega) (by omega) (by omega) (by omega)]
          exact ht
        have lp6 := t4 _ (fun Q => one_stop (d := d + 7) B4.R B5.2.1 (by omega) tp)
        obtain ⟨hr5, e5⟩ : ∃ hr5, hr5 = s_i hr4 126 28 2 := ⟨_, rfl⟩
        have T5 := t2.st (v := 2)
        rw [← e5] at T5 lp6
        have f5 := T5.2.2.2.2.2.1.2.2
        have s28 : a_i hr5 126 28 = 2 := by rw [e5]; exact ieq rfl rfl
        obtain ⟨hr6, e6⟩ : ∃ hr6, hr6 = hr5 := ⟨_, rfl⟩
        rw [← e6] at lp6
        have x140 : a_i hr5 140 ω = nI y := (f5 140 ω (by omega) (by omega) (by omega) (by omega) (by omega) (by omega)).trans r4
        have x141 : a_i hr5 141 ω = nI (m + 1) := (f5 141 ω (by omega) (by omega) (by omega) (by omega) (by omega) (by omega)).trans r5
        have bin := pst.bin (y := y) (op := op) T5 c3 r3 (by omega) ly ho (by omega)
        obtain ⟨em, -⟩ := cq_em (d := e + 5) (a1 := nI op) (a2 := 0) (v := 0) B1 (by omega)
        have A' := A.app bin
        have G' := G.app ((t3.lo (by show l.length + 1 + 1 + 5 * (8 - o) ≤ l.length + 2 + 5 * (8 - o); omega)).app (Seg.num o1 (by omega)))
        have v' := veq.pop (op := y) T5.2.2.2.1.R T5.2.2.2.2.1 ly x140 x141 (by omega) (by omega)
        rw [rk] at v'
        have e28 : a_i (popH hr5 ω (g0 + (p + ws.length) + ws3.length) y) 126 28 = 2 := (popH_i (by omega) (by omega)).trans s28
        have rcx := ih j3 (ws ++ (ws3 ++ [(op, 0)])) _ hr6 _ (i + 1) (some (.int (nI op))) (by omega) A' G' (by rw [e6]; exact v') (fun Q => (lp Q).trans ((r7 Q).trans (lp6 Q))) e28 (by omega)
        have st1 : ∀ Q, WP (e + 6) mX7_readProduct 7 [some (.ref 86), some (.int (nI o)), some (.int (nI i)), xv] [] hc1 Q = WP (e + 6) mX7_readProduct 7 [some (.ref 86), some (.int (nI o)), some (.int (nI (i + 1))), some (.int (nI op))] [] (emA hc3 q (c0 + (p + ws.length) + ws3.length) (0 * 32 + nI op)) Q := fun Q => by
          rcases gg.2 with ⟨u1, u2⟩ | ⟨u1, u2⟩ <;> subst u1 <;> subst u2
          · exact cm_readProduct_go (d := e + 5) A1.1 c2.1 B1.1 (by omega) xv (Or.inl ⟨cs1 (d := e + 5) (z := 42) A1 hx sx (y := 42) (by omega) rfl gg.1, rfl⟩) c1' t1 em
          · exact cm_readProduct_go (d := e + 5) A1.1 c2.1 B1.1 (by omega) xv (Or.inr ⟨cs0 (d := e + 5) (z := 42) A1 hx sx (y := 42) (by omega) rfl (by have := gg.1; unfold isS at this ⊢; omega), cs1 (d := e + 5) (z := 47) A1 hx sx (y := 47) (by omega) rfl gg.1, rfl⟩) c1' t1 em
        rcases rcx with ⟨j', ws', hc', hs1, hs2, x2, z1, z2⟩ | ⟨f, s, hc', hr', z1, z2⟩
        · exact Or.inl ⟨j', ws', hc', hs1, hs2, x2, fun Q => (st1 Q).trans (z1 Q), z2⟩
        · exact Or.inr ⟨f, s, hc', hr', fun Q => (st1 Q).trans (z1 Q), z2⟩
      · right
        have F := flS.re (A2.tr c3 (by omega)) t2
        obtain ⟨h4, kk, lkk, em, F4⟩ := fl_emit (d := e + 5) (a := nI op) (b := 0) F Zb
        refine ⟨f, s, h4, hr4, fun Q => ?_, F4, fun Q => (lp Q).trans ((r7 Q).trans (t3 Q)), flR.re (A6.tr r3 (Nat.le_refl _) (Nat.le_refl _) (by omega)) t4⟩
        have st1 : WP (e + 6) mX7_readProduct 7 [some (.ref 86), some (.int (nI o)), some (.int (nI i)), xv] [] hc1 Q = WP (e + 6) mX7_readProduct 7 [some (.ref 86), some (.int (nI o)), some (.int (nI (i + 1))), some (.int (nI op))] [] h4 Q := by
          rcases gg.2 with ⟨u1, u2⟩ | ⟨u1, u2⟩ <;> subst u1 <;> subst u2
          · exact cm_readProduct_go (d := e + 5) A1.1 c2.1 (F.C Zb) (by omega) xv (Or.inl ⟨cs1 (d := e + 5) (z := 42) A1 hx sx (y := 42) (by omega) rfl gg.1, rfl⟩) c1' t1 em
          · exact cm_readProduct_go (d := e + 5) A1.1 c2.1 (F.C Zb) (by omega) xv (Or.inr ⟨cs0 (d := e + 5) (z := 42) A1 hx sx (y := 42) (by omega) rfl (by have := gg.1; unfold isS at this ⊢; omega), cs1 (d := e + 5) (z := 47) A1 hx sx (y := 47) (by omega) rfl gg.1, rfl⟩) c1' t1 em
        rw [st1]
        exact fl_prod_ (d := e + 5) F4 Zb (by omega) _
    · left
      refine ⟨j1, ws, hc1, hr1, hr2, x, fun Q => ?_, A, G, v, lp, s2, hx, ⟨fun z => go (Or.inl z), fun z => go (Or.inr z)⟩⟩
      exact cm_readProduct_end (d := e + 5) A1.1 (by omega) xv (cs0 (d := e + 5) (z := 42) A1 hx sx (y := 42) (by omega) rfl (fun z => go (Or.inl z))) (cs0 (d := e + 5) (z := 47) A1 hx sx (y := 47) (by omega) rfl (fun z => go (Or.inr z)))
/-- the chain's loop -/
theorem sum_loop (IN : ∀ j', j < j' → ProdP t n T q w c0 g0 d j') (lo : o ≤ 8) (lm : m ≤ 2 * o) (lω : ω ≤ 4 * o) (ld : 7 * (8 - o) + 7 ≤ e + 7) (pr : pre t n T q w c0 g0 j p (m + 1) ω o hc hr) (ht : ¬ a_i hr 138 m = 7) (S : stp 3 (m + 1) ω hr) : ∀ (k j1 : Nat) (ws : List (Nat × Nat)) (hc1 hr1 hr2 : am_h) (i : Nat) (xv : Option Value), T.length - j1 ≤ k → pst t n T q w c0 g0 j p (m + 1) ω o j1 ws hc hc1 hr hr2 → Seg w (l.length + 3 + 5 * (8 - o)) p l ws (false :: l) → veq 3 hr1 hr2 → (∀ Q, LPH d hr Q = LPH d hr1 Q) → a_i hr2 126 28 = 2 → i < j1 → (∀ x, T[j1]? = some x → ¬ isS x 42 ∧ ¬ isS x 47) → (∃ (j' : Nat) (ws' : List (Nat × Nat)) (hc' hs1 hs2 : am_h) (x : Nat × Nat × Nat), (∀ Q, WP (e + 7) mX7_readSum 7 [some (.ref 86), some (.int (nI o)), some (.int (nI i)), xv] [] hc1 Q = Q none hc') ∧ pst t n T q w c0 g0 j p (m + 1) ω o j' ws' hc hc' hr hs2 ∧ Seg w (l.length + 3 + 5 * (8 - o)) p l ws' (false :: l) ∧ veq 3 hs1 hs2 ∧ (∀ Q, LPH d hr Q = LPH d hs1 Q) ∧ a_i hs2 126 28 = nI 2 ∧ T[j']? = some x ∧ ¬ isOp x) ∨ ∃ (f s : Int32) (hc' hr' : am_h), (∀ Q, WP (e + 7) mX7_readSum 7 [some (.ref 86), some (.int (nI o)), some (.int (nI i)), xv] [] hc1 Q = Q none hc') ∧ flS q f s hc hc' ∧ (∀ Q, LPH d hr Q = LPH d hr' Q) ∧ flR f s hr hr' := by
  obtain ⟨b1, b2, b3, b4⟩ := pr.K
  have Zb := pr.1.1
  intro k
  induction k with
  | zero =>
    intro j1 ws hc1 hr1 hr2 i xv lk A G v lp s2 li ei
    have := A.1.len
    omega
  | succ k ih =>
    intro j1 ws hc1 hr1 hr2 i xv lk A G v lp s2 li ei
    have prn := pr.nxt A
    obtain ⟨A1, A2, A3, A4, A5, A6, A7, A8, A9⟩ := id A
    obtain ⟨A1, -, -, A5, -⟩ := id prn
    have ln := A1.len
    obtain ⟨x, hx⟩ : ∃ x, T[j1]? = some x := by
      obtain ⟨-, -, -, -, -, -, x, hx, -⟩ := A1
      exact ⟨x, hx⟩
    have sx := (A4.tk hx).2.small
    have S2 : stp 3 (m + 1) ω hr2 := S.fr A6
    by_cases go : isS x 43 ∨ isS x 45
    · have x4 : x.1 = 4 := by rcases go with z | z <;> exact z.1
      have l1 := A4.l hx (by omega)
      obtain ⟨c1, c2, c3⟩ := cq_come (d := e + 6) A1 l1
      have c1' : ∀ Q, Cal (e + 6) mX7_come [.ref 86] hc1 Q = Q none (cmA hc1 (j1 + 1)) := c1
      obtain ⟨y, op, ly, rk, ho, o1, y1, gg⟩ : ∃ y op : Nat, y < 1000 ∧ rkN y = 3 ∧ oOf op = nI y ∧ (6 ≤ op ∧ op < 10) ∧ (y = 43 ∨ y = 45 ∨ y = 42 ∨ y = 47) ∧ isS x y ∧ ((y = 43 ∧ op = 6) ∨ (y = 45 ∧ op = 7)) := by
        rcases go with z | z
        · exact ⟨43, 6, by omega, rfl, rfl, by omega, by omega, z, by omega⟩
        · exact ⟨45, 7, by omega, rfl, rfl, by omega, by omega, z, by omega⟩
      have W := v.W A4 A5 S2 (by omega) (by omega) (by omega)
      rw [← rk] at W
      obtain ⟨hr3, r1, r2, r3, r4, r5, r6, r7⟩ := go_op (d := d) v A4 hx A5 s2 W (by omega) (by omega) y1 gg.1
      have pr3 := prn.go c2 c3 r1 r2 (by omega)
      have fr3 : ∀ i, i < ω + 1 → i < ω → a_i hr3 141 i = a_i hr2 141 i := fun i _ hi => r3.2.2 _ _ (by omega) (by omega) (by omega) (by omega) (by omega) (by omega)
      rcases IN (j1 + 1) (by omega) o m (ω + 1) (p + ws.length) (e + 6) (false :: l) _ hr3 lo lm (by omega) (by omega) pr3 r6 (by rw [r3.2.2 _ _ (by omega) (by omega) (by omega) (by omega) (by omega) (by omega), A6.2.2 _ _ (by omega) (by omega) (by omega) (by omega) (by omega) (by omega)]; exact ht) (stp.new r4 r5 ly (by omega)) with ⟨j3, ws3, hc3, hq1, hr5, x3, t1, t2, t3, t4, t5, t6, t7, t8⟩ | ⟨f, s, hc3, hr4, t1, t2, t3, t4⟩
      · obtain ⟨B1, B2, B3, B4, B5, B6, B7, B8, B9⟩ := id t2
        have ln3 := B1.len
        have T5 := t2
        obtain ⟨hr6, e6⟩ : ∃ hr6, hr6 = hq1 := ⟨_, rfl⟩
        have lp6 := t5
        rw [← e6] at lp6 t4
        have f5 := T5.2.2.2.2.2.1.2.2
        have s28 : a_i hr5 126 28 = 2 := t6
        have x140 : a_i hr5 140 ω = nI y := (f5 140 ω (by omega) (by omega) (by omega) (by omega) (by omega) (by omega)).trans r4
        have x141 : a_i hr5 141 ω = nI (m + 1) := (f5 141 ω (by omega) (by omega) (by omega) (by omega) (by omega) (by omega)).trans r5
        have bin := pst.bin (y := y) (op := op) T5 c3 r3 (by omega) ly ho (by omega)
        obtain ⟨em, -⟩ := cq_em (d := e + 6) (a1 := nI op) (a2 := 0) (v := 0) B1 (by omega)
        have A' := A.app bin
        have G' := G.app ((t3.lo (by show l.length + 1 + 2 + 5 * (8 - o) ≤ l.length + 3 + 5 * (8 - o); omega)).app (Seg.num o1 (by omega)))
        have v' := veq.pop (op := y) T5.2.2.2.1.R T5.2.2.2.2.1 ly x140 x141 (by omega) (by omega)
        rw [rk] at v'
        have e28 : a_i (popH hr5 ω (g0 + (p + ws.length) + ws3.length) y) 126 28 = 2 := (popH_i (by omega) (by omega)).trans s28
        have rcx := ih j3 (ws ++ (ws3 ++ [(op, 0)])) _ hr6 _ (i + 1) (some (.int (nI op))) (by omega) A' G' ((t4.lo (by omega)).tr v' (Nat.le_refl _)) (fun Q => (lp Q).trans ((r7 Q).trans (lp6 Q))) e28 (by omega) (fun x3 h3 => by rw [t7] at h3; cases h3; exact t8)
        have st1 : ∀ Q, WP (e + 7) mX7_readSum 7 [some (.ref 86), some (.int (nI o)), some (.int (nI i)), xv] [] hc1 Q = WP (e + 7) mX7_readSum 7 [some (.ref 86), some (.int (nI o)), some (.int (nI (i + 1))), some (.int (nI op))] [] (emA hc3 q (c0 + (p + ws.length) + ws3.length) (0 * 32 + nI op)) Q := fun Q => by
          rcases gg.2 with ⟨u1, u2⟩ | ⟨u1, u2⟩ <;> subst u1 <;> subst u2
          · exact cm_readSum_go (d := e + 6) A1.1 c2.1 B1.1 (by omega) xv (Or.inl ⟨cs1 (d := e + 6) (z := 43) A1 hx sx (y := 43) (by omega) rfl gg.1, rfl⟩) c1' t1 em
          · exact cm_readSum_go (d := e + 6) A1.1 c2.1 B1.1 (by omega) xv (Or.inr ⟨cs0 (d := e + 6) (z := 43) A1 hx sx (y := 43) (by omega) rfl (by have := gg.1; unfold isS at this ⊢; omega), cs1 (d := e + 6) (z := 45) A1 hx sx (y := 45) (by omega) rfl gg.1, rfl⟩) c1' t1 em
        rcases rcx with ⟨j', ws', hc', hs1, hs2, x2, z1, z2⟩ | ⟨f, s, hc', hr', z1, z2⟩
        · exact Or.inl ⟨j', ws', hc', hs1, hs2, x2, fun Q => (st1 Q).trans (z1 Q), z2⟩
        · exact Or.inr ⟨f, s, hc', hr', fun Q => (st1 Q).trans (z1 Q), z2⟩
      · right
        have F := flS.re (A2.tr c3 (by omega)) t2
        obtain ⟨h4, kk, lkk, em, F4⟩ := fl_emit (d := e + 6) (a := nI op) (b := 0) F Zb
        refine ⟨f, s, h4, hr4, fun Q => ?_, F4, fun Q => (lp Q).trans ((r7 Q).trans (t3 Q)), flR.re (A6.tr r3 (Nat.le_refl _) (Nat.le_refl _) (by omega)) t4⟩
        have st1 : WP (e + 7) mX7_readSum 7 [some (.ref 86), some (.int (nI o)), some (.int (nI i)), xv] [] hc1 Q = WP (e + 7) mX7_readSum 7 [some (.ref 86), some (.int (nI o)), some (.int (nI (i + 1))), some (.int (nI op))] [] h4 Q := by
          rcases gg.2 with ⟨u1, u2⟩ | ⟨u1, u2⟩ <;> subst u1 <;> subst u2
          · exact cm_readSum_go (d := e + 6) A1.1 c2.1 (F.C Zb) (by omega) xv (Or.inl ⟨cs1 (d := e + 6) (z := 43) A1 hx sx (y := 43) (by omega) rfl gg.1, rfl⟩) c1' t1 em
          · exact cm_readSum_go (d := e + 6) A1.1 c2.1 (F.C Zb) (by omega) xv (Or.inr ⟨cs0 (d := e + 6) (z := 43) A1 hx sx (y := 43) (by omega) rfl (by have := gg.1; unfold isS at this ⊢; omega), cs1 (d := e + 6) (z := 45) A1 hx sx (y := 45) (by omega) rfl gg.1, rfl⟩) c1' t1 em
        rw [st1]
        exact fl_sum_ (d := e + 6) F4 Zb (by omega) _
    · left
      refine ⟨j1, ws, hc1, hr1, hr2, x, fun Q => ?_, A, G, v, lp, s2, hx, fun z => by have := ei x hx; unfold isOp at z; rcases z with z | z | z | z; exact go (Or.inl z); exact go (Or.inr z); exact this.1 z; exact this.2 z⟩
      exact cm_readSum_end (d := e + 6) A1.1 (by omega) xv (cs0 (d := e + 6) (z := 43) A1 hx sx (y := 43) (by omega) rfl (fun z => go (Or.inl z))) (cs0 (d := e + 6) (z := 45) A1 hx sx (y := 45) (by omega) rfl (fun z => go (Or.inr z)))
/-- the chain's loop -/
theorem both_loop (IN : ∀ j', j < j' → AskP t n T q w c0 g0 d j') (lo : o ≤ 8) (lm : m + 1 ≤ 2 * o) (lω : ω + 1 ≤ 4 * o) (ld : 7 * (8 - o) + 9 ≤ e + 9) (pr : pre t n T q w c0 g0 j p (m + 1) ω o hc hr) (ht : a_i hr 138 m = 2) (S : stp 2 (m + 1) ω hr) : ∀ (k j1 : Nat) (ws : List (Nat × Nat)) (hc1 hr1 hr2 : am_h) (i : Nat), T.length - j1 ≤ k → pst t n T q w c0 g0 j p (m + 1) ω o j1 ws hc hc1 hr hr2 → Seg w (l.length + 5 + 5 * (8 - o)) p l ws (true :: l) → veq 2 hr1 hr2 → (∀ Q, LPH d hr Q = LPH d hr1 Q) → a_i hr2 126 28 = 3 → i < j1 → (∃ (j' : Nat) (ws' : List (Nat × Nat)) (hc' hs1 hs2 : am_h) (x : Nat × Nat × Nat), (∀ Q, WP (e + 9) mX7_readBoth 7 [some (.ref 86), some (.int (nI o)), some (.int (nI i))] [] hc1 Q = Q none hc') ∧ pst t n T q w c0 g0 j p (m + 1) ω o j' ws' hc hc' hr hs2 ∧ Seg w (l.length + 5 + 5 * (8 - o)) p l ws' (true :: l) ∧ veq 2 hs1 hs2 ∧ (∀ Q, LPH d hr Q = LPH d hs1 Q) ∧ a_i hs2 126 28 = nI 3 ∧ T[j']? = some x ∧ ¬ isW x 19) ∨ ∃ (f s : Int32) (hc' hr' : am_h), (∀ Q, WP (e + 9) mX7_readBoth 7 [some (.ref 86), some (.int (nI o)), some (.int (nI i))] [] hc1 Q = Q none hc') ∧ flS q f s hc hc' ∧ (∀ Q, LPH d hr Q = LPH d hr' Q) ∧ flR f s hr hr' := by
  obtain ⟨b1, b2, b3, b4⟩ := pr.K
  have Zb := pr.1.1
  intro k
  induction k with
  | zero =>
    intro j1 ws hc1 hr1 hr2 i lk A G v lp s2 li
    have := A.1.len
    omega
  | succ k ih =>
    intro j1 ws hc1 hr1 hr2 i lk A G v lp s2 li
    have prn := pr.nxt A
    obtain ⟨A1, A2, A3, A4, A5, A6, A7, A8, A9⟩ := id A
    obtain ⟨A1, -, -, A5, -⟩ := id prn
    have ln := A1.len
    obtain ⟨x, hx⟩ : ∃ x, T[j1]? = some x := by
      obtain ⟨-, -, -, -, -, -, x, hx, -⟩ := A1
      exact ⟨x, hx⟩
    have sx := (A4.tk hx).2.small
    have S2 : stp 2 (m + 1) ω hr2 := S.fr A6
    by_cases go : isW x 19
    · have x4 : x.1 = 3 := go.1
      have l1 := A4.l hx (by omega)
      obtain ⟨c1, c2, c3⟩ := cq_come (d := e + 8) A1 l1
      have c1' : ∀ Q, Cal (e + 8) mX7_come [.ref 86] hc1 Q = Q none (cmA hc1 (j1 + 1)) := c1
      obtain ⟨y, op, ly, rk, ho, o1, gg⟩ : ∃ y op : Nat, y < 1000 ∧ rkN y = 2 ∧ oOf op = nI y ∧ (op = 16 ∨ op = 17) ∧ ((isW x 18 ∧ y = 407) ∨ (isW x 19 ∧ y = 406)) ∧ y = 406 ∧ op = 16 := by
        exact ⟨406, 16, by omega, rfl, rfl, by omega, Or.inr ⟨go, rfl⟩, rfl, rfl⟩
      have W := v.W A4 A5 S2 (by omega) (by omega) (by omega)
      rw [← rk] at W
      obtain ⟨hr3, r1, r2, r3, r4, r5, r6, r7⟩ := as_op (d := d) v A4 hx A5 s2 W (by omega) gg.1
      have pr3 := prn.go c2 c3 r1 r2 (by omega)
      have fr3 : ∀ i, i < ω + 1 → i < ω → a_i hr3 141 i = a_i hr2 141 i := fun i _ hi => r3.2.2 _ _ (by omega) (by omega) (by omega) (by omega) (by omega) (by omega)
      rcases IN (j1 + 1) (by omega) o m (ω + 1) (p + ws.length) (e + 8) (true :: l) _ hr3 lo lm (by omega) (by omega) pr3 r6 with ⟨j3, ws3, hc3, hr4, t1, t2, t3, t4⟩ | ⟨f, s, hc3, hr4, t1, t2, t3, t4⟩
      · obtain ⟨B1, B2, B3, B4, B5, B6, B7, B8, B9⟩ := id t2
        have ln3 := B1.len
        have f5a : rF (m + 1) (ω + 1) (g0 + (p + ws.length)) hr3 hr4 := B6
        have tp : a_i hr4 138 m = 2 := by
          rw [B6.2.2 _ _ (by omega) (by omega) (by omega) (by omega) (by omega) (by omega), r3.2.2 _ _ (by omega) (by omega) (by omega) (by omega) (by omega) (by omega), A6.2.2 _ _ (by omega) (by omega) (by omega) (by omega) (by omega) (by omega)]
          exact ht
        have lp6 := t4 _ (fun Q => ask_stop (d := d + 7) B4.R B5.2.1 (by omega) (by rw [tp]; decide))
        obtain ⟨hr5, e5⟩ : ∃ hr5, hr5 = s_i hr4 126 28 3 := ⟨_, rfl⟩
        have T5 := t2.st (v := 3)
        rw [← e5] at T5 lp6
        have f5 := T5.2.2.2.2.2.1.2.2
        have s28 : a_i hr5 126 28 = 3 := by rw [e5]; exact ieq rfl rfl
        obtain ⟨hr6, e6⟩ : ∃ hr6, hr6 = hr5 := ⟨_, rfl⟩
        rw [← e6] at lp6
        have x140 : a_i hr5 140 ω = nI y := (f5 140 ω (by omega) (by omega) (by omega) (by omega) (by omega) (by omega)).trans r4
        have x141 : a_i hr5 141 ω = nI (m + 1) := (f5 141 ω (by omega) (by omega) (by omega) (by omega) (by omega) (by omega)).trans r5
        have bin := pst.bin (y := y) (op := op) T5 c3 r3 (by omega) ly ho (by omega)
        obtain ⟨em, -⟩ := cq_em (d := e + 8) (a1 := nI op) (a2 := 0) (v := 0) B1 (by omega)
        have A' := A.app bin
        have G' := G.app ((t3.lo (by show l.length + 1 + 4 + 5 * (8 - o) ≤ l.length + 5 + 5 * (8 - o); omega)).app (Seg.tru o1 (by omega)))
        have v' := veq.pop (op := y) T5.2.2.2.1.R T5.2.2.2.2.1 ly x140 x141 (by omega) (by omega)
        rw [rk] at v'
        have e28 : a_i (popH hr5 ω (g0 + (p + ws.length) + ws3.length) y) 126 28 = 3 := (popH_i (by omega) (by omega)).trans s28
        have rcx := ih j3 (ws ++ (ws3 ++ [(op, 0)])) _ hr6 _ (i + 1) (by omega) A' G' (by rw [e6]; exact v') (fun Q => (lp Q).trans ((r7 Q).trans (lp6 Q))) e28 (by omega)
        have st1 : ∀ Q, WP (e + 9) mX7_readBoth 7 [some (.ref 86), some (.int (nI o)), some (.int (nI i))] [] hc1 Q = WP (e + 9) mX7_readBoth 7 [some (.ref 86), some (.int (nI o)), some (.int (nI (i + 1)))] [] (emA hc3 q (c0 + (p + ws.length) + ws3.length) (0 * 32 + nI op)) Q := fun Q => by
          have u2 := gg.2.2
          subst u2
          exact cm_readBoth_go (d := e + 8) A1.1 c2.1 B1.1 (by omega) (cw1 (d := e + 8) (z := 19) A1 hx sx (y := 19) (by omega) rfl go) c1' t1 em
        rcases rcx with ⟨j', ws', hc', hs1, hs2, x2, z1, z2⟩ | ⟨f, s, hc', hr', z1, z2⟩
        · exact Or.inl ⟨j', ws', hc', hs1, hs2, x2, fun Q => (st1 Q).trans (z1 Q), z2⟩
        · exact Or.inr ⟨f, s, hc', hr', fun Q => (st1 Q).trans (z1 Q), z2⟩
      · right
        have F := flS.re (A2.tr c3 (by omega)) t2
        obtain ⟨h4, kk, lkk, em, F4⟩ := fl_emit (d := e + 8) (a := nI op) (b := 0) F Zb
        refine ⟨f, s, h4, hr4, fun Q => ?_, F4, fun Q => (lp Q).trans ((r7 Q).trans (t3 Q)), flR.re (A6.tr r3 (Nat.le_refl _) (Nat.le_refl _) (by omega)) t4⟩
        have st1 : WP (e + 9) mX7_readBoth 7 [some (.ref 86), some (.int (nI o)), some (.int (nI i))] [] hc1 Q = WP (e + 9) mX7_readBoth 7 [some (.ref 86), some (.int (nI o)), some (.int (nI (i + 1)))] [] h4 Q := by
          have u2 := gg.2.2
          subst u2
          exact cm_readBoth_go (d := e + 8) A1.1 c2.1 (F.C Zb) (by omega) (cw1 (d := e + 8) (z := 19) A1 hx sx (y := 19) (by omega) rfl go) c1' t1 em
        rw [st1]
        exact fl_both_ (d := e + 8) F4 Zb (by omega)
    · left
      refine ⟨j1, ws, hc1, hr1, hr2, x, fun Q => ?_, A, G, v, lp, s2, hx, go⟩
      exact cm_readBoth_end (d := e + 8) A1.1 (by omega) (cw0 (d := e + 8) (z := 19) A1 hx sx (y := 19) (by omega) rfl go)
/-- the chain's loop -/
theorem either_loop (IN : ∀ j', j < j' → BothP t n T q w c0 g0 d j') (lo : o ≤ 8) (lm : m + 1 ≤ 2 * o) (lω : ω + 2 ≤ 4 * o) (ld : 7 * (8 - o) + 10 ≤ e + 10) (pr : pre t n T q w c0 g0 j p (m + 1) ω o hc hr) (ht : a_i hr 138 m = 2) (S : stp 1 (m + 1) ω hr) : ∀ (k j1 : Nat) (ws : List (Nat × Nat)) (hc1 hr1 hr2 : am_h) (i : Nat), T.length - j1 ≤ k → pst t n T q w c0 g0 j p (m + 1) ω o j1 ws hc hc1 hr hr2 → Seg w (l.length + 6 + 5 * (8 - o)) p l ws (true :: l) → veq 1 hr1 hr2 → (∀ Q, LPH d hr Q = LPH d hr1 Q) → a_i hr2 126 28 = 3 → i < j1 → (∀ x, T[j1]? = some x → ¬ isW x 19) → (∃ (j' : Nat) (ws' : List (Nat × Nat)) (hc' hs1 hs2 : am_h) (x : Nat × Nat × Nat), (∀ Q, WP (e + 10) mX7_readEither 7 [some (.ref 86), some (.int (nI o)), some (.int (nI i))] [] hc1 Q = Q none hc') ∧ pst t n T q w c0 g0 j p (m + 1) ω o j' ws' hc hc' hr hs2 ∧ Seg w (l.length + 6 + 5 * (8 - o)) p l ws' (true :: l) ∧ veq 1 hs1 hs2 ∧ (∀ Q, LPH d hr Q = LPH d hs1 Q) ∧ a_i hs2 126 28 = nI 3 ∧ T[j']? = some x ∧ (¬ isW x 19 ∧ ¬ isW x 18)) ∨ ∃ (f s : Int32) (hc' hr' : am_h), (∀ Q, WP (e + 10) mX7_readEither 7 [some (.ref 86), some (.int (nI o)), some (.int (nI i))] [] hc1 Q = Q none hc') ∧ flS q f s hc hc' ∧ (∀ Q, LPH d hr Q = LPH d hr' Q) ∧ flR f s hr hr' := by
  obtain ⟨b1, b2, b3, b4⟩ := pr.K
  have Zb := pr.1.1
  intro k
  induction k with
  | zero =>
    intro j1 ws hc1 hr1 hr2 i lk A G v lp s2 li ei
    have := A.1.len
    omega
  | succ k ih =>
    intro j1 ws hc1 hr1 hr2 i lk A G v lp s2 li ei
    have prn := pr.nxt A
    obtain ⟨A1, A2, A3, A4, A5, A6, A7, A8, A9⟩ := id A
    obtain ⟨A1, -, -, A5, -⟩ := id prn
    have ln := A1.len
    obtain ⟨x, hx⟩ : ∃ x, T[j1]? = some x := by
      obtain ⟨-, -, -, -, -, -, x, hx, -⟩ := A1
      exact ⟨x, hx⟩
    have sx := (A4.tk hx).2.small
    have S2 : stp 1 (m + 1) ω hr2 := S.fr A6
    by_cases go : isW x 18
    · have x4 : x.1 = 3 := go.1
      have l1 := A4.l hx (by omega)
      obtain ⟨c1, c2, c3⟩ := cq_come (d := e + 9) A1 l1
      have c1' : ∀ Q, Cal (e + 9) mX7_come [.ref 86] hc1 Q = Q none (cmA hc1 (j1 + 1)) := c1
      obtain ⟨y, op, ly, rk, ho, o1, gg⟩ : ∃ y op : Nat, y < 1000 ∧ rkN y = 1 ∧ oOf op = nI y ∧ (op = 16 ∨ op = 17) ∧ ((isW x 18 ∧ y = 407) ∨ (isW x 19 ∧ y = 406)) ∧ y = 407 ∧ op = 17 := by
        exact ⟨407, 17, by omega, rfl, rfl, by omega, Or.inl ⟨go, rfl⟩, rfl, rfl⟩
      have W : ∀ d Q, Cal (d + 1) mX12_works [.ref 126, .int (nI (rkN y))] hr1 Q = Q none hr2 := by
        rw [rk]
        exact v.W A4 A5 S2 (by omega) (by omega) (by omega)
      obtain ⟨hr3, r1, r2, r3, r4, r5, r6, r7⟩ := as_op (d := d) v A4 hx A5 s2 W (by omega) gg.1
      have pr3 := prn.go c2 c3 r1 r2 (by omega)
      have fr3 : ∀ i, i < ω + 1 → i < ω → a_i hr3 141 i = a_i hr2 141 i := fun i _ hi => r3.2.2 _ _ (by omega) (by omega) (by omega) (by omega) (by omega) (by omega)
      rcases IN (j1 + 1) (by omega) o m (ω + 1) (p + ws.length) (e + 9) (true :: l) _ hr3 lo lm (by omega) (by omega) pr3 r6 (by rw [r3.2.2 _ _ (by omega) (by omega) (by omega) (by omega) (by omega) (by omega), A6.2.2 _ _ (by omega) (by omega) (by omega) (by omega) (by omega) (by omega)]; exact ht) (stp.new r4 r5 ly (by omega)) with ⟨j3, ws3, hc3, hq1, hr5, x3, t1, t2, t3, t4, t5, t6, t7, t8⟩ | ⟨f, s, hc3, hr4, t1, t2, t3, t4⟩
      · obtain ⟨B1, B2, B3, B4, B5, B6, B7, B8, B9⟩ := id t2
        have ln3 := B1.len
        have T5 := t2
        obtain ⟨hr6, e6⟩ : ∃ hr6, hr6 = hq1 := ⟨_, rfl⟩
        have lp6 := t5
        rw [← e6] at lp6 t4
        have f5 := T5.2.2.2.2.2.1.2.2
        have s28 : a_i hr5 126 28 = 3 := t6
        have x140 : a_i hr5 140 ω = nI y := (f5 140 ω (by omega) (by omega) (by omega) (by omega) (by omega) (by omega)).trans r4
        have x141 : a_i hr5 141 ω = nI (m + 1) := (f5 141 ω (by omega) (by omega) (by omega) (by omega) (by omega) (by omega)).trans r5
        have bin := pst.bin (y := y) (op := op) T5 c3 r3 (by omega) ly ho (by omega)
        obtain ⟨em, -⟩ := cq_em (d := e + 9) (a1 := nI op) (a2 := 0) (v := 0) B1 (by omega)
        have A' := A.app bin
        have G' := G.app ((t3.lo (by show l.length + 1 + 5 + 5 * (8 - o) ≤ l.length + 6 + 5 * (8 - o); omega)).app (Seg.tru o1 (by omega)))
        have v' := veq.pop (op := y) T5.2.2.2.1.R T5.2.2.2.2.1 ly x140 x141 (by omega) (by omega)
        rw [rk] at v'
        have e28 : a_i (popH hr5 ω (g0 + (p + ws.length) + ws3.length) y) 126 28 = 3 := (popH_i (by omega) (by omega)).trans s28
        have rcx := ih j3 (ws ++ (ws3 ++ [(op, 0)])) _ hr6 _ (i + 1) (by omega) A' G' ((t4.lo (by omega)).tr v' (Nat.le_refl _)) (fun Q => (lp Q).trans ((r7 Q).trans (lp6 Q))) e28 (by omega) (fun x3 h3 => by rw [t7] at h3; cases h3; exact t8)
        have st1 : ∀ Q, WP (e + 10) mX7_readEither 7 [some (.ref 86), some (.int (nI o)), some (.int (nI i))] [] hc1 Q = WP (e + 10) mX7_readEither 7 [some (.ref 86), some (.int (nI o)), some (.int (nI (i + 1)))] [] (emA hc3 q (c0 + (p + ws.length) + ws3.length) (0 * 32 + nI op)) Q := fun Q => by
          have u2 := gg.2.2
          subst u2
          exact cm_readEither_go (d := e + 9) A1.1 c2.1 B1.1 (by omega) (cw1 (d := e + 9) (z := 18) A1 hx sx (y := 18) (by omega) rfl go) c1' t1 em
        rcases rcx with ⟨j', ws', hc', hs1, hs2, x2, z1, z2⟩ | ⟨f, s, hc', hr', z1, z2⟩
        · exact Or.inl ⟨j', ws', hc', hs1, hs2, x2, fun Q => (st1 Q).trans (z1 Q), z2⟩
        · exact Or.inr ⟨f, s, hc', hr', fun Q => (st1 Q).trans (z1 Q), z2⟩
      · right
        have F := flS.re (A2.tr c3 (by omega)) t2
        obtain ⟨h4, kk, lkk, em, F4⟩ := fl_emit (d := e + 9) (a := nI op) (b := 0) F Zb
        refine ⟨f, s, h4, hr4, fun Q => ?_, F4, fun Q => (lp Q).trans ((r7 Q).trans (t3 Q)), flR.re (A6.tr r3 (Nat.le_refl _) (Nat.le_refl _) (by omega)) t4⟩
        have st1 : WP (e + 10) mX7_readEither 7 [some (.ref 86), some (.int (nI o)), some (.int (nI i))] [] hc1 Q = WP (e + 10) mX7_readEither 7 [some (.ref 86), some (.int (nI o)), some (.int (nI (i + 1)))] [] h4 Q := by
          have u2 := gg.2.2
          subst u2
          exact cm_readEither_go (d := e + 9) A1.1 c2.1 (F.C Zb) (by omega) (cw1 (d := e + 9) (z := 18) A1 hx sx (y := 18) (by omega) rfl go) c1' t1 em
        rw [st1]
        exact fl_either_ (d := e + 9) F4 Zb (by omega)
    · left
      refine ⟨j1, ws, hc1, hr1, hr2, x, fun Q => ?_, A, G, v, lp, s2, hx, ⟨ei x hx, go⟩⟩
      exact cm_readEither_end (d := e + 9) A1.1 (by omega) (cw0 (d := e + 9) (z := 18) A1 hx sx (y := 18) (by omega) rfl go)
theorem prod_at (I0 : OneP t n T q w c0 g0 d j) (IN : ∀ j', j < j' → OneP t n T q w c0 g0 d j') : ProdP t n T q w c0 g0 d j := by
  intro o m ω p dc l hc hr lo lm lω ld pr hs ht S
  obtain ⟨e, rfl⟩ : ∃ e, dc = e + 6 := ⟨dc - 6, by omega⟩
  obtain ⟨b1, b2, b3, b4⟩ := pr.K
  have Z := pr.1.1
  rcases I0 o m ω p (e + 5) l hc hr lo lm (by omega) (by omega) pr hs with ⟨j1, ws, hc1, hr1, t1, t2, t3, t4⟩ | ⟨f, s, hc1, hr1, t1, t2, t3, t4⟩
  · have tp : ¬ a_i hr1 138 m = 7 := by
      rw [t2.2.2.2.2.2.1.2.2 _ _ (by omega) (by omega) (by omega) (by omega) (by omega) (by omega)]
      exact ht
    have lp := t4 _ (fun Q => one_stop (d := d + 7) t2.2.2.2.1.R t2.2.2.2.2.1.2.1 (by omega) tp)
    rcases prod_loop (l := l) (e := e) IN lo lm lω ld pr ht S T.length j1 ws hc1 _ _ 0 none (by omega) (t2.st (v := 2)) (t3.lo (by omega)) veq.rf lp (ieq rfl rfl) (by have := t2.2.2.2.2.2.2.2.2; omega) with ⟨j', ws', hc', hs1, hs2, x, z1, z2⟩ | ⟨f, s, hc', hr', z1, z2⟩
    · exact Or.inl ⟨j', ws', hc', hs1, hs2, x, fun Q => by rw [cm_readProduct_in (d := e + 5) Z t1, z1], z2⟩
    · exact Or.inr ⟨f, s, hc', hr', fun Q => by rw [cm_readProduct_in (d := e + 5) Z t1, z1], z2⟩
  · exact Or.inr ⟨f, s, hc1, hr1, fun Q => by rw [cm_readProduct_in (d := e + 5) Z t1, fl_prod_ (d := e + 5) t2 Z (by omega) none], t2, t3, t4⟩
theorem sum_at (I0 : ProdP t n T q w c0 g0 d j) (IN : ∀ j', j < j' → ProdP t n T q w c0 g0 d j') : SumP t n T q w c0 g0 d j := by
  intro o m ω p dc l hc hr lo lm lω ld pr hs ht S
  obtain ⟨e, rfl⟩ : ∃ e, dc = e + 7 := ⟨dc - 7, by omega⟩
  obtain ⟨b1, b2, b3, b4⟩ := pr.K
  have Z := pr.1.1
  rcases I0 o m ω p (e + 6) l hc hr lo lm (by omega) (by omega) pr hs ht (S.mono (by omega)) with ⟨j1, ws, hc1, hq1, hr1, x1, t1, t2, t3, t4, t5, t6, t7, t8⟩ | ⟨f, s, hc1, hr1, t1, t2, t3, t4⟩
  · rcases sum_loop (l := l) (e := e) IN lo lm lω ld pr ht S T.length j1 ws hc1 hq1 hr1 0 none (by omega) t2 (t3.lo (by omega)) (t4.lo (by omega)) t5 t6 (by have := t2.2.2.2.2.2.2.2.2; omega) (fun x3 h3 => by rw [t7] at h3; cases h3; exact t8) with ⟨j', ws', hc', hs1, hs2, x, z1, z2⟩ | ⟨f, s, hc', hr', z1, z2⟩
    · exact Or.inl ⟨j', ws', hc', hs1, hs2, x, fun Q => by rw [cm_readSum_in (d := e + 6) Z t1, z1], z2⟩
    · exact Or.inr ⟨f, s, hc', hr', fun Q => by rw [cm_readSum_in (d := e + 6) Z t1, z1], z2⟩
  · exact Or.inr ⟨f, s, hc1, hr1, fun Q => by rw [cm_readSum_in (d := e + 6) Z t1, fl_sum_ (d := e + 6) t2 Z (by omega) none], t2, t3, t4⟩
theorem both_at (I0 : AskP t n T q w c0 g0 d j) (IN : ∀ j', j < j' → AskP t n T q w c0 g0 d j') : BothP t n T q w c0 g0 d j := by
  intro o m ω p dc l hc hr lo lm lω ld pr hs ht S
  obtain ⟨e, rfl⟩ : ∃ e, dc = e + 9 := ⟨dc - 9, by omega⟩
  obtain ⟨b1, b2, b3, b4⟩ := pr.K
  have Z := pr.1.1
  rcases I0 o m ω p (e + 8) l hc hr lo lm (by omega) (by omega) pr hs with ⟨j1, ws, hc1, hr1, t1, t2, t3, t4⟩ | ⟨f, s, hc1, hr1, t1, t2, t3, t4⟩
  · have tp : a_i hr1 138 m = 2 := by
      rw [t2.2.2.2.2.2.1.2.2 _ _ (by omega) (by omega) (by omega) (by omega) (by omega) (by omega)]
      exact ht
    have lp := t4 _ (fun Q => ask_stop (d := d + 7) t2.2.2.2.1.R t2.2.2.2.2.1.2.1 (by omega) (by rw [tp]; decide))
    rcases both_loop (l := l) (e := e) IN lo lm lω ld pr ht S T.length j1 ws hc1 _ _ 0 (by omega) (t2.st (v := 3)) (t3.lo (by omega)) veq.rf lp (ieq rfl rfl) (by have := t2.2.2.2.2.2.2.2.2; omega) with ⟨j', ws', hc', hs1, hs2, x, z1, z2⟩ | ⟨f, s, hc', hr', z1, z2⟩
    · exact Or.inl ⟨j', ws', hc', hs1, hs2, x, fun Q => by rw [cm_readBoth_in (d := e + 8) Z t1, z1], z2⟩
    · exact Or.inr ⟨f, s, hc', hr', fun Q => by rw [cm_readBoth_in (d := e + 8) Z t1, z1], z2⟩
  · exact Or.inr ⟨f, s, hc1, hr1, fun Q => by rw [cm_readBoth_in (d := e + 8) Z t1, fl_both_ (d := e + 8) t2 Z (by omega)], t2, t3, t4⟩
theorem either_at (I0 : BothP t n T q w c0 g0 d j) (IN : ∀ j', j < j' → BothP t n T q w c0 g0 d j') : EitherP t n T q w c0 g0 d j := by
  intro o m ω p dc l hc hr lo lm lω ld pr hs ht S
  obtain ⟨e, rfl⟩ : ∃ e, dc = e + 10 := ⟨dc - 10, by omega⟩
  obtain ⟨b1, b2, b3, b4⟩ := pr.K
  have Z := pr.1.1
  rcases I0 o m ω p (e + 9) l hc hr lo lm (by omega) (by omega) pr hs ht (S.mono (by omega)) with ⟨j1, ws, hc1, hq1, hr1, x1, t1, t2, t3, t4, t5, t6, t7, t8⟩ | ⟨f, s, hc1, hr1, t1, t2, t3, t4⟩
  · rcases either_loop (l := l) (e := e) IN lo lm lω ld pr ht S T.length j1 ws hc1 hq1 hr1 0 (by omega) t2 (t3.lo (by omega)) (t4.lo (by omega)) t5 t6 (by have := t2.2.2.2.2.2.2.2.2; omega) (fun x3 h3 => by rw [t7] at h3; cases h3; exact t8) with ⟨j', ws', hc', hs1, hs2, x, z1, z2⟩ | ⟨f, s, hc', hr', z1, z2⟩
    · exact Or.inl ⟨j', ws', hc', hs1, hs2, x, fun Q => by rw [cm_readEither_in (d := e + 9) Z t1, z1], z2⟩
    · exact Or.inr ⟨f, s, hc', hr', fun Q => by rw [cm_readEither_in (d := e + 9) Z t1, z1], z2⟩
  · exact Or.inr ⟨f, s, hc1, hr1, fun Q => by rw [cm_readEither_in (d := e + 9) Z t1, fl_either_ (d := e + 9) t2 Z (by omega)], t2, t3, t4⟩
end CHAINS
