/-! clauses, on both sides -/
section CLAUSES
variable {t : Nat → Nat} {T : List (Nat × Nat × Nat)} {n q w c c' g g' j j' K d e p k : Nat} {h h' h'' hc hc' hc1 hc2 hr hr' hr1 : am_h} {Q : Option Value → am_h → Prop} {x : Nat × Nat × Nat} {f s v a b : Int32}
/-- what was read so far -/
def clR (q K c g : Nat) (hc hr : am_h) : Prop :=
  (∀ k, k < K → ∃ w, w ≤ 10 ∧ a_i hr 143 k = nI w ∧ a_i hc (q + 1) k = nI w ∧ (5 ≤ w → a_i hc (q + 2) k = a_i hr 145 k) ∧ (w = 5 ∨ w = 9 → a_i hc (q + 3) k = a_i hr 146 k) ∧ (w = 9 → a_i hc (q + 4) k = a_i hr 147 k))
  ∧ ∀ w, w < 5 → (a_i hc (q + 5) w = -1 ∧ ∀ k, k < K → ¬ a_i hr 143 k = nI w)
     ∨ ∃ (k f x : Nat) (ws : List (Nat × Nat)), k < K ∧ a_i hr 143 k = nI w ∧ (∀ j, j < K → a_i hr 143 j = nI w → j = k) ∧ f + ws.length ≤ c ∧ x + ws.length < g ∧ a_i hc (q + 5) w = nI f ∧ a_i hc (q + 6) w = nI (f + ws.length) ∧ a_i hr 144 k = nI x ∧ a_i hr 148 (x + ws.length) = 408 ∧ wdC hc q f 0 ws ∧ wdR hr x 0 ws ∧ Seg w 43 0 [] ws [false]
theorem clR.ext (A : clR q K c g hc hr) (lw : w ≤ 10) (lc : c ≤ c') (lg : g ≤ g')
    (h1 : ∀ p i, q + 1 ≤ p → p ≤ q + 4 → i < K → a_i hc' p i = a_i hc p i) (h2 : ∀ p i, p = q + 5 ∨ p = q + 6 → i < 5 → ¬ i = w → a_i hc' p i = a_i hc p i) (h3 : ∀ i, i < c → a_i hc' (q + 7) i = a_i hc (q + 7) i)
    (r1 : ∀ p i, 143 ≤ p → p ≤ 147 → i < K → a_i hr' p i = a_i hr p i) (r2 : ∀ p i, p = 148 ∨ p = 149 → i < g → a_i hr' p i = a_i hr p i)
    (n1 : a_i hr' 143 K = nI w) (n2 : a_i hc' (q + 1) K = nI w) (n3 : 5 ≤ w → a_i hc' (q + 2) K = a_i hr' 145 K) (n4 : w = 5 ∨ w = 9 → a_i hc' (q + 3) K = a_i hr' 146 K) (n5 : w = 9 → a_i hc' (q + 4) K = a_i hr' 147 K)
    (L : w < 5 → (∀ k, k < K → ¬ a_i hr 143 k = nI w) ∧ ∃ ws : List (Nat × Nat), c + ws.length ≤ c' ∧ g + ws.length < g' ∧ a_i hc' (q + 5) w = nI c ∧ a_i hc' (q + 6) w = nI (c + ws.length) ∧ a_i hr' 144 K = nI g ∧ a_i hr' 148 (g + ws.length) = 408 ∧ wdC hc' q c 0 ws ∧ wdR hr' g 0 ws ∧ Seg w 43 0 [] ws [false]) : clR q (K + 1) c' g' hc' hr' := by
  obtain ⟨A1, A2⟩ := A
  refine ⟨fun k lk => ?_, fun w0 lw0 => ?_⟩
  · by_cases z : k = K
    · subst z
      exact ⟨w, lw, n1, n2, n3, n4, n5⟩
    · obtain ⟨w1, a1, a2, a3, a4, a5, a6⟩ := A1 k (by omega)
      refine ⟨w1, a1, by rw [r1 _ _ (by omega) (by omega) (by omega)]; exact a2, by rw [h1 _ _ (by omega) (by omega) (by omega)]; exact a3, fun z1 => ?_, fun z1 => ?_, fun z1 => ?_⟩
      · rw [h1 _ _ (by omega) (by omega) (by omega), r1 _ _ (by omega) (by omega) (by omega)]; exact a4 z1
      · rw [h1 _ _ (by omega) (by omega) (by omega), r1 _ _ (by omega) (by omega) (by omega)]; exact a5 z1
      · rw [h1 _ _ (by omega) (by omega) (by omega), r1 _ _ (by omega) (by omega) (by omega)]; exact a6 z1
  · by_cases z : w0 = w
    · subst z
      obtain ⟨L1, ws, l1, l2, l3, l4, l5, l6, l7, l8, l9⟩ := L lw0
      refine Or.inr ⟨K, c, g, ws, by omega, n1, fun j lj ej => ?_, l1, l2, l3, l4, l5, l6, l7, l8, l9⟩
      by_cases zj : j = K
      · exact zj
      · rw [r1 _ _ (by omega) (by omega) (by omega)] at ej
        exact absurd ej (L1 j (by omega))
    · have nw : ¬ nI w = nI w0 := by rw [nI_inj (by omega) (by omega)]; omega
      rcases A2 w0 lw0 with ⟨b1, b2⟩ | ⟨k, f, x, ws, b1, b2, b3, b4, b5, b6, b7, b8, b9, b10, b11, b12⟩
      · refine Or.inl ⟨by rw [h2 _ _ (Or.inl rfl) lw0 z]; exact b1, fun k lk => ?_⟩
        by_cases zk : k = K
        · subst zk; rw [n1]; exact nw
        · rw [r1 _ _ (by omega) (by omega) (by omega)]; exact b2 k (by omega)
      · refine Or.inr ⟨k, f, x, ws, by omega, by rw [r1 _ _ (by omega) (by omega) b1]; exact b2, fun j lj ej => ?_, by omega, by omega, by rw [h2 _ _ (Or.inl rfl) lw0 z]; exact b6, by rw [h2 _ _ (Or.inr rfl) lw0 z]; exact b7, by rw [r1 _ _ (by omega) (by omega) b1]; exact b8, by rw [r2 _ _ (Or.inl rfl) b5]; exact b9, fun i y ey => ?_, fun i y ey => ?_, b12⟩
        · by_cases zj : j = K
          · subst zj; rw [n1] at ej; exact absurd ej nw
          · rw [r1 _ _ (by omega) (by omega) (by omega)] at ej
            exact b3 j (by omega) ej
        · have := ix_lt ey
          rw [h3 _ (by omega)]; exact b10 i y ey
        · have := ix_lt ey
          rw [r2 _ _ (Or.inl rfl) (by omega), r2 _ _ (Or.inr rfl) (by omega)]; exact b11 i y ey
theorem okC.up (C : okC q T c j h) (n1 : ¬ (p = 86 ∧ (k = 2 ∨ (9 ≤ k ∧ k ≤ 13)))) (n2 : ¬ (p = 88 ∨ p = 89 ∨ p = 90)) (n3 : ¬ (p = q ∧ k = 8)) : okC q T c j (s_i h p k v) := by
  obtain ⟨Z, z2, z3, z4, z5, z6, x', ex, y1, y2, y3⟩ := C
  exact ⟨Z.sm sm.rf, ⟨by rw [ine (by omega)]; exact z2.1, z2.2.1, fun i x e => by rw [ine (by omega), ine (by omega), ine (by omega)]; exact z2.2.2 i x e⟩, by rw [ine (by omega)]; exact z3, by rw [ine (by omega)]; exact z4, by rw [ine (by omega)]; exact z5, z6, x', ex, by rw [ine (by omega)]; exact y1, by rw [ine (by omega)]; exact y2, by rw [ine (by omega)]; exact y3⟩
theorem cX.up (lq : 94 ≤ q) (n1 : (p = 86 ∧ k = 5) ∨ (q ≤ p ∧ p ≤ q + 7)) : cX q h (s_i h p k v) := ⟨sm.rf, rfl, fun p' i' m1 m2 => ine (by omega)⟩
theorem flX.up (F : flX q f s h h') (lq : 94 ≤ q) (n1 : (p = 86 ∧ k = 5) ∨ (q ≤ p ∧ p ≤ q + 7)) (n2 : ¬ (p = q ∧ k = 8)) : flX q f s h (s_i h' p k v) := by
  obtain ⟨z1, z2, z3, z4, z5, c, z6, z7⟩ := F
  exact ⟨z1, z2.tr (cX.up lq n1), by rw [ine (by omega)]; exact z3, by rw [ine (by omega)]; exact z4, by rw [ine (by omega)]; exact z5, c, z6, by rw [ine (by omega)]; exact z7⟩
/-- a clause more -/
def adH (h : am_h) (q K w : Nat) : am_h := s_i (s_i (s_i (s_i (s_i h (q + 1) K (nI w)) (q + 2) K 0) (q + 3) K 0) (q + 4) K 0) q 4 (nI (K + 1))
theorem adH_i {i : Nat} (n1 : ¬ (q + 1 ≤ p ∧ p ≤ q + 4 ∧ i = K)) (n2 : ¬ (p = q ∧ i = 4)) : a_i (adH h q K w) p i = a_i h p i := by
  unfold adH
  rw [ine (by omega), ine (by omega), ine (by omega), ine (by omega), ine (by omega)]
theorem adH_o : a_i (adH h q K w) (q + 1) K = nI w ∧ a_i (adH h q K w) q 4 = nI (K + 1) := by
  unfold adH
  exact ⟨by rw [ine (by omega), ine (by omega), ine (by omega), ine (by omega), ieq rfl rfl], ieq rfl rfl⟩
theorem adH_C (C : okC q T c j h) : okC q T c j (adH h q K w) := by
  have l1 := C.1.2.1
  have l2 := C.1.2.2.1
  unfold adH
  exact ((((C.up (by omega) (by omega) (by omega)).up (by omega) (by omega) (by omega)).up (by omega) (by omega) (by omega)).up (by omega) (by omega) (by omega)).up (by omega) (by omega) (by omega)
theorem adH_X (lq : 94 ≤ q) : cX q h (adH h q K w) := ⟨sm.rf, rfl, fun p i n1 n2 => adH_i (by omega) (by omega)⟩
/-- between two clauses -/
def clS (t : Nat → Nat) (n : Nat) (T : List (Nat × Nat × Nat)) (q j c g K : Nat) (hc hr : am_h) : Prop := okC q T c j hc ∧ (∃ w, okP t n T w j hr) ∧ okK g 0 0 0 hr ∧ a_i hr 126 28 = 4 ∧ a_i hr 126 30 = nI K ∧ a_i hc q 4 = nI K ∧ K ≤ 24 ∧ g ≤ j ∧ clR q K c g hc hr ∧ a_i hc 86 3 = -1 ∧ a_i hr 126 20 = -1
def cNx (t : Nat → Nat) (n : Nat) (T : List (Nat × Nat × Nat)) (q j K d e : Nat) (hc hr : am_h) : Prop := ∃ (j' c' g' : Nat) (hc' hr' : am_h), j < j' ∧ (∀ Q, Cal (e + 64) mX7_readClause [.ref 86] hc Q = Q none hc') ∧ clS t n T q j' c' g' (K + 1) hc' hr' ∧ cX q hc hc' ∧ rX hr hr' ∧ ∀ Q, LPH d hr Q = LPH d hr' Q
def cFx (q d e : Nat) (hc hr : am_h) : Prop := ∃ (f s : Int32) (hc' hr' : am_h), (∀ Q, Cal (e + 64) mX7_readClause [.ref 86] hc Q = Q none hc') ∧ flX q f s hc hc' ∧ (∀ Q, LPH d hr Q = LPH d hr' Q) ∧ flR f s hr hr'
theorem tkR.nz {s v : Int32} (k : tkR x s v) (nz : ¬ x.1 = 0) : ¬ s = 0 := by
  rcases k with ⟨k1, k2⟩ | ⟨k1, k2, -⟩ | ⟨k1, ⟨k4, k2, k3⟩ | ⟨k4, k2⟩⟩ | ⟨k1, k2, k3, k4⟩ | ⟨k1, k2 | ⟨k2, -⟩⟩
  · exact absurd k1 nz
  · rw [k2]; decide
  · rw [k2]; decide
  · rw [k2]; decide
  · rw [k2]; decide
  · rw [k2]; decide
  · rw [k2]; decide
set_option maxHeartbeats 1000000 in
theorem clause_law (S : clS t n T q j c g K hc hr) (hx : T[j]? = some x) (x1 : x.1 = 3) (x2 : x.2.1 = w) (lw : w < 5) (f0 : a_i hc (q + 5) w = -1) (no : ∀ k, k < K → ¬ a_i hr 143 k = nI w) (lK : K < 24) : cNx t n T q j K d e hc hr ∨ cFx q d e hc hr := by
  obtain ⟨C, ⟨w0, P⟩, KK, s28, s30, c4, -, lg, R, m3, m20⟩ := S
  have Z := C.1
  have lq := Z.2.1
  have lq2 := Z.2.2.1
  have ln := C.len
  have lc := C.2.2.2.2.2.1
  have sx := (P.tk hx).2.small
  have l1 := P.l hx (by omega)
  have hk : ¬ a_i hr 126 17 = 0 := (P.tk hx).2.nz (by omega)
  obtain ⟨y1, y2, -⟩ := C.tk hx
  -- the one side
  obtain ⟨h1, eh1⟩ : ∃ h1, h1 = adH hc q K w := ⟨_, rfl⟩
  have C1 : okC q T c j h1 := by rw [eh1]; exact adH_C C
  have X1 : cX q hc h1 := by rw [eh1]; exact adH_X lq
  have ad : ∀ Q, Cal (e + 63) mX9_addClause [.ref q, .int (nI w)] hc Q = Q none h1 := fun Q => by rw [eh1]; exact q_X9_addClause Z c4 lK
  obtain ⟨ce, C2, cf2⟩ := cq_come (d := e + 63) C1 l1
  obtain ⟨h2, eh2⟩ : ∃ h2, h2 = cmA h1 (j + 1) := ⟨_, rfl⟩
  rw [← eh2] at ce C2 cf2
  have go : ∀ Q, Cal (e + 64) mX7_readClause [.ref 86] hc Q = WP (e + 64) mX7_readClause 95 [some (.ref 86), some (.int (nI w))] [] h2 Q := fun Q => cl_go Z C1.1 (by rw [y1, x1]; rfl) (by rw [y2, x2]) (by omega) (fun _ => f0) c4 lK ad ce
  obtain ⟨h3, eh3⟩ : ∃ h3, h3 = lwA h2 q w (nI c) := ⟨_, rfl⟩
  have C3 : okC q T c (j + 1) h3 := by
    rw [eh3]
    exact (C2.up (by omega) (by omega) (by omega)).up (by omega) (by omega) (by omega)
  have X3 : cX q h2 h3 := by
    rw [eh3]
    exact (cX.up lq (Or.inl ⟨rfl, rfl⟩)).tr (cX.up lq (Or.inr ⟨by omega, by omega⟩))
  have X13 : cX q hc h3 := X1.tr (cf2.X.tr X3)
  have h35 : a_i h3 86 5 = nI w := by
    rw [eh3]
    unfold lwA
    rw [ine (by omega), ieq rfl rfl]
  have h3f : a_i h3 (q + 5) w = nI c := by
    rw [eh3]
    unfold lwA
    exact ieq rfl rfl
  have h3_i : ∀ p i, ¬ (p = 86 ∧ (i = 5 ∨ (10 ≤ i ∧ i ≤ 13))) → ¬ (p = q + 5 ∧ i = w) → ¬ (q + 1 ≤ p ∧ p ≤ q + 4 ∧ i = K) → ¬ (p = q ∧ i = 4) → ¬ (p = q ∧ i = 8) → ¬ (p = q + 7 ∧ c ≤ i) → a_i h3 p i = a_i hc p i := fun p i m1 m2 m3 m4 m5 m6 => by
    rw [eh3]
    unfold lwA
    rw [ine (by omega), ine (by omega), cf2.2.2 _ _ (by omega) (by omega) (by omega), eh1, adH_i m3 m4]
  have h3_1 : a_i h3 (q + 1) K = nI w := by
    rw [eh3]
    unfold lwA
    rw [ine (by omega), ine (by omega), cf2.2.2 _ _ (by omega) (by omega) (by omega), eh1]
    exact adH_o.1
  have h3_4 : a_i h3 q 4 = nI (K + 1) := by
    rw [eh3]
    unfold lwA
    rw [ine (by omega), ine (by omega), cf2.2.2 _ _ (by omega) (by omega) (by omega), eh1]
    exact adH_o.2
  have h28 : a_i h2 q 8 = nI c := C2.2.2.2.2.1
  -- the other side
  obtain ⟨g3, P3, KK3, sm3, al3, n143, n144, fr3, go3⟩ := rcl_go (d := d + 5) P hx x1 (by omega) KK s30 lK (fun _ m lm => by rw [x2]; exact no m lm)
  rw [x2] at P3 n143
  have gl := rcl_law (d := d + 5) P3 lw KK3
  obtain ⟨g4, eg4⟩ : ∃ g4, g4 = s_i (pfH g3 0 1) 126 28 1 := ⟨_, rfl⟩
  rw [← eg4] at gl
  have P4 : okP t n T w (j + 1) g4 := by rw [eg4]; exact P3.pf.st
  have K4 : okK g 1 0 0 g4 := by rw [eg4]; exact KK3.pf.st
  have X4 : rX hr g4 := by
    rw [eg4]
    refine ⟨⟨sm3.1, sm3.2.1, sm3.2.2⟩, al3, fun p i m1 m2 => ?_⟩
    rw [ine (by omega), pfH_i (by omega) (by omega), fr3 _ _ (by omega) (by omega)]
  have g4_i : ∀ p i, ¬ (p = 126 ∧ ((15 ≤ i ∧ i ≤ 18) ∨ i = 22 ∨ i = 28 ∨ i = 31)) → ¬ (p = 138 ∧ i = 0) → ¬ ((p = 143 ∨ p = 144) ∧ i = K) → a_i g4 p i = a_i hr p i := fun p i m1 m2 m3 => by
    rw [eg4, ine (by omega), pfH_i (by omega) (by omega), fr3 _ _ (by omega) (by omega)]
  have g4_143 : a_i g4 143 K = nI w := by rw [eg4, ine (by omega), pfH_i (by omega) (by omega)]; exact n143
  have g4_144 : a_i g4 144 K = nI g := by rw [eg4, ine (by omega), pfH_i (by omega) (by omega)]; exact n144
  have g4_28 : a_i g4 126 28 = 1 := by rw [eg4]; exact ieq rfl rfl
  have g4_138 : a_i g4 138 0 = 1 := by rw [eg4, ine (by omega)]; exact pfH_o.1
  have LP : ∀ Q, LPH d hr Q = LPH d g4 Q := fun Q => lp_4 P.R P.2.1 s28 hk (fun Q => by rw [go3, gl])
  have SM := (all_at (t := t) (n := n) (T := T) (q := q) (w := w) (c0 := c) (g0 := g) (d := d) lw (T.length - (j + 1)) (j + 1) (Nat.le_refl _)).2.2.1
  rcases SM 0 0 0 0 (e + 63) [] h3 g4 (by omega) (by omega) (by omega) (by omega) ⟨C3, h35, P4, K4, by omega⟩ g4_28 (by rw [g4_138]; decide) (fun m em => absurd em (by omega)) with ⟨j2, ws, hc5, hr5, hr6, x5, s1, s2, s3, s4, s5, s6, s7, s8⟩ | ⟨f, s, hc5, hr5, s1, s2, s3, s4⟩
  · obtain ⟨C5, cf5, wc5, P6, K6, rf6, wr6, lj, lj'⟩ := s2
    have C5 : okC q T (c + ws.length) j2 hc5 := C5
    have K6 : okK (g + ws.length) 1 0 0 hr6 := K6
    have cf5 : cF q c h3 hc5 := cf5
    have rf6 : rF 1 0 g g4 hr6 := rf6
    have sx5 := (P6.tk s7).2.small
    have ln5 := C5.len
    obtain ⟨h6, eh6⟩ : ∃ h6, h6 = s_i hc5 (q + 6) w (nI (c + ws.length)) := ⟨_, rfl⟩
    have C6 : okC q T (c + ws.length) j2 h6 := by
      rw [eh6]
      exact C5.up (by omega) (by omega) (by omega)
    have X6 : cX q hc h6 := X13.tr (cf5.X.tr (by rw [eh6]; exact cX.up lq (Or.inr ⟨by omega, by omega⟩)))
    have su : ∀ Q, Cal (e + 63) mX7_readSum [.ref 86, .int 0] (lwA h2 q w (nI c)) Q = Q none hc5 := fun Q => by rw [← eh3]; exact s1 Q
    have t138 : a_i hr6 138 0 = 1 := (rf6.2.2 _ _ (by omega) (by omega) (by omega) (by omega) (by omega) (by omega)).trans g4_138
    have t30 : a_i hr6 126 30 = nI K := (rf6.2.2 _ _ (by omega) (by omega) (by omega) (by omega) (by omega) (by omega)).trans ((g4_i _ _ (by omega) (by omega) (by omega)).trans s30)
    by_cases g59 : isS x5 59
    · left
      have l5 := P6.l s7 (by have := g59.1; omega)
      obtain ⟨ce6, C7, cf7⟩ := cq_come (d := e + 62) C6 l5
      obtain ⟨h7, eh7⟩ : ∃ h7, h7 = cmA h6 (j2 + 1) := ⟨_, rfl⟩
      have ex := ce1 (d := e + 62) C6 s7 sx5 l5 (y := 59) (z := 59) (by omega) rfl g59
      rw [← eh7] at ex C7 cf7
      rw [eh6] at ex
      obtain ⟨hr7, P7, K7, u28, u30, u148, usm, ual, ufr, ulp⟩ := go_over (d := d) s4 (by omega) P6 s7 K6 s6 t138 g59 t30 (by omega) (by omega)
      have run : ∀ Q, Cal (e + 64) mX7_readClause [.ref 86] hc Q = Q none h7 := fun Q => by
        rw [go, cl_law (d := e + 63) C2.1 lw h28 su C5.1 C5.2.2.2.2.1 ex]
      have rf7 : ∀ p i, ¬ (p = 126 ∧ 15 ≤ i ∧ i ≤ 37) → ¬ (138 ≤ p ∧ p ≤ 142) → ¬ ((p = 148 ∨ p = 149) ∧ g ≤ i) → a_i hr7 p i = a_i g4 p i := fun p i m1 m2 m3 => by
        rw [ufr _ _ (by omega) (by omega), rf6.2.2 _ _ (by omega) (by omega) (by omega) (by omega) (by omega) (by omega)]
      have cf7' : ∀ p i, ¬ (p = 86 ∧ 10 ≤ i ∧ i ≤ 13) → ¬ (p = q ∧ i = 8) → ¬ (p = q + 7 ∧ c ≤ i) → ¬ (p = q + 6 ∧ i = w) → a_i h7 p i = a_i h3 p i := fun p i m1 m2 m3 m4 => by
        rw [cf7.2.2 _ _ (by omega) (by omega) (by omega), eh6, ine (by omega), cf5.2.2 _ _ (by omega) (by omega) (by omega)]
      refine ⟨j2 + 1, c + ws.length, g + ws.length + 1, h7, hr7, by omega, run, ⟨C7, ⟨w, P7⟩, K7, u28, u30, ?_, by omega, by omega, ?_, ?_, ?_⟩, X6.tr cf7.X, X4.tr (rf6.X.tr ⟨usm, ual, fun p i m1 m2 => ufr _ _ (by omega) (by omega)⟩), fun Q => by rw [LP, s5, ulp]⟩
      · rw [cf7' _ _ (by omega) (by omega) (by omega) (by omega)]; exact h3_4
      · refine R.ext (w := w) (by omega) (by omega) (by omega) (fun p i m1 m2 m3 => ?_) (fun p i m1 m2 m3 => ?_) (fun i m1 => ?_) (fun p i m1 m2 m3 => ?_) (fun p i m1 m2 => ?_) ?_ ?_ (fun z => absurd z (by omega)) (fun z => absurd z (by omega)) (fun z => absurd z (by omega)) (fun _ => ⟨no, ws, Nat.le_refl _, by omega, ?_, ?_, ?_, ?_, ?_, ?_, s3⟩)
        · rw [cf7' _ _ (by omega) (by omega) (by omega) (by omega), h3_i _ _ (by omega) (by omega) (by omega) (by omega) (by omega) (by omega)]
        · rw [cf7' _ _ (by omega) (by omega) (by omega) (by omega), h3_i _ _ (by omega) (by omega) (by omega) (by omega) (by omega) (by omega)]
        · rw [cf7' _ _ (by omega) (by omega) (by omega) (by omega), h3_i _ _ (by omega) (by omega) (by omega) (by omega) (by omega) (by omega)]
        · rw [rf7 _ _ (by omega) (by omega) (by omega), g4_i _ _ (by omega) (by omega) (by omega)]
        · rw [rf7 _ _ (by omega) (by omega) (by omega), g4_i _ _ (by omega) (by omega) (by omega)]
        · rw [rf7 _ _ (by omega) (by omega) (by omega)]; exact g4_143
        · rw [cf7' _ _ (by omega) (by omega) (by omega) (by omega)]; exact h3_1
        · rw [cf7' _ _ (by omega) (by omega) (by omega) (by omega)]; exact h3f
        · rw [cf7.2.2 _ _ (by omega) (by omega) (by omega), eh6]
          exact ieq rfl rfl
        · rw [rf7 _ _ (by omega) (by omega) (by omega)]; exact g4_144
        · exact u148
        · intro i y ey
          have li := ix_lt ey
          rw [cf7.2.2 _ _ (by omega) (by omega) (by omega), eh6, ine (by omega)]
          exact wc5 i y ey
        · intro i y ey
          have li := ix_lt ey
          rw [ufr _ _ (by omega) (by omega), ufr _ _ (by omega) (by omega)]
          exact wr6 i y ey
      · rw [cf7' _ _ (by omega) (by omega) (by omega) (by omega), h3_i _ _ (by omega) (by omega) (by omega) (by omega) (by omega) (by omega)]; exact m3
      · rw [ufr _ _ (by omega) (by omega), rf6.2.2 _ _ (by omega) (by omega) (by omega) (by omega) (by omega) (by omega), g4_i _ _ (by omega) (by omega) (by omega)]; exact m20
    · right
      have F := C6.en s7 (f := 1) (by decide) (by omega)
      have ex := ce0 (d := e + 62) C6 s7 sx5 (y := 59) (z := 59) (by omega) rfl g59
      rw [eh6] at ex
      have run : ∀ Q, Cal (e + 64) mX7_readClause [.ref 86] hc Q = Q none (flA h6 1) := fun Q => by
        rw [go, cl_law (d := e + 63) C2.1 lw h28 su C5.1 C5.2.2.2.2.1 ex, ← eh6]
      obtain ⟨hr7, t1, t2⟩ := go_err (d := d) (m := 0) s4 P6 s7 K6.2.1 s6 (by omega) s8 (Or.inr (Or.inr (Or.inr (Or.inr ⟨t138, g59⟩))))
      exact ⟨1, nI x5.2.2, _, hr7, run, flX.re X6 F.X, fun Q => by rw [LP, s5]; exact t2 Q, flR.rx (X4.tr rf6.X) (t1.ve s4)⟩
  · right
    obtain ⟨c5, lc5, hc58⟩ := s2.2.2.2.2.2.2.1
    have Z5 : tQ q hc5 := s2.C C3.1
    have F6 : flX q f s hc (s_i hc5 (q + 6) w (nI c5)) := (flX.re X13 s2.X).up lq (Or.inr ⟨by omega, by omega⟩) (by omega)
    have ex : ∀ Q, Cal (e + 63) mX7_expectSign [.ref 86, .int 59] (s_i hc5 (q + 6) w (nI c5)) Q = Q none (s_i hc5 (q + 6) w (nI c5)) := fun Q => fl_eS (d := e + 62) F6.S (Z5.sm sm.rf)
    have su : ∀ Q, Cal (e + 63) mX7_readSum [.ref 86, .int 0] (lwA h2 q w (nI c)) Q = Q none hc5 := fun Q => by rw [← eh3]; exact s1 Q
    exact ⟨f, s, _, hr5, fun Q => by rw [go, cl_law (d := e + 63) C2.1 lw h28 su Z5 hc58 ex], F6, fun Q => by rw [LP]; exact s3 Q, flR.rx X4 s4⟩
set_option maxHeartbeats 1000000 in
theorem clause_act (S : clS t n T q j c g K hc hr) (hx : T[j]? = some x) (x1 : x.1 = 3) (x2 : x.2.1 = w) (lw : 5 ≤ w ∧ w ≤ 10) (lK : K < 24) : cNx t n T q j K d e hc hr ∨ cFx q d e hc hr := by
  obtain ⟨C, ⟨w0, P⟩, KK, s28, s30, c4, -, lg, R, m3, m20⟩ := S
  have Z := C.1
  have lq := Z.2.1
  have lq2 := Z.2.2.1
  have ln := C.len
  have lc := C.2.2.2.2.2.1
  have sx := (P.tk hx).2.small
  have l1 := P.l hx (by omega)
  have hk : ¬ a_i hr 126 17 = 0 := (P.tk hx).2.nz (by omega)
  obtain ⟨y1, y2, -⟩ := C.tk hx
  obtain ⟨h1, eh1⟩ : ∃ h1, h1 = adH hc q K w := ⟨_, rfl⟩
  have C1 : okC q T c j h1 := by rw [eh1]; exact adH_C C
  have X1 : cX q hc h1 := by rw [eh1]; exact adH_X lq
  have ad : ∀ Q, Cal (e + 63) mX9_addClause [.ref q, .int (nI w)] hc Q = Q none h1 := fun Q => by rw [eh1]; exact q_X9_addClause Z c4 lK
  obtain ⟨ce, C2, cf2⟩ := cq_come (d := e + 63) C1 l1
  obtain ⟨h2, eh2⟩ : ∃ h2, h2 = cmA h1 (j + 1) := ⟨_, rfl⟩
  rw [← eh2] at ce C2 cf2
  have go : ∀ Q, Cal (e + 64) mX7_readClause [.ref 86] hc Q = WP (e + 64) mX7_readClause 95 [some (.ref 86), some (.int (nI w))] [] h2 Q := fun Q => cl_go Z C1.1 (by rw [y1, x1]; rfl) (by rw [y2, x2]) (by omega) (fun z => absurd z (by omega)) c4 lK ad ce
  have h24 : a_i h2 q 4 = nI (K + 1) := by
    rw [cf2.2.2 _ _ (by omega) (by omega) (by omega), eh1]; exact adH_o.2
  have h21 : a_i h2 (q + 1) K = nI w := by
    rw [cf2.2.2 _ _ (by omega) (by omega) (by omega), eh1]; exact adH_o.1
  have h2_i : ∀ p i, ¬ (p = 86 ∧ 10 ≤ i ∧ i ≤ 13) → ¬ (q + 1 ≤ p ∧ p ≤ q + 4 ∧ i = K) → ¬ (p = q ∧ i = 4) → ¬ (p = q ∧ i = 8) → ¬ (p = q + 7 ∧ c ≤ i) → a_i h2 p i = a_i hc p i := fun p i m1 m2 m3 m4 m5 => by
    rw [cf2.2.2 _ _ (by omega) (by omega) (by omega), eh1, adH_i m2 m3]
  obtain ⟨g3, P3, KK3, sm3, al3, n143, n144, fr3, go3⟩ := rcl_go (d := d + 5) P hx x1 (by omega) KK s30 lK (fun z => absurd z (by omega))
  rw [x2] at P3 n143
  have X3 : rX hr g3 := ⟨sm3, al3, fun p i m1 m2 => fr3 _ _ (by omega) (by omega)⟩
  have g330 : a_i g3 126 30 = nI K := (fr3 _ _ (by omega) (by omega)).trans s30
  have X2 : cX q hc h2 := X1.tr cf2.X
  rcases act_at (d := d + 3) (e := e + 61) C2 P3 (by omega) lw h24 g330 lK with ⟨j', hc3, hr4, a1, a2, a3, a4, a5, a6, a7, a8, a9, a10⟩ | ⟨f, s, hc3, hr4, a1, a2, a3, a4⟩
  · obtain ⟨b1, b2, b3⟩ := a6
    obtain ⟨d1, d2, d3⟩ := a7
    obtain ⟨x5, hx5⟩ : ∃ x5, T[j']? = some x5 := ⟨_, List.getElem?_eq_getElem a4.len.1⟩
    have sx5 := (a5.tk hx5).2.small
    have ln5 := a4.len
    have ra := rcl_a (d := d + 5) P3 lw a3
    have X4 : cX q h2 hc3 := ⟨b1, b2, fun p i m1 m2 => b3 _ _ (by omega) (by omega) (by omega) (by omega)⟩
    have Y4 : rX g3 hr4 := ⟨d1, d2, fun p i m1 m2 => d3 _ _ (by omega) (by omega)⟩
    have K4 : okK g 0 0 0 hr4 := by
      obtain ⟨k1, k2, k3, k4, k5⟩ := KK3
      exact ⟨by rw [d3 _ _ (by omega) (by omega)]; exact k1, by rw [d3 _ _ (by omega) (by omega)]; exact k2, by rw [d3 _ _ (by omega) (by omega)]; exact k3, by rw [d3 _ _ (by omega) (by omega)]; exact k4, fun i hi => absurd hi (by omega)⟩
    have t30 : a_i hr4 126 30 = nI K := (d3 _ _ (by omega) (by omega)).trans g330
    by_cases g59 : isS x5 59
    · left
      have l5 := a5.l hx5 (by have := g59.1; omega)
      obtain ⟨ce6, C7, cf7⟩ := cq_come (d := e + 62) a4 l5
      obtain ⟨h7, eh7⟩ : ∃ h7, h7 = cmA hc3 (j' + 1) := ⟨_, rfl⟩
      have ex := ce1 (d := e + 62) a4 hx5 sx5 l5 (y := 59) (z := 59) (by omega) rfl g59
      rw [← eh7] at ex C7 cf7
      have run : ∀ Q, Cal (e + 64) mX7_readClause [.ref 86] hc Q = Q none h7 := fun Q => by
        rw [go, cl_act (d := e + 63) C2.1.1 a4.1.1 lw a2 ex]
      have W : ∀ Q, Cal (d + 7) mX12_works [.ref 126, .int 1] hr4 Q = Q none hr4 := fun Q => works_stop (d := d + 6) (k := 1) (r := 1) a5.R K4 (fun m em => absurd em (by omega)) (by omega) (by omega) (Nat.le_refl _) (by omega)
      obtain ⟨hr7, u1, P7, K7, u28, u30, u148, usm, ual, ufr⟩ := rq_over (d := d + 4) a5.R W a5 hx5 (by have := g59.1; omega) K4 t30 (by omega) (by omega)
      have ra3 := rcl_a3 (d := d + 5) a5 hx5 g59 u1
      have cf7' : ∀ p i, ¬ (p = 86 ∧ 10 ≤ i ∧ i ≤ 13) → ¬ (p = q ∧ i = 8) → ¬ (p = q + 7 ∧ c ≤ i) → ¬ (q + 2 ≤ p ∧ p ≤ q + 4 ∧ i = K) → a_i h7 p i = a_i h2 p i := fun p i m1 m2 m3 m4 => by
        rw [cf7.2.2 _ _ (by omega) (by omega) (by omega), b3 _ _ m1 m2 m3 m4]
      have rf7 : ∀ p i, ¬ (p = 126 ∧ 15 ≤ i ∧ i ≤ 37) → ¬ ((p = 148 ∨ p = 149) ∧ g ≤ i) → a_i hr7 p i = a_i hr4 p i := fun p i m1 m2 => ufr _ _ (by omega) (by omega)
      refine ⟨j' + 1, c, g + 1, h7, hr7, by omega, run, ⟨C7, ⟨w, P7⟩, K7, u28, u30, ?_, by omega, by omega, ?_, ?_, ?_⟩, X2.tr (X4.tr cf7.X), X3.tr (Y4.tr ⟨usm, ual, fun p i m1 m2 => ufr _ _ (by omega) (by omega)⟩), fun Q => lp_4 P.R P.2.1 s28 hk (fun Q => by rw [go3, ra, ra3])⟩
      · rw [cf7' _ _ (by omega) (by omega) (by omega) (by omega)]; exact h24
      · refine R.ext (w := w) (by omega) (Nat.le_refl _) (by omega) (fun p i m1 m2 m3 => ?_) (fun p i m1 m2 m3 => ?_) (fun i m1 => ?_) (fun p i m1 m2 m3 => ?_) (fun p i m1 m2 => ?_) ?_ ?_ (fun z => ?_) (fun z => ?_) (fun z => ?_) (fun z => absurd z (by omega))
        · rw [cf7' _ _ (by omega) (by omega) (by omega) (by omega), h2_i _ _ (by omega) (by omega) (by omega) (by omega) (by omega)]
        · rw [cf7' _ _ (by omega) (by omega) (by omega) (by omega), h2_i _ _ (by omega) (by omega) (by omega) (by omega) (by omega)]
        · rw [cf7' _ _ (by omega) (by omega) (by omega) (by omega), h2_i _ _ (by omega) (by omega) (by omega) (by omega) (by omega)]
        · rw [rf7 _ _ (by omega) (by omega), d3 _ _ (by omega) (by omega), fr3 _ _ (by omega) (by omega)]
        · rw [rf7 _ _ (by omega) (by omega), d3 _ _ (by omega) (by omega), fr3 _ _ (by omega) (by omega)]
        · rw [rf7 _ _ (by omega) (by omega), d3 _ _ (by omega) (by omega)]; exact n143
        · rw [cf7' _ _ (by omega) (by omega) (by omega) (by omega)]; exact h21
        · rw [cf7.2.2 _ _ (by omega) (by omega) (by omega), rf7 _ _ (by omega) (by omega)]; exact a8
        · rw [cf7.2.2 _ _ (by omega) (by omega) (by omega), rf7 _ _ (by omega) (by omega)]; exact a9 z
        · rw [cf7.2.2 _ _ (by omega) (by omega) (by omega), rf7 _ _ (by omega) (by omega)]; exact a10 z
      · rw [cf7' _ _ (by omega) (by omega) (by omega) (by omega), h2_i _ _ (by omega) (by omega) (by omega) (by omega) (by omega)]; exact m3
      · rw [ufr _ _ (by omega) (by omega), d3 _ _ (by omega) (by omega), fr3 _ _ (by omega) (by omega)]; exact m20
    · right
      have F := a4.en hx5 (f := 1) (by decide) (by omega)
      have ex := ce0 (d := e + 62) a4 hx5 sx5 (y := 59) (z := 59) (by omega) rfl g59
      obtain ⟨hr7, t1, t2⟩ := rcl_a2 (d := d + 5) a5 hx5 g59
      exact ⟨1, nI x5.2.2, _, hr7, fun Q => by rw [go, cl_act (d := e + 63) C2.1.1 a4.1.1 lw a2 ex], flX.re (X2.tr X4) F.X, fun Q => lp_4 P.R P.2.1 s28 hk (fun Q => by rw [go3, ra, t1]), flR.rx (X3.tr Y4) t2⟩
  · right
    have ra := rcl_a (d := d + 5) P3 lw a3
    have Z3 : tQ q hc3 := C2.1.sm a2.2.1.1
    have hR4 : sh_R (a_t hr4) (a_r hr4) := by rw [a4.2.1.1, a4.2.1.2.1]; exact P3.R
    have r1 := rcl_a1 (d := d + 5) hR4 (by rw [a4.2.2.2.1]; exact a4.1)
    exact ⟨f, s, hc3, hr4, fun Q => by rw [go, cl_act (d := e + 63) C2.1.1 Z3.1 lw a1 (fun Q => fl_eS (d := e + 62) a2.S Z3)], flX.re X2 a2, fun Q => lp_4 P.R P.2.1 s28 hk (fun Q => by rw [go3, ra, r1]), flR.rx X3 a4⟩
theorem clause_at (S : clS t n T q j c g K hc hr) (hx : T[j]? = some x) (nz : ¬ x.1 = 0) : cNx t n T q j K d e hc hr ∨ cFx q d e hc hr := by
  obtain ⟨C, ⟨w0, P⟩, KK, s28, s30, c4, lK, lg, R, -, -⟩ := id S
  have hC := C.1.1
  have Z := C.1
  have ln := C.len
  have lc := C.2.2.2.2.2.1
  have sx := (P.tk hx).2.small
  have hk : ¬ a_i hr 126 17 = 0 := (P.tk hx).2.nz nz
  obtain ⟨y1, y2, -⟩ := C.tk hx
  by_cases c1 : x.1 = 3 ∧ x.2.1 ≤ 10
  · obtain ⟨x1, x2⟩ := c1
    have k10 : a_i hc 86 10 = 3 := by rw [y1, x1]; rfl
    by_cases lw : x.2.1 < 5
    · rcases R.2 x.2.1 lw with ⟨b1, b2⟩ | ⟨k, f, xx, ws, b1, b2, b3, b4, b5, b6, b7, b8, b9, b10, b11, b12⟩
      · by_cases l24 : K < 24
        · exact clause_law S hx x1 rfl lw b1 b2 l24
        · have : K = 24 := by omega
          subst this
          right
          obtain ⟨hr', r1, r2⟩ := rcl_6 (d := d + 5) P hx x1 x2 s30 (fun _ => b2)
          exact ⟨6, nI x.2.2, _, hr', fun Q => cl_6 (d := e + 63) Z k10 y2 x2 (fun _ => b1) c4 (fun Q => q_X7_fails hC), (C.en hx (by decide) (by omega)).X, fun Q => lp_4 P.R P.2.1 s28 hk r1, r2⟩
      · right
        obtain ⟨hr', r1, r2⟩ := rcl_4 (d := d + 5) P hx x1 lw s30 lK b1 b2
        exact ⟨4, nI x.2.2, _, hr', fun Q => cl_4 (d := e + 63) Z k10 y2 lw (by rw [b6, nI_n1 (by omega)]; exact fun z => z) (fun Q => q_X7_fails hC), (C.en hx (by decide) (by omega)).X, fun Q => lp_4 P.R P.2.1 s28 hk r1, r2⟩
    · by_cases l24 : K < 24
      · exact clause_act S hx x1 rfl ⟨by omega, x2⟩ l24
      · have : K = 24 := by omega
        subst this
        right
        obtain ⟨hr', r1, r2⟩ := rcl_6 (d := d + 5) P hx x1 x2 s30 (fun z => absurd z lw)
        exact ⟨6, nI x.2.2, _, hr', fun Q => cl_6 (d := e + 63) Z k10 y2 x2 (fun z => absurd z lw) c4 (fun Q => q_X7_fails hC), (C.en hx (by decide) (by omega)).X, fun Q => lp_4 P.R P.2.1 s28 hk r1, r2⟩
  · right
    have nb : ¬ (a_i hc 86 10 = 3 ∧ a_i hc 86 11 ≤ 10) := by
      rw [y1, y2, show (3 : Int32) = nI 3 from rfl, nI_inj (by have := sx.1; omega) (by omega)]
      rintro ⟨z1, z2⟩
      rw [show (10 : Int32) = nI 10 from rfl, nI_lE (by have := sx.2 (by omega); omega) (by omega)] at z2
      exact c1 ⟨z1, z2⟩
    obtain ⟨hr', r1, r2⟩ := rcl_1 (d := d + 5) P hx c1
    exact ⟨1, nI x.2.2, _, hr', fun Q => cl_1 (d := e + 63) hC nb (fun Q => q_X7_fails hC), (C.en hx (by decide) (by omega)).X, fun Q => lp_4 P.R P.2.1 s28 hk r1, r2⟩
end CLAUSES
