/-! both sides read the numbers of a doing -/
section ACT
variable {t : Nat → Nat} {T : List (Nat × Nat × Nat)} {n q w c g j j' K d e lo hi y : Nat} {h h' h'' hc hc' hc1 hc2 hr hr' hr1 : am_h} {Q : Option Value → am_h → Prop} {x : Nat × Nat × Nat} {f s v a b : Int32}
/-- what reading clauses changes -/
def cX (q : Nat) (h h' : am_h) : Prop := sm h h' ∧ a_l h' = a_l h ∧ ∀ p i, ¬ (p = 86 ∧ (i = 2 ∨ i = 3 ∨ i = 5 ∨ (10 ≤ i ∧ i ≤ 13))) → ¬ (q ≤ p ∧ p ≤ q + 7) → a_i h' p i = a_i h p i
theorem cX.rf : cX q h h := ⟨sm.rf, rfl, fun _ _ _ _ => rfl⟩
theorem cX.tr (k1 : cX q h h') (k2 : cX q h' h'') : cX q h h'' := ⟨k1.1.tr k2.1, k2.2.1.trans k1.2.1, fun p i n1 n2 => (k2.2.2 p i n1 n2).trans (k1.2.2 p i n1 n2)⟩
theorem cF.X (k : cF q c h h') : cX q h h' := ⟨k.1, k.2.1, fun p i n1 n2 => k.2.2 p i (by omega) (by omega) (by omega)⟩
/-- after a fault, between clauses -/
def flX (q : Nat) (f s : Int32) (h h' : am_h) : Prop := ¬ f = 0 ∧ cX q h h' ∧ a_i h' 86 2 = f ∧ a_i h' 86 3 = s ∧ a_i h' 86 10 = 1 ∧ ∃ c, c ≤ 300 ∧ a_i h' q 8 = nI c
theorem flS.X (k : flS q f s h h') : flX q f s h h' := by
  obtain ⟨z1, z2, z3, z4, z5, z6, z7, z8⟩ := k
  exact ⟨z1, ⟨z2, z3, fun p i n1 n2 => z8 p i (by omega) (by omega) (by omega)⟩, z4, z5, z6, z7⟩
theorem flX.S (k : flX q f s h h') : flS q f s h' h' := by
  obtain ⟨z1, z2, z3, z4, z5, z6⟩ := k
  exact ⟨z1, sm.rf, rfl, z3, z4, z5, z6, fun _ _ _ _ _ => rfl⟩
theorem flX.re (k1 : cX q h h') (k2 : flX q f s h' h'') : flX q f s h h'' := by
  obtain ⟨z1, z2, z3, z4, z5, z6⟩ := k2
  exact ⟨z1, k1.tr z2, z3, z4, z5, z6⟩
/-- a number, on both sides -/
theorem nj (P : okP t n T w j hr) (C : okC q T c j hc) (l3 : c ≤ 300) (ll : lo ≤ 9999) (lh : hi ≤ 9999) :
    (∃ (v : Int32) (hc' hr' : am_h), (∀ Q, Cal (e + 1) mX7_expectNumber [.ref 86, .int (nI lo), .int (nI hi)] hc Q = Q (some (.int v)) hc') ∧ (∀ Q, Cal (d + 3) mX12_number [.ref 126, .int (nI lo), .int (nI hi)] hr Q = Q (some (.int v)) hr') ∧ okC q T c (j + 1) hc' ∧ cF q c hc hc' ∧ okP t n T w (j + 1) hr' ∧ nxR hr hr')
    ∨ ∃ (f s : Int32) (hc' hr' : am_h), (∀ Q, Cal (e + 1) mX7_expectNumber [.ref 86, .int (nI lo), .int (nI hi)] hc Q = Q (some (.int 0)) hc') ∧ flS q f s hc hc' ∧ (∀ Q, Cal (d + 3) mX12_number [.ref 126, .int (nI lo), .int (nI hi)] hr Q = Q (some (.int (nI lo))) hr') ∧ flR f s hr hr' ∧ a_i hr' 126 30 = a_i hr 126 30 := by
  obtain ⟨x, hx⟩ : ∃ x, T[j]? = some x := ⟨_, List.getElem?_eq_getElem C.len.1⟩
  have sx := (P.tk hx).2.small
  by_cases x1 : x.1 = 2
  · have l1 := P.l hx (by omega)
    by_cases x2 : lo ≤ x.2.1 ∧ x.2.1 ≤ hi
    · left
      obtain ⟨c1, c2, c3⟩ := cq_come (d := e) C l1
      obtain ⟨hr', r1, r2, r3⟩ := nm_ok (d := d) P hx x1 x2 lh
      exact ⟨_, _, hr', fun Q => cq_num C hx sx l1 x1 x2 (by omega), r1, c2, c3, r2, r3⟩
    · right
      obtain ⟨hr', r1, r2, r3⟩ := nm_2 (d := d) P hx x1 x2 ll lh
      exact ⟨2, nI x.2.2, _, hr', fun Q => cq_num2 C hx sx l1 x1 x2 (by omega) (by omega), C.en hx (by decide) l3, r1, r2, r3⟩
  · right
    obtain ⟨hr', r1, r2, r3⟩ := nm_1 (d := d) (a := nI lo) (b := nI hi) P hx x1
    exact ⟨1, nI x.2.2, _, hr', fun Q => cq_num1 C hx sx x1, C.en hx (by decide) l3, r1, r2, r3⟩
/-- a word and the number behind it, on both sides -/
theorem nbj (P : okP t n T w j hr) (C : okC q T c j hc) (l3 : c ≤ 300) (ll : lo ≤ 9999) (lh : hi ≤ 9999) (ly : y < 32) :
    (∃ (v : Int32) (hc1 hc' hr' : am_h), (∀ Q, Cal (e + 1) mX7_expectWord [.ref 86, .int (nI y)] hc Q = Q none hc1) ∧ sm hc hc1 ∧ (∀ Q, Cal (e + 1) mX7_expectNumber [.ref 86, .int (nI lo), .int (nI hi)] hc1 Q = Q (some (.int v)) hc') ∧ (∀ Q, Cal (d + 4) mX12_numberBehind [.ref 126, .int (nI (wm y)), .int (nI lo), .int (nI hi)] hr Q = Q (some (.int v)) hr') ∧ okC q T c (j + 2) hc' ∧ cF q c hc hc' ∧ okP t n T w (j + 2) hr' ∧ nxR hr hr')
    ∨ ∃ (f s u : Int32) (hc1 hc' hr' : am_h), (∀ Q, Cal (e + 1) mX7_expectWord [.ref 86, .int (nI y)] hc Q = Q none hc1) ∧ sm hc hc1 ∧ (∀ Q, Cal (e + 1) mX7_expectNumber [.ref 86, .int (nI lo), .int (nI hi)] hc1 Q = Q (some (.int u)) hc') ∧ flS q f s hc hc' ∧ (∀ Q, Cal (d + 4) mX12_numberBehind [.ref 126, .int (nI (wm y)), .int (nI lo), .int (nI hi)] hr Q = Q (some (.int (nI lo))) hr') ∧ flR f s hr hr' ∧ a_i hr' 126 30 = a_i hr 126 30 := by
  obtain ⟨x, hx⟩ : ∃ x, T[j]? = some x := ⟨_, List.getElem?_eq_getElem C.len.1⟩
  have sx := (P.tk hx).2.small
  by_cases x1 : isW x y
  · have l1 := P.l hx (by have := x1.1; omega)
    obtain ⟨c1, c2, c3⟩ := cq_come (d := e) C l1
    obtain ⟨h1, r1, r2, r3⟩ := nb_ok (d := d) (a := nI lo) (b := nI hi) P hx ly x1
    have ew := cx1 (d := e) C hx sx l1 (y := y) (by omega) rfl x1
    rcases nj (d := d) (e := e) r1 c2 l3 ll lh with ⟨v, hc', hr', s1, s2, s3, s4, s5, s6⟩ | ⟨f, s, hc', hr', s1, s2, s3, s4, s5⟩
    · exact Or.inl ⟨v, _, hc', hr', ew, c3.1, s1, r3 v hr' s2, s3, c3.tr s4 (Nat.le_refl _), s5, r2.tr s6⟩
    · exact Or.inr ⟨f, s, 0, _, hc', hr', ew, c3.1, s1, flS.re c3 s2, r3 _ hr' s3, flR.rx r2.X s4, s5.trans (r2.2.2 _ _ (by omega))⟩
  · right
    have F := C.en hx (f := 1) (by decide) l3
    obtain ⟨hr', r1, r2, r3⟩ := nb_1 (d := d) (a := nI lo) (b := nI hi) P hx ly x1
    exact ⟨1, nI x.2.2, 0, _, _, hr', cx0 (d := e) C hx sx (y := y) (by omega) rfl x1, F.2.1, fun Q => fl_eN F C.1, F, r1, r2, r3⟩
/-- a doing is read -/
def actG (t : Nat → Nat) (n : Nat) (T : List (Nat × Nat × Nat)) (q w c j K d e : Nat) (hc hr : am_h) : Prop :=
  (∃ (j' : Nat) (hc' hr' : am_h), j < j' ∧ (∀ Q, Cal (e + 2) mX7_readAct [.ref 86, .int (nI w)] hc Q = Q none hc') ∧ (∀ Q, Cal (d + 5) mX12_doing [.ref 126] hr Q = Q none hr') ∧ okC q T c j' hc' ∧ okP t n T w j' hr' ∧ (sm hc hc' ∧ a_l hc' = a_l hc ∧ ∀ p i, ¬ (p = 86 ∧ 10 ≤ i ∧ i ≤ 13) → ¬ (p = q ∧ i = 8) → ¬ (p = q + 7 ∧ c ≤ i) → ¬ (q + 2 ≤ p ∧ p ≤ q + 4 ∧ i = K) → a_i hc' p i = a_i hc p i) ∧ (sm hr hr' ∧ a_l hr' = a_l hr ∧ ∀ p i, ¬ (p = 126 ∧ 15 ≤ i ∧ i ≤ 18) → ¬ (145 ≤ p ∧ p ≤ 147 ∧ i = K) → a_i hr' p i = a_i hr p i) ∧ a_i hc' (q + 2) K = a_i hr' 145 K ∧ (w = 5 ∨ w = 9 → a_i hc' (q + 3) K = a_i hr' 146 K) ∧ (w = 9 → a_i hc' (q + 4) K = a_i hr' 147 K))
  ∨ ∃ (f s : Int32) (hc' hr' : am_h), (∀ Q, Cal (e + 2) mX7_readAct [.ref 86, .int (nI w)] hc Q = Q none hc') ∧ flX q f s hc hc' ∧ (∀ Q, Cal (d + 5) mX12_doing [.ref 126] hr Q = Q none hr') ∧ flR f s hr hr'
def snH (h : am_h) (q K : Nat) (a b c : Int32) : am_h := s_i (s_i (s_i h (q + 2) K a) (q + 3) K b) (q + 4) K c
theorem snH_i {p i : Nat} {c : Int32} (n1 : ¬ (q + 2 ≤ p ∧ p ≤ q + 4 ∧ i = K)) : a_i (snH h q K a b c) p i = a_i h p i := by
  unfold snH
  rw [ine (by omega), ine (by omega), ine (by omega)]
theorem snH_o {c : Int32} : a_i (snH h q K a b c) (q + 2) K = a ∧ a_i (snH h q K a b c) (q + 3) K = b ∧ a_i (snH h q K a b c) (q + 4) K = c := by
  unfold snH
  exact ⟨by rw [ine (by omega), ine (by omega), ieq rfl rfl], by rw [ine (by omega), ieq rfl rfl], ieq rfl rfl⟩
theorem dnH_i {p i : Nat} {c : Int32} (n1 : ¬ (145 ≤ p ∧ p ≤ 147 ∧ i = K)) : a_i (dnH h K a b c) p i = a_i h p i := by
  unfold dnH
  rw [ine (by omega), ine (by omega), ine (by omega)]
theorem dnH_o {c : Int32} : a_i (dnH h K a b c) 145 K = a ∧ a_i (dnH h K a b c) 146 K = b ∧ a_i (dnH h K a b c) 147 K = c := by
  unfold dnH
  exact ⟨by rw [ine (by omega), ine (by omega), ieq rfl rfl], by rw [ine (by omega), ieq rfl rfl], ieq rfl rfl⟩
theorem okC.sN {v1 v2 v3 : Int32} (C : okC q T c j h) : okC q T c j (snH h q K v1 v2 v3) := by
  obtain ⟨Z, z2, z3, z4, z5, z6, x', ex, y1, y2, y3⟩ := C
  obtain ⟨-, l2, l3, -⟩ := id Z
  exact ⟨Z.sm sm.rf, ⟨by rw [snH_i (by omega)]; exact z2.1, z2.2.1, fun i x e => by rw [snH_i (by omega), snH_i (by omega), snH_i (by omega)]; exact z2.2.2 i x e⟩, by rw [snH_i (by omega)]; exact z3, by rw [snH_i (by omega)]; exact z4, by rw [snH_i (by omega)]; exact z5, z6, x', ex, by rw [snH_i (by omega)]; exact y1, by rw [snH_i (by omega)]; exact y2, by rw [snH_i (by omega)]; exact y3⟩
theorem okP.dn {v1 v2 v3 : Int32} (P : okP t n T w j h) : okP t n T w j (dnH h K v1 v2 v3) := P.fr sm.rf (fun k hk => dnH_i (by omega)) (fun k => dnH_i (by omega))
theorem flX.sN {v1 v2 v3 : Int32} (F : flX q f s h h') (lq : 94 ≤ q) : flX q f s h (snH h' q K v1 v2 v3) := by
  obtain ⟨z1, z2, z3, z4, z5, c, z6, z7⟩ := F
  refine ⟨z1, z2.tr ⟨sm.rf, rfl, fun p i n1 n2 => snH_i (by omega)⟩, by rw [snH_i (by omega)]; exact z3, by rw [snH_i (by omega)]; exact z4, by rw [snH_i (by omega)]; exact z5, c, z6, by rw [snH_i (by omega)]; exact z7⟩
theorem flR.dn {v1 v2 v3 : Int32} (F : flR f s h h') : flR f s h (dnH h' K v1 v2 v3) := F.xr ⟨sm.rf, rfl, fun p i n1 n2 => dnH_i (by omega)⟩ (dnH_i (by omega)) (dnH_i (by omega))
/-- its end, where all came -/
theorem act_ok {v1 v2 v3 u2 u3 : Int32} (C : okC q T c j hc) (P : okP t n T w j hr) (Cj : okC q T c j' hc1) (Pj : okP t n T w j' hr1) (lj : j < j') (cf : cF q c hc hc1) (nx : nxR hr hr1) (r1 : ∀ Q, Cal (e + 2) mX7_readAct [.ref 86, .int (nI w)] hc Q = Q none (snH hc1 q K v1 v2 v3)) (r2 : ∀ Q, Cal (d + 5) mX12_doing [.ref 126] hr Q = Q none (dnH hr1 K v1 u2 u3)) (e2 : w = 5 ∨ w = 9 → v2 = u2) (e3 : w = 9 → v3 = u3) : actG t n T q w c j K d e hc hr := by
  refine Or.inl ⟨j', _, _, lj, r1, r2, Cj.sN, Pj.dn, ⟨⟨cf.1.1, cf.1.2.1, cf.1.2.2⟩, cf.2.1, fun p i n1 n2 n3 n4 => ?_⟩, ⟨⟨nx.1.1, nx.1.2.1, nx.1.2.2⟩, nx.2.1, fun p i n1 n2 => ?_⟩, ?_, fun z => ?_, fun z => ?_⟩
  · rw [snH_i n4]; exact cf.2.2 p i n1 n2 n3
  · rw [dnH_i n2]; exact nx.2.2 p i n1
  · rw [snH_o.1, dnH_o.1]
  · rw [snH_o.2.1, dnH_o.2.1]; exact e2 z
  · rw [snH_o.2.2, dnH_o.2.2]; exact e3 z
theorem act_bad {v1 v2 v3 u1 u2 u3 : Int32} (C : okC q T c j hc) (F : flX q f s hc hc1) (G : flR f s hr hr1) (r1 : ∀ Q, Cal (e + 2) mX7_readAct [.ref 86, .int (nI w)] hc Q = Q none (snH hc1 q K v1 v2 v3)) (r2 : ∀ Q, Cal (d + 5) mX12_doing [.ref 126] hr Q = Q none (dnH hr1 K u1 u2 u3)) : actG t n T q w c j K d e hc hr :=
  Or.inr ⟨f, s, _, _, r1, F.sN C.1.2.1, r2, G.dn⟩
theorem set_n (Z : tQ q h) (h4 : a_i h q 4 = nI (K + 1)) (lK : K < 24) {v1 v2 v3 : Int32} : ∀ Q, Cal e mX9_setNumbers [.ref q, .int v1, .int v2, .int v3] h Q = Q none (snH h q K v1 v2 v3) := fun Q => q_X9_setNumbers Z h4 lK
set_option maxHeartbeats 1000000 in
theorem act_at (C : okC q T c j hc) (P : okP t n T w j hr) (l3 : c ≤ 300) (lw : 5 ≤ w ∧ w ≤ 10) (h4 : a_i hc q 4 = nI (K + 1)) (hK : a_i hr 126 30 = nI K) (lK : K < 24) : actG t n T q w c j K d e hc hr := by
  have Z := C.1
  have lq := Z.2.1
  have hR := P.R
  have e31 : a_i hr 126 31 = nI w := P.2.2.1
  have c4 : ∀ {h'}, cF q c hc h' → a_i h' q 4 = nI (K + 1) := fun cf => (cf.2.2 _ _ (by omega) (by omega) (by omega)).trans h4
  have f4 : ∀ {f s h'}, flS q f s hc h' → a_i h' q 4 = nI (K + 1) := fun F => (F.2.2.2.2.2.2.2 _ _ (by omega) (by omega) (by omega)).trans h4
  have k4 : ∀ {h'}, nxR hr h' → a_i h' 126 30 = nI K := fun nx => (nx.2.2 _ _ (by omega)).trans hK
  have g4 : ∀ {f s h'}, flR f s hr h' → sh_R (a_t h') (a_r h') ∧ 0 < a_i h' 126 19 := fun F => ⟨by rw [F.2.1.1, F.2.1.2.1]; exact hR, by rw [F.2.2.2.1]; exact F.1⟩
  have five : w = 5 ∨ w = 8 ∨ w = 9 ∨ (w = 6 ∨ w = 7 ∨ w = 10) := by omega
  rcases five with ew | ew | ew | ew
  · subst ew
    rcases nj (d := d + 1) (e := e) (lo := 0) (hi := 3) P C l3 (by omega) (by omega) with ⟨v1, hc1, hr1, a1, a2, a3, a4, a5, a6⟩ | ⟨f, s, hc1, hr1, a1, a2, a3, a4, a5⟩
    · rcases nbj (d := d) (e := e) (lo := 1) (hi := 99) (y := 11) a5 a3 l3 (by omega) (by omega) (by omega) with ⟨v2, hc2, hc3, hr2, b1, b2, b3, b4, b5, b6, b7, b8⟩ | ⟨f, s, u, hc2, hc3, hr2, b1, b2, b3, b4, b5, b6, b7⟩
      · have hC2 : sh_C (a_t hc2) (a_r hc2) := by rw [b2.1, b2.2.1]; exact a3.1.1
        have cf := a4.tr b6 (Nat.le_refl _)
        have nx := a6.tr b8
        exact act_ok (v3 := 0) (u3 := -1) C P b5 b7 (by omega) cf nx (fun Q => ca_5 Z.1 a3.1.1 hC2 b5.1 a1 b1 b3 (set_n b5.1 (c4 cf) lK)) (fun Q => do_5 hR a5.R b7.R e31 a2 b4 (k4 nx) lK) (fun _ => rfl) (fun z => absurd z (by omega))
      · have hC2 : sh_C (a_t hc2) (a_r hc2) := by rw [b2.1, b2.2.1]; exact a3.1.1
        have F := flS.re a4 b4
        have G := flR.rx a6.X b6
        exact act_bad C F.X G (fun Q => ca_5 Z.1 a3.1.1 hC2 (F.C Z) a1 b1 b3 (set_n (F.C Z) (f4 F) lK)) (fun Q => do_5 hR a5.R (g4 G).1 e31 a2 b5 (b7.trans (k4 a6)) lK)
    · exact act_bad C a2.X a4 (fun Q => ca_5 Z.1 (a2.C Z).1 (a2.C Z).1 (a2.C Z) a1 (fun Q => fl_eW (d := e) a2 Z) (fun Q => fl_eN (d := e) a2 Z) (set_n (a2.C Z) (f4 a2) lK)) (fun Q => do_5 hR (g4 a4).1 (g4 a4).1 e31 a3 (fun Q => nb_w (d := d) (g4 a4).1 (g4 a4).2) (a5.trans hK) lK)
  · subst ew
    rcases nj (d := d + 1) (e := e) (lo := 1) (hi := 300) P C l3 (by omega) (by omega) with ⟨v1, hc1, hr1, a1, a2, a3, a4, a5, a6⟩ | ⟨f, s, hc1, hr1, a1, a2, a3, a4, a5⟩
    · exact act_ok (v2 := 0) (v3 := 0) (u2 := -1) (u3 := -1) C P a3 a5 (by omega) a4 a6 (fun Q => ca_8 Z.1 a3.1 a1 (set_n a3.1 (c4 a4) lK)) (fun Q => do_8 hR a5.R e31 a2 (k4 a6) lK) (fun z => absurd z (by omega)) (fun z => absurd z (by omega))
    · exact act_bad C a2.X a4 (fun Q => ca_8 Z.1 (a2.C Z) a1 (set_n (a2.C Z) (f4 a2) lK)) (fun Q => do_8 hR (g4 a4).1 e31 a3 (a5.trans hK) lK)
  · subst ew
    rcases nj (d := d + 1) (e := e) (lo := 0) (hi := 3) P C l3 (by omega) (by omega) with ⟨v1, hc1, hr1, a1, a2, a3, a4, a5, a6⟩ | ⟨f, s, hc1, hr1, a1, a2, a3, a4, a5⟩
    · rcases nbj (d := d) (e := e) (lo := 0) (hi := 3) (y := 12) a5 a3 l3 (by omega) (by omega) (by omega) with ⟨v2, hc2, hc3, hr2, b1, b2, b3, b4, b5, b6, b7, b8⟩ | ⟨f, s, u, hc2, hc3, hr2, b1, b2, b3, b4, b5, b6, b7⟩
      · have hC2 : sh_C (a_t hc2) (a_r hc2) := by rw [b2.1, b2.2.1]; exact a3.1.1
        rcases nbj (d := d) (e := e) (lo := 0) (hi := 60) (y := 13) b7 b5 l3 (by omega) (by omega) (by omega) with ⟨v3, hc4, hc5, hr3, d1, d2, d3, d4, d5, d6, d7, d8⟩ | ⟨f, s, u, hc4, hc5, hr3, d1, d2, d3, d4, d5, d6, d7⟩
        · have hC4 : sh_C (a_t hc4) (a_r hc4) := by rw [d2.1, d2.2.1]; exact b5.1.1
          have cf := (a4.tr b6 (Nat.le_refl _)).tr d6 (Nat.le_refl _)
          have nx := (a6.tr b8).tr d8
          exact act_ok C P d5 d7 (by omega) cf nx (fun Q => ca_9 Z.1 a3.1.1 hC2 b5.1.1 hC4 d5.1 a1 b1 b3 d1 d3 (set_n d5.1 (c4 cf) lK)) (fun Q => do_9 hR a5.R b7.R d7.R e31 a2 b4 d4 (k4 nx) lK) (fun _ => rfl) (fun _ => rfl)
        · have hC4 : sh_C (a_t hc4) (a_r hc4) := by rw [d2.1, d2.2.1]; exact b5.1.1
          have F := flS.re (a4.tr b6 (Nat.le_refl _)) d4
          have G := flR.rx (a6.tr b8).X d6
          exact act_bad C F.X G (fun Q => ca_9 Z.1 a3.1.1 hC2 b5.1.1 hC4 (F.C Z) a1 b1 b3 d1 d3 (set_n (F.C Z) (f4 F) lK)) (fun Q => do_9 hR a5.R b7.R (g4 G).1 e31 a2 b4 d5 (d7.trans (k4 (a6.tr b8))) lK)
      · have hC2 : sh_C (a_t hc2) (a_r hc2) := by rw [b2.1, b2.2.1]; exact a3.1.1
        have F := flS.re a4 b4
        have G := flR.rx a6.X b6
        exact act_bad C F.X G (fun Q => ca_9 Z.1 a3.1.1 hC2 (F.C Z).1 (F.C Z).1 (F.C Z) a1 b1 b3 (fun Q => fl_eW (d := e) F Z) (fun Q => fl_eN (d := e) F Z) (set_n (F.C Z) (f4 F) lK)) (fun Q => do_9 hR a5.R (g4 G).1 (g4 G).1 e31 a2 b5 (fun Q => nb_w (d := d) (g4 G).1 (g4 G).2) (b7.trans (k4 a6)) lK)
    · exact act_bad C a2.X a4 (fun Q => ca_9 Z.1 (a2.C Z).1 (a2.C Z).1 (a2.C Z).1 (a2.C Z).1 (a2.C Z) a1 (fun Q => fl_eW (d := e) a2 Z) (fun Q => fl_eN (d := e) a2 Z) (fun Q => fl_eW (d := e) a2 Z) (fun Q => fl_eN (d := e) a2 Z) (set_n (a2.C Z) (f4 a2) lK)) (fun Q => do_9 hR (g4 a4).1 (g4 a4).1 (g4 a4).1 e31 a3 (fun Q => nb_w (d := d) (g4 a4).1 (g4 a4).2) (fun Q => nb_w (d := d) (g4 a4).1 (g4 a4).2) (a5.trans hK) lK)
  · rcases nj (d := d + 1) (e := e) (lo := 0) (hi := 3) P C l3 (by omega) (by omega) with ⟨v1, hc1, hr1, a1, a2, a3, a4, a5, a6⟩ | ⟨f, s, hc1, hr1, a1, a2, a3, a4, a5⟩
    · have nz : ¬ (w = 5 ∨ w = 9) := by omega
      have e6 : nI w = 6 ∨ nI w = 7 ∨ nI w = 10 := by
        rcases ew with z | z | z <;> subst z
        · exact Or.inl rfl
        · exact Or.inr (Or.inl rfl)
        · exact Or.inr (Or.inr rfl)
      exact act_ok (v2 := 0) (v3 := 0) (u2 := -1) (u3 := -1) C P a3 a5 (by omega) a4 a6 (fun Q => ca_x Z.1 a3.1 e6 a1 (set_n a3.1 (c4 a4) lK)) (fun Q => do_x hR a5.R (by rw [e31]; exact e6) a2 (k4 a6) lK) (fun z => absurd z nz) (fun z => absurd (Or.inr z) nz)
    · have e6 : nI w = 6 ∨ nI w = 7 ∨ nI w = 10 := by
        rcases ew with z | z | z <;> subst z
        · exact Or.inl rfl
        · exact Or.inr (Or.inl rfl)
        · exact Or.inr (Or.inr rfl)
      exact act_bad C a2.X a4 (fun Q => ca_x Z.1 (a2.C Z) e6 a1 (set_n (a2.C Z) (f4 a2) lK)) (fun Q => do_x hR (g4 a4).1 (by rw [e31]; exact e6) a3 (a5.trans hK) lK)
end ACT
