/-! one, by what it begins with -/
section ONE2
variable {t : Nat → Nat} {T : List (Nat × Nat × Nat)} {n q w c0 g0 d j p m ω o dc e : Nat} {l : List Bool} {hc hr : am_h} {x : Nat × Nat × Nat}
theorem pre.K (a : pre t n T q w c0 g0 j p m ω o hc hr) : c0 + p ≤ j ∧ j < T.length ∧ T.length ≤ 301 ∧ g0 + p ≤ j := ⟨a.1.2.2.2.2.2.1, a.1.len.1, a.1.len.2, a.2.2.2.2⟩
theorem one_num (pr : pre t n T q w c0 g0 j p (m + 1) ω o hc hr) (hs : a_i hr 126 28 = 1) (hx : T[j]? = some x) (n2 : x.1 = 2) : oneG t n T q w c0 g0 d (e + 5) j p (m + 1) ω o (l.length + 1 + 5 * (8 - o)) l mX7_readOne [.ref 86, .int (nI o)] hc hr ∨ bad d q (e + 5) mX7_readOne [.ref 86, .int (nI o)] hc hr := by
  obtain ⟨b1, b2, b3, b4⟩ := pr.K
  obtain ⟨K, kw, P, KK, lg⟩ := pr
  have Z := K.1
  have sx := (P.tk hx).2.small
  obtain ⟨y1, y2, y3⟩ := K.tk hx
  have l1 := P.l hx (by omega)
  have k10 : a_i hc 86 10 = 2 := by rw [y1, n2]; rfl
  by_cases n3 : x.2.1 ≤ 9999
  · left
    obtain ⟨h1, r1, r2, r3, r4, r5, r6⟩ := bg_num (d := d) P hx KK hs (by omega) n2 n3
    obtain ⟨c1, c2, c3⟩ := cq_come (d := e) K l1
    obtain ⟨e1, e2, e3, e4⟩ := cq_em (d := e + 4) (a1 := 0) (a2 := nI x.2.1) (v := nI x.2.1 * 32 + 0) c2 (by omega)
    refine ⟨j + 1, [(0, x.2.1)], _, h1, fun Q => cm_one_num Z c2.1 k10 (fun Q => cq_num (d := e + 3) (lo := 0) (hi := 9999) K hx sx l1 n2 ⟨by omega, n3⟩ (by omega)) e1, ⟨e2, c3.tr e3 (Nat.le_refl _), wdC.one ?_, r1, r2, r3, wdR.one r4 r5, by show j + 1 ≤ j + 1; omega, by omega⟩, Seg.put n3 (by omega), r6⟩
    rw [e4]
    unfold cwd
    rw [if_neg (by show ¬ ((0 : Nat) = 2 ∨ (0 : Nat) = 3); omega)]
    show nI x.2.1 * nI 32 + nI 0 = nI (x.2.1 * 32 + 0)
    rw [nI_m, nI_a]
  · right
    have F := K.en hx (f := 2) (by decide) (by omega)
    obtain ⟨h2, k, lk, em, F2⟩ := fl_emit (d := e + 4) (a := 0) (b := 0) F Z
    obtain ⟨hr', r1, r2⟩ := bg_num2 (d := d) P hx hs n2 n3
    exact ⟨2, nI x.2.2, h2, hr', fun Q => cm_one_num Z (F.C Z) k10 (fun Q => cq_num2 (d := e + 3) (lo := 0) (hi := 9999) K hx sx l1 n2 (by omega) (by omega) (by omega)) em, F2, r2, r1⟩
theorem pre.go {h1 h2 : am_h} {φ ω' o' φ' j1 : Nat} (pr : pre t n T q w c0 g0 j p φ ω o hc hr) (C : okC q T (c0 + p) j1 h1) (cf : cF q (c0 + p) hc h1) (P : okP t n T w j1 h2) (KK : okK (g0 + p) φ' ω' o' h2) (lj : j ≤ j1) : pre t n T q w c0 g0 j1 p φ' ω' o' h1 h2 := by
  have q1 := pr.1.1.2.1
  have q2 := pr.1.1.2.2.1
  refine ⟨C, ?_, P, KK, by have := pr.2.2.2.2; omega⟩
  rw [cf.2.2 _ _ (by omega) (by omega) (by omega)]
  exact pr.2.1
theorem one_par (SM : SumP t n T q w c0 g0 d (j + 1)) (lo : o ≤ 8) (lm : m ≤ 2 * o) (lω : ω ≤ 4 * o + 2) (ld : 7 * (8 - o) + 5 ≤ e + 5) (pr : pre t n T q w c0 g0 j p (m + 1) ω o hc hr) (hs : a_i hr 126 28 = 1) (hx : T[j]? = some x) (g : isS x 40) : oneG t n T q w c0 g0 d (e + 5) j p (m + 1) ω o (l.length + 1 + 5 * (8 - o)) l mX7_readOne [.ref 86, .int (nI o)] hc hr ∨ bad d q (e + 5) mX7_readOne [.ref 86, .int (nI o)] hc hr := by
  obtain ⟨b1, b2, b3, b4⟩ := pr.K
  obtain ⟨K, kw, P, KK, lg⟩ := id pr
  have Z := K.1
  have sx := (P.tk hx).2.small
  obtain ⟨y1, y2, y3⟩ := K.tk hx
  have x4 : x.1 = 4 := g.1
  have l1 := P.l hx (by omega)
  have k2 : ¬ a_i hc 86 10 = 2 := by rw [y1, x4]; decide
  have i40 := cs1 (d := e + 4) (z := 40) K hx sx (y := 40) (by omega) rfl g
  by_cases o8 : o < 8
  · obtain ⟨hr1, r1, r2, r3, r4, r5, r6⟩ := bg_sgn (d := d) (a := 6) P hx KK hs o8 (by omega) (Or.inl ⟨g, rfl⟩)
    obtain ⟨c1, c2, c3⟩ := cq_come (d := e + 4) K l1
    have pr1 := pr.go c2 c3 r1 r2 (by omega)
    have S1 : ∀ i, i < ω → a_i hr1 141 i = a_i hr 141 i := fun i hi => r3.2.2 _ _ (by omega) (by omega) (by omega) (by omega) (by omega) (by omega)
    rcases SM (o + 1) (m + 1) ω p (e + 4) l _ hr1 (by omega) (by omega) (by omega) (by omega) pr1 r5 (by rw [r4]; decide) (stp.nw KK hr1 S1) with ⟨j2, ws, hc2, hs1, hs2, x2, s1, s2, s3, s4, s5, s6, s7, s8⟩ | ⟨f, s, hc2, hr2, s1, s2, s3, s4⟩
    · obtain ⟨C2, cf2, -, P2, K2, rf2, -, lj2, -⟩ := id s2
      have ln2 := C2.len
      have sx2 := (P2.tk s7).2.small
      obtain ⟨u1, u2, u3⟩ := C2.tk s7
      have ht : a_i hs2 138 (m + 1) = 6 := (rf2.2.2 _ _ (by omega) (by omega) (by omega) (by omega) (by omega) (by omega)).trans r4
      by_cases g41 : isS x2 41
      · left
        have x24 : x2.1 = 4 := g41.1
        have l2 := P2.l s7 (by omega)
        obtain ⟨d1, d2, d3⟩ := cq_come (d := e + 3) C2 l2
        have S2 : ∀ i, i < ω → ∃ z, z ≤ m + 1 ∧ a_i hs2 141 i = nI z := fun i hi => by
          obtain ⟨z, z1, z2⟩ := KK.2.2.2.2 i hi
          exact ⟨z, by omega, by rw [rf2.2.2 _ _ (by omega) (by omega) (by omega) (by omega) (by omega) (by omega), S1 i hi]; exact z2⟩
        obtain ⟨hr3, t1, t2, t3, t4⟩ := go_par (d := d) s4 P2 s7 K2 S2 s6 (s4.W P2 K2 (stp.nw KK hs2 (fun i hi => by rw [rf2.2.2 _ _ (by omega) (by omega) (by omega) (by omega) (by omega) (by omega), S1 i hi])) (by omega) (by omega) (by omega)) (by omega) (by omega) ht g41
        have W := pst.wrap (ws4 := []) (j := j) c3 r3 s2 (by omega) (by omega) (Nat.le_refl _) d2 d3 t1 t2 t3 wdC.nil wdR.nil (by omega) (by show j + ws.length + 0 ≤ j2 + 1; omega)
        rw [List.append_nil] at W
        refine ⟨j2 + 1, ws, _, hr3, fun Q => cm_one_par Z c2.1 C2.1 k2 i40 (cm1 (d := e + 3) Z.1 o8) c1 (fun Q => ?_) (ce1 (d := e + 3) C2 s7 sx2 l2 (y := 41) (by omega) rfl g41), W, s3.lo (by omega), fun h'' c Q => ?_⟩
        · rw [show nI o + 1 = nI (o + 1) from nI_a (b := 1)]; exact s1 Q
        · rw [r6, s5]; exact t4 h'' c Q
      · right
        have F := C2.en s7 (f := 1) (by decide) (by omega)
        obtain ⟨hr3, t1, t2⟩ := go_err (d := d) s4 P2 s7 K2.2.1 s6 (by omega) s8 (Or.inl ⟨ht, g41⟩)
        refine ⟨1, nI x2.2.2, flA hc2 1, hr3, fun Q => cm_one_par Z c2.1 C2.1 k2 i40 (cm1 (d := e + 3) Z.1 o8) c1 (fun Q => ?_) (ce0 (d := e + 3) C2 s7 sx2 (y := 41) (by omega) rfl g41), flS.re (c3.tr cf2 (Nat.le_refl _)) F, fun Q => by rw [r6, s5]; exact t2 Q, flR.re (r3.tr (rF.rf.tr rf2 (Nat.le_succ _) (Nat.le_refl _) (Nat.le_refl _)) (Nat.le_refl _) (Nat.le_refl _) (Nat.le_refl _)) (t1.ve s4)⟩
        rw [show nI o + 1 = nI (o + 1) from nI_a (b := 1)]; exact s1 Q
    · right
      have F := flS.re c3 s2
      refine ⟨f, s, hc2, hr2, fun Q => cm_one_par Z c2.1 (F.C Z) k2 i40 (cm1 (d := e + 3) Z.1 o8) c1 (fun Q => ?_) (fun Q => fl_eS (d := e + 3) F Z), F, fun Q => by rw [r6]; exact s3 Q, flR.re r3 s4⟩
      rw [show nI o + 1 = nI (o + 1) from nI_a (b := 1)]; exact s1 Q
  · right
    have o8 : o = 8 := by omega
    subst o8
    obtain ⟨hr3, t1, t2⟩ := bg_sgn8 (d := d) P hx KK hs (Or.inl g)
    exact ⟨3, nI x.2.2, flA hc 3, hr3, fun Q => cm_one_par0 Z k2 i40 (cm0 (d := e + 3) Z.1 rfl), K.en hx (by decide) (by omega), t2, t1⟩
theorem one_min (ON : OneP t n T q w c0 g0 d (j + 1)) (lo : o ≤ 8) (lm : m ≤ 2 * o) (lω : ω ≤ 4 * o + 2) (ld : 7 * (8 - o) + 5 ≤ e + 5) (pr : pre t n T q w c0 g0 j p (m + 1) ω o hc hr) (hs : a_i hr 126 28 = 1) (hx : T[j]? = some x) (g : isS x 45) : oneG t n T q w c0 g0 d (e + 5) j p (m + 1) ω o (l.length + 1 + 5 * (8 - o)) l mX7_readOne [.ref 86, .int (nI o)] hc hr ∨ bad d q (e + 5) mX7_readOne [.ref 86, .int (nI o)] hc hr := by
  obtain ⟨b1, b2, b3, b4⟩ := pr.K
  obtain ⟨K, kw, P, KK, lg⟩ := id pr
  have Z := K.1
  have sx := (P.tk hx).2.small
  obtain ⟨y1, y2, y3⟩ := K.tk hx
  have x4 : x.1 = 4 := g.1
  have l1 := P.l hx (by omega)
  have k2 : ¬ a_i hc 86 10 = 2 := by rw [y1, x4]; decide
  have i40 := cs0 (d := e + 4) (z := 40) K hx sx (y := 40) (by omega) rfl (by unfold isS at g ⊢; omega)
  have i45 := cs1 (d := e + 4) (z := 45) K hx sx (y := 45) (by omega) rfl g
  by_cases o8 : o < 8
  · obtain ⟨hr1, r1, r2, r3, r4, r5, r6⟩ := bg_sgn (d := d) (a := 7) P hx KK hs o8 (by omega) (Or.inr ⟨g, rfl⟩)
    obtain ⟨c1, c2, c3⟩ := cq_come (d := e + 4) K l1
    have pr1 := pr.go c2 c3 r1 r2 (by omega)
    have S1 : ∀ i, i < ω → a_i hr1 141 i = a_i hr 141 i := fun i hi => r3.2.2 _ _ (by omega) (by omega) (by omega) (by omega) (by omega) (by omega)
    rcases ON (o + 1) (m + 1) ω p (e + 4) l _ hr1 (by omega) (by omega) (by omega) (by omega) pr1 r5 with ⟨j2, ws, hc2, hr2, s1, s2, s3, s4⟩ | ⟨f, s, hc2, hr2, s1, s2, s3, s4⟩
    · left
      obtain ⟨C2, cf2, -, P2, K2, rf2, -, lj2, -⟩ := id s2
      have ln2 := C2.len
      have ht : a_i hr2 138 (m + 1) = 7 := (rf2.2.2 _ _ (by omega) (by omega) (by omega) (by omega) (by omega) (by omega)).trans r4
      have S2 : ∀ i, i < ω → ∃ z, z ≤ m + 1 ∧ a_i hr2 141 i = nI z := fun i hi => by
        obtain ⟨z, z1, z2⟩ := KK.2.2.2.2 i hi
        exact ⟨z, by omega, by rw [rf2.2.2 _ _ (by omega) (by omega) (by omega) (by omega) (by omega) (by omega), S1 i hi]; exact z2⟩
      obtain ⟨e1, e2, e3, e4⟩ := cq_em (d := e + 4) (a1 := 4) (a2 := 0) (v := 0 * 32 + 4) C2 (by omega)
      have em := emR_o (h := clH hr2 (m + 1) o) (g := g0 + p + ws.length) (a := 402) (b := 0)
      have W := pst.wrap (ws4 := [(4, 0)]) (j := j) c3 r3 s2 (by omega) (by omega) (Nat.le_refl _) e2 e3 (P2.cl.em (g := g0 + p + ws.length) (a := 402) (b := 0)) ((K2.cl (m := m + 1) (o := o) S2).em (a := 402) (b := 0)) (clH_F.tr emR_F (Nat.le_refl _) (Nat.le_refl _) (Nat.le_refl _)) (wdC.one (x := (4, 0)) (by rw [← Nat.add_assoc, e4]; rfl)) (wdR.one (x := (4, 0)) (by rw [← Nat.add_assoc]; exact em.1) (by rw [← Nat.add_assoc]; exact em.2.1)) (Nat.le_refl _) (by show j + ws.length + 1 ≤ j2; omega)
      refine ⟨j2, ws ++ [(4, 0)], _, _, fun Q => cm_one_min Z c2.1 C2.1 k2 i40 i45 (cm1 (d := e + 3) Z.1 o8) c1 (fun Q => ?_) e1, W, (s3.lo (by omega)).app (Seg.neg (by omega)), fun h'' c Q => ?_⟩
      · rw [show nI o + 1 = nI (o + 1) from nI_a (b := 1)]; exact s1 Q
      · rw [r6]
        refine s4 h'' (fun Q => ?_) Q
        rw [one_pop (d := d + 7) P2.R K2 (by omega) (by omega) ht (by omega)]
        exact c Q
    · right
      have F := flS.re c3 s2
      obtain ⟨h3, k, lk, em, F3⟩ := fl_emit (d := e + 4) (a := 4) (b := 0) F Z
      refine ⟨f, s, h3, hr2, fun Q => cm_one_min Z c2.1 (F.C Z) k2 i40 i45 (cm1 (d := e + 3) Z.1 o8) c1 (fun Q => ?_) em, F3, fun Q => by rw [r6]; exact s3 Q, flR.re r3 s4⟩
      rw [show nI o + 1 = nI (o + 1) from nI_a (b := 1)]; exact s1 Q
  · right
    have o8 : o = 8 := by omega
    subst o8
    obtain ⟨hr3, t1, t2⟩ := bg_sgn8 (d := d) P hx KK hs (Or.inr g)
    exact ⟨3, nI x.2.2, flA hc 3, hr3, fun Q => cm_one_min0 Z k2 i40 i45 (cm0 (d := e + 3) Z.1 rfl), K.en hx (by decide) (by omega), t2, t1⟩
theorem one_if (CH : ChoP t n T q w c0 g0 d (j + 1)) (lo : o ≤ 8) (lm : m ≤ 2 * o) (lω : ω ≤ 4 * o + 2) (ld : 7 * (8 - o) + 5 ≤ e + 5) (pr : pre t n T q w c0 g0 j p (m + 1) ω o hc hr) (hs : a_i hr 126 28 = 1) (hx : T[j]? = some x) (g : isW x 14) : oneG t n T q w c0 g0 d (e + 5) j p (m + 1) ω o (l.length + 1 + 5 * (8 - o)) l mX7_readOne [.ref 86, .int (nI o)] hc hr ∨ bad d q (e + 5) mX7_readOne [.ref 86, .int (nI o)] hc hr := by
  obtain ⟨b1, b2, b3, b4⟩ := pr.K
  obtain ⟨K, kw, P, KK, lg⟩ := id pr
  have Z := K.1
  have sx := (P.tk hx).2.small
  obtain ⟨y1, y2, y3⟩ := K.tk hx
  have x4 : x.1 = 3 := g.1
  have l1 := P.l hx (by omega)
  have k2 : ¬ a_i hc 86 10 = 2 := by rw [y1, x4]; decide
  have i40 := cs0 (d := e + 4) (z := 40) K hx sx (y := 40) (by omega) rfl (by unfold isS; omega)
  have i45 := cs0 (d := e + 4) (z := 45) K hx sx (y := 45) (by omega) rfl (by unfold isS; omega)
  have i14 := cw1 (d := e + 4) (z := 14) K hx sx (y := 14) (by omega) rfl g
  by_cases o8 : o < 8
  · obtain ⟨hr1, r1, r2, r3, r4, r5, r6⟩ := bg_if (d := d) P hx KK hs o8 (by omega) g
    obtain ⟨c1, c2, c3⟩ := cq_come (d := e + 4) K l1
    have pr1 := pr.go c2 c3 r1 r2 (by omega)
    have S1 : ∀ i, i < ω → ∃ z, z ≤ m + 1 ∧ a_i hr1 141 i = nI z := fun i hi => by
      obtain ⟨z, z1, z2⟩ := KK.2.2.2.2 i hi
      exact ⟨z, by omega, by rw [r3.2.2 _ _ (by omega) (by omega) (by omega) (by omega) (by omega) (by omega)]; exact z2⟩
    rcases CH o (m + 1) ω p (e + 4) l _ hr1 (by omega) (by omega) (by omega) (by omega) (by omega) pr1 S1 r5 r4 with ⟨j2, ws, hc2, hr2, s1, ⟨a1, a2, a3, a4, a5, a6, a7, a8, a9⟩, s3, s4⟩ | ⟨f, s, hc2, hr2, s1, s2, s3, s4⟩
    · left
      refine ⟨j2, ws, hc2, hr2, fun Q => cm_one_if Z c2.1 k2 i40 i45 i14 (cm1 (d := e + 3) Z.1 o8) c1 (fun Q => ?_), ⟨a1, c3.tr a2 (Nat.le_refl _), a3, a4, a5, r3.tr a6 (Nat.le_refl _) (Nat.le_refl _) (Nat.le_refl _), a7, by omega, by omega⟩, s3, fun h'' c Q => ?_⟩
      · rw [show nI o + 1 = nI (o + 1) from nI_a (b := 1)]; exact s1 Q
      · rw [r6]; exact s4 h'' c Q
    · right
      have F := flS.re c3 s2
      refine ⟨f, s, hc2, hr2, fun Q => cm_one_if Z c2.1 k2 i40 i45 i14 (cm1 (d := e + 3) Z.1 o8) c1 (fun Q => ?_), F, fun Q => by rw [r6]; exact s3 Q, flR.re r3 s4⟩
      rw [show nI o + 1 = nI (o + 1) from nI_a (b := 1)]; exact s1 Q
  · right
    have o8 : o = 8 := by omega
    subst o8
    obtain ⟨hr3, t1, t2⟩ := bg_if8 (d := d) P hx KK hs g
    exact ⟨3, nI x.2.2, flA hc 3, hr3, fun Q => cm_one_if0 Z k2 i40 i45 i14 (cm0 (d := e + 3) Z.1 rfl), K.en hx (by decide) (by omega), t2, t1⟩
theorem one_name (lw : w < 5) (pr : pre t n T q w c0 g0 j p (m + 1) ω o hc hr) (hs : a_i hr 126 28 = 1) (hx : T[j]? = some x) (n2 : ¬ x.1 = 2) (n40 : ¬ isS x 40) (n45 : ¬ isS x 45) (n14 : ¬ isW x 14) : oneG t n T q w c0 g0 d (e + 5) j p (m + 1) ω o (l.length + 1 + 5 * (8 - o)) l mX7_readOne [.ref 86, .int (nI o)] hc hr ∨ bad d q (e + 5) mX7_readOne [.ref 86, .int (nI o)] hc hr := by
  obtain ⟨b1, b2, b3, b4⟩ := pr.K
  obtain ⟨K, kw, P, KK, lg⟩ := id pr
  have Z := K.1
  have sx := (P.tk hx).2.small
  obtain ⟨y1, y2, y3⟩ := K.tk hx
  have k2 : ¬ a_i hc 86 10 = 2 := by
    rw [y1, show (2 : Int32) = nI 2 from rfl, nI_inj (by have := sx.1; omega) (by omega)]
    exact n2
  have i40 := cs0 (d := e + 4) (z := 40) K hx sx (y := 40) (by omega) rfl n40
  have i45 := cs0 (d := e + 4) (z := 45) K hx sx (y := 45) (by omega) rfl n45
  have i14 := cw0 (d := e + 4) (z := 14) K hx sx (y := 14) (by omega) rfl n14
  by_cases nm : x.1 = 3 ∧ 21 ≤ x.2.1 ∧ x.2.1 < 32
  · have l1 := P.l hx (by omega)
    have k3 : a_i hc 86 10 = 3 := by rw [y1, nm.1]; rfl
    by_cases ok : okN w (x.2.1 - 21)
    · left
      obtain ⟨h1, r1, r2, r3, r4, r5, r6⟩ := bg_name (d := d) P hx KK hs (by omega) lw nm.1 nm.2 ok
      have io : ∀ Q, Cal (e + 3) mX7_isOfClause [.ref 86, .int (nI (x.2.1 - 21))] hc Q = Q (some (.int 1)) hc := fun Q => by
        have := cq_isOf (d := e + 3) (Q := Q) (p := True) Z.1 kw (m := x.2.1 - 21) (by simp; exact ok) lw (by omega)
        rw [if_pos trivial] at this
        exact this
      have e1 : ∀ Q, Cal (e + 3) mX9_emit [.ref q, .int 1, .int (nI (x.2.1 - 21))] hc Q = Q (some (.int (nI (c0 + p)))) (emA hc q (c0 + p) (nI (x.2.1 - 21) * 32 + 1)) := fun Q => q_X9_emit Z K.2.2.2.2.1 (by omega)
      obtain ⟨C1, cf1, w1⟩ : okC q T (c0 + p + 1) (j + 1) (cmA (emA hc q (c0 + p) (nI (x.2.1 - 21) * 32 + 1)) (j + 1)) ∧ cF q (c0 + p) hc (cmA (emA hc q (c0 + p) (nI (x.2.1 - 21) * 32 + 1)) (j + 1)) ∧ (∀ Q, Cal (e + 3) mX7_come [.ref 86] (emA hc q (c0 + p) (nI (x.2.1 - 21) * 32 + 1)) Q = Q none (cmA (emA hc q (c0 + p) (nI (x.2.1 - 21) * 32 + 1)) (j + 1))) := em_come K l1
      refine ⟨j + 1, [(1, x.2.1 - 21)], _, h1, fun Q => cm_one_name Z k2 i40 i45 i14 (fun Q => cm_name_ok (d := e + 3) Z (by exact Z.sm sm.rf) k3 y2 nm.2 io e1 w1), ⟨C1, cf1, wdC.one ?_, r1, r2, r3, wdR.one r4 r5, by show j + 1 ≤ j + 1; omega, by omega⟩, Seg.name (by omega) ok (by omega), r6⟩
      have l94 := Z.2.1
      have e5 : a_i (cmA (emA hc q (c0 + p) (nI (x.2.1 - 21) * 32 + 1)) (j + 1)) (q + 7) (c0 + p) = nI (x.2.1 - 21) * 32 + 1 := by
        unfold cmA emA
        rw [ine (by omega), ine (by omega), ine (by omega), ine (by omega), ine (by omega), ieq rfl rfl]
      rw [e5]
      unfold cwd
      rw [if_neg (by show ¬ ((1 : Nat) = 2 ∨ (1 : Nat) = 3); omega)]
      show nI (x.2.1 - 21) * nI 32 + nI 1 = nI ((x.2.1 - 21) * 32 + 1)
      rw [nI_m, nI_a]
    · right
      obtain ⟨hr', r1, r2⟩ := bg_name5 (d := d) P hx hs lw nm.1 nm.2 ok
      have io : ∀ Q, Cal (e + 3) mX7_isOfClause [.ref 86, .int (nI (x.2.1 - 21))] hc Q = Q (some (.int 0)) hc := fun Q => by
        have := cq_isOf (d := e + 3) (Q := Q) (p := False) Z.1 kw (m := x.2.1 - 21) (by simp; exact ok) lw (by omega)
        rw [if_neg (fun z => z)] at this
        exact this
      exact ⟨5, nI x.2.2, flA hc 5, hr', fun Q => cm_one_name Z k2 i40 i45 i14 (fun Q => cm_name_5 (d := e + 3) Z k3 y2 nm.2 io), K.en hx (by decide) (by omega), r2, r1⟩
  · right
    obtain ⟨hr', r1, r2⟩ := bg_err (d := d) P hx hs n2 nm n14 n40 n45
    exact ⟨1, nI x.2.2, flA hc 1, hr', fun Q => cm_one_name Z k2 i40 i45 i14 (fun Q => cm_name_1 (d := e + 3) Z y1 y2 sx.1 (fun z => by have := wdb (P.tk hx).2 z; omega) nm), K.en hx (by decide) (by omega), r2, r1⟩
theorem one_at (lw : w < 5) (IH : OneP t n T q w c0 g0 d (j + 1) ∧ SumP t n T q w c0 g0 d (j + 1) ∧ ChoP t n T q w c0 g0 d (j + 1)) : OneP t n T q w c0 g0 d j := by
  intro o m ω p dc l hc hr lo lm lω ld pr hs
  obtain ⟨e, rfl⟩ : ∃ e, dc = e + 5 := ⟨dc - 5, by omega⟩
  obtain ⟨x, hx⟩ : ∃ x, T[j]? = some x := by
    obtain ⟨-, -, -, -, -, -, x, hx, -⟩ := pr.1
    exact ⟨x, hx⟩
  by_cases n2 : x.1 = 2
  · exact one_num pr hs hx n2
  by_cases n40 : isS x 40
  · exact one_par IH.2.1 lo lm lω ld pr hs hx n40
  by_cases n45 : isS x 45
  · exact one_min IH.1 lo lm lω ld pr hs hx n45
  by_cases n14 : isW x 14
  · exact one_if IH.2.2 lo lm lω ld pr hs hx n14
  exact one_name lw pr hs hx n2 n40 n45 n14
end ONE2
