/-! an ask -/
section ASK
variable {t : Nat → Nat} {T : List (Nat × Nat × Nat)} {n q w c0 g0 d j p m ω o dc e : Nat} {l : List Bool} {hc hr : am_h} {x : Nat × Nat × Nat}
theorem cmO_b (y : Nat) : 10 ≤ cmO y ∧ cmO y < 16 := by
  unfold cmO
  split
  · omega
  split
  · omega
  split
  · omega
  split
  · omega
  split <;> omega
theorem cmO_o {y : Nat} (h : isCm y) : oOf (cmO y) = nI (smp y) := by
  rcases h with e | e | e | e | e | e <;> subst e <;> rfl
theorem ask_not (AS : AskP t n T q w c0 g0 d (j + 1)) (lo : o ≤ 8) (lm : m + 1 ≤ 2 * o) (lω : ω ≤ 4 * o) (ld : 7 * (8 - o) + 8 ≤ e + 8) (pr : pre t n T q w c0 g0 j p (m + 1) ω o hc hr) (hs : a_i hr 126 28 = 0) (hx : T[j]? = some x) (g : isW x 20) : askG t n T q w c0 g0 d (e + 8) j p (m + 1) ω o (l.length + 4 + 5 * (8 - o)) l mX7_readAsk [.ref 86, .int (nI o)] hc hr ∨ bad d q (e + 8) mX7_readAsk [.ref 86, .int (nI o)] hc hr := by
  obtain ⟨b1, b2, b3, b4⟩ := pr.K
  obtain ⟨K, kw, P, KK, lg⟩ := id pr
  have Z := K.1
  have sx := (P.tk hx).2.small
  have x4 : x.1 = 3 := g.1
  have l1 := P.l hx (by omega)
  have i20 := cw1 (d := e + 7) (z := 20) K hx sx (y := 20) (by omega) rfl g
  by_cases o8 : o < 8
  · obtain ⟨hr1, r1, r2, r3, r4, r5, r6⟩ := ak_not (d := d) P hx KK hs o8 (by omega) g
    obtain ⟨c1, c2, c3⟩ := cq_come (d := e + 7) K l1
    have pr1 := pr.go c2 c3 r1 r2 (by omega)
    have S1 : ∀ i, i < ω → a_i hr1 141 i = a_i hr 141 i := fun i hi => r3.2.2 _ _ (by omega) (by omega) (by omega) (by omega) (by omega) (by omega)
    rcases AS (o + 1) (m + 1) ω p (e + 7) l _ hr1 (by omega) (by omega) (by omega) (by omega) pr1 r5 with ⟨j2, ws, hc2, hr2, s1, s2, s3, s4⟩ | ⟨f, s, hc2, hr2, s1, s2, s3, s4⟩
    · left
      obtain ⟨C2, cf2, -, P2, K2, rf2, -, lj2, -⟩ := id s2
      have ln2 := C2.len
      have ht : a_i hr2 138 (m + 1) = 3 := (rf2.2.2 _ _ (by omega) (by omega) (by omega) (by omega) (by omega) (by omega)).trans r4
      have S2 : ∀ i, i < ω → ∃ z, z ≤ m + 1 ∧ a_i hr2 141 i = nI z := fun i hi => by
        obtain ⟨z, z1, z2⟩ := KK.2.2.2.2 i hi
        exact ⟨z, by omega, by rw [rf2.2.2 _ _ (by omega) (by omega) (by omega) (by omega) (by omega) (by omega), S1 i hi]; exact z2⟩
      obtain ⟨e1, e2, e3, e4⟩ := cq_em (d := e + 7) (a1 := 5) (a2 := 0) (v := 0 * 32 + 5) C2 (by omega)
      have em := emR_o (h := clH hr2 (m + 1) o) (g := g0 + p + ws.length) (a := 405) (b := 0)
      have W := pst.wrap (ws4 := [(5, 0)]) (j := j) c3 r3 s2 (by omega) (by omega) (Nat.le_refl _) e2 e3 (P2.cl.em (g := g0 + p + ws.length) (a := 405) (b := 0)) ((K2.cl (m := m + 1) (o := o) S2).em (a := 405) (b := 0)) (clH_F.tr emR_F (Nat.le_refl _) (Nat.le_refl _) (Nat.le_refl _)) (wdC.one (x := (5, 0)) (by rw [← Nat.add_assoc, e4]; rfl)) (wdR.one (x := (5, 0)) (by rw [← Nat.add_assoc]; exact em.1) (by rw [← Nat.add_assoc]; exact em.2.1)) (Nat.le_refl _) (by show j + ws.length + 1 ≤ j2; omega)
      refine ⟨j2, ws ++ [(5, 0)], _, _, fun Q => cm_ask_not Z c2.1 C2.1 i20 (cm1 (d := e + 6) Z.1 o8) c1 (fun Q => ?_) e1, W, (s3.lo (by omega)).app (Seg.not (by omega)), fun h'' c Q => ?_⟩
      · rw [show nI o + 1 = nI (o + 1) from nI_a (b := 1)]; exact s1 Q
      · rw [r6]
        refine s4 h'' (fun Q => ?_) Q
        rw [ask_pop (d := d + 7) P2.R K2 (by omega) (by omega) ht (by omega)]
        exact c Q
    · right
      have F := flS.re c3 s2
      obtain ⟨h3, k, lk, em, F3⟩ := fl_emit (d := e + 7) (a := 5) (b := 0) F Z
      refine ⟨f, s, h3, hr2, fun Q => cm_ask_not Z c2.1 (F.C Z) i20 (cm1 (d := e + 6) Z.1 o8) c1 (fun Q => ?_) em, F3, fun Q => by rw [r6]; exact s3 Q, flR.re r3 s4⟩
      rw [show nI o + 1 = nI (o + 1) from nI_a (b := 1)]; exact s1 Q
  · right
    have o8 : o = 8 := by omega
    subst o8
    obtain ⟨hr3, t1, t2⟩ := ak_not8 (d := d) P hx KK hs g
    exact ⟨3, nI x.2.2, flA hc 3, hr3, fun Q => cm_ask_not0 Z i20 (cm0 (d := e + 6) Z.1 rfl), K.en hx (by decide) (by omega), t2, t1⟩
set_option maxHeartbeats 1000000 in
theorem ask_cmp (S0 : SumP t n T q w c0 g0 d j) (SM : ∀ j', j < j' → SumP t n T q w c0 g0 d j') (lo : o ≤ 8) (lm : m + 1 ≤ 2 * o) (lω : ω ≤ 4 * o) (ld : 7 * (8 - o) + 8 ≤ e + 8) (pr : pre t n T q w c0 g0 j p (m + 1) ω o hc hr) (hs : a_i hr 126 28 = 0) (hx : T[j]? = some x) (g : ¬ isW x 20) : askG t n T q w c0 g0 d (e + 8) j p (m + 1) ω o (l.length + 4 + 5 * (8 - o)) l mX7_readAsk [.ref 86, .int (nI o)] hc hr ∨ bad d q (e + 8) mX7_readAsk [.ref 86, .int (nI o)] hc hr := by
  obtain ⟨b1, b2, b3, b4⟩ := pr.K
  obtain ⟨K, kw, P, KK, lg⟩ := id pr
  have Z := K.1
  have sx := (P.tk hx).2.small
  have i20 := cw0 (d := e + 7) (z := 20) K hx sx (y := 20) (by omega) rfl g
  obtain ⟨hr1, r1, r2, r3, r4, r5, r6⟩ := ak_left (d := d) P hx KK hs (by omega) g
  have pr1 := pr.go K cF.rf r1 r2 (Nat.le_refl _)
  have S1 : ∀ i, i < ω → a_i hr1 141 i = a_i hr 141 i := fun i hi => r3.2.2 _ _ (by omega) (by omega) (by omega) (by omega) (by omega) (by omega)
  rcases S0 o (m + 1) ω p (e + 7) l hc hr1 lo (by omega) lω (by omega) pr1 r5 (by rw [r4]; decide) (stp.nw KK hr1 S1) with ⟨j2, ws, hc2, hs1, hs2, x2, s1, s2, s3, s4, s5, s6, s7, s8⟩ | ⟨f, s, hc2, hr2, s1, s2, s3, s4⟩
  · obtain ⟨C2, cf2, -, P2, K2, rf2, -, lj2, lj2'⟩ := id s2
    have ln2 := C2.len
    have sx2 := (P2.tk s7).2.small
    have ht : a_i hs2 138 (m + 1) = 4 := (rf2.2.2 _ _ (by omega) (by omega) (by omega) (by omega) (by omega) (by omega)).trans r4
    have S2 : ∀ i, i < ω → a_i hs2 141 i = a_i hr 141 i := fun i hi => by
      rw [rf2.2.2 _ _ (by omega) (by omega) (by omega) (by omega) (by omega) (by omega), S1 i hi]
    have W2 := s4.W P2 K2 (stp.nw KK hs2 S2) (by omega) (by omega) (by omega)
    have rf02 : rF (m + 1) ω (g0 + p) hr hs2 := r3.tr (rF.rf.tr rf2 (Nat.le_succ _) (Nat.le_refl _) (Nat.le_refl _)) (Nat.le_refl _) (Nat.le_refl _) (Nat.le_refl _)
    by_cases cm : ∃ y, isCm y ∧ isS x2 y
    · obtain ⟨y, cy, g2⟩ := cm
      have x24 : x2.1 = 4 := g2.1
      have l2 := P2.l s7 (by omega)
      have ob := cmO_b y
      have oo := cmO_o cy
      have pr2 := pr1.nxt s2
      obtain ⟨C2', -, -, K2', -⟩ := id pr2
      obtain ⟨d1, d2, d3⟩ := cq_come (d := e + 7) C2' l2
      obtain ⟨hr3, t1, t2, t3, t4, t5, t6, t7⟩ := go_cmp (d := d) s4 P2 s7 K2' s6 W2 (by omega) ht cy g2
      have pr3 := pr2.go d2 d3 t1 t2 (by omega)
      have S3 : ∀ i, i < ω → a_i hr3 141 i = a_i hr 141 i := fun i hi => by
        rw [t3.2.2 _ _ (by omega) (by omega) (by omega) (by omega) (by omega) (by omega), S2 i hi]
      rcases SM (j2 + 1) (by omega) o (m + 1) ω (p + ws.length) (e + 7) (false :: l) _ hr3 lo (by omega) lω (by omega) pr3 t6 (by rw [t5]; decide) (stp.nw KK hr3 S3) with ⟨j4, ws2, hc4, hq1, hq2, x4, u1, u2, u3, u4, u5, u6, u7, u8⟩ | ⟨f, s, hc4, hr4, u1, u2, u3, u4⟩
      · left
        obtain ⟨C4, cf4, -, P4, K4, rf4, -, lj4, lj4'⟩ := id u2
        have ln4 := C4.len
        have ht4 : a_i hq2 138 (m + 1) = 5 := (rf4.2.2 _ _ (by omega) (by omega) (by omega) (by omega) (by omega) (by omega)).trans t5
        have hc4' : a_i hq2 139 (m + 1 + 1) = nI (smp y) := (rf4.2.2 _ _ (by omega) (by omega) (by omega) (by omega) (by omega) (by omega)).trans t4
        have S4 : ∀ i, i < ω → a_i hq2 141 i = a_i hr 141 i := fun i hi => by
          rw [rf4.2.2 _ _ (by omega) (by omega) (by omega) (by omega) (by omega) (by omega), S3 i hi]
        have S4' : ∀ i, i < ω → ∃ z, z ≤ m + 1 ∧ a_i hq2 141 i = nI z := fun i hi => by
          obtain ⟨z, z1, z2⟩ := KK.2.2.2.2 i hi
          exact ⟨z, by omega, by rw [S4 i hi]; exact z2⟩
        obtain ⟨hr5, v1, v2, v3, v4, v5, v6⟩ := go_right (d := d) u4 P4 u7 K4 S4' u6 (u4.W P4 K4 (stp.nw KK hq2 S4) (by omega) (by omega) (by omega)) (by omega) (by omega) ht4 hc4' u8
        obtain ⟨e1, e2, e3, e4⟩ := cq_em (d := e + 7) (a1 := nI (cmO y)) (a2 := 0) (v := 0 * 32 + nI (cmO y)) C4 (by omega)
        have A0 := pst.wrap (ws4 := []) (cF.rf (q := q) (c := c0 + p) (h := hc)) r3 s2 (Nat.le_refl _) (Nat.le_succ _) (Nat.le_refl _) (hc3 := hc2) (hr3 := clH hs2 (m + 1) o) C2 cF.rf P2.cl (K2.cl (fun i hi => by
          obtain ⟨z, z1, z2⟩ := KK.2.2.2.2 i hi
          exact ⟨z, by omega, by rw [S2 i hi]; exact z2⟩)) clH_F wdC.nil wdR.nil (Nat.le_refl _) (by show j + ws.length + 0 ≤ j2; omega)
        rw [List.append_nil] at A0
        have clF : rF (m + 1) ω (g0 + (p + ws.length)) (clH hs2 (m + 1) o) hr3 := by
          refine ⟨⟨t3.1.1, t3.1.2.1, t3.1.2.2⟩, t3.2.1, fun p i n1 n2 n3 n4 n5 n6 => ?_⟩
          rw [t3.2.2 p i n1 n2 n3 n4 n5 n6, clH_i (by omega)]
        have A1 := pst.wrap (ws4 := [(cmO y, 0)]) (p := p + ws.length) (j := j2) d3 clF u2 (by omega) (by omega) (Nat.le_refl _) e2 e3 v1 v2 v3 (wdC.one (x := (cmO y, 0)) (by
          rw [show c0 + (p + ws.length + ws2.length) = c0 + (p + ws.length) + ws2.length by omega, e4]
          unfold cwd
          rw [if_neg (by show ¬ (cmO y = 2 ∨ cmO y = 3); omega)]
          show 0 * 32 + nI (cmO y) = nI (0 * 32 + cmO y)
          rw [show (0 : Int32) * 32 = nI (0 * 32) from rfl, nI_a])) (wdR.one (x := (cmO y, 0)) (by rw [← Nat.add_assoc, v4]; exact oo.symm) (by
          rw [← Nat.add_assoc, v5]
          unfold rwd
          rw [if_neg (by show ¬ (cmO y = 2 ∨ cmO y = 3); omega)]
          rfl)) (Nat.le_refl _) (by show j2 + ws2.length + 1 ≤ j4; omega)
        refine ⟨j4, ws ++ (ws2 ++ [(cmO y, 0)]), _, hr5, fun Q => cm_ask_cm Z C2.1 d2.1 C4.1 (by omega) i20 s1 (fun Q => cm_cmp C2 s7 cy g2) d1 u1 e1, A0.app A1, (s3.lo (by omega)).app ((u3.lo (by show l.length + 1 + 3 + 5 * (8 - o) ≤ _; omega)).app (Seg.cmp ob (by omega))), fun h'' c Q => ?_⟩
        rw [r6, s5, t7, u5]
        exact v6 h'' c Q
      · right
        have F := flS.re (cf2.tr d3 (by omega)) u2
        obtain ⟨h5, k, lk, em, F5⟩ := fl_emit (d := e + 7) (a := nI (cmO y)) (b := 0) F Z
        refine ⟨f, s, h5, hr4, fun Q => cm_ask_cm Z C2.1 d2.1 (F.C Z) (by omega) i20 s1 (fun Q => cm_cmp C2 s7 cy g2) d1 u1 em, F5, fun Q => by rw [r6, s5, t7]; exact u3 Q, flR.re (rf02.tr t3 (Nat.le_refl _) (Nat.le_refl _) (by omega)) u4⟩
    · right
      have nc : ∀ y, isCm y → ¬ isS x2 y := fun y cy z => cm ⟨y, cy, z⟩
      have F := C2.en s7 (f := 1) (by decide) (by omega)
      obtain ⟨hr3, t1, t2⟩ := go_err (d := d) s4 P2 s7 K2.2.1 s6 (by omega) s8 (Or.inr (Or.inr (Or.inr (Or.inl ⟨ht, nc⟩))))
      refine ⟨1, nI x2.2.2, flA hc2 1, hr3, fun Q => cm_ask_no Z C2.1 i20 s1 (fun Q => cm_cmp0 C2 s7 sx2 nc) (fun Q => q_X7_fails C2.1.1), flS.re cf2 F, fun Q => by rw [r6, s5]; exact t2 Q, flR.re rf02 (t1.ve s4)⟩
  · right
    refine ⟨f, s, hc2, hr2, fun Q => cm_ask_no Z (s2.C Z) i20 s1 (fun Q => fl_cmp s2 Z) (fun Q => fl_fail s2 Z), s2, fun Q => by rw [r6]; exact s3 Q, flR.re r3 s4⟩
theorem ask_at (S0 : SumP t n T q w c0 g0 d j) (SM : ∀ j', j < j' → SumP t n T q w c0 g0 d j') (AS : AskP t n T q w c0 g0 d (j + 1)) : AskP t n T q w c0 g0 d j := by
  intro o m ω p dc l hc hr lo lm lω ld pr hs
  obtain ⟨e, rfl⟩ : ∃ e, dc = e + 8 := ⟨dc - 8, by omega⟩
  obtain ⟨x, hx⟩ : ∃ x, T[j]? = some x := by
    obtain ⟨-, -, -, -, -, -, x, hx, -⟩ := pr.1
    exact ⟨x, hx⟩
  by_cases g : isW x 20
  · exact ask_not AS lo lm lω ld pr hs hx g
  · exact ask_cmp S0 SM lo lm lω ld pr hs hx g
end ASK
