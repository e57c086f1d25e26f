/-! way: all -/
section WAYC
variable {X : PX} {d : Nat} {h y : am_h}
theorem bt_or {a b : Bool} {p q : Prop} [Decidable p] [Decidable q] (k : p ↔ q) : decide p = decide q := decide_eq_decide.mpr k
set_option maxRecDepth 20000 in
set_option maxHeartbeats 4000000 in
/-- one tenth of the other side -/
theorem wyT (hR : sh_R (a_t h) (a_r h)) {o1 o2 w A B S0 S1 L0 L1 t : Nat} {s : WT} (n1 : o1 < 4) (n2 : o2 < 4) (hw : w ≤ 99) (hA : A ≤ 60) (hB : B ≤ 60) (hS0 : S0 ≤ 99) (hS1 : S1 ≤ 99) (hL0 : L0 ≤ 99) (hL1 : L1 ≤ 99) (l0 : 1 ≤ L0) (l1 : 1 ≤ L1)
    (dA : a_i h 127 (117 + 4 * o1 + o2) = nI A) (dB : a_i h 127 (117 + 4 * o2 + o1) = nI B) (s0 : a_i h 127 (12 + 4 * o1 + 2) = nI S0) (s1 : a_i h 127 (12 + 4 * o2 + 2) = nI S1) (m0 : a_i h 127 (12 + 4 * o1 + 3) = nI L0) (m1 : a_i h 127 (12 + 4 * o2 + 3) = nI L1)
    (ht : t < 300) (ok : wOk w L0 L1 t s) (r : RW w t s h y) (x6 x7 x8 x9 x10 : Option Value) : ∃ (y' : am_h) (z6 z7 z8 z9 z10 : Option Value), (∀ Q, WP (d + 1) mX12_way 112 [some (.ref 126), some (.int (nI o1)), some (.int (nI o2)), some (.int (nI w)), some (.int (wI s.2.1 s.2.2)), some (.int (nI t)), x6, x7, x8, x9, x10] [] y Q = WP (d + 1) mX12_way 112 [some (.ref 126), some (.int (nI o1)), some (.int (nI o2)), some (.int (nI w)), some (.int (wI (wSt w A B S0 S1 L0 L1 t s).2.1 (wSt w A B S0 S1 L0 L1 t s).2.2)), some (.int (nI (t + 1))), z6, z7, z8, z9, z10] [] y' Q) ∧ RW w (t + 1) (wSt w A B S0 S1 L0 L1 t s) h y' := by
  obtain ⟨⟨⟨E0, E1⟩, ⟨P0, P1⟩⟩, ⟨y0, y1⟩⟩ := s
  obtain ⟨v, g0, g1, b0, b1, p0, p1, su, sv⟩ := r
  simp only at g0 g1 b0 b1 p0 p1 su sv
  have ok2 := ok
  unfold wOk at ok2
  simp only at ok2
  obtain ⟨k1, k2, k3, k4, k5, k6⟩ := ok2
  have hRy := v.R hR
  have i127 : ∀ j, a_i y 127 j = a_i h 127 j := fun j => v.2.2 127 j (by omega)
  obtain ⟨v8, A0⟩ := wyA0 (d := d) hRy n1 n2 ht hB (by rw [i127]; exact dB) (w := w) (b4 := wI y0 y1) (z := wHr E1 w B t) (f := fun u => decide (E0 = 0 ∨ u < E0)) (g := fun u => decide (w ≤ u ∧ (E1 = 0 ∨ u < E1))) su (decide_eq_decide.mpr (by rw [decide_eq_true_eq]; omega)) (x7 := x7) (x8 := x8) (x9 := x9) (x10 := x10)
  obtain ⟨ya, xa, H0, sa, la, fa, ga, pa, ua⟩ := wyH0 (d := d) hRy (o1 := o1) (o2 := o2) (w := w) (z := wHr E1 w B t) (y0 := y0) (y1 := y1) ht n1 (b := 0) (E := E0) (P := P0) (S := S0) (L := L0) (by omega) (by omega) hS0 hL0 l0 g0 b0 p0 (by omega) (by rw [i127]; exact s0) (by rw [i127]; exact m0) (v8 := v8) (x10 := x10)
  rw [Nat.zero_add, ← (wP0_x (w := w) (B := B) (t := t) (s := (((E0, E1), (P0, P1)), (y0, y1))))] at ga pa ua
  rw [← (wP0_x (w := w) (B := B) (t := t) (s := (((E0, E1), (P0, P1)), (y0, y1))))] at H0
  have va : wv h ya := ⟨v.1.tr sa, la.trans v.2.1, fun q j c => by rw [fa q j (by omega) (by omega) (by omega)]; exact v.2.2 q j c⟩
  have hRa := va.R hR
  have i127a : ∀ j, a_i ya 127 j = a_i h 127 j := fun j => va.2.2 127 j (by omega)
  obtain ⟨v8', A1⟩ := wyA1 (d := d) hRa n1 n2 ht hA (by rw [i127a]; exact dA) (w := w) (b4 := wI (y0 || wY E0 (wP0 w B t (((E0, E1), (P0, P1)), (y0, y1))) S0) y1) (z := wHr E0 0 A t) (f := fun u => decide (E0 = 0 ∨ u < E0)) (g := fun u => decide (w ≤ u ∧ (E1 = 0 ∨ u < E1))) (fun u hu => by rw [fa 176 u (by omega) (by omega) (by omega)]; exact su u hu) (decide_eq_decide.mpr (by rw [decide_eq_true_eq]; omega)) (x7 := some (.int (nI o1))) (x8 := some (.int v8)) (x9 := some (.int (bI (wHr E1 w B t)))) (x10 := xa)
  obtain ⟨yb, xb, H1, sb, lb, fb, gb, pb, ub⟩ := wyH1 (d := d) hRa (o1 := o1) (o2 := o2) (w := w) (z := wHr E0 0 A t) (y0 := (y0 || wY E0 (wP0 w B t (((E0, E1), (P0, P1)), (y0, y1))) S0)) (y1 := y1) ht n2 (b := w) (E := E1) (P := P1) (S := S1) (L := L1) (by omega) (by omega) hS1 hL1 l1 (by rw [fa _ _ (by omega) (by omega) (by omega)]; exact g1) (by rw [fa _ _ (by omega) (by omega) (by omega)]; exact b1) (fun q => by rw [fa _ _ (by omega) (by omega) (by omega)]; exact p1 q) (by omega) (by rw [i127a]; exact s1) (by rw [i127a]; exact m1) (v8 := v8') (x10 := xa)
  rw [← (wP1_x (w := w) (A := A) (t := t) (s := (((E0, E1), (P0, P1)), (y0, y1))))] at gb pb ub
  rw [← (wP1_x (w := w) (A := A) (t := t) (s := (((E0, E1), (P0, P1)), (y0, y1))))] at H1
  obtain ⟨p0', ep0⟩ : ∃ p, p = wP0 w B t (((E0, E1), (P0, P1)), (y0, y1)) := ⟨_, rfl⟩
  obtain ⟨p1', ep1⟩ : ∃ p, p = wP1 w A t (((E0, E1), (P0, P1)), (y0, y1)) := ⟨_, rfl⟩
  rw [← ep0] at ga pa ua H0
  rw [← ep1] at gb pb ub H1
  rw [← ep0] at A1 H1
  have vb : wv h yb := ⟨va.1.tr sb, lb.trans va.2.1, fun q j c => by rw [fb q j (by omega) (by omega) (by omega)]; exact va.2.2 q j c⟩
  have e0 := wE_c (E := E0) (P := p0') (S := S0) (L := L0) (t := t)
  have e1 := wE_c (E := E1) (P := p1') (S := S1) (L := w + L1) (t := t)
  refine ⟨yb, some (.int 2), some (.int (nI o2)), some (.int v8'), some (.int (bI (wHr E0 0 A t))), xb, fun Q => ?_, ?_⟩
  · rw [w_iload5 (M := mX12_way) dX12_way_112]
    simp [w_sipush (M := mX12_way) (v := 300) dX12_way_114 rfl, w_ic_ge (M := mX12_way) (tgt := 379) dX12_way_117 (by decide), w_iconst (M := mX12_way) (v := 0) dX12_way_120 rfl, w_istore (M := mX12_way) dX12_way_121 (by decide), Kn_v_, Kn_n_, kl_i_, kl_a_, kl_l_, kl_n_, s1_0_, s2_0_, s1_1, s1_2, s1_3, s1_4, s1_5, s1_6, s1_7, s1_8, s1_9, s1_10, s1_11, s1_12, s1_13, s1_14, s2_1, s2_2, s2_3, s2_4, s2_5, s2_6, s2_7, s2_8, s2_9, s2_10, s2_11, s2_12, s2_13, s2_14, List.map_nil, List.map_cons, List.sum_nil, List.sum_cons, ct_i_, ct_r_, ct_l_, t_si_, t_sl_, t_sr_, n_si_, n_sl_, n_sr_, i_si_, i_sl_, i_sr_, l_si_, l_sl_, l_sr_, r_si_, r_sl_, r_sr_, vr_s_, vr_n_, nz_0_, nz_1_, show (nI t < 300) = True from nI_ltT (b := 300) ht (by omega)]
    rw [A0 Q, H0 Q]
    rw [A1 Q, H1 Q]
    simp [w_iload6 (M := mX12_way) dX12_way_123, w_iconst (M := mX12_way) (v := 2) dX12_way_125 rfl, w_ic_ge (M := mX12_way) (tgt := 373) dX12_way_126 (by decide), w_iinc5 (M := mX12_way) (v := 1) dX12_way_373 rfl (by decide), w_goto (M := mX12_way) (tgt := 112) dX12_way_376 (by decide), Kn_v_, Kn_n_, kl_i_, kl_a_, kl_l_, kl_n_, s1_0_, s2_0_, s1_1, s1_2, s1_3, s1_4, s1_5, s1_6, s1_7, s1_8, s1_9, s1_10, s1_11, s1_12, s1_13, s1_14, s2_1, s2_2, s2_3, s2_4, s2_5, s2_6, s2_7, s2_8, s2_9, s2_10, s2_11, s2_12, s2_13, s2_14, List.map_nil, List.map_cons, List.sum_nil, List.sum_cons, ct_i_, ct_r_, ct_l_, t_si_, t_sl_, t_sr_, n_si_, n_sl_, n_sr_, i_si_, i_sl_, i_sr_, l_si_, l_sl_, l_sr_, r_si_, r_sl_, r_sr_, vr_s_, vr_n_, nz_0_, nz_1_, nI_s, show (1 + 1 : Int32) = 2 from rfl]
    unfold wSt
    rw [← ep0, ← ep1]
  · unfold wSt
    rw [← ep0, ← ep1]
    refine ⟨vb, ?_, ?_, ?_, ?_, fun q => ?_, fun q => ?_, fun u hu => ?_, fun u hu1 hu2 => ?_⟩
    · rw [fb _ _ (by omega) (by omega) (by omega), ga]
    · rw [gb]
    · rw [fb _ _ (by omega) (by omega) (by omega), fa _ _ (by omega) (by omega) (by omega)]; exact b0
    · rw [fb _ _ (by omega) (by omega) (by omega), fa _ _ (by omega) (by omega) (by omega)]; exact b1
    · rw [fb _ _ (by omega) (by omega) (by omega)]; exact pa q
    · exact pb q
    · by_cases c : u = t
      · subst c
        rw [ub, ua, sv u (Nat.le_refl _) (by omega)]
        have d0 : decide (wE E0 p0' S0 L0 u = 0 ∨ u < wE E0 p0' S0 L0 u) = decide (wE E0 p0' S0 L0 u = 0) := decide_eq_decide.mpr (by omega)
        have d1 : decide (w ≤ u ∧ (wE E1 p1' S1 (w + L1) u = 0 ∨ u < wE E1 p1' S1 (w + L1) u)) = decide (w ≤ u ∧ wE E1 p1' S1 (w + L1) u = 0) := decide_eq_decide.mpr (by omega)
        simp only [d0, d1]
        by_cases c0 : wE E0 p0' S0 L0 u = 0 <;> by_cases c1 : w ≤ u ∧ wE E1 p1' S1 (w + L1) u = 0
        · rw [if_pos ⟨Nat.zero_le _, c0⟩, if_pos c1, decide_eq_true c0, decide_eq_true c1]; rfl
        · rw [if_pos ⟨Nat.zero_le _, c0⟩, if_neg c1, decide_eq_true c0, decide_eq_false c1]; rfl
        · rw [if_neg (fun z => c0 z.2), if_pos c1, decide_eq_false c0, decide_eq_true c1]; rfl
        · rw [if_neg (fun z => c0 z.2), if_neg c1, decide_eq_false c0, decide_eq_false c1]; rfl
      · rw [fb _ _ (by omega) (by omega) (by omega), fa _ _ (by omega) (by omega) (by omega), su u (by omega)]
        have z0 : decide (E0 = 0 ∨ u < E0) = decide (wE E0 p0' S0 L0 t = 0 ∨ u < wE E0 p0' S0 L0 t) := decide_eq_decide.mpr (by omega)
        have z1 : decide (w ≤ u ∧ (E1 = 0 ∨ u < E1)) = decide (w ≤ u ∧ (wE E1 p1' S1 (w + L1) t = 0 ∨ u < wE E1 p1' S1 (w + L1) t)) := decide_eq_decide.mpr (by omega)
        rw [z0, z1]
    · rw [fb _ _ (by omega) (by omega) (by omega), fa _ _ (by omega) (by omega) (by omega)]
      exact sv u (by omega) hu2
def wInit : WT := (((0, 0), (0, 0)), (false, false))
theorem wOk_0 {w L0 L1 : Nat} (h0 : 1 ≤ L0) (h1 : 1 ≤ L1) : wOk w L0 L1 0 wInit := ⟨Or.inl ⟨rfl, by omega⟩, Or.inl ⟨rfl, by omega⟩, Nat.le_refl _, Nat.le_refl _, fun _ => rfl, fun _ => rfl⟩
theorem wSt_0 {w A B S0 S1 L0 L1 : Nat} (h0 : 1 ≤ L0) (h1 : 1 ≤ L1) : wSt w A B S0 S1 L0 L1 0 wInit = wInit := by
  have p0 : wP0 w B 0 wInit = 0 := if_neg (fun q => by have := of_decide_eq_true q; omega)
  have p1 : wP1 w A 0 wInit = 0 := if_neg (fun q => by omega)
  unfold wSt
  rw [p0, p1]
  have z : ∀ S, wY 0 0 S = false := fun S => decide_eq_false (fun q => by omega)
  have e0 : wE 0 0 S0 L0 0 = 0 := by unfold wE; rw [if_pos rfl]; split <;> rfl
  have e1 : wE 0 0 S1 (w + L1) 0 = 0 := by unfold wE; rw [if_pos rfl]; split <;> rfl
  show (((wE 0 0 S0 L0 0, wE 0 0 S1 (w + L1) 0), (0, 0)), (false || wY 0 0 S0, false || wY 0 0 S1)) = wInit
  rw [e0, e1, z, z]
  rfl
theorem wOk_i {w A B S0 S1 L0 L1 : Nat} (h0 : 1 ≤ L0) (h1 : 1 ≤ L1) : ∀ (k t : Nat) (s : WT), wOk w L0 L1 t s → wOk w L0 L1 (t + k) (itr (wSt w A B S0 S1 L0 L1) t k s) := by
  intro k
  induction k with
  | zero => intro t s k; exact k
  | succ k ih =>
    intro t s z
    rw [show t + (k + 1) = t + 1 + k by omega]
    exact ih (t + 1) _ (wOk_s h0 h1 z)
/-- what way answers -/
def wAns (w A B S0 S1 L0 L1 : Nat) : Int32 := wI (itr (wSt w A B S0 S1 L0 L1) 1 (w + 99) wInit).2.1 (itr (wSt w A B S0 S1 L0 L1) 1 (w + 99) wInit).2.2
theorem wAns_300 {w A B S0 S1 L0 L1 : Nat} (h0 : 1 ≤ L0) (h1 : 1 ≤ L1) (hw : w ≤ 99) (hL0 : L0 ≤ 99) (hL1 : L1 ≤ 99) : wI (itr (wSt w A B S0 S1 L0 L1) 0 300 wInit).2.1 (itr (wSt w A B S0 S1 L0 L1) 0 300 wInit).2.2 = wAns w A B S0 S1 L0 L1 := by
  have e : itr (wSt w A B S0 S1 L0 L1) 0 300 wInit = itr (wSt w A B S0 S1 L0 L1) (1 + (w + 99)) (299 - (w + 99)) (itr (wSt w A B S0 S1 L0 L1) 1 (w + 99) wInit) := by
    rw [← itr_cut, show w + 99 + (299 - (w + 99)) = 299 by omega]
    show itr (wSt w A B S0 S1 L0 L1) (0 + 1) 299 (wSt w A B S0 S1 L0 L1 0 wInit) = _
    rw [wSt_0 h0 h1]
  have ok := wOk_i (w := w) (A := A) (B := B) (S0 := S0) (S1 := S1) h0 h1 (w + 100) 0 wInit (wOk_0 h0 h1)
  have e2 : itr (wSt w A B S0 S1 L0 L1) 0 (w + 100) wInit = itr (wSt w A B S0 S1 L0 L1) 1 (w + 99) wInit := by
    show itr (wSt w A B S0 S1 L0 L1) (0 + 1) (w + 99) (wSt w A B S0 S1 L0 L1 0 wInit) = _
    rw [wSt_0 h0 h1]
  rw [e2] at ok
  obtain ⟨k1, k2, _⟩ := ok
  rw [e, wSt_d _ _ _ (by omega) (by omega)]
  rfl
set_option maxRecDepth 20000 in
set_option maxHeartbeats 4000000 in
/-- the class's loop -/
theorem wyCl (hC : sh_C (a_t h) (a_r h)) {o1 o2 w A B S0 S1 L0 L1 : Nat} (n1 : o1 < 4) (n2 : o2 < 4) (hw : w ≤ 99) (hA : A ≤ 60) (hB : B ≤ 60) (hS0 : S0 ≤ 99) (hS1 : S1 ≤ 99) (hL0 : L0 ≤ 99) (hL1 : L1 ≤ 99) (l0 : 1 ≤ L0) (l1 : 1 ≤ L1)
    (s0 : a_i h 5 o1 = nI S0) (s1 : a_i h 5 o2 = nI S1) (m0 : a_i h 6 o1 = nI L0) (m1 : a_i h 6 o2 = nI L1) : ∀ (k t : Nat) (s : WT) (x : Option Value × Option Value × Option Value), t + k = w + 100 → 1 ≤ t → wOk w L0 L1 t s → ∀ Q, WP (d + 1) mX11_whoYields 46 (wyL o1 o2 w A B t s x) [] h Q = Q (some (.int (wI (itr (wSt w A B S0 S1 L0 L1) t k s).2.1 (itr (wSt w A B S0 S1 L0 L1) t k s).2.2))) h := by
  intro k
  induction k with
  | zero =>
    intro t s x e h1 ok Q
    have a1 : nI w + 99 = nI (w + 99) := nI_a (b := 99)
    have a2 : (nI (w + 99) < nI t) = True := nI_ltT (by omega) (by omega)
    show _ = Q (some (.int (wI s.2.1 s.2.2))) h
    unfold wyL
    simp [w_iload11 (M := mX11_whoYields) dX11_whoYields_46, w_iload_n3 (M := mX11_whoYields) dX11_whoYields_48, w_bipush (M := mX11_whoYields) (v := 99) dX11_whoYields_49 rfl, w_iadd (M := mX11_whoYields) dX11_whoYields_51, w_ic_gt (M := mX11_whoYields) (tgt := 297) dX11_whoYields_52 (by decide), w_iload10 (M := mX11_whoYields) dX11_whoYields_297, w_iret (M := mX11_whoYields) dX11_whoYields_299 rfl, Kn_v_, Kn_n_, kl_i_, kl_a_, kl_l_, kl_n_, s1_0_, s2_0_, s1_1, s1_2, s1_3, s1_4, s1_5, s1_6, s1_7, s1_8, s1_9, s1_10, s1_11, s1_12, s1_13, s1_14, s2_1, s2_2, s2_3, s2_4, s2_5, s2_6, s2_7, s2_8, s2_9, s2_10, s2_11, s2_12, s2_13, s2_14, List.map_nil, List.map_cons, List.sum_nil, List.sum_cons, ct_i_, ct_r_, ct_l_, t_si_, t_sl_, t_sr_, n_si_, n_sl_, n_sr_, i_si_, i_sl_, i_sr_, l_si_, l_sl_, l_sr_, r_si_, r_sl_, r_sr_, vr_s_, vr_n_, nz_0_, nz_1_, a1, a2]
  | succ k ih =>
    intro t s x e h1 ok Q
    by_cases no : ¬ s.1.1.1 = 0 ∧ ¬ s.1.1.2 = 0
    · have a1 : nI w + 99 = nI (w + 99) := nI_a (b := 99)
      have a2 : (nI (w + 99) < nI t) = False := nI_ltF (by omega) (by omega)
      have ok2 := ok
      obtain ⟨k1, k2, _⟩ := ok2
      have q0 : (eI s.1.1.1 = -1) = False := by rw [eI_1 (by omega)]; exact eq_false no.1
      have q1 : (eI s.1.1.2 = -1) = False := by rw [eI_1 (by omega)]; exact eq_false no.2
      rw [wSt_d _ _ _ no.1 no.2]
      unfold wyL
      simp [w_iload11 (M := mX11_whoYields) dX11_whoYields_46, w_iload_n3 (M := mX11_whoYields) dX11_whoYields_48, w_bipush (M := mX11_whoYields) (v := 99) dX11_whoYields_49 rfl, w_iadd (M := mX11_whoYields) dX11_whoYields_51, w_ic_gt (M := mX11_whoYields) (tgt := 297) dX11_whoYields_52 (by decide), w_iload6 (M := mX11_whoYields) dX11_whoYields_55, w_iconst (M := mX11_whoYields) (v := (-1)) dX11_whoYields_57 rfl, w_ic_eq (M := mX11_whoYields) (tgt := 67) dX11_whoYields_58 (by decide), w_iload7 (M := mX11_whoYields) dX11_whoYields_61, w_iconst (M := mX11_whoYields) (v := (-1)) dX11_whoYields_63 rfl, w_ic_ne (M := mX11_whoYields) (tgt := 297) dX11_whoYields_64 (by decide), w_iload10 (M := mX11_whoYields) dX11_whoYields_297, w_iret (M := mX11_whoYields) dX11_whoYields_299 rfl, Kn_v_, Kn_n_, kl_i_, kl_a_, kl_l_, kl_n_, s1_0_, s2_0_, s1_1, s1_2, s1_3, s1_4, s1_5, s1_6, s1_7, s1_8, s1_9, s1_10, s1_11, s1_12, s1_13, s1_14, s2_1, s2_2, s2_3, s2_4, s2_5, s2_6, s2_7, s2_8, s2_9, s2_10, s2_11, s2_12, s2_13, s2_14, List.map_nil, List.map_cons, List.sum_nil, List.sum_cons, ct_i_, ct_r_, ct_l_, t_si_, t_sl_, t_sr_, n_si_, n_sl_, n_sr_, i_si_, i_sl_, i_sr_, l_si_, l_sl_, l_sr_, r_si_, r_sl_, r_sr_, vr_s_, vr_n_, nz_0_, nz_1_, a1, a2, q0, q1]
    · have ok2 := ok
      obtain ⟨k1, k2, k3, k4, k5, k6⟩ := ok2
      obtain ⟨x12, x13, x14⟩ := x
      obtain ⟨y12, y13, c0⟩ := wy_c0 (d := d) hC (o1 := o1) (o2 := o2) hw hA hB (by omega) (by omega) (by omega) (by omega) (by omega) no (t := t) (s := s) (x12 := x12) (x13 := x13) (x14 := x14)
      have p0 : wP0 w B t s ≤ t + 1 := by rw [wP0_x]; exact wPx_le k3
      have p1 : wP1 w A t s ≤ t + 1 := by rw [wP1_x]; exact wPx_le k4
      obtain ⟨z1, c1⟩ := wy_c1 (d := d + 1) hC n1 (w := w) (E := s.1.1.1) (P := wP0 w B t s) (S := S0) (L := L0) (t := t) (by omega) (by omega) (by omega) (by omega) (by omega) (by omega) (by omega) s0 m0 (v2 := nI o2) (v4 := 1 + nI A) (v5 := 1 + nI B) (v7 := eI s.1.1.2) (v9 := nI (wP1 w A t s)) (w13 := y13) (x12 := some (.int y12)) (x14 := x14) (y0 := s.2.1) (y1 := s.2.2)
      obtain ⟨z2, c2⟩ := wy_c2 (d := d + 1) hC n2 (w := w) (E := s.1.1.2) (P := wP1 w A t s) (S := S1) (L := L1) (t := t) (by omega) (by omega) (by omega) (by omega) (by omega) (by omega) (by omega) s1 m1 (v2 := nI o1) (v4 := 1 + nI A) (v5 := 1 + nI B) (v7 := eI (wE s.1.1.1 (wP0 w B t s) S0 L0 t)) (v9 := nI (wP0 w B t s)) (w13 := y13) (x12 := some (.int y12)) (x14 := z1) (y0 := s.2.1 || wY s.1.1.1 (wP0 w B t s) S0) (y1 := s.2.2)
      have goal := ih (t + 1) (wSt w A B S0 S1 L0 L1 t s) (some (.int y12), some (.int y13), z2) (by omega) (by omega) (wOk_s l0 l1 ok) Q
      refine Eq.trans ?_ goal
      rw [c0 Q]
      unfold wyL
      simp only []
      rw [c1 Q, c2 Q]
      simp [w_iinc11 (M := mX11_whoYields) (v := 1) dX11_whoYields_291 rfl (by decide), w_goto (M := mX11_whoYields) (tgt := 46) dX11_whoYields_294 (by decide), Kn_v_, Kn_n_, kl_i_, kl_a_, kl_l_, kl_n_, s1_0_, s2_0_, s1_1, s1_2, s1_3, s1_4, s1_5, s1_6, s1_7, s1_8, s1_9, s1_10, s1_11, s1_12, s1_13, s1_14, s2_1, s2_2, s2_3, s2_4, s2_5, s2_6, s2_7, s2_8, s2_9, s2_10, s2_11, s2_12, s2_13, s2_14, List.map_nil, List.map_cons, List.sum_nil, List.sum_cons, ct_i_, ct_r_, ct_l_, t_si_, t_sl_, t_sr_, n_si_, n_sl_, n_sr_, i_si_, i_sl_, i_sr_, l_si_, l_sl_, l_sr_, r_si_, r_sl_, r_sr_, vr_s_, vr_n_, nz_0_, nz_1_, nI_s]
      unfold wSt
      exact Iff.rfl
end WAYC
