/-! both sides read a piece of a law -/
section JOINT
variable {t : Nat → Nat} {T : List (Nat × Nat × Nat)} {n q w c0 g0 d j p φ ω o m k c g j' j1 j2 j3 y op e B : Nat} {ws ws1 ws2 ws3 : List (Nat × Nat)} {l : List Bool} {h h' hc hc' hc1 hc2 hc3 hr hr' hr1 hr2 hr3 hr5 : am_h} {Q : Option Value → am_h → Prop} {x : Nat × Nat × Nat} {v a1 a2 f s : Int32}
/-! the one side: a number that must come, a word more -/
theorem cq_num {lo hi : Nat} (K : okC q T c j h) (hx : T[j]? = some x) (sx : sml x) (l1 : j + 1 < T.length) (x1 : x.1 = 2) (x2 : lo ≤ x.2.1 ∧ x.2.1 ≤ hi) (lh : hi < 20000) : Cal (d + 1) mX7_expectNumber [.ref 86, .int (nI lo), .int (nI hi)] h Q = Q (some (.int (nI x.2.1))) (cmA h (j + 1)) := by
  obtain ⟨k10, k11, -⟩ := K.tk hx
  have b := sx.2 (by omega)
  have wi : ∀ Q, Cal d mX11_within [.int (a_i h 86 11), .int (nI lo), .int (nI hi)] h Q = Q (some (.int (if nI lo ≤ a_i h 86 11 ∧ a_i h 86 11 ≤ nI hi then 1 else 0))) h := fun Q => by
    rw [q_X11_within, k11, inn_t x2.1 x2.2 (by omega), if_pos ⟨by rw [nI_lE (by omega) (by omega)]; exact x2.1, by rw [nI_lE (by omega) (by omega)]; exact x2.2⟩]
    rfl
  rw [q_X7_expectNumber (h' := cmA h (j + 1)) K.1.1 (fun _ => (cq_come K l1).1) wi, if_pos (by rw [k10, x1]; rfl), k11, if_pos ⟨by rw [nI_lE (by omega) (by omega)]; exact x2.1, by rw [nI_lE (by omega) (by omega)]; exact x2.2⟩]
theorem cq_num2 {lo hi : Nat} (K : okC q T c j h) (hx : T[j]? = some x) (sx : sml x) (l1 : j + 1 < T.length) (x1 : x.1 = 2) (x2 : ¬ (lo ≤ x.2.1 ∧ x.2.1 ≤ hi)) (ll : lo < 20000) (lh : hi < 20000) : Cal (d + 1) mX7_expectNumber [.ref 86, .int (nI lo), .int (nI hi)] h Q = Q (some (.int 0)) (flA h 2) := by
  obtain ⟨k10, k11, -⟩ := K.tk hx
  have b := sx.2 (by omega)
  have nc : ¬ (nI lo ≤ a_i h 86 11 ∧ a_i h 86 11 ≤ nI hi) := by
    rw [k11, nI_lE (by omega) (by omega), nI_lE (by omega) (by omega)]
    exact x2
  have wi : ∀ Q, Cal d mX11_within [.int (a_i h 86 11), .int (nI lo), .int (nI hi)] h Q = Q (some (.int (if nI lo ≤ a_i h 86 11 ∧ a_i h 86 11 ≤ nI hi then 1 else 0))) h := fun Q => by
    rw [q_X11_within, if_neg nc]
    have : inn (a_i h 86 11) (nI lo) (nI hi) = false := by
      unfold inn
      rw [← Bool.not_eq_true, Bool.and_eq_true, decide_eq_true_eq, decide_eq_true_eq]
      exact nc
    rw [this]
    rfl
  rw [q_X7_expectNumber (h' := cmA h (j + 1)) K.1.1 (fun _ => (cq_come K l1).1) wi, if_pos (by rw [k10, x1]; rfl), if_neg nc]
theorem cq_num1 {lo hi : Nat} (K : okC q T c j h) (hx : T[j]? = some x) (sx : sml x) (x1 : ¬ x.1 = 2) : Cal (d + 1) mX7_expectNumber [.ref 86, .int (nI lo), .int (nI hi)] h Q = Q (some (.int 0)) (flA h 1) := by
  obtain ⟨k10, k11, -⟩ := K.tk hx
  have hC := K.1.1
  have fa : ∀ a Q, Cal d mX7_fail [.ref 86, .int a] h Q = Q none (flA h a) := fun a Q => q_X7_fails hC
  have k1 : (a_i h 86 10 = 2) = False := by
    rw [k10, show (2 : Int32) = nI 2 from rfl, nI_inj (by have := sx.1; omega) (by omega)]
    exact eq_false x1
  unfold Cal
  simp only [am_en, am_ag, ct_i, ct_r, ct_l, List.length_cons, List.length_nil, List.replicate, show m_l mX7_expectNumber = 4 from rfl]
  simp [w_aload_n0 (M := mX7_expectNumber) dX7_expectNumber_0, w_getI (M := mX7_expectNumber) dX7_expectNumber_1 f_7_52 rfl (by decide) (by decide), w_iconst (M := mX7_expectNumber) (v := 2) dX7_expectNumber_4 rfl, w_ic_eq (M := mX7_expectNumber) (tgt := 15) dX7_expectNumber_5 (by decide), w_aload_n0 (M := mX7_expectNumber) dX7_expectNumber_8, w_iconst (M := mX7_expectNumber) (v := 1) dX7_expectNumber_9 rfl, c_7_117 (M := mX7_expectNumber) dX7_expectNumber_10 rfl, w_iconst (M := mX7_expectNumber) (v := 0) dX7_expectNumber_13 rfl, w_iret (M := mX7_expectNumber) dX7_expectNumber_14 rfl, w_aload_n0 (M := mX7_expectNumber) dX7_expectNumber_15, w_getI (M := mX7_expectNumber) dX7_expectNumber_16 f_7_111 rfl (by decide) (by decide), w_iload_n1 (M := mX7_expectNumber) dX7_expectNumber_19, w_iload_n2 (M := mX7_expectNumber) dX7_expectNumber_20, c_7_201 (M := mX7_expectNumber) dX7_expectNumber_21 rfl, w_if_ne (M := mX7_expectNumber) (tgt := 34) dX7_expectNumber_24 (by decide), w_aload_n0 (M := mX7_expectNumber) dX7_expectNumber_27, w_iconst (M := mX7_expectNumber) (v := 2) dX7_expectNumber_28 rfl, c_7_117 (M := mX7_expectNumber) dX7_expectNumber_29 rfl, w_iconst (M := mX7_expectNumber) (v := 0) dX7_expectNumber_32 rfl, w_iret (M := mX7_expectNumber) dX7_expectNumber_33 rfl, w_aload_n0 (M := mX7_expectNumber) dX7_expectNumber_34, w_getI (M := mX7_expectNumber) dX7_expectNumber_35 f_7_111 rfl (by decide) (by decide), w_istore_n (M := mX7_expectNumber) (i := 3) dX7_expectNumber_38 rfl (by decide), w_aload_n0 (M := mX7_expectNumber) dX7_expectNumber_39, c_7_49 (M := mX7_expectNumber) dX7_expectNumber_40 rfl, w_iload_n3 (M := mX7_expectNumber) dX7_expectNumber_43, w_iret (M := mX7_expectNumber) dX7_expectNumber_44 rfl, Kn_v_, Kn_n_, kl_i_, kl_a_, kl_l_, kl_n_, s1_0_, s2_0_, s1_1, s1_2, s1_3, s1_4, s1_5, s1_6, s1_7, s1_8, s1_9, s1_10, s1_11, s1_12, s1_13, s1_14, s2_1, s2_2, s2_3, s2_4, s2_5, s2_6, s2_7, s2_8, s2_9, s2_10, s2_11, s2_12, s2_13, s2_14, List.map_nil, List.map_cons, List.sum_nil, List.sum_cons, ct_i_, ct_r_, ct_l_, t_si_, t_sl_, t_sr_, n_si_, n_sl_, n_sr_, i_si_, i_sl_, i_sr_, l_si_, l_sl_, l_sr_, r_si_, r_sl_, r_sr_, vr_s_, vr_n_, nz_0_, nz_1_, hC.e, k1, fa]
theorem cq_em (K : okC q T c j h) (l1 : c < j) : (∀ Q, Cal d mX9_emit [.ref q, .int a1, .int a2] h Q = Q (some (.int (nI c))) (emA h q c (a2 * 32 + a1))) ∧ okC q T (c + 1) j (emA h q c v) ∧ cF q c h (emA h q c v) ∧ a_i (emA h q c v) (q + 7) c = v := by
  have ln := K.len
  obtain ⟨Z, z2, z3, z4, z5, z6, x', e, y1, y2, y3⟩ := K
  obtain ⟨-, l2, l3, -⟩ := id Z
  have fr : ∀ p i, ¬ (p = q ∧ i = 8) → ¬ (p = q + 7 ∧ i = c) → a_i (emA h q c v) p i = a_i h p i := fun p i n1 n2 => by
    unfold emA
    rw [ine n1, ine n2]
  have s : sm h (emA h q c v) := sm.rf
  refine ⟨fun Q => q_X9_emit Z z5 (by omega), ⟨Z.sm s, ⟨(fr _ _ (by omega) (by omega)).trans z2.1, z2.2.1, fun i x e => ?_⟩, (fr _ _ (by omega) (by omega)).trans z3, (fr _ _ (by omega) (by omega)).trans z4, ?_, by omega, x', e, (fr _ _ (by omega) (by omega)).trans y1, (fr _ _ (by omega) (by omega)).trans y2, (fr _ _ (by omega) (by omega)).trans y3⟩, ⟨s, rfl, fun p i n1 n2 n3 => fr p i n2 (by omega)⟩, ?_⟩
  · rw [fr _ _ (by omega) (by omega), fr _ _ (by omega) (by omega), fr _ _ (by omega) (by omega)]
    exact z2.2.2 i x e
  · unfold emA
    rw [ieq rfl rfl]
  · unfold emA
    rw [ine (by omega), ieq rfl rfl]
/-! pieces -/
def pre (t : Nat → Nat) (n : Nat) (T : List (Nat × Nat × Nat)) (q w c0 g0 j p φ ω o : Nat) (hc hr : am_h) : Prop := okC q T (c0 + p) j hc ∧ a_i hc 86 5 = nI w ∧ okP t n T w j hr ∧ okK (g0 + p) φ ω o hr ∧ g0 + p ≤ j
def pst (t : Nat → Nat) (n : Nat) (T : List (Nat × Nat × Nat)) (q w c0 g0 j p φ ω o j' : Nat) (ws : List (Nat × Nat)) (hc hc' hr hr' : am_h) : Prop := okC q T (c0 + p + ws.length) j' hc' ∧ cF q (c0 + p) hc hc' ∧ wdC hc' q c0 p ws ∧ okP t n T w j' hr' ∧ okK (g0 + p + ws.length) φ ω o hr' ∧ rF φ ω (g0 + p) hr hr' ∧ wdR hr' g0 p ws ∧ j + ws.length ≤ j' ∧ j < j'
theorem pre.nxt (a : pre t n T q w c0 g0 j p φ ω o hc hr) (b : pst t n T q w c0 g0 j p φ ω o j' ws hc hc' hr hr') : pre t n T q w c0 g0 j' (p + ws.length) φ ω o hc' hr' := by
  obtain ⟨a1, a2, a3, a4, a5⟩ := a
  obtain ⟨b1, b2, b3, b4, b5, b6, b7, b8, b9⟩ := b
  have q1 := a1.1.2.1
  have q2 := a1.1.2.2.1
  refine ⟨by rw [← Nat.add_assoc]; exact b1, ?_, b4, by rw [← Nat.add_assoc]; exact b5, by omega⟩
  rw [b2.2.2 _ _ (by omega) (by omega) (by omega)]
  exact a2
theorem pst.app (a : pst t n T q w c0 g0 j p φ ω o j1 ws1 hc hc1 hr hr1) (b : pst t n T q w c0 g0 j1 (p + ws1.length) φ ω o j2 ws2 hc1 hc2 hr1 hr2) : pst t n T q w c0 g0 j p φ ω o j2 (ws1 ++ ws2) hc hc2 hr hr2 := by
  obtain ⟨a1, a2, a3, a4, a5, a6, a7, a8, a9⟩ := a
  obtain ⟨b1, b2, b3, b4, b5, b6, b7, b8, b9⟩ := b
  have ll : (ws1 ++ ws2).length = ws1.length + ws2.length := List.length_append
  refine ⟨?_, a2.tr b2 (by omega), (a3.fr b2 (by omega) a1.1.2.1).app b3, b4, ?_, a6.tr b6 (Nat.le_refl _) (Nat.le_refl _) (by omega), (a7.fr b6 (by omega)).app b7, by omega, by omega⟩
  · rw [ll, show c0 + p + (ws1.length + ws2.length) = c0 + (p + ws1.length) + ws2.length by omega]; exact b1
  · rw [ll, show g0 + p + (ws1.length + ws2.length) = g0 + (p + ws1.length) + ws2.length by omega]; exact b5
theorem pst.st (a : pst t n T q w c0 g0 j p φ ω o j' ws hc hc' hr hr') {v : Int32} : pst t n T q w c0 g0 j p φ ω o j' ws hc hc' hr (s_i hr' 126 28 v) := by
  obtain ⟨a1, a2, a3, a4, a5, a6, a7, a8, a9⟩ := a
  exact ⟨a1, a2, a3, a4.st, a5.st, a6.tr (stH_F (φ := φ) (ω := ω) (g := g0 + p)) (Nat.le_refl _) (Nat.le_refl _) (Nat.le_refl _), a7.fr (stH_F (φ := φ) (ω := ω) (g := g0 + p + ws.length)) (Nat.le_refl _), a8, a9⟩
theorem stp.fr (S : stp k φ ω h) (F : rF φ ω g h h') : stp k φ ω h' := fun m e => by
  rcases S m e with ⟨z, z1, z2⟩ | ⟨op, z1, z2, z3, z4⟩
  · exact Or.inl ⟨z, z1, by rw [F.2.2 _ _ (by omega) (by omega) (by omega) (by omega) (by omega) (by omega)]; exact z2⟩
  · exact Or.inr ⟨op, z1, z2, by rw [F.2.2 _ _ (by omega) (by omega) (by omega) (by omega) (by omega) (by omega)]; exact z3, by rw [F.2.2 _ _ (by omega) (by omega) (by omega) (by omega) (by omega) (by omega)]; exact z4⟩
theorem stp.mono {k' : Nat} (S : stp k φ ω h) (lk : k ≤ k') : stp k' φ ω h := fun m e => by
  rcases S m e with z | ⟨op, z1, z2, z3, z4⟩
  · exact Or.inl z
  · exact Or.inr ⟨op, z1, by omega, z3, z4⟩
theorem stp.new (h1 : a_i h 140 ω = nI op) (h2 : a_i h 141 ω = nI φ) (lo : op < 1000) (lr : rkN op < k) : stp k φ (ω + 1) h := fun m e => by
  have : m = ω := by omega
  subst this
  exact Or.inr ⟨op, lo, lr, h1, h2⟩
theorem stp.nw (K : okK g φ ω o h) (h' : am_h) (F : ∀ i, i < ω → a_i h' 141 i = a_i h 141 i) : stp k (φ + 1) ω h' := fun m e => by
  obtain ⟨z, z1, z2⟩ := K.2.2.2.2 m (by omega)
  exact Or.inl ⟨z, by omega, by rw [F m (by omega)]; exact z2⟩
theorem popH_G {h : am_h} {ω' : Nat} {g op : Nat} : rF φ ω' g h (popH h ω g op) := ⟨popH_s, rfl, fun p j n1 _ _ _ _ n6 => popH_i (by omega) (by omega)⟩
/-- an operator's piece: what came behind it, and the operator -/
theorem pst.bin (A : pst t n T q w c0 g0 (j1 + 1) p φ (ω + 1) o j3 ws3 hc2 hc3 hr3 hr5) (cf : cF q (c0 + p) hc1 hc2) (rf : rF φ ω (g0 + p) hr2 hr3) (l1 : c0 + p ≤ j1) (ly : y < 1000) (ho : oOf op = nI y) (nj : ¬ (op = 2 ∨ op = 3)) : pst t n T q w c0 g0 j1 p φ ω o j3 (ws3 ++ [(op, 0)]) hc1 (emA hc3 q (c0 + p + ws3.length) (0 * 32 + nI op)) hr2 (popH hr5 ω (g0 + p + ws3.length) y) := by
  obtain ⟨a1, a2, a3, a4, a5, a6, a7, a8, a9⟩ := A
  have ll : (ws3 ++ [(op, 0)]).length = ws3.length + 1 := by rw [List.length_append]; rfl
  obtain ⟨-, e1, e2, e3⟩ := cq_em (d := 0) (a1 := 0) (a2 := 0) (v := 0 * 32 + nI op) a1 (by omega)
  obtain ⟨o1, o2, o3, o4⟩ := popH_o (h := hr5) (ω := ω) (g := g0 + p + ws3.length) (op := y)
  refine ⟨by rw [ll, ← Nat.add_assoc]; exact e1, cf.tr (a2.tr e2 (by omega)) (Nat.le_refl _), (a3.fr e2 (Nat.le_refl _) a1.1.2.1).app (wdC.one ?_), a4.po, by rw [ll, ← Nat.add_assoc]; exact a5.po, rf.tr (a6.tr (popH_G (φ := φ) (ω' := ω + 1)) (Nat.le_refl _) (Nat.le_refl _) (by omega)) (Nat.le_refl _) (Nat.le_succ _) (Nat.le_refl _), (a7.fr (popH_F (φ := φ) (ω := ω)) (Nat.le_refl _)).app (wdR.one ?_ ?_), by omega, by omega⟩
  · rw [← Nat.add_assoc, e3]
    unfold cwd
    rw [if_neg nj]
    show 0 * 32 + nI op = nI (0 * 32 + op)
    rw [show (0 : Int32) * 32 = nI (0 * 32) from rfl, nI_a]
  · rw [← Nat.add_assoc, o1]
    exact ho.symm
  · rw [← Nat.add_assoc, o2]
    unfold rwd
    rw [if_neg nj]
    rfl
/-! what is shown of each piece -/
def bad (d q dc : Nat) (M : am_m) (as : List Value) (hc hr : am_h) : Prop := ∃ (f s : Int32) (hc' hr' : am_h), (∀ Q, Cal dc M as hc Q = Q none hc') ∧ flS q f s hc hc' ∧ (∀ Q, LPH d hr Q = LPH d hr' Q) ∧ flR f s hr hr'
def oneG (t : Nat → Nat) (n : Nat) (T : List (Nat × Nat × Nat)) (q w c0 g0 d dc j p φ ω o B : Nat) (l : List Bool) (M : am_m) (as : List Value) (hc hr : am_h) : Prop := ∃ (j' : Nat) (ws : List (Nat × Nat)) (hc' hr' : am_h), (∀ Q, Cal dc M as hc Q = Q none hc') ∧ pst t n T q w c0 g0 j p φ ω o j' ws hc hc' hr hr' ∧ Seg w B p l ws (false :: l) ∧ ∀ h'', (∀ Q, Cal (d + 8) mX12_oneIsOver [.ref 126] hr' Q = Q none h'') → ∀ Q, LPH d hr Q = LPH d h'' Q
def sumG (t : Nat → Nat) (n : Nat) (T : List (Nat × Nat × Nat)) (q w c0 g0 d dc j p φ ω o B k st : Nat) (b : Bool) (l : List Bool) (E : Nat × Nat × Nat → Prop) (M : am_m) (as : List Value) (hc hr : am_h) : Prop := ∃ (j' : Nat) (ws : List (Nat × Nat)) (hc' hr1 hr2 : am_h) (x : Nat × Nat × Nat), (∀ Q, Cal dc M as hc Q = Q none hc') ∧ pst t n T q w c0 g0 j p φ ω o j' ws hc hc' hr hr2 ∧ Seg w B p l ws (b :: l) ∧ veq k hr1 hr2 ∧ (∀ Q, LPH d hr Q = LPH d hr1 Q) ∧ a_i hr2 126 28 = nI st ∧ T[j']? = some x ∧ E x
def askG (t : Nat → Nat) (n : Nat) (T : List (Nat × Nat × Nat)) (q w c0 g0 d dc j p φ ω o B : Nat) (l : List Bool) (M : am_m) (as : List Value) (hc hr : am_h) : Prop := ∃ (j' : Nat) (ws : List (Nat × Nat)) (hc' hr' : am_h), (∀ Q, Cal dc M as hc Q = Q none hc') ∧ pst t n T q w c0 g0 j p φ ω o j' ws hc hc' hr hr' ∧ Seg w B p l ws (true :: l) ∧ ∀ h'', (∀ Q, Cal (d + 8) mX12_askIsOver [.ref 126] hr' Q = Q none h'') → ∀ Q, LPH d hr Q = LPH d h'' Q
def OneP (t : Nat → Nat) (n : Nat) (T : List (Nat × Nat × Nat)) (q w c0 g0 d j : Nat) : Prop := ∀ (o m ω p dc : Nat) (l : List Bool) (hc hr : am_h), o ≤ 8 → m ≤ 2 * o → ω ≤ 4 * o + 2 → 7 * (8 - o) + 5 ≤ dc → pre t n T q w c0 g0 j p (m + 1) ω o hc hr → a_i hr 126 28 = 1 → oneG t n T q w c0 g0 d dc j p (m + 1) ω o (l.length + 1 + 5 * (8 - o)) l mX7_readOne [.ref 86, .int (nI o)] hc hr ∨ bad d q dc mX7_readOne [.ref 86, .int (nI o)] hc hr
def ProdP (t : Nat → Nat) (n : Nat) (T : List (Nat × Nat × Nat)) (q w c0 g0 d j : Nat) : Prop := ∀ (o m ω p dc : Nat) (l : List Bool) (hc hr : am_h), o ≤ 8 → m ≤ 2 * o → ω ≤ 4 * o + 1 → 7 * (8 - o) + 6 ≤ dc → pre t n T q w c0 g0 j p (m + 1) ω o hc hr → a_i hr 126 28 = 1 → ¬ a_i hr 138 m = 7 → stp 4 (m + 1) ω hr → sumG t n T q w c0 g0 d dc j p (m + 1) ω o (l.length + 2 + 5 * (8 - o)) 4 2 false l (fun x => ¬ isS x 42 ∧ ¬ isS x 47) mX7_readProduct [.ref 86, .int (nI o)] hc hr ∨ bad d q dc mX7_readProduct [.ref 86, .int (nI o)] hc hr
def SumP (t : Nat → Nat) (n : Nat) (T : List (Nat × Nat × Nat)) (q w c0 g0 d j : Nat) : Prop := ∀ (o m ω p dc : Nat) (l : List Bool) (hc hr : am_h), o ≤ 8 → m ≤ 2 * o → ω ≤ 4 * o → 7 * (8 - o) + 7 ≤ dc → pre t n T q w c0 g0 j p (m + 1) ω o hc hr → a_i hr 126 28 = 1 → ¬ a_i hr 138 m = 7 → stp 3 (m + 1) ω hr → sumG t n T q w c0 g0 d dc j p (m + 1) ω o (l.length + 3 + 5 * (8 - o)) 3 2 false l (fun x => ¬ isOp x) mX7_readSum [.ref 86, .int (nI o)] hc hr ∨ bad d q dc mX7_readSum [.ref 86, .int (nI o)] hc hr
def AskP (t : Nat → Nat) (n : Nat) (T : List (Nat × Nat × Nat)) (q w c0 g0 d j : Nat) : Prop := ∀ (o m ω p dc : Nat) (l : List Bool) (hc hr : am_h), o ≤ 8 → m + 1 ≤ 2 * o → ω ≤ 4 * o → 7 * (8 - o) + 8 ≤ dc → pre t n T q w c0 g0 j p (m + 1) ω o hc hr → a_i hr 126 28 = 0 → askG t n T q w c0 g0 d dc j p (m + 1) ω o (l.length + 4 + 5 * (8 - o)) l mX7_readAsk [.ref 86, .int (nI o)] hc hr ∨ bad d q dc mX7_readAsk [.ref 86, .int (nI o)] hc hr
def BothP (t : Nat → Nat) (n : Nat) (T : List (Nat × Nat × Nat)) (q w c0 g0 d j : Nat) : Prop := ∀ (o m ω p dc : Nat) (l : List Bool) (hc hr : am_h), o ≤ 8 → m + 1 ≤ 2 * o → ω + 1 ≤ 4 * o → 7 * (8 - o) + 9 ≤ dc → pre t n T q w c0 g0 j p (m + 1) ω o hc hr → a_i hr 126 28 = 0 → a_i hr 138 m = 2 → stp 2 (m + 1) ω hr → sumG t n T q w c0 g0 d dc j p (m + 1) ω o (l.length + 5 + 5 * (8 - o)) 2 3 true l (fun x => ¬ isW x 19) mX7_readBoth [.ref 86, .int (nI o)] hc hr ∨ bad d q dc mX7_readBoth [.ref 86, .int (nI o)] hc hr
def EitherP (t : Nat → Nat) (n : Nat) (T : List (Nat × Nat × Nat)) (q w c0 g0 d j : Nat) : Prop := ∀ (o m ω p dc : Nat) (l : List Bool) (hc hr : am_h), o ≤ 8 → m + 1 ≤ 2 * o → ω + 2 ≤ 4 * o → 7 * (8 - o) + 10 ≤ dc → pre t n T q w c0 g0 j p (m + 1) ω o hc hr → a_i hr 126 28 = 0 → a_i hr 138 m = 2 → stp 1 (m + 1) ω hr → sumG t n T q w c0 g0 d dc j p (m + 1) ω o (l.length + 6 + 5 * (8 - o)) 1 3 true l (fun x => ¬ isW x 19 ∧ ¬ isW x 18) mX7_readEither [.ref 86, .int (nI o)] hc hr ∨ bad d q dc mX7_readEither [.ref 86, .int (nI o)] hc hr
/-- a choice: its frame is begun already; the frame and the begun one are closed behind it -/
def chG (t : Nat → Nat) (n : Nat) (T : List (Nat × Nat × Nat)) (q w c0 g0 d dc j p m ω o B : Nat) (l : List Bool) (M : am_m) (as : List Value) (hc hr : am_h) : Prop := ∃ (j' : Nat) (ws : List (Nat × Nat)) (hc' hr' : am_h), (∀ Q, Cal dc M as hc Q = Q none hc') ∧ (okC q T (c0 + p + ws.length) j' hc' ∧ cF q (c0 + p) hc hc' ∧ wdC hc' q c0 p ws ∧ okP t n T w j' hr' ∧ okK (g0 + p + ws.length) m ω o hr' ∧ rF m ω (g0 + p) hr hr' ∧ wdR hr' g0 p ws ∧ j + ws.length ≤ j' ∧ j < j') ∧ Seg w B p l ws (false :: l) ∧ ∀ h'', (∀ Q, Cal (d + 8) mX12_oneIsOver [.ref 126] hr' Q = Q none h'') → ∀ Q, LPH d hr Q = LPH d h'' Q
def ChoP (t : Nat → Nat) (n : Nat) (T : List (Nat × Nat × Nat)) (q w c0 g0 d j : Nat) : Prop := ∀ (o m ω p dc : Nat) (l : List Bool) (hc hr : am_h), o + 1 ≤ 8 → 1 ≤ m → m + 1 ≤ 2 * (o + 1) → ω ≤ 4 * o + 2 → 7 * (8 - (o + 1)) + 11 ≤ dc → pre t n T q w c0 g0 j p (m + 1) ω (o + 1) hc hr → (∀ i, i < ω → ∃ z, z ≤ m ∧ a_i hr 141 i = nI z) → a_i hr 126 28 = 0 → a_i hr 138 m = 2 → chG t n T q w c0 g0 d dc j p m ω o (l.length + 1 + 5 * (8 - o)) l mX7_readChoice [.ref 86, .int (nI (o + 1))] hc hr ∨ bad d q dc mX7_readChoice [.ref 86, .int (nI (o + 1))] hc hr
theorem flR.ve (a : flR f s h h') (v : veq k h hr) : flR f s hr h' := by
  obtain ⟨z1, z2, z3, z4, z5, z6⟩ := a
  refine ⟨z1, ⟨z2.1.trans v.1.1.symm, z2.2.1.trans v.1.2.1.symm, z2.2.2.trans v.1.2.2.symm⟩, z3.trans v.2.1.symm, z4, z5, fun p i n1 n2 => ?_⟩
  rw [z6 p i n1 n2, v.2.2.1 p i (by omega) (by omega)]
theorem em_come (K : okC q T c j h) (l1 : j + 1 < T.length) : okC q T (c + 1) (j + 1) (cmA (emA h q c v) (j + 1)) ∧ cF q c h (cmA (emA h q c v) (j + 1)) ∧ ∀ Q, Cal d mX7_come [.ref 86] (emA h q c v) Q = Q none (cmA (emA h q c v) (j + 1)) := by
  obtain ⟨Z, z2, z3, z4, z5, z6, x', e, y1, y2, y3⟩ := K
  obtain ⟨-, l2, l3, -⟩ := id Z
  have fr : ∀ p i, ¬ (p = q ∧ i = 8) → ¬ (p = q + 7 ∧ i = c) → a_i (emA h q c v) p i = a_i h p i := fun p i n1 n2 => by
    unfold emA
    rw [ine n1, ine n2]
  have s : sm h (emA h q c v) := sm.rf
  have fr2 : ∀ p i, ¬ (p = 86 ∧ 10 ≤ i ∧ i ≤ 13) → a_i (cmA (emA h q c v) (j + 1)) p i = a_i (emA h q c v) p i := fun p i n => by
    unfold cmA
    rw [ine (by omega), ine (by omega), ine (by omega), ine (by omega)]
  have s2 : sm h (cmA (emA h q c v) (j + 1)) := sm.rf
  obtain ⟨x, ex⟩ : ∃ x, T[j + 1]? = some x := ⟨_, List.getElem?_eq_getElem l1⟩
  obtain ⟨w1, w2, w3⟩ := z2.2.2 _ _ ex
  refine ⟨⟨Z.sm s2, ⟨?_, z2.2.1, fun i x e => ?_⟩, ?_, ?_, ?_, by omega, x, ex, ?_, ?_, ?_⟩, ⟨s2, rfl, fun p i n1 n2 n3 => ?_⟩, fun Q => q_X7_come (Z.sm s).1 ?_ ?_ ?_ l1 z2.2.1⟩
  · rw [fr2 _ _ (by omega), fr _ _ (by omega) (by omega)]; exact z2.1
  · rw [fr2 _ _ (by omega), fr2 _ _ (by omega), fr2 _ _ (by omega), fr _ _ (by omega) (by omega), fr _ _ (by omega) (by omega), fr _ _ (by omega) (by omega)]
    exact z2.2.2 i x e
  · rw [fr2 _ _ (by omega), fr _ _ (by omega) (by omega)]; exact z3
  · unfold cmA
    rw [ieq rfl rfl]
  · rw [fr2 _ _ (by omega)]
    unfold emA
    rw [ieq rfl rfl]
  · unfold cmA
    rw [ine (by omega), ine (by omega), ine (by omega), ieq rfl rfl, fr _ _ (by omega) (by omega)]; exact w1
  · unfold cmA
    rw [ine (by omega), ine (by omega), ieq rfl rfl, fr _ _ (by omega) (by omega)]; exact w2
  · unfold cmA
    rw [ine (by omega), ieq rfl rfl, fr _ _ (by omega) (by omega)]; exact w3
  · rw [fr2 _ _ n1, fr _ _ n2 (by omega)]
  · rw [fr _ _ (by omega) (by omega)]; exact z3
  · rw [fr _ _ (by omega) (by omega)]; exact z2.1
  · rw [fr _ _ (by omega) (by omega)]; exact z4
theorem wdb {s v : Int32} (k : tkR x s v) (e : x.1 = 3) : x.2.1 ≤ 32 := by
  rcases k with ⟨k1, k2⟩ | ⟨k1, k2, -⟩ | ⟨k1, ⟨k4, k2, k3⟩ | ⟨k4, k2⟩⟩ | ⟨k1, k2, k3, k4⟩ | ⟨k1, k2⟩ <;> omega
theorem bad.re {dc dc' : Nat} {M M' : am_m} {as as' : List Value} (b : bad d q dc M as hc1 hr1) (cf : cF q c hc hc1) (rf : rF φ ω g hr hr1) (lp : ∀ Q, LPH d hr Q = LPH d hr1 Q) (k : ∀ f s h2, (∀ Q, Cal dc M as hc1 Q = Q none h2) → flS q f s hc h2 → ∃ h3, (∀ Q, Cal dc' M' as' hc Q = Q none h3) ∧ flS q f s hc h3) : bad d q dc' M' as' hc hr := by
  obtain ⟨f, s, h2, r2, b1, b2, b3, b4⟩ := b
  obtain ⟨h3, k1, k2⟩ := k f s h2 b1 (b2.re cf)
  exact ⟨f, s, h3, r2, k1, k2, fun Q => (lp Q).trans (b3 Q), b4.re rf⟩
end JOINT
