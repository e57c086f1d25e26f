/-! the other side comes to the next token -/
section RNEXT2
variable {d n c k i : Nat} {h : am_h} {Q : Option Value → am_h → Prop} {t : Nat → Nat}
/-- a sign, as the one side and as the other side has it -/
def smp (y : Nat) : Nat := if y = 316 then 300 else if y = 318 then 301 else y
def isg (y : Nat) : Prop := y = 60 ∨ y = 62 ∨ y = 61 ∨ y = 35 ∨ y = 43 ∨ y = 45 ∨ y = 42 ∨ y = 47 ∨ y = 40 ∨ y = 41 ∨ y = 59 ∨ y = 316 ∨ y = 318
theorem sgn_i : ∀ c, c < 256 → sgn c = true → c = 60 ∨ c = 62 ∨ c = 61 ∨ c = 35 ∨ c = 43 ∨ c = 45 ∨ c = 42 ∨ c = 47 ∨ c = 40 ∨ c = 41 ∨ c = 59 := by decide +kernel
theorem sgn_44 : sgn 44 = false := by decide +kernel
/-- a token of the one side, and what the other side has of it -/
def tkR (x : Nat × Nat × Nat) (s v : Int32) : Prop :=
  (x.1 = 0 ∧ s = 0) ∨ (x.1 = 2 ∧ s = 2 ∧ ∃ w, v = nI w ∧ nR x.2.1 w) ∨ (x.1 = 3 ∧ ((x.2.1 < 32 ∧ s = 1 ∧ v = nI (wm x.2.1)) ∨ (x.2.1 = 32 ∧ s = 4)))
  ∨ (x.1 = 4 ∧ s = 3 ∧ v = nI (smp x.2.1) ∧ isg x.2.1) ∨ (x.1 = 1 ∧ (s = 4 ∨ (s = 3 ∧ v = 44)))
/-- what coming to a token changes -/
def nxR (h h' : am_h) : Prop := sm h h' ∧ a_l h' = a_l h ∧ ∀ p j, ¬ (p = 126 ∧ 15 ≤ j ∧ j ≤ 18) → a_i h' p j = a_i h p j
theorem skb_b : ∀ (k i : Nat), i + k = n → i ≤ skb t n k i ∧ skb t n k i ≤ n ∧ (skb t n k i < n → ¬ (t (skb t n k i) = 32 ∨ t (skb t n k i) = 10)) := by
  intro k
  induction k with
  | zero => intro i e; exact ⟨Nat.le_refl _, by show i ≤ n; omega, fun z => absurd (show i < n from z) (by omega)⟩
  | succ k ih =>
    intro i e
    by_cases g : i < n ∧ (t i = 32 ∨ t i = 10)
    · have es : skb t n (k + 1) i = skb t n k (i + 1) := by
        show (if _ then _ else _) = _
        rw [if_pos g]
      rw [es]
      have := ih (i + 1) (by omega)
      exact ⟨by omega, this.2⟩
    · have es : skb t n (k + 1) i = i := by
        show (if _ then _ else _) = _
        rw [if_neg g]
      rw [es]
      exact ⟨Nat.le_refl _, by omega, fun l z => g ⟨l, z⟩⟩
theorem wm_b : ∀ w, w < 32 → wm w < 32 := by decide
theorem scw_l : ∀ (k i : Nat), i + k = n → ∀ e, e < scw t n k i - i → lt (t (i + e)) = true := by
  intro k
  induction k with
  | zero => intro i _ e l; exact absurd (show e < i - i from l) (by omega)
  | succ k ih =>
    intro i ei e l
    by_cases g : i < n ∧ lt (t i) = true
    · have es : scw t n (k + 1) i = scw t n k (i + 1) := by
        show (if _ then _ else _) = _
        rw [if_pos g]
      rw [es] at l
      cases e with
      | zero => exact g.2
      | succ e =>
        have := ih (i + 1) (by omega) e (by omega)
        rw [show i + 1 + e = i + (e + 1) by omega] at this
        exact this
    · have es : scw t n (k + 1) i = i := by
        show (if _ then _ else _) = _
        rw [if_neg g]
      rw [es] at l
      omega
theorem tks_1 {f : Nat} : tks t n (f + 1) i = if i < n then (if dg (t i) = true then (2, (scn t n (n - i) i 0).2, i) :: tks t n f (scn t n (n - i) i 0).1 else if lt (t i) = true then (3, nwd t i (scw t n (n - i) i) 153 0 0, i) :: tks t n f (scw t n (n - i) i) else if t i = 32 ∨ t i = 10 then tks t n f (i + 1) else if (t i = 60 ∨ t i = 62) ∧ i + 1 < n ∧ t (i + 1) = 61 then (4, t i + 256, i) :: tks t n f (i + 2) else (if sgn (t i) = true then 4 else 1, t i, i) :: tks t n f (i + 1)) else [] := rfl
theorem tks_0 : tks t n 0 i = [] := rfl
theorem tks_ff : ∀ (f g i : Nat), n ≤ i + f → n ≤ i + g → tks t n f i = tks t n g i := by
  intro f
  induction f with
  | zero =>
    intro g i e1 e2
    cases g with
    | zero => rfl
    | succ g => rw [tks_0, tks_1, if_neg (by omega)]
  | succ f ih =>
    intro g i e1 e2
    by_cases ci : i < n
    · cases g with
      | zero => omega
      | succ g =>
        rw [tks_1, tks_1, if_pos ci, if_pos ci]
        by_cases g1 : dg (t i) = true
        · have bd := scn_s ci g1
          rw [if_pos g1, if_pos g1, ih g _ (by omega) (by omega)]
        · rw [if_neg g1, if_neg g1]
          by_cases g2 : lt (t i) = true
          · have bd := scw_s ci g2
            rw [if_pos g2, if_pos g2, ih g _ (by omega) (by omega)]
          · rw [if_neg g2, if_neg g2, ih g (i + 1) (by omega) (by omega), ih g (i + 2) (by omega) (by omega)]
    · rw [tks_1, if_neg ci]
      cases g with
      | zero => rfl
      | succ g => rw [tks_1, if_neg ci]
theorem tks_skb : ∀ (k i : Nat), i + k = n → tks t n (n - i) i = tks t n (n - skb t n k i) (skb t n k i) := by
  intro k
  induction k with
  | zero => intro i e; rfl
  | succ k ih =>
    intro i e
    by_cases g : i < n ∧ (t i = 32 ∨ t i = 10)
    · have es : skb t n (k + 1) i = skb t n k (i + 1) := by
        show (if _ then _ else _) = _
        rw [if_pos g]
      have q1 : ¬ dg (t i) = true := by unfold dg; rw [decide_eq_true_eq]; omega
      have q2 : ¬ lt (t i) = true := by unfold lt; rw [decide_eq_true_eq]; omega
      rw [es, ← ih (i + 1) (by omega), show n - i = (n - (i + 1)) + 1 by omega, tks_1, if_pos g.1, if_neg q1, if_neg q2, if_pos g.2]
    · have es : skb t n (k + 1) i = i := by
        show (if _ then _ else _) = _
        rw [if_neg g]
      rw [es]
set_option maxHeartbeats 2000000 in
theorem q_X12_next (T : tpR h t n) (ha : a_i h 126 15 = nI i) (hi : i ≤ n) : ∃ (h' : am_h) (x : Nat × Nat × Nat) (i' : Nat) (R : List (Nat × Nat × Nat)), tks t n (n - i) i ++ [(0, 0, n)] = x :: R ∧ (∀ Q, Cal (d + 2) mX12_next [.ref 126] h Q = Q none h') ∧ nxR h h' ∧ a_i h' 126 15 = nI i' ∧ i' ≤ n ∧ a_i h' 126 16 = nI x.2.2 ∧ tkR x (a_i h' 126 17) (a_i h' 126 18) ∧ (¬ x.1 = 0 → R = tks t n (n - i') i' ++ [(0, 0, n)]) := by
  obtain ⟨hR, e1, hn, ht⟩ := id T
  obtain ⟨I, eI⟩ : ∃ I, I = skb t n (n - i) i := ⟨_, rfl⟩
  have bd := skb_b (t := t) (n := n) (n - i) i (by omega)
  rw [← eI] at bd
  obtain ⟨B1, B2, B3⟩ := bd
  have tk := tks_skb (t := t) (n := n) (n - i) i (by omega)
  rw [← eI] at tk
  have h0 : s_i h 126 15 (nI i) = h := si_self ha
  have s0 : ∀ Q, Cal (d + 2) mX12_next [.ref 126] h Q = WP (d + 2) mX12_next 52 (nL none none none none) [] (s_i h 126 15 (nI I)) Q := fun Q => by
    have z := nbl (d := d + 2) (Q := Q) T (n - i) i (by omega)
    rw [h0, ← eI] at z
    rw [← z]
    rfl
  -- the heap behind blanks
  obtain ⟨G, eG⟩ : ∃ G, G = s_i (s_i h 126 15 (nI I)) 126 16 (nI I) := ⟨_, rfl⟩
  have G_i : ∀ p j, ¬ (p = 126 ∧ 15 ≤ j ∧ j ≤ 18) → a_i G p j = a_i h p j := fun p j z => by
    rw [eG, ine (by omega), ine (by omega)]
  have G15 : a_i G 126 15 = nI I := by rw [eG, ine (by omega), ieq rfl rfl]
  have G16 : a_i G 126 16 = nI I := by rw [eG, ieq rfl rfl]
  have Gt : a_t G = a_t h := by rw [eG]; rfl
  have Gr : a_r G = a_r h := by rw [eG]; rfl
  have G1 : G.1 = h.1 := by rw [eG]; rfl
  have Gl : a_l G = a_l h := by rw [eG]; rfl
  have TG : tpR G t n := ⟨by rw [Gt, Gr]; exact hR, (G_i _ _ (by omega)).trans e1, hn, fun j hj => ⟨(G_i _ _ (by omega)).trans (ht j hj).1, (ht j hj).2⟩⟩
  have hG := TG.1
  have eG1 := TG.2.1
  by_cases cn : ¬ I < n
  · have In : I = n := by omega
    have es : tks t n (n - i) i = [] := by
      rw [tk, In, Nat.sub_self, tks_0]
    have y1 : (nI I = nI n) = True := by rw [In]; simp
    refine ⟨s_i G 126 17 0, (0, 0, n), n, [], by rw [es]; rfl, fun Q => ?_, ⟨⟨Gt, Gr, G1⟩, Gl, fun p j z => ?_⟩, ?_, Nat.le_refl _, ?_, ?_, fun z => absurd rfl z⟩
    · rw [s0, eG]
      unfold nL
      simp [w_aload_n0 (M := mX12_next) dX12_next_52, w_aload_n0 (M := mX12_next) dX12_next_53, w_getI (M := mX12_next) dX12_next_54 f_12_265 rfl (by decide) (by decide), w_putI (M := mX12_next) dX12_next_57 f_12_271 rfl (Or.inl rfl), w_aload_n0 (M := mX12_next) dX12_next_60, w_getI (M := mX12_next) dX12_next_61 f_12_265 rfl (by decide) (by decide), w_aload_n0 (M := mX12_next) dX12_next_64, w_getI (M := mX12_next) dX12_next_65 f_12_268 rfl (by decide) (by decide), w_ic_ne (M := mX12_next) (tgt := 77) dX12_next_68 (by decide), w_aload_n0 (M := mX12_next) dX12_next_71, w_iconst (M := mX12_next) (v := 0) dX12_next_72 rfl, w_putI (M := mX12_next) dX12_next_73 f_12_274 rfl (Or.inl rfl), w_vret (M := mX12_next) dX12_next_76 rfl, Kn_v_, Kn_n_, kl_i_, kl_a_, kl_l_, kl_n_, s1_0_, s2_0_, s1_1, s1_2, s1_3, s1_4, s1_5, s1_6, s1_7, s1_8, s1_9, s1_10, s1_11, s1_12, s1_13, s1_14, s2_1, s2_2, s2_3, s2_4, s2_5, s2_6, s2_7, s2_8, s2_9, s2_10, s2_11, s2_12, s2_13, s2_14, List.map_nil, List.map_cons, List.sum_nil, List.sum_cons, ct_i_, ct_r_, ct_l_, t_si_, t_sl_, t_sr_, n_si_, n_sl_, n_sr_, i_si_, i_sl_, i_sr_, l_si_, l_sl_, l_sr_, r_si_, r_sl_, r_sr_, vr_s_, vr_n_, nz_0_, nz_1_, hR.e, e1, y1]
    · rw [ine (by omega)]; exact G_i p j z
    · rw [ine (by omega), G15, In]
    · rw [ine (by omega), G16, In]
    · exact Or.inl ⟨rfl, ieq rfl rfl⟩
  have cn := Classical.not_not.mp cn
  obtain ⟨t1, t2⟩ := ht I cn
  have y1 : (nI I = nI n) = False := by rw [nI_inj (by omega) (by omega)]; exact eq_false (by omega)
  have x1 : am_in1 (nI I) 300 = True := by rw [in1_n (by omega)]; exact eq_true (by omega)
  have x2 := nI_c (a := I) (by omega)
  have x3 : nI I + 1 = nI (I + 1) := nI_a (b := 1)
  have t1G : a_i G 129 I = b8 (t I) := (TG.2.2.2 I cn).1
  have lq : ∀ Q, Cal (d + 1) mX12_isLetter [.int (b8 (t I))] G Q = Q (some (.int (if lt (t I) then 1 else 0))) G := fun Q => rq_isLetter hG t2
  have s1 : ∀ Q, Cal (d + 2) mX12_next [.ref 126] h Q = WP (d + 2) mX12_next 87 (nL (some (.int (b8 (t I)))) none none none) [] G Q := fun Q => by
    rw [s0, eG]
    unfold nL
    simp [w_aload_n0 (M := mX12_next) dX12_next_52, w_aload_n0 (M := mX12_next) dX12_next_53, w_getI (M := mX12_next) dX12_next_54 f_12_265 rfl (by decide) (by decide), w_putI (M := mX12_next) dX12_next_57 f_12_271 rfl (Or.inl rfl), w_aload_n0 (M := mX12_next) dX12_next_60, w_getI (M := mX12_next) dX12_next_61 f_12_265 rfl (by decide) (by decide), w_aload_n0 (M := mX12_next) dX12_next_64, w_getI (M := mX12_next) dX12_next_65 f_12_268 rfl (by decide) (by decide), w_ic_ne (M := mX12_next) (tgt := 77) dX12_next_68 (by decide), w_aload_n0 (M := mX12_next) dX12_next_71, w_iconst (M := mX12_next) (v := 0) dX12_next_72 rfl, w_putI (M := mX12_next) dX12_next_73 f_12_274 rfl (Or.inl rfl), w_vret (M := mX12_next) dX12_next_76 rfl, w_aload_n0 (M := mX12_next) dX12_next_77, w_getA (M := mX12_next) dX12_next_78 f_12_16 rfl (by decide) (by decide), w_aload_n0 (M := mX12_next) dX12_next_81, w_getI (M := mX12_next) dX12_next_82 f_12_265 rfl (by decide) (by decide), w_baload (M := mX12_next) dX12_next_85, w_istore_n (M := mX12_next) (i := 1) dX12_next_86 rfl (by decide), Kn_v_, Kn_n_, kl_i_, kl_a_, kl_l_, kl_n_, s1_0_, s2_0_, s1_1, s1_2, s1_3, s1_4, s1_5, s1_6, s1_7, s1_8, s1_9, s1_10, s1_11, s1_12, s1_13, s1_14, s2_1, s2_2, s2_3, s2_4, s2_5, s2_6, s2_7, s2_8, s2_9, s2_10, s2_11, s2_12, s2_13, s2_14, List.map_nil, List.map_cons, List.sum_nil, List.sum_cons, ct_i_, ct_r_, ct_l_, t_si_, t_sl_, t_sr_, n_si_, n_sl_, n_sr_, i_si_, i_sl_, i_sr_, l_si_, l_sl_, l_sr_, r_si_, r_sl_, r_sr_, vr_s_, vr_n_, nz_0_, nz_1_, hR.e, e1, y1, x1, x2, t1]
  have tk2 : tks t n (n - i) i = if dg (t I) = true then (2, (scn t n (n - I) I 0).2, I) :: tks t n (n - I - 1) (scn t n (n - I) I 0).1 else if lt (t I) = true then (3, nwd t I (scw t n (n - I) I) 153 0 0, I) :: tks t n (n - I - 1) (scw t n (n - I) I) else if t I = 32 ∨ t I = 10 then tks t n (n - I - 1) (I + 1) else if (t I = 60 ∨ t I = 62) ∧ I + 1 < n ∧ t (I + 1) = 61 then (4, t I + 256, I) :: tks t n (n - I - 1) (I + 2) else (if sgn (t I) = true then 4 else 1, t I, I) :: tks t n (n - I - 1) (I + 1) := by
    rw [tk]
    have e := tks_1 (t := t) (n := n) (i := I) (f := n - I - 1)
    rw [show n - I - 1 + 1 = n - I by omega, if_pos cn] at e
    exact e
  have nb := B3 cn
  by_cases g2 : lt (t I) = true
  · have g1 : ¬ dg (t I) = true := by
      have := lt_b g2
      unfold dg
      rw [decide_eq_true_eq]
      omega
    rw [if_neg g1, if_pos g2] at tk2
    rw [if_pos g2] at lq
    obtain ⟨J, eJ⟩ : ∃ J, J = scw t n (n - I) I := ⟨_, rfl⟩
    have bd := scw_s cn g2
    rw [← eJ] at tk2 bd
    have lets : ∀ e, e < J - I → 65 ≤ t (I + e) ∧ t (I + e) ≤ 122 := fun e l => lt_b (scw_l (t := t) (n := n) (n - I) I (by omega) e (by rw [← eJ]; exact l))
    have lp := fun Q => nlt (d := d) (Q := Q) (h := G) TG (b8 (t I)) I (n - I) 0 (by omega) (fun e z => absurd z (Nat.not_lt_zero e))
    simp only [Nat.add_zero, ← eJ] at lp
    rw [show s_i G 126 15 (nI I) = G from si_self G15] at lp
    have a1 : ∀ Q, WP (d + 2) mX12_next 87 (nL (some (.int (b8 (t I)))) none none none) [] G Q = WP (d + 2) mX12_next 99 (nL (some (.int (b8 (t I)))) (some (.long (lN (hs t I (min 0 8))))) none (some (.int (nI 0)))) [] G Q := fun Q => by
      unfold nL
      simp [w_iload_n1 (M := mX12_next) dX12_next_87, c_12_277 (M := mX12_next) dX12_next_88 rfl, w_if_eq (M := mX12_next) (tgt := 211) dX12_next_91 (by decide), w_lconst (M := mX12_next) (v := 0) dX12_next_94 rfl, w_lstore_n (M := mX12_next) (i := 2) dX12_next_95 rfl (by decide), w_iconst (M := mX12_next) (v := 0) dX12_next_96 rfl, w_istore (M := mX12_next) dX12_next_97 (by decide), Kn_v_, Kn_n_, kl_i_, kl_a_, kl_l_, kl_n_, s1_0_, s2_0_, s1_1, s1_2, s1_3, s1_4, s1_5, s1_6, s1_7, s1_8, s1_9, s1_10, s1_11, s1_12, s1_13, s1_14, s2_1, s2_2, s2_3, s2_4, s2_5, s2_6, s2_7, s2_8, s2_9, s2_10, s2_11, s2_12, s2_13, s2_14, List.map_nil, List.map_cons, List.sum_nil, List.sum_cons, ct_i_, ct_r_, ct_l_, t_si_, t_sl_, t_sr_, n_si_, n_sl_, n_sr_, i_si_, i_sl_, i_sr_, l_si_, l_sl_, l_sr_, r_si_, r_sl_, r_sr_, vr_s_, vr_n_, nz_0_, nz_1_, hG.e, lq, show lN (hs t I 0) = 0 from rfl, show nI 0 = 0 from rfl]
    obtain ⟨G2, eG2⟩ : ∃ G2, G2 = s_i G 126 15 (nI J) := ⟨_, rfl⟩
    have hG2 : sh_R (a_t G2) (a_r G2) := by rw [eG2]; exact hG
    have fin : ∃ (s v : Int32), tkR (3, nwd t I J 153 0 0, I) s v ∧ ∀ Q, WP (d + 2) mX12_next 173 (nL (some (.int (b8 (t I)))) (some (.long (lN (hs t I (min (J - I) 8))))) none (some (.int (nI (J - I))))) [] G2 Q = Q none (s_i (s_i G2 126 18 v) 126 17 s) := by
      by_cases c7 : J - I ≤ 7
      · have z1 : (nI (J - I) ≤ 7) = True := by rw [show (7 : Int32) = nI 7 from rfl, nI_lE (by omega) (by omega)]; exact eq_true (by omega)
        have z2 : (7 < nI (J - I)) = False := by rw [show (7 : Int32) = nI 7 from rfl]; exact nI_ltF (by omega) (by omega)
        rw [Nat.min_eq_left (show J - I ≤ 8 by omega)]
        rcases q_wd (d := d + 1) (h := G2) (fr := I) hG2 lets c7 with ⟨w1, w2⟩ | ⟨w1, w2⟩
        · rw [show I + (J - I) = J by omega] at w1 w2
          obtain ⟨w, ew⟩ : ∃ w, w = nwd t I J 153 0 0 := ⟨_, rfl⟩
          rw [← ew] at w1 w2 ⊢
          have wl := wm_b w w1
          have p0 : (nI (wm w) < 0) = False := by rw [show (0 : Int32) = nI 0 from rfl]; exact nI_ltF (by omega) (by omega)
          have p1 : (0 ≤ nI (wm w)) = True := nI_p (by omega)
          refine ⟨1, nI (wm w), Or.inr (Or.inr (Or.inl ⟨rfl, Or.inl ⟨w1, rfl, rfl⟩⟩)), fun Q => ?_⟩
          unfold nL
          simp [w_aload_n0 (M := mX12_next) dX12_next_173, w_iload4 (M := mX12_next) dX12_next_174, w_bipush (M := mX12_next) (v := 7) dX12_next_176 rfl, w_ic_le (M := mX12_next) (tgt := 185) dX12_next_178 (by decide), w_iconst (M := mX12_next) (v := (-1)) dX12_next_181 rfl, w_goto (M := mX12_next) (tgt := 189) dX12_next_182 (by decide), w_lload_n2 (M := mX12_next) dX12_next_185, c_12_282 (M := mX12_next) dX12_next_186 rfl, w_putI (M := mX12_next) dX12_next_189 f_12_286 rfl (Or.inl rfl), w_aload_n0 (M := mX12_next) dX12_next_192, w_aload_n0 (M := mX12_next) dX12_next_193, w_getI (M := mX12_next) dX12_next_194 f_12_286 rfl (by decide) (by decide), w_if_ge (M := mX12_next) (tgt := 204) dX12_next_197 (by decide), w_iconst (M := mX12_next) (v := 4) dX12_next_200 rfl, w_goto (M := mX12_next) (tgt := 205) dX12_next_201 (by decide), w_iconst (M := mX12_next) (v := 1) dX12_next_204 rfl, w_putI (M := mX12_next) dX12_next_205 f_12_274 rfl (Or.inl rfl), w_goto (M := mX12_next) (tgt := 440) dX12_next_208 (by decide), w_vret (M := mX12_next) dX12_next_440 rfl, Kn_v_, Kn_n_, kl_i_, kl_a_, kl_l_, kl_n_, s1_0_, s2_0_, s1_1, s1_2, s1_3, s1_4, s1_5, s1_6, s1_7, s1_8, s1_9, s1_10, s1_11, s1_12, s1_13, s1_14, s2_1, s2_2, s2_3, s2_4, s2_5, s2_6, s2_7, s2_8, s2_9, s2_10, s2_11, s2_12, s2_13, s2_14, List.map_nil, List.map_cons, List.sum_nil, List.sum_cons, ct_i_, ct_r_, ct_l_, t_si_, t_sl_, t_sr_, n_si_, n_sl_, n_sr_, i_si_, i_sl_, i_sr_, l_si_, l_sl_, l_sr_, r_si_, r_sl_, r_sr_, vr_s_, vr_n_, nz_0_, nz_1_, hG2.e, z1, z2, w2, p0, p1]
        · rw [show I + (J - I) = J by omega] at w1
          refine ⟨4, -1, Or.inr (Or.inr (Or.inl ⟨rfl, Or.inr ⟨w1, rfl⟩⟩)), fun Q => ?_⟩
          unfold nL
          simp [w_aload_n0 (M := mX12_next) dX12_next_173, w_iload4 (M := mX12_next) dX12_next_174, w_bipush (M := mX12_next) (v := 7) dX12_next_176 rfl, w_ic_le (M := mX12_next) (tgt := 185) dX12_next_178 (by decide), w_iconst (M := mX12_next) (v := (-1)) dX12_next_181 rfl, w_goto (M := mX12_next) (tgt := 189) dX12_next_182 (by decide), w_lload_n2 (M := mX12_next) dX12_next_185, c_12_282 (M := mX12_next) dX12_next_186 rfl, w_putI (M := mX12_next) dX12_next_189 f_12_286 rfl (Or.inl rfl), w_aload_n0 (M := mX12_next) dX12_next_192, w_aload_n0 (M := mX12_next) dX12_next_193, w_getI (M := mX12_next) dX12_next_194 f_12_286 rfl (by decide) (by decide), w_if_ge (M := mX12_next) (tgt := 204) dX12_next_197 (by decide), w_iconst (M := mX12_next) (v := 4) dX12_next_200 rfl, w_goto (M := mX12_next) (tgt := 205) dX12_next_201 (by decide), w_iconst (M := mX12_next) (v := 1) dX12_next_204 rfl, w_putI (M := mX12_next) dX12_next_205 f_12_274 rfl (Or.inl rfl), w_goto (M := mX12_next) (tgt := 440) dX12_next_208 (by decide), w_vret (M := mX12_next) dX12_next_440 rfl, Kn_v_, Kn_n_, kl_i_, kl_a_, kl_l_, kl_n_, s1_0_, s2_0_, s1_1, s1_2, s1_3, s1_4, s1_5, s1_6, s1_7, s1_8, s1_9, s1_10, s1_11, s1_12, s1_13, s1_14, s2_1, s2_2, s2_3, s2_4, s2_5, s2_6, s2_7, s2_8, s2_9, s2_10, s2_11, s2_12, s2_13, s2_14, List.map_nil, List.map_cons, List.sum_nil, List.sum_cons, ct_i_, ct_r_, ct_l_, t_si_, t_sl_, t_sr_, n_si_, n_sl_, n_sr_, i_si_, i_sl_, i_sr_, l_si_, l_sl_, l_sr_, r_si_, r_sl_, r_sr_, vr_s_, vr_n_, nz_0_, nz_1_, hG2.e, z1, z2, w2]
      · have z1 : (nI (J - I) ≤ 7) = False := by rw [show (7 : Int32) = nI 7 from rfl, nI_lE (by omega) (by omega)]; exact eq_false (by omega)
        have z2 : (7 < nI (J - I)) = True := by rw [show (7 : Int32) = nI 7 from rfl]; exact nI_ltT (by omega) (by omega)
        have w1 := nwd_long (t := t) (fr := I) lets (by omega)
        rw [show I + (J - I) = J by omega] at w1
        refine ⟨4, -1, Or.inr (Or.inr (Or.inl ⟨rfl, Or.inr ⟨w1, rfl⟩⟩)), fun Q => ?_⟩
        unfold nL
        simp [w_aload_n0 (M := mX12_next) dX12_next_173, w_iload4 (M := mX12_next) dX12_next_174, w_bipush (M := mX12_next) (v := 7) dX12_next_176 rfl, w_ic_le (M := mX12_next) (tgt := 185) dX12_next_178 (by decide), w_iconst (M := mX12_next) (v := (-1)) dX12_next_181 rfl, w_goto (M := mX12_next) (tgt := 189) dX12_next_182 (by decide), w_lload_n2 (M := mX12_next) dX12_next_185, c_12_282 (M := mX12_next) dX12_next_186 rfl, w_putI (M := mX12_next) dX12_next_189 f_12_286 rfl (Or.inl rfl), w_aload_n0 (M := mX12_next) dX12_next_192, w_aload_n0 (M := mX12_next) dX12_next_193, w_getI (M := mX12_next) dX12_next_194 f_12_286 rfl (by decide) (by decide), w_if_ge (M := mX12_next) (tgt := 204) dX12_next_197 (by decide), w_iconst (M := mX12_next) (v := 4) dX12_next_200 rfl, w_goto (M := mX12_next) (tgt := 205) dX12_next_201 (by decide), w_iconst (M := mX12_next) (v := 1) dX12_next_204 rfl, w_putI (M := mX12_next) dX12_next_205 f_12_274 rfl (Or.inl rfl), w_goto (M := mX12_next) (tgt := 440) dX12_next_208 (by decide), w_vret (M := mX12_next) dX12_next_440 rfl, Kn_v_, Kn_n_, kl_i_, kl_a_, kl_l_, kl_n_, s1_0_, s2_0_, s1_1, s1_2, s1_3, s1_4, s1_5, s1_6, s1_7, s1_8, s1_9, s1_10, s1_11, s1_12, s1_13, s1_14, s2_1, s2_2, s2_3, s2_4, s2_5, s2_6, s2_7, s2_8, s2_9, s2_10, s2_11, s2_12, s2_13, s2_14, List.map_nil, List.map_cons, List.sum_nil, List.sum_cons, ct_i_, ct_r_, ct_l_, t_si_, t_sl_, t_sr_, n_si_, n_sl_, n_sr_, i_si_, i_sl_, i_sr_, l_si_, l_sl_, l_sr_, r_si_, r_sl_, r_sr_, vr_s_, vr_n_, nz_0_, nz_1_, hG2.e, z1, z2]
    obtain ⟨s, v, r1, r2⟩ := fin
    refine ⟨s_i (s_i G2 126 18 v) 126 17 s, (3, nwd t I J 153 0 0, I), J, _, by rw [tk2]; rfl, fun Q => by rw [s1, a1, lp, ← eG2, r2], ⟨⟨by rw [eG2]; exact Gt, by rw [eG2]; exact Gr, by rw [eG2]; exact G1⟩, by rw [eG2]; exact Gl, fun p j z => ?_⟩, ?_, bd.2, ?_, ?_, fun _ => by rw [tks_ff (n - I - 1) (n - J) J (by omega) (by omega)]; rfl⟩
    · rw [ine (by omega), ine (by omega), eG2, ine (by omega)]; exact G_i p j z
    · rw [ine (by omega), ine (by omega), eG2, ieq rfl rfl]
    · rw [ine (by omega), ine (by omega), eG2, ine (by omega)]; exact G16
    · rw [ieq rfl rfl, ine (by omega), ieq rfl rfl]; exact r1
  rw [if_neg g2] at lq
  have dq := (b8_l _ t2).2
  have s2 : ∀ Q, WP (d + 2) mX12_next 87 (nL (some (.int (b8 (t I)))) none none none) [] G Q = WP (d + 2) mX12_next 211 (nL (some (.int (b8 (t I)))) none none none) [] G Q := fun Q => by
    unfold nL
    simp [w_iload_n1 (M := mX12_next) dX12_next_87, c_12_277 (M := mX12_next) dX12_next_88 rfl, w_if_eq (M := mX12_next) (tgt := 211) dX12_next_91 (by decide), Kn_v_, Kn_n_, kl_i_, kl_a_, kl_l_, kl_n_, s1_0_, s2_0_, s1_1, s1_2, s1_3, s1_4, s1_5, s1_6, s1_7, s1_8, s1_9, s1_10, s1_11, s1_12, s1_13, s1_14, s2_1, s2_2, s2_3, s2_4, s2_5, s2_6, s2_7, s2_8, s2_9, s2_10, s2_11, s2_12, s2_13, s2_14, List.map_nil, List.map_cons, List.sum_nil, List.sum_cons, ct_i_, ct_r_, ct_l_, t_si_, t_sl_, t_sr_, n_si_, n_sl_, n_sr_, i_si_, i_sl_, i_sr_, l_si_, l_sl_, l_sr_, r_si_, r_sl_, r_sr_, vr_s_, vr_n_, nz_0_, nz_1_, hG.e, lq]
  by_cases g1 : dg (t I) = true
  · rw [if_pos g1] at tk2
    rw [g1] at dq
    have bd := scn_s cn g1
    obtain ⟨r1, r2⟩ := scR_scn (t := t) (n := n) (n - I) I 0 0 (Or.inl ⟨rfl, by omega⟩)
    have lp := fun Q => ndg (d := d + 1) (Q := Q) (h := s_i G 126 17 2) ⟨hG, by rw [ine (by omega)]; exact eG1, hn, fun j hj => by rw [ine (by omega)]; exact TG.2.2.2 j hj⟩ (nL (some (.int (b8 (t I)))) none none none) ⟨_, _, _, _, rfl⟩ (n - I) I 0 (by omega) (by omega)
    have a1 : ∀ Q, WP (d + 2) mX12_next 211 (nL (some (.int (b8 (t I)))) none none none) [] G Q = WP (d + 2) mX12_next 232 (nL (some (.int (b8 (t I)))) none none none) [] (hN (s_i G 126 17 2) I 0) Q := fun Q => by
      have e : hN (s_i G 126 17 2) I 0 = s_i (s_i G 126 17 2) 126 18 0 := by
        unfold hN
        exact si_self (by rw [ine (by omega), ine (by omega)]; exact G15)
      rw [e]
      unfold nL
      simp [w_iload_n1 (M := mX12_next) dX12_next_211, w_bipush (M := mX12_next) (v := 48) dX12_next_212 rfl, w_bipush (M := mX12_next) (v := 57) dX12_next_214 rfl, c_12_173 (M := mX12_next) dX12_next_216 rfl, w_if_eq (M := mX12_next) (tgt := 316) dX12_next_219 (by decide), w_aload_n0 (M := mX12_next) dX12_next_222, w_iconst (M := mX12_next) (v := 2) dX12_next_223 rfl, w_putI (M := mX12_next) dX12_next_224 f_12_274 rfl (Or.inl rfl), w_aload_n0 (M := mX12_next) dX12_next_227, w_iconst (M := mX12_next) (v := 0) dX12_next_228 rfl, w_putI (M := mX12_next) dX12_next_229 f_12_286 rfl (Or.inl rfl), Kn_v_, Kn_n_, kl_i_, kl_a_, kl_l_, kl_n_, s1_0_, s2_0_, s1_1, s1_2, s1_3, s1_4, s1_5, s1_6, s1_7, s1_8, s1_9, s1_10, s1_11, s1_12, s1_13, s1_14, s2_1, s2_2, s2_3, s2_4, s2_5, s2_6, s2_7, s2_8, s2_9, s2_10, s2_11, s2_12, s2_13, s2_14, List.map_nil, List.map_cons, List.sum_nil, List.sum_cons, ct_i_, ct_r_, ct_l_, t_si_, t_sl_, t_sr_, n_si_, n_sl_, n_sr_, i_si_, i_sl_, i_sr_, l_si_, l_sl_, l_sr_, r_si_, r_sl_, r_sr_, vr_s_, vr_n_, nz_0_, nz_1_, q_X12_in, hG.e, dq, bI_t]
    rw [r1] at lp
    obtain ⟨v, ev⟩ : ∃ v, v = (scn t n (n - I) I 0).2 := ⟨_, rfl⟩
    obtain ⟨w, ew⟩ : ∃ w, w = (scR t n (n - I) I 0).2 := ⟨_, rfl⟩
    obtain ⟨J, eJ⟩ : ∃ J, J = (scn t n (n - I) I 0).1 := ⟨_, rfl⟩
    rw [← ev] at r2 tk2
    rw [← ew] at r2 lp
    rw [← eJ] at lp tk2 bd
    refine ⟨hN (s_i G 126 17 2) J w, (2, v, I), J, _, by rw [tk2]; rfl, fun Q => by rw [s1, s2, a1, lp], ⟨⟨Gt, Gr, G1⟩, Gl, fun p j z => ?_⟩, ?_, bd.2, ?_, ?_, fun _ => by rw [tks_ff (n - I - 1) (n - J) J (by omega) (by omega)]; rfl⟩
    · unfold hN
      rw [ine (by omega), ine (by omega), ine (by omega)]; exact G_i p j z
    · unfold hN
      rw [ieq rfl rfl]
    · unfold hN
      rw [ine (by omega), ine (by omega), ine (by omega)]; exact G16
    · unfold hN
      rw [ine (by omega), ine (by omega), ieq rfl rfl, ine (by omega), ieq rfl rfl]
      exact Or.inr (Or.inl ⟨rfl, rfl, w, rfl, r2⟩)
  rw [eq_false_of_ne_true g1] at dq
  rw [if_neg g1, if_neg g2, if_neg nb] at tk2
  obtain ⟨k1, k2, k3, k4, k5⟩ := b8_k _ t2
  have sq := b8_s _ t2
  obtain ⟨G2, eG2⟩ : ∃ G2, G2 = s_i (s_i G 126 15 (nI (I + 1))) 126 18 (b8 (t I)) := ⟨_, rfl⟩
  have hG2 : sh_R (a_t G2) (a_r G2) := by rw [eG2]; exact hG
  have G2t : a_t G2 = a_t h := by rw [eG2]; exact Gt
  have G2r : a_r G2 = a_r h := by rw [eG2]; exact Gr
  have G21 : G2.1 = h.1 := by rw [eG2]; exact G1
  have G2l : a_l G2 = a_l h := by rw [eG2]; exact Gl
  have G2_i : ∀ p j, ¬ (p = 126 ∧ 15 ≤ j ∧ j ≤ 18) → a_i G2 p j = a_i h p j := fun p j z => by
    rw [eG2, ine (by omega), ine (by omega)]; exact G_i p j z
  have G2_15 : a_i G2 126 15 = nI (I + 1) := by rw [eG2, ine (by omega), ieq rfl rfl]
  have G2_16 : a_i G2 126 16 = nI I := by rw [eG2, ine (by omega), ine (by omega)]; exact G16
  have G2_18 : a_i G2 126 18 = b8 (t I) := by rw [eG2, ieq rfl rfl]
  have s3 : ∀ Q, WP (d + 2) mX12_next 211 (nL (some (.int (b8 (t I)))) none none none) [] G Q = WP (d + 2) mX12_next 331 (nL (some (.int (b8 (t I)))) none none none) [] G2 Q := fun Q => by
    rw [eG2]
    unfold nL
    simp [w_iload_n1 (M := mX12_next) dX12_next_211, w_bipush (M := mX12_next) (v := 48) dX12_next_212 rfl, w_bipush (M := mX12_next) (v := 57) dX12_next_214 rfl, c_12_173 (M := mX12_next) dX12_next_216 rfl, w_if_eq (M := mX12_next) (tgt := 316) dX12_next_219 (by decide), w_aload_n0 (M := mX12_next) dX12_next_316, w_dup_int (M := mX12_next) dX12_next_317, w_dup_ref (M := mX12_next) dX12_next_317, w_getI (M := mX12_next) dX12_next_318 f_12_265 rfl (by decide) (by decide), w_iconst (M := mX12_next) (v := 1) dX12_next_321 rfl, w_iadd (M := mX12_next) dX12_next_322, w_putI (M := mX12_next) dX12_next_323 f_12_265 rfl (Or.inl rfl), w_aload_n0 (M := mX12_next) dX12_next_326, w_iload_n1 (M := mX12_next) dX12_next_327, w_putI (M := mX12_next) dX12_next_328 f_12_286 rfl (Or.inl rfl), Kn_v_, Kn_n_, kl_i_, kl_a_, kl_l_, kl_n_, s1_0_, s2_0_, s1_1, s1_2, s1_3, s1_4, s1_5, s1_6, s1_7, s1_8, s1_9, s1_10, s1_11, s1_12, s1_13, s1_14, s2_1, s2_2, s2_3, s2_4, s2_5, s2_6, s2_7, s2_8, s2_9, s2_10, s2_11, s2_12, s2_13, s2_14, List.map_nil, List.map_cons, List.sum_nil, List.sum_cons, ct_i_, ct_r_, ct_l_, t_si_, t_sl_, t_sr_, n_si_, n_sl_, n_sr_, i_si_, i_sl_, i_sr_, l_si_, l_sl_, l_sr_, r_si_, r_sl_, r_sr_, vr_s_, vr_n_, nz_0_, nz_1_, q_X12_in, hG.e, dq, bI_f, G15, x3]
  obtain ⟨sv, es⟩ : ∃ sv : Int32, sv = if (sgn (t I) || decide (t I = 44)) = true then 3 else 4 := ⟨_, rfl⟩
  have s4 : ∀ Q, WP (d + 2) mX12_next 331 (nL (some (.int (b8 (t I)))) none none none) [] G2 Q = WP (d + 2) mX12_next 374 (nL (some (.int (b8 (t I)))) none none none) [] (s_i G2 126 17 sv) Q := fun Q => by
    rw [es, ← sq]
    by_cases z1 : inn (b8 (t I)) 59 62 = true
    · rw [z1]
      unfold nL
      simp [w_aload_n0 (M := mX12_next) dX12_next_331, w_iload_n1 (M := mX12_next) dX12_next_332, w_bipush (M := mX12_next) (v := 59) dX12_next_333 rfl, w_bipush (M := mX12_next) (v := 62) dX12_next_335 rfl, c_12_173 (M := mX12_next) dX12_next_337 rfl, w_if_ne (M := mX12_next) (tgt := 366) dX12_next_340 (by decide), w_iload_n1 (M := mX12_next) dX12_next_343, w_bipush (M := mX12_next) (v := 40) dX12_next_344 rfl, w_bipush (M := mX12_next) (v := 45) dX12_next_346 rfl, c_12_173 (M := mX12_next) dX12_next_348 rfl, w_if_ne (M := mX12_next) (tgt := 366) dX12_next_351 (by decide), w_iload_n1 (M := mX12_next) dX12_next_354, w_bipush (M := mX12_next) (v := 47) dX12_next_355 rfl, w_ic_eq (M := mX12_next) (tgt := 366) dX12_next_357 (by decide), w_iload_n1 (M := mX12_next) dX12_next_360, w_bipush (M := mX12_next) (v := 35) dX12_next_361 rfl, w_ic_ne (M := mX12_next) (tgt := 370) dX12_next_363 (by decide), w_iconst (M := mX12_next) (v := 3) dX12_next_366 rfl, w_goto (M := mX12_next) (tgt := 371) dX12_next_367 (by decide), w_iconst (M := mX12_next) (v := 4) dX12_next_370 rfl, w_putI (M := mX12_next) dX12_next_371 f_12_274 rfl (Or.inl rfl), Kn_v_, Kn_n_, kl_i_, kl_a_, kl_l_, kl_n_, s1_0_, s2_0_, s1_1, s1_2, s1_3, s1_4, s1_5, s1_6, s1_7, s1_8, s1_9, s1_10, s1_11, s1_12, s1_13, s1_14, s2_1, s2_2, s2_3, s2_4, s2_5, s2_6, s2_7, s2_8, s2_9, s2_10, s2_11, s2_12, s2_13, s2_14, List.map_nil, List.map_cons, List.sum_nil, List.sum_cons, ct_i_, ct_r_, ct_l_, t_si_, t_sl_, t_sr_, n_si_, n_sl_, n_sr_, i_si_, i_sl_, i_sr_, l_si_, l_sl_, l_sr_, r_si_, r_sl_, r_sr_, vr_s_, vr_n_, nz_0_, nz_1_, q_X12_in, hG2.e, z1, bI_t]
    · rw [eq_false_of_ne_true z1]
      by_cases z2 : inn (b8 (t I)) 40 45 = true
      · rw [z2]
        unfold nL
        simp [w_aload_n0 (M := mX12_next) dX12_next_331, w_iload_n1 (M := mX12_next) dX12_next_332, w_bipush (M := mX12_next) (v := 59) dX12_next_333 rfl, w_bipush (M := mX12_next) (v := 62) dX12_next_335 rfl, c_12_173 (M := mX12_next) dX12_next_337 rfl, w_if_ne (M := mX12_next) (tgt := 366) dX12_next_340 (by decide), w_iload_n1 (M := mX12_next) dX12_next_343, w_bipush (M := mX12_next) (v := 40) dX12_next_344 rfl, w_bipush (M := mX12_next) (v := 45) dX12_next_346 rfl, c_12_173 (M := mX12_next) dX12_next_348 rfl, w_if_ne (M := mX12_next) (tgt := 366) dX12_next_351 (by decide), w_iload_n1 (M := mX12_next) dX12_next_354, w_bipush (M := mX12_next) (v := 47) dX12_next_355 rfl, w_ic_eq (M := mX12_next) (tgt := 366) dX12_next_357 (by decide), w_iload_n1 (M := mX12_next) dX12_next_360, w_bipush (M := mX12_next) (v := 35) dX12_next_361 rfl, w_ic_ne (M := mX12_next) (tgt := 370) dX12_next_363 (by decide), w_iconst (M := mX12_next) (v := 3) dX12_next_366 rfl, w_goto (M := mX12_next) (tgt := 371) dX12_next_367 (by decide), w_iconst (M := mX12_next) (v := 4) dX12_next_370 rfl, w_putI (M := mX12_next) dX12_next_371 f_12_274 rfl (Or.inl rfl), Kn_v_, Kn_n_, kl_i_, kl_a_, kl_l_, kl_n_, s1_0_, s2_0_, s1_1, s1_2, s1_3, s1_4, s1_5, s1_6, s1_7, s1_8, s1_9, s1_10, s1_11, s1_12, s1_13, s1_14, s2_1, s2_2, s2_3, s2_4, s2_5, s2_6, s2_7, s2_8, s2_9, s2_10, s2_11, s2_12, s2_13, s2_14, List.map_nil, List.map_cons, List.sum_nil, List.sum_cons, ct_i_, ct_r_, ct_l_, t_si_, t_sl_, t_sr_, n_si_, n_sl_, n_sr_, i_si_, i_sl_, i_sr_, l_si_, l_sl_, l_sr_, r_si_, r_sl_, r_sr_, vr_s_, vr_n_, nz_0_, nz_1_, q_X12_in, hG2.e, z1, z2, bI_t, bI_f]
      · rw [eq_false_of_ne_true z2]
        by_cases z3 : b8 (t I) = 47
        · unfold nL
          simp [w_aload_n0 (M := mX12_next) dX12_next_331, w_iload_n1 (M := mX12_next) dX12_next_332, w_bipush (M := mX12_next) (v := 59) dX12_next_333 rfl, w_bipush (M := mX12_next) (v := 62) dX12_next_335 rfl, c_12_173 (M := mX12_next) dX12_next_337 rfl, w_if_ne (M := mX12_next) (tgt := 366) dX12_next_340 (by decide), w_iload_n1 (M := mX12_next) dX12_next_343, w_bipush (M := mX12_next) (v := 40) dX12_next_344 rfl, w_bipush (M := mX12_next) (v := 45) dX12_next_346 rfl, c_12_173 (M := mX12_next) dX12_next_348 rfl, w_if_ne (M := mX12_next) (tgt := 366) dX12_next_351 (by decide), w_iload_n1 (M := mX12_next) dX12_next_354, w_bipush (M := mX12_next) (v := 47) dX12_next_355 rfl, w_ic_eq (M := mX12_next) (tgt := 366) dX12_next_357 (by decide), w_iload_n1 (M := mX12_next) dX12_next_360, w_bipush (M := mX12_next) (v := 35) dX12_next_361 rfl, w_ic_ne (M := mX12_next) (tgt := 370) dX12_next_363 (by decide), w_iconst (M := mX12_next) (v := 3) dX12_next_366 rfl, w_goto (M := mX12_next) (tgt := 371) dX12_next_367 (by decide), w_iconst (M := mX12_next) (v := 4) dX12_next_370 rfl, w_putI (M := mX12_next) dX12_next_371 f_12_274 rfl (Or.inl rfl), Kn_v_, Kn_n_, kl_i_, kl_a_, kl_l_, kl_n_, s1_0_, s2_0_, s1_1, s1_2, s1_3, s1_4, s1_5, s1_6, s1_7, s1_8, s1_9, s1_10, s1_11, s1_12, s1_13, s1_14, s2_1, s2_2, s2_3, s2_4, s2_5, s2_6, s2_7, s2_8, s2_9, s2_10, s2_11, s2_12, s2_13, s2_14, List.map_nil, List.map_cons, List.sum_nil, List.sum_cons, ct_i_, ct_r_, ct_l_, t_si_, t_sl_, t_sr_, n_si_, n_sl_, n_sr_, i_si_, i_sl_, i_sr_, l_si_, l_sl_, l_sr_, r_si_, r_sl_, r_sr_, vr_s_, vr_n_, nz_0_, nz_1_, q_X12_in, hG2.e, z1, z2, z3, bI_f]
        · by_cases z4 : b8 (t I) = 35
          · unfold nL
            simp [w_aload_n0 (M := mX12_next) dX12_next_331, w_iload_n1 (M := mX12_next) dX12_next_332, w_bipush (M := mX12_next) (v := 59) dX12_next_333 rfl, w_bipush (M := mX12_next) (v := 62) dX12_next_335 rfl, c_12_173 (M := mX12_next) dX12_next_337 rfl, w_if_ne (M := mX12_next) (tgt := 366) dX12_next_340 (by decide), w_iload_n1 (M := mX12_next) dX12_next_343, w_bipush (M := mX12_next) (v := 40) dX12_next_344 rfl, w_bipush (M := mX12_next) (v := 45) dX12_next_346 rfl, c_12_173 (M := mX12_next) dX12_next_348 rfl, w_if_ne (M := mX12_next) (tgt := 366) dX12_next_351 (by decide), w_iload_n1 (M := mX12_next) dX12_next_354, w_bipush (M := mX12_next) (v := 47) dX12_next_355 rfl, w_ic_eq (M := mX12_next) (tgt := 366) dX12_next_357 (by decide), w_iload_n1 (M := mX12_next) dX12_next_360, w_bipush (M := mX12_next) (v := 35) dX12_next_361 rfl, w_ic_ne (M := mX12_next) (tgt := 370) dX12_next_363 (by decide), w_iconst (M := mX12_next) (v := 3) dX12_next_366 rfl, w_goto (M := mX12_next) (tgt := 371) dX12_next_367 (by decide), w_iconst (M := mX12_next) (v := 4) dX12_next_370 rfl, w_putI (M := mX12_next) dX12_next_371 f_12_274 rfl (Or.inl rfl), Kn_v_, Kn_n_, kl_i_, kl_a_, kl_l_, kl_n_, s1_0_, s2_0_, s1_1, s1_2, s1_3, s1_4, s1_5, s1_6, s1_7, s1_8, s1_9, s1_10, s1_11, s1_12, s1_13, s1_14, s2_1, s2_2, s2_3, s2_4, s2_5, s2_6, s2_7, s2_8, s2_9, s2_10, s2_11, s2_12, s2_13, s2_14, List.map_nil, List.map_cons, List.sum_nil, List.sum_cons, ct_i_, ct_r_, ct_l_, t_si_, t_sl_, t_sr_, n_si_, n_sl_, n_sr_, i_si_, i_sl_, i_sr_, l_si_, l_sl_, l_sr_, r_si_, r_sl_, r_sr_, vr_s_, vr_n_, nz_0_, nz_1_, q_X12_in, hG2.e, z1, z2, z3, z4, bI_f]
          · unfold nL
            simp [w_aload_n0 (M := mX12_next) dX12_next_331, w_iload_n1 (M := mX12_next) dX12_next_332, w_bipush (M := mX12_next) (v := 59) dX12_next_333 rfl, w_bipush (M := mX12_next) (v := 62) dX12_next_335 rfl, c_12_173 (M := mX12_next) dX12_next_337 rfl, w_if_ne (M := mX12_next) (tgt := 366) dX12_next_340 (by decide), w_iload_n1 (M := mX12_next) dX12_next_343, w_bipush (M := mX12_next) (v := 40) dX12_next_344 rfl, w_bipush (M := mX12_next) (v := 45) dX12_next_346 rfl, c_12_173 (M := mX12_next) dX12_next_348 rfl, w_if_ne (M := mX12_next) (tgt := 366) dX12_next_351 (by decide), w_iload_n1 (M := mX12_next) dX12_next_354, w_bipush (M := mX12_next) (v := 47) dX12_next_355 rfl, w_ic_eq (M := mX12_next) (tgt := 366) dX12_next_357 (by decide), w_iload_n1 (M := mX12_next) dX12_next_360, w_bipush (M := mX12_next) (v := 35) dX12_next_361 rfl, w_ic_ne (M := mX12_next) (tgt := 370) dX12_next_363 (by decide), w_iconst (M := mX12_next) (v := 3) dX12_next_366 rfl, w_goto (M := mX12_next) (tgt := 371) dX12_next_367 (by decide), w_iconst (M := mX12_next) (v := 4) dX12_next_370 rfl, w_putI (M := mX12_next) dX12_next_371 f_12_274 rfl (Or.inl rfl), Kn_v_, Kn_n_, kl_i_, kl_a_, kl_l_, kl_n_, s1_0_, s2_0_, s1_1, s1_2, s1_3, s1_4, s1_5, s1_6, s1_7, s1_8, s1_9, s1_10, s1_11, s1_12, s1_13, s1_14, s2_1, s2_2, s2_3, s2_4, s2_5, s2_6, s2_7, s2_8, s2_9, s2_10, s2_11, s2_12, s2_13, s2_14, List.map_nil, List.map_cons, List.sum_nil, List.sum_cons, ct_i_, ct_r_, ct_l_, t_si_, t_sl_, t_sr_, n_si_, n_sl_, n_sr_, i_si_, i_sl_, i_sr_, l_si_, l_sl_, l_sr_, r_si_, r_sl_, r_sr_, vr_s_, vr_n_, nz_0_, nz_1_, q_X12_in, hG2.e, z1, z2, z3, z4, bI_f]
  have y15 : a_i (s_i G2 126 17 sv) 126 15 = nI (I + 1) := by rw [ine (by omega)]; exact G2_15
  have y14 : a_i (s_i G2 126 17 sv) 126 14 = nI n := by rw [ine (by omega)]; exact (G2_i _ _ (by omega)).trans e1
  by_cases tw : (t I = 60 ∨ t I = 62) ∧ I + 1 < n ∧ t (I + 1) = 61
  · rw [if_pos tw] at tk2
    obtain ⟨w1, w2, w3⟩ := tw
    have sg : sgn (t I) = true := by rcases w1 with w | w <;> rw [w] <;> decide +kernel
    have es3 : sv = 3 := by rw [es, sg]; rfl
    obtain ⟨u1, u2⟩ := ht (I + 1) w2
    have u3 : a_i (s_i G2 126 17 sv) 129 (I + 1) = 61 := by
      rw [ine (by omega), G2_i _ _ (by omega), u1, w3]; decide
    have c1 : (nI (I + 1) < nI n) = True := nI_ltT w2 (by omega)
    have c2 : (nI n ≤ nI (I + 1)) = False := by rw [nI_lE (by omega) (by omega)]; exact eq_false (by omega)
    have x5 := nI_c (a := I + 1) (by omega)
    have x6 : am_in1 (nI (I + 1)) 300 = True := by rw [in1_n (by omega)]; exact eq_true (by omega)
    have x7 : nI (I + 1) + 1 = nI (I + 2) := nI_a (b := 1)
    have s5 : ∀ Q, WP (d + 2) mX12_next 374 (nL (some (.int (b8 (t I)))) none none none) [] (s_i G2 126 17 sv) Q = Q none (s_i (s_i (s_i G2 126 17 sv) 126 18 (nI (smp (t I + 256)))) 126 15 (nI (I + 2))) := fun Q => by
      obtain ⟨G3, eG3⟩ : ∃ G3, G3 = s_i G2 126 17 sv := ⟨_, rfl⟩
      have hG3 : sh_R (a_t G3) (a_r G3) := by rw [eG3]; exact hG2
      rw [← eG3] at y15 y14 u3 ⊢
      unfold nL
      rcases w1 with w | w
      · rw [w, show b8 60 = 60 from by decide, show nI (smp (60 + 256)) = 300 from by decide]
        simp [w_iload_n1 (M := mX12_next) dX12_next_374, w_bipush (M := mX12_next) (v := 60) dX12_next_375 rfl, w_ic_eq (M := mX12_next) (tgt := 386) dX12_next_377 (by decide), w_iload_n1 (M := mX12_next) dX12_next_380, w_bipush (M := mX12_next) (v := 62) dX12_next_381 rfl, w_ic_ne (M := mX12_next) (tgt := 440) dX12_next_383 (by decide), w_aload_n0 (M := mX12_next) dX12_next_386, w_getI (M := mX12_next) dX12_next_387 f_12_265 rfl (by decide) (by decide), w_aload_n0 (M := mX12_next) dX12_next_390, w_getI (M := mX12_next) dX12_next_391 f_12_268 rfl (by decide) (by decide), w_ic_ge (M := mX12_next) (tgt := 440) dX12_next_394 (by decide), w_aload_n0 (M := mX12_next) dX12_next_397, w_getA (M := mX12_next) dX12_next_398 f_12_16 rfl (by decide) (by decide), w_aload_n0 (M := mX12_next) dX12_next_401, w_getI (M := mX12_next) dX12_next_402 f_12_265 rfl (by decide) (by decide), w_baload (M := mX12_next) dX12_next_405, w_bipush (M := mX12_next) (v := 61) dX12_next_406 rfl, w_ic_ne (M := mX12_next) (tgt := 440) dX12_next_408 (by decide), w_aload_n0 (M := mX12_next) dX12_next_411, w_iload_n1 (M := mX12_next) dX12_next_412, w_bipush (M := mX12_next) (v := 60) dX12_next_413 rfl, w_ic_ne (M := mX12_next) (tgt := 424) dX12_next_415 (by decide), w_sipush (M := mX12_next) (v := 300) dX12_next_418 rfl, w_goto (M := mX12_next) (tgt := 427) dX12_next_421 (by decide), w_sipush (M := mX12_next) (v := 301) dX12_next_424 rfl, w_putI (M := mX12_next) dX12_next_427 f_12_286 rfl (Or.inl rfl), w_aload_n0 (M := mX12_next) dX12_next_430, w_dup_int (M := mX12_next) dX12_next_431, w_dup_ref (M := mX12_next) dX12_next_431, w_getI (M := mX12_next) dX12_next_432 f_12_265 rfl (by decide) (by decide), w_iconst (M := mX12_next) (v := 1) dX12_next_435 rfl, w_iadd (M := mX12_next) dX12_next_436, w_putI (M := mX12_next) dX12_next_437 f_12_265 rfl (Or.inl rfl), w_vret (M := mX12_next) dX12_next_440 rfl, Kn_v_, Kn_n_, kl_i_, kl_a_, kl_l_, kl_n_, s1_0_, s2_0_, s1_1, s1_2, s1_3, s1_4, s1_5, s1_6, s1_7, s1_8, s1_9, s1_10, s1_11, s1_12, s1_13, s1_14, s2_1, s2_2, s2_3, s2_4, s2_5, s2_6, s2_7, s2_8, s2_9, s2_10, s2_11, s2_12, s2_13, s2_14, List.map_nil, List.map_cons, List.sum_nil, List.sum_cons, ct_i_, ct_r_, ct_l_, t_si_, t_sl_, t_sr_, n_si_, n_sl_, n_sr_, i_si_, i_sl_, i_sr_, l_si_, l_sl_, l_sr_, r_si_, r_sl_, r_sr_, vr_s_, vr_n_, nz_0_, nz_1_, hG3.e, y15, y14, c1, c2, x5, x6, x7, u3]
      · rw [w, show b8 62 = 62 from by decide, show nI (smp (62 + 256)) = 301 from by decide]
        simp [w_iload_n1 (M := mX12_next) dX12_next_374, w_bipush (M := mX12_next) (v := 60) dX12_next_375 rfl, w_ic_eq (M := mX12_next) (tgt := 386) dX12_next_377 (by decide), w_iload_n1 (M := mX12_next) dX12_next_380, w_bipush (M := mX12_next) (v := 62) dX12_next_381 rfl, w_ic_ne (M := mX12_next) (tgt := 440) dX12_next_383 (by decide), w_aload_n0 (M := mX12_next) dX12_next_386, w_getI (M := mX12_next) dX12_next_387 f_12_265 rfl (by decide) (by decide), w_aload_n0 (M := mX12_next) dX12_next_390, w_getI (M := mX12_next) dX12_next_391 f_12_268 rfl (by decide) (by decide), w_ic_ge (M := mX12_next) (tgt := 440) dX12_next_394 (by decide), w_aload_n0 (M := mX12_next) dX12_next_397, w_getA (M := mX12_next) dX12_next_398 f_12_16 rfl (by decide) (by decide), w_aload_n0 (M := mX12_next) dX12_next_401, w_getI (M := mX12_next) dX12_next_402 f_12_265 rfl (by decide) (by decide), w_baload (M := mX12_next) dX12_next_405, w_bipush (M := mX12_next) (v := 61) dX12_next_406 rfl, w_ic_ne (M := mX12_next) (tgt := 440) dX12_next_408 (by decide), w_aload_n0 (M := mX12_next) dX12_next_411, w_iload_n1 (M := mX12_next) dX12_next_412, w_bipush (M := mX12_next) (v := 60) dX12_next_413 rfl, w_ic_ne (M := mX12_next) (tgt := 424) dX12_next_415 (by decide), w_sipush (M := mX12_next) (v := 300) dX12_next_418 rfl, w_goto (M := mX12_next) (tgt := 427) dX12_next_421 (by decide), w_sipush (M := mX12_next) (v := 301) dX12_next_424 rfl, w_putI (M := mX12_next) dX12_next_427 f_12_286 rfl (Or.inl rfl), w_aload_n0 (M := mX12_next) dX12_next_430, w_dup_int (M := mX12_next) dX12_next_431, w_dup_ref (M := mX12_next) dX12_next_431, w_getI (M := mX12_next) dX12_next_432 f_12_265 rfl (by decide) (by decide), w_iconst (M := mX12_next) (v := 1) dX12_next_435 rfl, w_iadd (M := mX12_next) dX12_next_436, w_putI (M := mX12_next) dX12_next_437 f_12_265 rfl (Or.inl rfl), w_vret (M := mX12_next) dX12_next_440 rfl, Kn_v_, Kn_n_, kl_i_, kl_a_, kl_l_, kl_n_, s1_0_, s2_0_, s1_1, s1_2, s1_3, s1_4, s1_5, s1_6, s1_7, s1_8, s1_9, s1_10, s1_11, s1_12, s1_13, s1_14, s2_1, s2_2, s2_3, s2_4, s2_5, s2_6, s2_7, s2_8, s2_9, s2_10, s2_11, s2_12, s2_13, s2_14, List.map_nil, List.map_cons, List.sum_nil, List.sum_cons, ct_i_, ct_r_, ct_l_, t_si_, t_sl_, t_sr_, n_si_, n_sl_, n_sr_, i_si_, i_sl_, i_sr_, l_si_, l_sl_, l_sr_, r_si_, r_sl_, r_sr_, vr_s_, vr_n_, nz_0_, nz_1_, hG3.e, y15, y14, c1, c2, x5, x6, x7, u3]
    refine ⟨s_i (s_i (s_i G2 126 17 sv) 126 18 (nI (smp (t I + 256)))) 126 15 (nI (I + 2)), (4, t I + 256, I), I + 2, _, by rw [tk2]; rfl, fun Q => by rw [s1, s2, s3, s4, s5], ⟨⟨G2t, G2r, G21⟩, G2l, fun p j z => ?_⟩, ieq rfl rfl, by omega, ?_, ?_, fun _ => by rw [tks_ff (n - I - 1) (n - (I + 2)) (I + 2) (by omega) (by omega)]; rfl⟩
    · rw [ine (by omega), ine (by omega), ine (by omega)]; exact G2_i p j z
    · rw [ine (by omega), ine (by omega), ine (by omega)]; exact G2_16
    · rw [ine (by omega), ine (by omega), ieq rfl rfl, ine (by omega), ieq rfl rfl, es3]
      refine Or.inr (Or.inr (Or.inr (Or.inl ⟨rfl, rfl, rfl, ?_⟩)))
      show isg (t I + 256)
      unfold isg
      omega
  · rw [if_neg tw] at tk2
    have s5 : ∀ Q, WP (d + 2) mX12_next 374 (nL (some (.int (b8 (t I)))) none none none) [] (s_i G2 126 17 sv) Q = Q none (s_i G2 126 17 sv) := fun Q => by
      obtain ⟨G3, eG3⟩ : ∃ G3, G3 = s_i G2 126 17 sv := ⟨_, rfl⟩
      have hG3 : sh_R (a_t G3) (a_r G3) := by rw [eG3]; exact hG2
      have g129 : I + 1 < n → a_i G3 129 (I + 1) = b8 (t (I + 1)) := fun l => by
        rw [eG3, ine (by omega), G2_i _ _ (by omega)]; exact (ht _ l).1
      rw [← eG3] at y15 y14 ⊢
      have x5 := nI_c (a := I + 1) (by omega)
      unfold nL
      by_cases w1 : t I = 60 ∨ t I = 62
      · have wb : b8 (t I) = 60 ∨ b8 (t I) = 62 := by
          rcases w1 with w | w
          · exact Or.inl (k3.mpr w)
          · exact Or.inr (k4.mpr w)
        by_cases w2 : I + 1 < n
        · have w3 : ¬ t (I + 1) = 61 := fun z => tw ⟨w1, w2, z⟩
          have u4 : (a_i G3 129 (I + 1) = 61) = False := by
            rw [g129 w2]
            exact eq_false (fun z => w3 ((b8_k _ (ht _ w2).2).2.2.2.2.mp z))
          have c1 : (nI (I + 1) < nI n) = True := nI_ltT w2 (by omega)
          have c2 : (nI n ≤ nI (I + 1)) = False := by rw [nI_lE (by omega) (by omega)]; exact eq_false (by omega)
          have x6 : am_in1 (nI (I + 1)) 300 = True := by rw [in1_n (by omega)]; exact eq_true (by omega)
          rcases wb with w | w
          · simp [w_iload_n1 (M := mX12_next) dX12_next_374, w_bipush (M := mX12_next) (v := 60) dX12_next_375 rfl, w_ic_eq (M := mX12_next) (tgt := 386) dX12_next_377 (by decide), w_iload_n1 (M := mX12_next) dX12_next_380, w_bipush (M := mX12_next) (v := 62) dX12_next_381 rfl, w_ic_ne (M := mX12_next) (tgt := 440) dX12_next_383 (by decide), w_aload_n0 (M := mX12_next) dX12_next_386, w_getI (M := mX12_next) dX12_next_387 f_12_265 rfl (by decide) (by decide), w_aload_n0 (M := mX12_next) dX12_next_390, w_getI (M := mX12_next) dX12_next_391 f_12_268 rfl (by decide) (by decide), w_ic_ge (M := mX12_next) (tgt := 440) dX12_next_394 (by decide), w_aload_n0 (M := mX12_next) dX12_next_397, w_getA (M := mX12_next) dX12_next_398 f_12_16 rfl (by decide) (by decide), w_aload_n0 (M := mX12_next) dX12_next_401, w_getI (M := mX12_next) dX12_next_402 f_12_265 rfl (by decide) (by decide), w_baload (M := mX12_next) dX12_next_405, w_bipush (M := mX12_next) (v := 61) dX12_next_406 rfl, w_ic_ne (M := mX12_next) (tgt := 440) dX12_next_408 (by decide), w_aload_n0 (M := mX12_next) dX12_next_411, w_iload_n1 (M := mX12_next) dX12_next_412, w_bipush (M := mX12_next) (v := 60) dX12_next_413 rfl, w_ic_ne (M := mX12_next) (tgt := 424) dX12_next_415 (by decide), w_sipush (M := mX12_next) (v := 300) dX12_next_418 rfl, w_goto (M := mX12_next) (tgt := 427) dX12_next_421 (by decide), w_sipush (M := mX12_next) (v := 301) dX12_next_424 rfl, w_putI (M := mX12_next) dX12_next_427 f_12_286 rfl (Or.inl rfl), w_aload_n0 (M := mX12_next) dX12_next_430, w_dup_int (M := mX12_next) dX12_next_431, w_dup_ref (M := mX12_next) dX12_next_431, w_getI (M := mX12_next) dX12_next_432 f_12_265 rfl (by decide) (by decide), w_iconst (M := mX12_next) (v := 1) dX12_next_435 rfl, w_iadd (M := mX12_next) dX12_next_436, w_putI (M := mX12_next) dX12_next_437 f_12_265 rfl (Or.inl rfl), w_vret (M := mX12_next) dX12_next_440 rfl, Kn_v_, Kn_n_, kl_i_, kl_a_, kl_l_, kl_n_, s1_0_, s2_0_, s1_1, s1_2, s1_3, s1_4, s1_5, s1_6, s1_7, s1_8, s1_9, s1_10, s1_11, s1_12, s1_13, s1_14, s2_1, s2_2, s2_3, s2_4, s2_5, s2_6, s2_7, s2_8, s2_9, s2_10, s2_11, s2_12, s2_13, s2_14, List.map_nil, List.map_cons, List.sum_nil, List.sum_cons, ct_i_, ct_r_, ct_l_, t_si_, t_sl_, t_sr_, n_si_, n_sl_, n_sr_, i_si_, i_sl_, i_sr_, l_si_, l_sl_, l_sr_, r_si_, r_sl_, r_sr_, vr_s_, vr_n_, nz_0_, nz_1_, hG3.e, y15, y14, c1, c2, x5, x6, u4, w]
          · simp [w_iload_n1 (M := mX12_next) dX12_next_374, w_bipush (M := mX12_next) (v := 60) dX12_next_375 rfl, w_ic_eq (M := mX12_next) (tgt := 386) dX12_next_377 (by decide), w_iload_n1 (M := mX12_next) dX12_next_380, w_bipush (M := mX12_next) (v := 62) dX12_next_381 rfl, w_ic_ne (M := mX12_next) (tgt := 440) dX12_next_383 (by decide), w_aload_n0 (M := mX12_next) dX12_next_386, w_getI (M := mX12_next) dX12_next_387 f_12_265 rfl (by decide) (by decide), w_aload_n0 (M := mX12_next) dX12_next_390, w_getI (M := mX12_next) dX12_next_391 f_12_268 rfl (by decide) (by decide), w_ic_ge (M := mX12_next) (tgt := 440) dX12_next_394 (by decide), w_aload_n0 (M := mX12_next) dX12_next_397, w_getA (M := mX12_next) dX12_next_398 f_12_16 rfl (by decide) (by decide), w_aload_n0 (M := mX12_next) dX12_next_401, w_getI (M := mX12_next) dX12_next_402 f_12_265 rfl (by decide) (by decide), w_baload (M := mX12_next) dX12_next_405, w_bipush (M := mX12_next) (v := 61) dX12_next_406 rfl, w_ic_ne (M := mX12_next) (tgt := 440) dX12_next_408 (by decide), w_aload_n0 (M := mX12_next) dX12_next_411, w_iload_n1 (M := mX12_next) dX12_next_412, w_bipush (M := mX12_next) (v := 60) dX12_next_413 rfl, w_ic_ne (M := mX12_next) (tgt := 424) dX12_next_415 (by decide), w_sipush (M := mX12_next) (v := 300) dX12_next_418 rfl, w_goto (M := mX12_next) (tgt := 427) dX12_next_421 (by decide), w_sipush (M := mX12_next) (v := 301) dX12_next_424 rfl, w_putI (M := mX12_next) dX12_next_427 f_12_286 rfl (Or.inl rfl), w_aload_n0 (M := mX12_next) dX12_next_430, w_dup_int (M := mX12_next) dX12_next_431, w_dup_ref (M := mX12_next) dX12_next_431, w_getI (M := mX12_next) dX12_next_432 f_12_265 rfl (by decide) (by decide), w_iconst (M := mX12_next) (v := 1) dX12_next_435 rfl, w_iadd (M := mX12_next) dX12_next_436, w_putI (M := mX12_next) dX12_next_437 f_12_265 rfl (Or.inl rfl), w_vret (M := mX12_next) dX12_next_440 rfl, Kn_v_, Kn_n_, kl_i_, kl_a_, kl_l_, kl_n_, s1_0_, s2_0_, s1_1, s1_2, s1_3, s1_4, s1_5, s1_6, s1_7, s1_8, s1_9, s1_10, s1_11, s1_12, s1_13, s1_14, s2_1, s2_2, s2_3, s2_4, s2_5, s2_6, s2_7, s2_8, s2_9, s2_10, s2_11, s2_12, s2_13, s2_14, List.map_nil, List.map_cons, List.sum_nil, List.sum_cons, ct_i_, ct_r_, ct_l_, t_si_, t_sl_, t_sr_, n_si_, n_sl_, n_sr_, i_si_, i_sl_, i_sr_, l_si_, l_sl_, l_sr_, r_si_, r_sl_, r_sr_, vr_s_, vr_n_, nz_0_, nz_1_, hG3.e, y15, y14, c1, c2, x5, x6, u4, w]
        · have c1 : (nI (I + 1) < nI n) = False := nI_ltF (by omega) (by omega)
          have c2 : (nI n ≤ nI (I + 1)) = True := by rw [nI_lE (by omega) (by omega)]; exact eq_true (by omega)
          rcases wb with w | w
          · simp [w_iload_n1 (M := mX12_next) dX12_next_374, w_bipush (M := mX12_next) (v := 60) dX12_next_375 rfl, w_ic_eq (M := mX12_next) (tgt := 386) dX12_next_377 (by decide), w_iload_n1 (M := mX12_next) dX12_next_380, w_bipush (M := mX12_next) (v := 62) dX12_next_381 rfl, w_ic_ne (M := mX12_next) (tgt := 440) dX12_next_383 (by decide), w_aload_n0 (M := mX12_next) dX12_next_386, w_getI (M := mX12_next) dX12_next_387 f_12_265 rfl (by decide) (by decide), w_aload_n0 (M := mX12_next) dX12_next_390, w_getI (M := mX12_next) dX12_next_391 f_12_268 rfl (by decide) (by decide), w_ic_ge (M := mX12_next) (tgt := 440) dX12_next_394 (by decide), w_aload_n0 (M := mX12_next) dX12_next_397, w_getA (M := mX12_next) dX12_next_398 f_12_16 rfl (by decide) (by decide), w_aload_n0 (M := mX12_next) dX12_next_401, w_getI (M := mX12_next) dX12_next_402 f_12_265 rfl (by decide) (by decide), w_baload (M := mX12_next) dX12_next_405, w_bipush (M := mX12_next) (v := 61) dX12_next_406 rfl, w_ic_ne (M := mX12_next) (tgt := 440) dX12_next_408 (by decide), w_aload_n0 (M := mX12_next) dX12_next_411, w_iload_n1 (M := mX12_next) dX12_next_412, w_bipush (M := mX12_next) (v := 60) dX12_next_413 rfl, w_ic_ne (M := mX12_next) (tgt := 424) dX12_next_415 (by decide), w_sipush (M := mX12_next) (v := 300) dX12_next_418 rfl, w_goto (M := mX12_next) (tgt := 427) dX12_next_421 (by decide), w_sipush (M := mX12_next) (v := 301) dX12_next_424 rfl, w_putI (M := mX12_next) dX12_next_427 f_12_286 rfl (Or.inl rfl), w_aload_n0 (M := mX12_next) dX12_next_430, w_dup_int (M := mX12_next) dX12_next_431, w_dup_ref (M := mX12_next) dX12_next_431, w_getI (M := mX12_next) dX12_next_432 f_12_265 rfl (by decide) (by decide), w_iconst (M := mX12_next) (v := 1) dX12_next_435 rfl, w_iadd (M := mX12_next) dX12_next_436, w_putI (M := mX12_next) dX12_next_437 f_12_265 rfl (Or.inl rfl), w_vret (M := mX12_next) dX12_next_440 rfl, Kn_v_, Kn_n_, kl_i_, kl_a_, kl_l_, kl_n_, s1_0_, s2_0_, s1_1, s1_2, s1_3, s1_4, s1_5, s1_6, s1_7, s1_8, s1_9, s1_10, s1_11, s1_12, s1_13, s1_14, s2_1, s2_2, s2_3, s2_4, s2_5, s2_6, s2_7, s2_8, s2_9, s2_10, s2_11, s2_12, s2_13, s2_14, List.map_nil, List.map_cons, List.sum_nil, List.sum_cons, ct_i_, ct_r_, ct_l_, t_si_, t_sl_, t_sr_, n_si_, n_sl_, n_sr_, i_si_, i_sl_, i_sr_, l_si_, l_sl_, l_sr_, r_si_, r_sl_, r_sr_, vr_s_, vr_n_, nz_0_, nz_1_, hG3.e, y15, y14, c1, c2, w]
          · simp [w_iload_n1 (M := mX12_next) dX12_next_374, w_bipush (M := mX12_next) (v := 60) dX12_next_375 rfl, w_ic_eq (M := mX12_next) (tgt := 386) dX12_next_377 (by decide), w_iload_n1 (M := mX12_next) dX12_next_380, w_bipush (M := mX12_next) (v := 62) dX12_next_381 rfl, w_ic_ne (M := mX12_next) (tgt := 440) dX12_next_383 (by decide), w_aload_n0 (M := mX12_next) dX12_next_386, w_getI (M := mX12_next) dX12_next_387 f_12_265 rfl (by decide) (by decide), w_aload_n0 (M := mX12_next) dX12_next_390, w_getI (M := mX12_next) dX12_next_391 f_12_268 rfl (by decide) (by decide), w_ic_ge (M := mX12_next) (tgt := 440) dX12_next_394 (by decide), w_aload_n0 (M := mX12_next) dX12_next_397, w_getA (M := mX12_next) dX12_next_398 f_12_16 rfl (by decide) (by decide), w_aload_n0 (M := mX12_next) dX12_next_401, w_getI (M := mX12_next) dX12_next_402 f_12_265 rfl (by decide) (by decide), w_baload (M := mX12_next) dX12_next_405, w_bipush (M := mX12_next) (v := 61) dX12_next_406 rfl, w_ic_ne (M := mX12_next) (tgt := 440) dX12_next_408 (by decide), w_aload_n0 (M := mX12_next) dX12_next_411, w_iload_n1 (M := mX12_next) dX12_next_412, w_bipush (M := mX12_next) (v := 60) dX12_next_413 rfl, w_ic_ne (M := mX12_next) (tgt := 424) dX12_next_415 (by decide), w_sipush (M := mX12_next) (v := 300) dX12_next_418 rfl, w_goto (M := mX12_next) (tgt := 427) dX12_next_421 (by decide), w_sipush (M := mX12_next) (v := 301) dX12_next_424 rfl, w_putI (M := mX12_next) dX12_next_427 f_12_286 rfl (Or.inl rfl), w_aload_n0 (M := mX12_next) dX12_next_430, w_dup_int (M := mX12_next) dX12_next_431, w_dup_ref (M := mX12_next) dX12_next_431, w_getI (M := mX12_next) dX12_next_432 f_12_265 rfl (by decide) (by decide), w_iconst (M := mX12_next) (v := 1) dX12_next_435 rfl, w_iadd (M := mX12_next) dX12_next_436, w_putI (M := mX12_next) dX12_next_437 f_12_265 rfl (Or.inl rfl), w_vret (M := mX12_next) dX12_next_440 rfl, Kn_v_, Kn_n_, kl_i_, kl_a_, kl_l_, kl_n_, s1_0_, s2_0_, s1_1, s1_2, s1_3, s1_4, s1_5, s1_6, s1_7, s1_8, s1_9, s1_10, s1_11, s1_12, s1_13, s1_14, s2_1, s2_2, s2_3, s2_4, s2_5, s2_6, s2_7, s2_8, s2_9, s2_10, s2_11, s2_12, s2_13, s2_14, List.map_nil, List.map_cons, List.sum_nil, List.sum_cons, ct_i_, ct_r_, ct_l_, t_si_, t_sl_, t_sr_, n_si_, n_sl_, n_sr_, i_si_, i_sl_, i_sr_, l_si_, l_sl_, l_sr_, r_si_, r_sl_, r_sr_, vr_s_, vr_n_, nz_0_, nz_1_, hG3.e, y15, y14, c1, c2, w]
      · have q3 : ¬ b8 (t I) = 60 := fun z => w1 (Or.inl (k3.mp z))
        have q4 : ¬ b8 (t I) = 62 := fun z => w1 (Or.inr (k4.mp z))
        simp [w_iload_n1 (M := mX12_next) dX12_next_374, w_bipush (M := mX12_next) (v := 60) dX12_next_375 rfl, w_ic_eq (M := mX12_next) (tgt := 386) dX12_next_377 (by decide), w_iload_n1 (M := mX12_next) dX12_next_380, w_bipush (M := mX12_next) (v := 62) dX12_next_381 rfl, w_ic_ne (M := mX12_next) (tgt := 440) dX12_next_383 (by decide), w_aload_n0 (M := mX12_next) dX12_next_386, w_getI (M := mX12_next) dX12_next_387 f_12_265 rfl (by decide) (by decide), w_aload_n0 (M := mX12_next) dX12_next_390, w_getI (M := mX12_next) dX12_next_391 f_12_268 rfl (by decide) (by decide), w_ic_ge (M := mX12_next) (tgt := 440) dX12_next_394 (by decide), w_aload_n0 (M := mX12_next) dX12_next_397, w_getA (M := mX12_next) dX12_next_398 f_12_16 rfl (by decide) (by decide), w_aload_n0 (M := mX12_next) dX12_next_401, w_getI (M := mX12_next) dX12_next_402 f_12_265 rfl (by decide) (by decide), w_baload (M := mX12_next) dX12_next_405, w_bipush (M := mX12_next) (v := 61) dX12_next_406 rfl, w_ic_ne (M := mX12_next) (tgt := 440) dX12_next_408 (by decide), w_aload_n0 (M := mX12_next) dX12_next_411, w_iload_n1 (M := mX12_next) dX12_next_412, w_bipush (M := mX12_next) (v := 60) dX12_next_413 rfl, w_ic_ne (M := mX12_next) (tgt := 424) dX12_next_415 (by decide), w_sipush (M := mX12_next) (v := 300) dX12_next_418 rfl, w_goto (M := mX12_next) (tgt := 427) dX12_next_421 (by decide), w_sipush (M := mX12_next) (v := 301) dX12_next_424 rfl, w_putI (M := mX12_next) dX12_next_427 f_12_286 rfl (Or.inl rfl), w_aload_n0 (M := mX12_next) dX12_next_430, w_dup_int (M := mX12_next) dX12_next_431, w_dup_ref (M := mX12_next) dX12_next_431, w_getI (M := mX12_next) dX12_next_432 f_12_265 rfl (by decide) (by decide), w_iconst (M := mX12_next) (v := 1) dX12_next_435 rfl, w_iadd (M := mX12_next) dX12_next_436, w_putI (M := mX12_next) dX12_next_437 f_12_265 rfl (Or.inl rfl), w_vret (M := mX12_next) dX12_next_440 rfl, Kn_v_, Kn_n_, kl_i_, kl_a_, kl_l_, kl_n_, s1_0_, s2_0_, s1_1, s1_2, s1_3, s1_4, s1_5, s1_6, s1_7, s1_8, s1_9, s1_10, s1_11, s1_12, s1_13, s1_14, s2_1, s2_2, s2_3, s2_4, s2_5, s2_6, s2_7, s2_8, s2_9, s2_10, s2_11, s2_12, s2_13, s2_14, List.map_nil, List.map_cons, List.sum_nil, List.sum_cons, ct_i_, ct_r_, ct_l_, t_si_, t_sl_, t_sr_, n_si_, n_sl_, n_sr_, i_si_, i_sl_, i_sr_, l_si_, l_sl_, l_sr_, r_si_, r_sl_, r_sr_, vr_s_, vr_n_, nz_0_, nz_1_, hG3.e, q3, q4]
    refine ⟨s_i G2 126 17 sv, (if sgn (t I) = true then 4 else 1, t I, I), I + 1, _, by rw [tk2]; rfl, fun Q => by rw [s1, s2, s3, s4, s5], ⟨⟨G2t, G2r, G21⟩, G2l, fun p j z => ?_⟩, y15, by omega, ?_, ?_, fun _ => by rw [tks_ff (n - I - 1) (n - (I + 1)) (I + 1) (by omega) (by omega)]; rfl⟩
    · rw [ine (by omega)]; exact G2_i p j z
    · rw [ine (by omega)]; exact G2_16
    · rw [ieq rfl rfl, ine (by omega), G2_18]
      by_cases sg : sgn (t I) = true
      · have bi := b8_a _ t2 (Or.inr (Or.inr sg))
        have gi := sgn_i _ t2 sg
        have e3 : sv = 3 := by rw [es, sg]; rfl
        rw [if_pos sg, bi, e3]
        refine Or.inr (Or.inr (Or.inr (Or.inl ⟨rfl, rfl, ?_, ?_⟩)))
        · show nI (t I) = nI (smp (t I))
          unfold smp
          rw [if_neg (by omega), if_neg (by omega)]
        · show isg (t I)
          unfold isg
          omega
      · rw [if_neg sg]
        refine Or.inr (Or.inr (Or.inr (Or.inr ⟨rfl, ?_⟩)))
        by_cases c44 : t I = 44
        · refine Or.inr ⟨?_, ?_⟩
          · rw [es, c44]
            decide +kernel
          · rw [c44]; decide
        · refine Or.inl ?_
          rw [es, eq_false_of_ne_true sg, decide_eq_false c44]
          rfl
end RNEXT2
