/-! laws: the whole code -/
section LAWS8
/-- all words from i on, in k steps at most -/
def ev (N : Nat → Int32) (op a : Nat → Nat) (n : Nat) : Nat → Nat → List Int32 → List Int32
  | 0, _, L => L
  | k + 1, i, L => if i < n then ev N op a n k (evS N (op i) (a i) i L).1 (evS N (op i) (a i) i L).2 else L
theorem evS_1 {N : Nat → Int32} {op a i : Nat} {L : List Int32} : (evS N op a i L).1 = i + 1 ∨ ((op = 2 ∨ op = 3) ∧ (evS N op a i L).1 = a) := by
  unfold evS
  split
  · exact Or.inl rfl
  · exact Or.inl rfl
  · exact Or.inr ⟨Or.inl rfl, rfl⟩
  · by_cases c : (‹Int32› : Int32) = 0
    · rw [if_pos c]; exact Or.inr ⟨Or.inr rfl, rfl⟩
    · rw [if_neg c]; exact Or.inl rfl
  · exact Or.inl rfl
  · exact Or.inl rfl
  · exact Or.inl rfl
  · exact Or.inl rfl
theorem evS_N {N N' : Nat → Int32} {op a i : Nat} {L : List Int32} (k : op = 1 → N a = N' a) : evS N op a i L = evS N' op a i L := by
  by_cases c : op = 1
  · subst c
    show (i + 1, N a :: L) = (i + 1, N' a :: L)
    rw [k rfl]
  · unfold evS
    split
    · rfl
    · exact absurd rfl c
    · rfl
    · rfl
    · rfl
    · rfl
    · rfl
    · rfl
theorem ev_N {N N' : Nat → Int32} {op a : Nat → Nat} {n : Nat} (hN : ∀ i, i < n → op i = 1 → N (a i) = N' (a i)) : ∀ (k i : Nat) (L : List Int32), ev N op a n k i L = ev N' op a n k i L := by
  intro k
  induction k with
  | zero => intro i L; rfl
  | succ k ih =>
    intro i L
    show (if i < n then _ else L) = (if i < n then _ else L)
    by_cases c : i < n
    · rw [if_pos c, if_pos c, evS_N (hN i c)]
      exact ih _ _
    · rw [if_neg c, if_neg c]
/-- what a law says, unbounded -/
def LV (N : Nat → Int32) (op a : Nat → Nat) (n : Nat) : Int32 := (ev N op a n n 0 []).headD 0
variable {d : Nat} {h s : am_h} {q f i n : Nat} {lw : Int32} {o4 o5 o6 o7 : Option Value} {L : List Int32} {op a : Nat → Nat} {ty : Nat → List Bool}
theorem vc_all (T : shT h q) (hfn : f + n ≤ 300) (l64 : ∀ i, (ty i).length ≤ 64) (hN : ∀ i, i < n → op i = 1 → inM (a_i h 92 (a i))) (hw : ∀ i, i < n → op i < 18 ∧ a i ≤ 9999 ∧ tyStep ty i (op i) (a i) ∧ (if op i = 2 ∨ op i = 3 then a i ≤ n ∧ a_i h (q + 7) (f + i) = nI ((f + a i) * 32 + op i) else a_i h (q + 7) (f + i) = nI (a i * 32 + op i))) : ∀ (k i : Nat) (s : am_h) (L : List Int32) (o4 o5 o6 o7 : Option Value), n - i ≤ k → i ≤ n → pl h s L → wt L (ty i) → ∃ s' o4' o5' o6' o7', (∀ Q, WP (d + 1) mX4_valueOf 36 [some (.ref 91), some (.int lw), some (.int (nI (f + n))), some (.int (nI (f + i))), o4, o5, o6, o7] [] s Q = WP (d + 1) mX4_valueOf 36 [some (.ref 91), some (.int lw), some (.int (nI (f + n))), some (.int (nI (f + n))), o4', o5', o6', o7'] [] s' Q) ∧ pl h s' (ev (a_i h 92) op a n k i L) ∧ wt (ev (a_i h 92) op a n k i L) (ty n) := by
  intro k
  induction k with
  | zero =>
    intro i s L o4 o5 o6 o7 h1 h2 p w
    have : i = n := by omega
    subst this
    exact ⟨s, o4, o5, o6, o7, fun _ => rfl, p, w⟩
  | succ k ih =>
    intro i s L o4 o5 o6 o7 h1 h2 p w
    by_cases c : i < n
    · obtain ⟨w1, w2, w3, w4⟩ := hw i c
      obtain ⟨s1, p4, p5, p6, p7, e1, p1⟩ := vc_step (d := d) (lw := lw) (o4 := o4) (o5 := o5) (o6 := o6) (o7 := o7) T p (show f + i < f + n by omega) hfn w1 w2 hfn w3 w l64 w4
      obtain ⟨t1, t2⟩ := evS_t (hN i c) w1 w3 w
      have le : (evS (a_i h 92) (op i) (a i) i L).1 ≤ n := by
        rcases evS_1 (N := a_i h 92) (op := op i) (a := a i) (i := i) (L := L) with z | ⟨z1, z2⟩
        · omega
        · rw [if_pos z1] at w4; omega
      obtain ⟨s2, q4, q5, q6, q7, e2, p2, u2⟩ := ih _ s1 _ p4 p5 p6 p7 (by omega) le p1 t1
      refine ⟨s2, q4, q5, q6, q7, fun Q => (e1 Q).trans (e2 Q), ?_⟩
      show pl h s2 (if i < n then _ else L) ∧ wt (if i < n then _ else L) (ty n)
      rw [if_pos c]
      exact ⟨p2, u2⟩
    · have : i = n := by omega
      subst this
      refine ⟨s, o4, o5, o6, o7, fun _ => rfl, ?_⟩
      show pl h s (if i < i then _ else L) ∧ wt (if i < i then _ else L) (ty i)
      rw [if_neg c]
      exact ⟨p, w⟩
/-- within two bounds -/
def hld (v lo hi : Int32) : Int32 := if lo < (if v < hi then v else hi) then (if v < hi then v else hi) else lo
/-- the bounds of a law -/
def lo5 (w : Nat) : Int32 := if w = 2 then 1 else 0
def hi5 (w : Nat) : Int32 := if w = 0 then 999 else if w = 1 ∨ w = 2 then 99 else 9999
/-- cells that were there before: the bounds of the laws -/
def rOl (h : am_h) : Prop := a_t h 1000001 = (40, 5) ∧ a_t h 1000002 = (40, 5) ∧ ∀ w, w < 5 → a_i h 1000001 w = lo5 w ∧ a_i h 1000002 w = hi5 w
set_option maxRecDepth 20000 in
set_option maxHeartbeats 2000000 in
theorem q_valueOf {w : Nat} (T : shT h q) (ol : rOl h) (hw5 : w < 5) (tq6 : a_r h q 6 = some (q + 6)) (tt6 : a_t h (q + 6) = (20, 5)) (tq5 : a_r h q 5 = some (q + 5)) (tt5 : a_t h (q + 5) = (20, 5)) (ef : a_i h (q + 5) w = nI f) (et : a_i h (q + 6) w = nI (f + n)) (hfn : f + n ≤ 300) (t0 : ty 0 = []) (tn : ty n = [false]) (l64 : ∀ i, (ty i).length ≤ 64) (hN : ∀ i, i < n → op i = 1 → inM (a_i h 92 (a i))) (hw : ∀ i, i < n → op i < 18 ∧ a i ≤ 9999 ∧ tyStep ty i (op i) (a i) ∧ (if op i = 2 ∨ op i = 3 then a i ≤ n ∧ a_i h (q + 7) (f + i) = nI ((f + a i) * 32 + op i) else a_i h (q + 7) (f + i) = nI (a i * 32 + op i))) : ∃ s', (∀ Q, Cal (d + 1) mX4_valueOf [.ref 91, .int (nI w)] h Q = Q (some (.int (hld (LV (a_i h 92) op a n) (lo5 w) (hi5 w)))) s') ∧ pl h s' [] ∧ inM (LV (a_i h 92) op a n) := by
  have p0 : pl h (s_i h 91 3 0) [] := ⟨⟨rfl, rfl, rfl⟩, rfl, fun q j c1 c2 => ine (by omega), ieq rfl rfl, trivial⟩
  obtain ⟨s1, o4, o5, o6, o7, e1, p1, w1⟩ := vc_all (d := d) (lw := nI w) T hfn l64 hN hw n 0 (s_i h 91 3 0) [] none none none none (by omega) (by omega) p0 (by rw [t0]; trivial)
  rw [tn] at w1
  unfold LV
  generalize ev (a_i h 92) op a n n 0 [] = R at p1 w1 ⊢
  cases R with
  | nil => exact w1.elim
  | cons x R => cases R with
    | cons y R => exact w1.2.2.elim
    | nil =>
      obtain ⟨s2, e2, p2⟩ := c_pop (d := d) p1 T.1 (by show 0 < 64; omega)
      refine ⟨s2, fun Q => ?_, p2, w1.1⟩
      obtain ⟨hC, hq, hb, tq0, rq0, tr0⟩ := T
      obtain ⟨ol1, ol2, ol3⟩ := ol
      have u1 : a_t s1 1000001 = (40, 5) := by rw [p1.1.1]; exact ol1
      have u2 : a_t s1 1000002 = (40, 5) := by rw [p1.1.1]; exact ol2
      have u3 : a_i s1 1000001 w = lo5 w := by rw [p1.2.2.1 _ _ (by omega) (by omega)]; exact (ol3 w hw5).1
      have u4 : a_i s1 1000002 w = hi5 w := by rw [p1.2.2.1 _ _ (by omega) (by omega)]; exact (ol3 w hw5).2
      have mn : (if (300 : Int32) < nI (f + n) then (300 : Int32) else nI (f + n)) = nI (f + n) := if_neg (nI_nlt (a := 300) (b := f + n) (by omega) (by omega))
      have u5 : a_t s1 91 = (4, 4) := by rw [p1.1.1]; simp [hC.e]
      rw [show Cal (d + 1) mX4_valueOf [.ref 91, .int (nI w)] h Q = WP (d + 1) mX4_valueOf 36 [some (.ref 91), some (.int (nI w)), some (.int (nI (f + n))), some (.int (nI (f + 0))), none, none, none, none] [] (s_i h 91 3 0) Q from ?_, e1 Q]
      · rw [w_iload_n3 (M := mX4_valueOf) dX4_valueOf_36]
        simp [w_iload_n2 (M := mX4_valueOf) dX4_valueOf_37, w_ic_ge (M := mX4_valueOf) (tgt := 254) dX4_valueOf_38 (by decide), w_gets (M := mX4_valueOf) (v := .ref 1000001) dX4_valueOf_254 rfl, w_iload_n1 (M := mX4_valueOf) dX4_valueOf_257, w_iaload (M := mX4_valueOf) dX4_valueOf_258, w_gets (M := mX4_valueOf) (v := .ref 1000002) dX4_valueOf_259 rfl, w_iload_n1 (M := mX4_valueOf) dX4_valueOf_262, w_iaload (M := mX4_valueOf) dX4_valueOf_263, w_aload_n0 (M := mX4_valueOf) dX4_valueOf_264, c_4_98 (M := mX4_valueOf) dX4_valueOf_265 rfl, w_mn (M := mX4_valueOf) dX4_valueOf_268 lk_4_85, w_mx (M := mX4_valueOf) dX4_valueOf_271 lk_4_95, w_iret (M := mX4_valueOf) dX4_valueOf_274 rfl, Kn_v_, Kn_n_, kl_i_, kl_a_, kl_l_, kl_n_, s1_0_, s2_0_, s1_1, s1_2, s1_3, s1_4, s1_5, s1_6, s1_7, s1_8, s1_9, s1_10, s1_11, s1_12, s1_13, s1_14, s2_1, s2_2, s2_3, s2_4, s2_5, s2_6, s2_7, s2_8, s2_9, s2_10, s2_11, s2_12, s2_13, s2_14, List.map_nil, List.map_cons, List.sum_nil, List.sum_cons, ct_i_, ct_r_, ct_l_, t_si_, t_sl_, t_sr_, n_si_, n_sl_, n_sr_, i_si_, i_sl_, i_sr_, l_si_, l_sl_, l_sr_, r_si_, r_sl_, r_sr_, vr_s_, vr_n_, nz_0_, nz_1_, show (nI (f + n) < nI (f + n)) = False from nI_ltF (Nat.le_refl _) (by omega), u1, u2, u3, u4, u5, e2, in1_n (k := w) (n := 5) (by omega), hw5, nI_c (a := w) (by omega), hld]
      · unfold Cal
        rw [l_X4_valueOf]
        simp only [am_en, am_ag, ct_i, ct_r, ct_l, List.length_cons, List.length_nil, List.replicate]
        simp [w_aload_n0 (M := mX4_valueOf) dX4_valueOf_0, w_iconst (M := mX4_valueOf) (v := 0) dX4_valueOf_1 rfl, w_putI (M := mX4_valueOf) dX4_valueOf_2 f_4_76 rfl (Or.inl rfl), w_aload_n0 (M := mX4_valueOf) dX4_valueOf_5, w_getO (M := mX4_valueOf) dX4_valueOf_6 f_4_18 rfl (by decide) (by decide), w_getA (M := mX4_valueOf) dX4_valueOf_9 f_4_79 rfl (by decide) (by decide), w_iload_n1 (M := mX4_valueOf) dX4_valueOf_12, w_iaload (M := mX4_valueOf) dX4_valueOf_13, w_aload_n0 (M := mX4_valueOf) dX4_valueOf_14, w_getO (M := mX4_valueOf) dX4_valueOf_15 f_4_18 rfl (by decide) (by decide), w_getA (M := mX4_valueOf) dX4_valueOf_18 f_4_82 rfl (by decide) (by decide), w_alen (M := mX4_valueOf) dX4_valueOf_21, w_mn (M := mX4_valueOf) dX4_valueOf_22 lk_4_85, w_istore_n (M := mX4_valueOf) (i := 2) dX4_valueOf_25 rfl (by decide), w_aload_n0 (M := mX4_valueOf) dX4_valueOf_26, w_getO (M := mX4_valueOf) dX4_valueOf_27 f_4_18 rfl (by decide) (by decide), w_getA (M := mX4_valueOf) dX4_valueOf_30 f_4_22 rfl (by decide) (by decide), w_iload_n1 (M := mX4_valueOf) dX4_valueOf_33, w_iaload (M := mX4_valueOf) dX4_valueOf_34, w_istore_n (M := mX4_valueOf) (i := 3) dX4_valueOf_35 rfl (by decide), Kn_v_, Kn_n_, kl_i_, kl_a_, kl_l_, kl_n_, s1_0_, s2_0_, s1_1, s1_2, s1_3, s1_4, s1_5, s1_6, s1_7, s1_8, s1_9, s1_10, s1_11, s1_12, s1_13, s1_14, s2_1, s2_2, s2_3, s2_4, s2_5, s2_6, s2_7, s2_8, s2_9, s2_10, s2_11, s2_12, s2_13, s2_14, List.map_nil, List.map_cons, List.sum_nil, List.sum_cons, ct_i_, ct_r_, ct_l_, t_si_, t_sl_, t_sr_, n_si_, n_sl_, n_sr_, i_si_, i_sl_, i_sr_, l_si_, l_sl_, l_sr_, r_si_, r_sl_, r_sr_, vr_s_, vr_n_, nz_0_, nz_1_, hC.e, hq, tq0, rq0, tr0, tq6, tt6, tq5, tt5, ef, et, in1_n (k := w) (n := 5) (by omega), hw5, nI_c (a := w) (by omega), mn, show (q = 91) = False from eq_false (by omega), show (q + 5 = 91) = False from eq_false (by omega), show (q + 6 = 91) = False from eq_false (by omega)]
end LAWS8
