/-! all clauses played: both sides, each alone -/
section PLAYALL
variable {X : PX} {d t : Nat} {K : am_h} {v1 v2 v3 : Int32}
def callC (d m : Nat) (v1 v2 v3 r : Int32) (A A' : am_h) : Prop := (m = 5 ∧ ∀ Q, Cal (d + 8) mX11_speak [.ref 0, .int v1, .int v2] A Q = Q (some (.int r)) A') ∨ (m = 6 ∧ ∀ Q, Cal (d + 8) mX11_hush [.ref 0, .int v1] A Q = Q (some (.int r)) A') ∨ (m = 7 ∧ ∀ Q, Cal (d + 8) mX11_yes [.ref 0, .int v1] A Q = Q (some (.int r)) A') ∨ (m = 8 ∧ ∀ Q, Cal (d + 8) mX11_go [.ref 0, .int v1] A Q = Q (some (.int r)) A') ∨ (m = 9 ∧ ∀ Q, Cal (d + 8) mX11_delay [.ref 0, .int v1, .int v2, .int v3] A Q = Q (some (.int r)) A') ∨ (m = 10 ∧ ∀ Q, Cal (d + 8) mX11_rule [.ref 0, .int v1] A Q = Q (some (.int r)) A') ∨ (m < 5 ∧ A' = A)
def callR (d m : Nat) (v1 v2 v3 r : Int32) (B B' : am_h) : Prop := (m = 5 ∧ ∀ Q, Cal (d + 8) mX12_speak [.ref 126, .int v1, .int v2] B Q = Q (some (.int r)) B') ∨ (m = 6 ∧ ∀ Q, Cal (d + 8) mX12_hush [.ref 126, .int v1] B Q = Q (some (.int r)) B') ∨ (m = 7 ∧ ∀ Q, Cal (d + 8) mX12_yes [.ref 126, .int v1] B Q = Q (some (.int r)) B') ∨ (m = 8 ∧ ∀ Q, Cal (d + 8) mX12_go [.ref 126, .int v1] B Q = Q (some (.int r)) B') ∨ (m = 9 ∧ ∀ Q, Cal (d + 8) mX12_delay [.ref 126, .int v1, .int v2, .int v3] B Q = Q (some (.int r)) B') ∨ (m = 10 ∧ ∀ Q, Cal (d + 8) mX12_rule [.ref 126, .int v1] B Q = Q (some (.int r)) B') ∨ (m < 5 ∧ B' = B)
theorem nC0 : ¬ hC 0 := by unfold hC; omega
theorem nR126 : ¬ hR 126 := by unfold hR; omega
theorem clause_two (k : Inv X K) (ol : rOl K) (s : sepH K) {m : Nat} (hm : m ≤ 10) : ∃ (r : Int32) (K2 : am_h), Inv X K2 ∧ rOl K2 ∧ sepH K2 ∧ a_i K2 127 1 = a_i K 127 1
    ∧ (∀ A, smN hC K A → K.1 = A.1 → ∃ A', callC d m v1 v2 v3 r A A' ∧ smN hC K2 A' ∧ K2.1 = A'.1 ∧ hsN hC A A')
    ∧ ∀ B, smN hR K B → ∃ B', callR d m v1 v2 v3 r B B' ∧ smN hR K2 B' ∧ B'.1 = B.1 ∧ hsN hR B B' := by
  have c1 : ∀ {a : Int32}, sok hC [.ref 0, .int a] := sok_c (vk_r nC0) (sok_c vk_i sok_n)
  have c2 : ∀ {a b : Int32}, sok hC [.ref 0, .int a, .int b] := sok_c (vk_r nC0) (sok_c vk_i (sok_c vk_i sok_n))
  have c3 : ∀ {a b c : Int32}, sok hC [.ref 0, .int a, .int b, .int c] := sok_c (vk_r nC0) (sok_c vk_i (sok_c vk_i (sok_c vk_i sok_n)))
  have r1 : ∀ {a : Int32}, sok hR [.ref 126, .int a] := sok_c (vk_r nR126) (sok_c vk_i sok_n)
  have r2 : ∀ {a b : Int32}, sok hR [.ref 126, .int a, .int b] := sok_c (vk_r nR126) (sok_c vk_i (sok_c vk_i sok_n))
  have r3 : ∀ {a b c : Int32}, sok hR [.ref 126, .int a, .int b, .int c] := sok_c (vk_r nR126) (sok_c vk_i (sok_c vk_i (sok_c vk_i sok_n)))
  have cases7 : m = 5 ∨ m = 6 ∨ m = 7 ∨ m = 8 ∨ m = 9 ∨ m = 10 ∨ m < 5 := by omega
  rcases cases7 with rfl | rfl | rfl | rfl | rfl | rfl | m5
  · obtain ⟨r, K2, z1, z2, z3, z4, fA, fB⟩ := (ot_speak (d := d + 4) k (v0 := v1) (v1 := v2)).two ol s c2 r2
    refine ⟨r, K2, z1, z2, z3, z4, fun A a b => ?_, fun B a => ?_⟩
    · obtain ⟨A', x1, x2⟩ := fA A a b; exact ⟨A', Or.inl ⟨rfl, x1⟩, x2⟩
    · obtain ⟨B', x1, x2⟩ := fB B a; exact ⟨B', Or.inl ⟨rfl, x1⟩, x2⟩
  · obtain ⟨r, K2, z1, z2, z3, z4, fA, fB⟩ := (ot_hush (d := d + 4) k (v0 := v1)).two ol s c1 r1
    refine ⟨r, K2, z1, z2, z3, z4, fun A a b => ?_, fun B a => ?_⟩
    · obtain ⟨A', x1, x2⟩ := fA A a b; exact ⟨A', Or.inr (Or.inl ⟨rfl, x1⟩), x2⟩
    · obtain ⟨B', x1, x2⟩ := fB B a; exact ⟨B', Or.inr (Or.inl ⟨rfl, x1⟩), x2⟩
  · obtain ⟨r, K2, z1, z2, z3, z4, fA, fB⟩ := (ot_yes (d := d + 4) k (v0 := v1)).two ol s c1 r1
    refine ⟨r, K2, z1, z2, z3, z4, fun A a b => ?_, fun B a => ?_⟩
    · obtain ⟨A', x1, x2⟩ := fA A a b; exact ⟨A', Or.inr (Or.inr (Or.inl ⟨rfl, x1⟩)), x2⟩
    · obtain ⟨B', x1, x2⟩ := fB B a; exact ⟨B', Or.inr (Or.inr (Or.inl ⟨rfl, x1⟩)), x2⟩
  · obtain ⟨r, K2, z1, z2, z3, z4, fA, fB⟩ := (ot_go (d := d) k ol (v0 := v1)).two ol s c1 r1
    refine ⟨r, K2, z1, z2, z3, z4, fun A a b => ?_, fun B a => ?_⟩
    · obtain ⟨A', x1, x2⟩ := fA A a b; exact ⟨A', Or.inr (Or.inr (Or.inr (Or.inl ⟨rfl, x1⟩))), x2⟩
    · obtain ⟨B', x1, x2⟩ := fB B a; exact ⟨B', Or.inr (Or.inr (Or.inr (Or.inl ⟨rfl, x1⟩))), x2⟩
  · obtain ⟨r, K2, z1, z2, z3, z4, fA, fB⟩ := (ot_delay (d := d + 4) k (v0 := v1) (v1 := v2) (v2 := v3)).two ol s c3 r3
    refine ⟨r, K2, z1, z2, z3, z4, fun A a b => ?_, fun B a => ?_⟩
    · obtain ⟨A', x1, x2⟩ := fA A a b; exact ⟨A', Or.inr (Or.inr (Or.inr (Or.inr (Or.inl ⟨rfl, x1⟩)))), x2⟩
    · obtain ⟨B', x1, x2⟩ := fB B a; exact ⟨B', Or.inr (Or.inr (Or.inr (Or.inr (Or.inl ⟨rfl, x1⟩)))), x2⟩
  · obtain ⟨r, K2, z1, z2, z3, z4, fA, fB⟩ := (ot_rule (d := d + 4) k (v0 := v1)).two ol s c1 r1
    refine ⟨r, K2, z1, z2, z3, z4, fun A a b => ?_, fun B a => ?_⟩
    · obtain ⟨A', x1, x2⟩ := fA A a b; exact ⟨A', Or.inr (Or.inr (Or.inr (Or.inr (Or.inr (Or.inl ⟨rfl, x1⟩))))), x2⟩
    · obtain ⟨B', x1, x2⟩ := fB B a; exact ⟨B', Or.inr (Or.inr (Or.inr (Or.inr (Or.inr (Or.inl ⟨rfl, x1⟩))))), x2⟩
  · refine ⟨0, K, k, ol, s, rfl, fun A a b => ⟨A, Or.inr (Or.inr (Or.inr (Or.inr (Or.inr (Or.inr ⟨m5, rfl⟩))))), a, b, hsN.refl⟩, fun B a => ⟨B, Or.inr (Or.inr (Or.inr (Or.inr (Or.inr (Or.inr ⟨m5, rfl⟩))))), a, rfl, hsN.refl⟩⟩
set_option maxRecDepth 20000 in
theorem smN.sC {K A : am_h} (k : sh_C (a_t K) (a_r K)) (s : smN hC K A) : sh_C (a_t A) (a_r A) := by
  have ht : ∀ q, q < 126 → a_t A q = a_t K q := fun q z => (s q (by unfold hC; omega)).1
  have hr : ∀ q j, q < 126 → a_r A q j = a_r K q j := fun q j z => ((s q (by unfold hC; omega)).2 j).2.2
  unfold sh_C at k ⊢
  simp (disch := omega) only [ht, hr]
  exact k
set_option maxRecDepth 20000 in
theorem smN.sR {K B : am_h} (k : sh_R (a_t K) (a_r K)) (s : smN hR K B) : sh_R (a_t B) (a_r B) := by
  have ht : ∀ q, 126 ≤ q → q < 177 → a_t B q = a_t K q := fun q z z' => (s q (by unfold hR; omega)).1
  have hr : ∀ q j, 126 ≤ q → q < 177 → a_r B q j = a_r K q j := fun q j z z' => ((s q (by unfold hR; omega)).2 j).2.2
  unfold sh_R at k ⊢
  simp (disch := omega) only [ht, hr]
  exact k
set_option maxRecDepth 20000 in
set_option maxHeartbeats 2000000 in
theorem play_all (ht : t < 4) : ∀ k i, i + k = 24 → ∀ K A, Inv X K → rOl K → sepH K → t < Nn (a_i K 127 1) → smN hC K A → K.1 = A.1 → ∃ (r : Int32) (K' A' : am_h), Inv X K' ∧ rOl K' ∧ sepH K' ∧ smN hC K' A' ∧ K'.1 = A'.1 ∧ hsN hC A A' ∧ (∀ o4 o5 o6 Q, WP (d + 9) mX11_played 34 [some (.ref 0), some (.int (nI t)), some (.ref (94 + 8 * t)), some (.int (nI i)), o4, o5, o6] [] A Q = Q (some (.int r)) A') ∧ ∀ B, smN hR K B → ∃ B', smN hR K' B' ∧ B'.1 = B.1 ∧ hsN hR B B' ∧ ∀ o3 o4 Q, WP (d + 9) mX12_played 26 [some (.ref 126), some (.int (nI t)), some (.int (nI i)), o3, o4] [] B Q = Q (some (.int r)) B' := by
  have fin : ∀ i, i ≤ 24 → ∀ K A, Inv X K → rOl K → sepH K → t < Nn (a_i K 127 1) → ¬ i < Nn (a_i K 130 t) → smN hC K A → K.1 = A.1 → ∃ (r : Int32) (K' A' : am_h), Inv X K' ∧ rOl K' ∧ sepH K' ∧ smN hC K' A' ∧ K'.1 = A'.1 ∧ hsN hC A A' ∧ (∀ o4 o5 o6 Q, WP (d + 9) mX11_played 34 [some (.ref 0), some (.int (nI t)), some (.ref (94 + 8 * t)), some (.int (nI i)), o4, o5, o6] [] A Q = Q (some (.int r)) A') ∧ ∀ B, smN hR K B → ∃ B', smN hR K' B' ∧ B'.1 = B.1 ∧ hsN hR B B' ∧ ∀ o3 o4 Q, WP (d + 9) mX12_played 26 [some (.ref 126), some (.int (nI t)), some (.int (nI i)), o3, o4] [] B Q = Q (some (.int r)) B' := by
    intro i hi K A kv ol s tc ni sm e
    obtain ⟨t1, t2, -⟩ := kv.2.2.2.2.2 t tc
    obtain ⟨n, n1, n2, n3⟩ := btn t2 (by omega) (by omega)
    have n24 : n ≤ 24 := by unfold bt at t2; omega
    rw [n3] at ni
    have lf : (nI i < nI n) = False := nI_ltF (by omega) (by omega)
    refine ⟨-1, K, A, kv, ol, s, sm, e, hsN.refl, fun o4 o5 o6 Q => ?_, fun B sb => ⟨B, sb, rfl, hsN.refl, fun o3 o4 Q => ?_⟩⟩
    · have sC := sm.sC kv.1.1
      have sT := (shTx sC ht).1
      have hn : a_i A (94 + 8 * t) 4 = nI n := by rw [((sm _ (by unfold hC; omega)).2 _).1, t1, n1]
      rw [w_iload_n3 (M := mX11_played) dX11_played_34]
      simp [w_aload_n2 (M := mX11_played) dX11_played_35, w_getI (M := mX11_played) dX11_played_36 f_11_174 rfl (by decide) (by decide), w_ic_ge (M := mX11_played) (tgt := 230) dX11_played_39 (by decide), w_iconst (M := mX11_played) (v := (-1)) dX11_played_230 rfl, w_iret (M := mX11_played) dX11_played_231 rfl, Kn_v_, Kn_n_, kl_i_, kl_a_, kl_l_, kl_n_, s1_0_, s2_0_, s1_1, s1_2, s1_3, s1_4, s1_5, s1_6, s1_7, s1_8, s1_9, s1_10, s1_11, s1_12, s1_13, s1_14, s2_1, s2_2, s2_3, s2_4, s2_5, s2_6, s2_7, s2_8, s2_9, s2_10, s2_11, s2_12, s2_13, s2_14, List.map_nil, List.map_cons, List.sum_nil, List.sum_cons, ct_i_, ct_r_, ct_l_, t_si_, t_sl_, t_sr_, n_si_, n_sl_, n_sr_, i_si_, i_sl_, i_sr_, l_si_, l_sl_, l_sr_, r_si_, r_sl_, r_sr_, vr_s_, vr_n_, nz_0_, nz_1_, sT, hn, lf]
    · have sR := sb.sR kv.1.2.1
      have hn : a_i B 130 t = nI n := by rw [((sb _ (by unfold hR; omega)).2 _).1, n1]
      rw [w_iload_n2 (M := mX12_played) dX12_played_26]
      simp [w_aload_n0 (M := mX12_played) dX12_played_27, w_getA (M := mX12_played) dX12_played_28 f_12_27 rfl (by decide) (by decide), w_iload_n1 (M := mX12_played) dX12_played_31, w_iaload (M := mX12_played) dX12_played_32, w_ic_ge (M := mX12_played) (tgt := 250) dX12_played_33 (by decide), w_iconst (M := mX12_played) (v := (-1)) dX12_played_250 rfl, w_iret (M := mX12_played) dX12_played_251 rfl, Kn_v_, Kn_n_, kl_i_, kl_a_, kl_l_, kl_n_, s1_0_, s2_0_, s1_1, s1_2, s1_3, s1_4, s1_5, s1_6, s1_7, s1_8, s1_9, s1_10, s1_11, s1_12, s1_13, s1_14, s2_1, s2_2, s2_3, s2_4, s2_5, s2_6, s2_7, s2_8, s2_9, s2_10, s2_11, s2_12, s2_13, s2_14, List.map_nil, List.map_cons, List.sum_nil, List.sum_cons, ct_i_, ct_r_, ct_l_, t_si_, t_sl_, t_sr_, n_si_, n_sl_, n_sr_, i_si_, i_sl_, i_sr_, l_si_, l_sl_, l_sr_, r_si_, r_sl_, r_sr_, vr_s_, vr_n_, nz_0_, nz_1_, sR.e, hn, lf, ht, in1_n (k := t) (n := 4) (by omega), nI_c (a := t) (by omega)]
  intro k
  induction k with
  | zero =>
    intro i hi K A kv ol s tc sm e
    refine fin i (by omega) K A kv ol s tc ?_ sm e
    obtain ⟨t1, t2, -⟩ := kv.2.2.2.2.2 t tc
    obtain ⟨n, n1, n2, n3⟩ := btn t2 (by omega) (by omega)
    unfold bt at t2; omega
  | succ k ih =>
    intro i hi K A kv ol s tc sm e
    by_cases ci : i < Nn (a_i K 130 t)
    · obtain ⟨t1, t2, t3, -⟩ := kv.2.2.2.2.2 t tc
      obtain ⟨x1, x2, x3, x4, x5⟩ := t3 i ci
      obtain ⟨n, n1, n2, n3⟩ := btn t2 (by omega) (by omega)
      have n24 : n ≤ 24 := by unfold bt at t2; omega
      rw [n3] at ci
      obtain ⟨m, m1, m2, m3⟩ := btn x2 (by omega) (by omega)
      have hm : m ≤ 10 := by unfold bt at x2; omega
      obtain ⟨v1, e1⟩ : ∃ v1, v1 = a_i K (94 + 8 * t + 2) i := ⟨_, rfl⟩
      obtain ⟨v2, e2⟩ : ∃ v2, v2 = a_i K (94 + 8 * t + 3) i := ⟨_, rfl⟩
      obtain ⟨v3, e3⟩ : ∃ v3, v3 = a_i K (94 + 8 * t + 4) i := ⟨_, rfl⟩
      obtain ⟨r, K2, iv, ol2, s2, ct, fA, fB⟩ := clause_two (d := d) (v1 := v1) (v2 := v2) (v3 := v3) kv ol s hm
      have sa : ∀ q j, ¬ hC q → a_i A q j = a_i K q j := fun q j z => ((sm q z).2 j).1
      obtain ⟨A1, a1, a2, a3, a4⟩ := fA A sm e
      have sC := sm.sC kv.1.1
      have pa := fun o4 o5 o6 => cp_step (d := d) (o4 := o4) (o5 := o5) (o6 := o6) sC ht (n := n) (by rw [sa _ _ (by unfold hC; omega), t1, n1]) ci n24 hm (by rw [sa _ _ (by unfold hC; omega), x1, m1]) (v1 := v1) (v2 := v2) (v3 := v3) (by rw [sa _ _ (by unfold hC; omega), e1]) (by rw [sa _ _ (by unfold hC; omega), e2]) (by rw [sa _ _ (by unfold hC; omega), e3]) a1
      have pb : ∀ B, smN hR K B → ∃ B1, smN hR K2 B1 ∧ B1.1 = B.1 ∧ hsN hR B B1 ∧ ∀ o3 o4, ∃ o3' o4', ∀ Q, WP (d + 9) mX12_played 26 [some (.ref 126), some (.int (nI t)), some (.int (nI i)), o3, o4] [] B Q = if gP m r = true then WP (d + 9) mX12_played 26 [some (.ref 126), some (.int (nI t)), some (.int (nI (i + 1))), o3', o4'] [] B1 Q else Q (some (.int (nI i))) B1 := by
        intro B sb
        obtain ⟨B1, b1, b2, b3, b4⟩ := fB B sb
        have sR := sb.sR kv.1.2.1
        have sbb : ∀ q j, ¬ hR q → a_i B q j = a_i K q j := fun q j z => ((sb q z).2 j).1
        have i5 : 5 ≤ m → 5 ≤ (a_i K 131 (24 * t + i)).toInt := fun z => by omega
        refine ⟨B1, b2, b3, b4, fun o3 o4 => rp_step (d := d) sR ht (n := n) (by rw [sbb _ _ (by unfold hR; omega), n1]) ci n24 hm (by rw [sbb _ _ (by unfold hR; omega), m1]) (v1 := v1) (v2 := v2) (v3 := v3) (fun z => ?_) (fun z => ?_) (fun z => ?_) b1⟩
        · rw [sbb _ _ (by unfold hR; omega), e1, x3 (i5 z)]
        · rw [sbb _ _ (by unfold hR; omega), e2, x4 (z.elim (fun z => Or.inl (by rw [m1, z]; rfl)) (fun z => Or.inr (by rw [m1, z]; rfl)))]
        · rw [sbb _ _ (by unfold hR; omega), e3, x5 (by rw [m1, z]; rfl)]
      by_cases cg : gP m r = true
      · obtain ⟨r', K', A', y1, y2, y3, y4, y5, y6, y7, y8⟩ := ih (i + 1) (by omega) K2 A1 iv ol2 s2 (by rw [ct]; exact tc) a2 a3
        refine ⟨r', K', A', y1, y2, y3, y4, y5, a4.tr y6, fun o4 o5 o6 Q => ?_, fun B sb => ?_⟩
        · obtain ⟨o4', o5', o6', z⟩ := pa o4 o5 o6
          rw [z Q, if_pos cg]
          exact y7 _ _ _ Q
        · obtain ⟨B1, b1, b2, b3, b4⟩ := pb B sb
          obtain ⟨B', w1, w2, w3, w4⟩ := y8 B1 b1
          refine ⟨B', w1, w2.trans b2, b3.tr w3, fun o3 o4 Q => ?_⟩
          obtain ⟨o3', o4', z⟩ := b4 o3 o4
          rw [z Q, if_pos cg]
          exact w4 _ _ Q
      · refine ⟨nI i, K2, A1, iv, ol2, s2, a2, a3, a4, fun o4 o5 o6 Q => ?_, fun B sb => ?_⟩
        · obtain ⟨o4', o5', o6', z⟩ := pa o4 o5 o6
          rw [z Q, if_neg cg]
        · obtain ⟨B1, b1, b2, b3, b4⟩ := pb B sb
          refine ⟨B1, b1, b2, b3, fun o3 o4 Q => ?_⟩
          obtain ⟨o3', o4', z⟩ := b4 o3 o4
          rw [z Q, if_neg cg]
    · exact fin i (by omega) K A kv ol s tc ci sm e
end PLAYALL
