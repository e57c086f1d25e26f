/-! end, agree, heard -/
section OPS8
variable {X : PX} {d : Nat} {h h' : am_h}
theorem Inv_tp (k : Inv X h) (s : sm h h') (hI : ∀ q j, ¬ (86 ≤ q ∧ q ≤ 90) → ¬ q = 126 → ¬ q = 129 → a_i h' q j = a_i h q j) (hJ : a_l h' = a_l h) (tp : rTp (a_i h')) : Inv X h' := by
  have sh : ShI X h := k.1
  have sD := sh.2.2.1
  have sh' : ShI X h' := ShI_sm sh s (fun q0 e k' j hk => by
    have s4 := sh.2.2.2.1
    unfold rPr at s4
    rcases s4 with z | ⟨q, q1, q2, q3, q4, q5⟩
    · rw [z] at e; exact absurd e (by simp)
    · rw [q1] at e
      injection e with e
      subst e
      exact hI _ _ (by omega) (by omega) (by omega))
  have hC : ∀ o, (o = 0 ∨ o = 33) → ∀ g, rC (a_i h) (a_l h) (a_r h) o g → rC (a_i h') (a_l h') (a_r h') o g := by
    intro o ho g kk
    rw [hJ, s.2.1]
    refine rC_g (fun k j _ _ => hI _ _ (by omega) (by omega) (by omega)) (fun k _ _ => rfl) (fun i q hi hq => ?_) (fun i q hi hn' hq => by rw [hn'] at hq; exact absurd hq (by simp)) (fun _ _ => rfl) kk
    have y := (sD.2.1 o i q ho hi hq).1
    exact ⟨hq, fun k j _ => hI _ _ (by omega) (by omega) (by omega), fun e _ => rfl⟩
  have e127 : a_i h' 127 = a_i h 127 := funext fun j => hI _ _ (by omega) (by omega) (by omega)
  have e128 : a_i h' 128 = a_i h 128 := funext fun j => hI _ _ (by omega) (by omega) (by omega)
  refine ⟨sh', ?_, ?_, tp, ?_, fun t ht => ?_⟩
  · rw [e127]; exact hC 0 (Or.inl rfl) _ k.2.1
  · rw [e128]; exact hC 33 (Or.inr rfl) _ k.2.2.1
  · rw [e127, e128]; exact k.2.2.2.2.1
  · rw [e127] at ht
    have b1 := bt_n (m := 4) k.2.1.1.2.2.2.2.2.1 (by omega) (by omega)
    exact rTx_fr (fun k j hk => hI _ _ (by omega) (by omega) (by omega)) (fun k j h1 h2 => hI _ _ (by omega) (by omega) (by omega)) (k.2.2.2.2.2 t ht)
theorem op_end (k : Inv X h) {v0 : Int32} : opS X (d + 1) mX11_end mX12_end [.ref 0, .int v0] [.ref 126, .int v0] h := by
  have hC := k.1.1
  have hR := k.1.2.1
  have tp := k.2.2.2.1
  have e1 : a_i h 86 1 = a_i h 126 3 := tp.1
  by_cases c : inn v0 0 (a_i h 126 3) = true
  · refine ⟨v0, s_i h 86 1 v0, s_i (s_i h 86 1 v0) 126 3 v0, fun Q => ?_, fun Q => ?_, ?_⟩
    · rw [q_X11_end (eq_true hC), e1, if_pos c]
    · rw [q_X12_end (h := s_i h 86 1 v0) (eq_true hR), ine (by omega), if_pos c]
    · have b := inn_bt c
      have b2 := tp.2.1
      have z0 : (0 : Int32).toInt = 0 := rfl
      rw [z0] at b
      have bb : bt 0 v0 300 := by unfold bt at *; omega
      have n1 := bt_i bb (by omega)
      have n2 := bt_i b2 (by omega)
      refine Inv_tp k ⟨rfl, rfl, rfl⟩ (fun q j z1 z2 z3 => by rw [ine (by omega), ine (by omega)]) rfl ?_
      unfold rTp
      simp (disch := omega) only [ine, ieq]
      refine ⟨trivial, bb, tp.2.2.1, tp.2.2.2.1, fun j hj => ?_⟩
      refine tp.2.2.2.2 j ?_
      unfold bt at b
      omega
  · refine opS_ref (r := 0) k (by omega) (ans := -1) (fun Q => ?_) (fun Q => ?_)
    · rw [q_X11_end (eq_true hC), e1, if_neg c]
    · rw [q_X12_end (h := s_i h 26 0 (a_i h 26 0 + 1)) (eq_true hR), ine (by omega), if_neg c]
      rfl
theorem nI_e0' {a : Nat} (h : a < 2 ^ 31) : (nI a = 0) = (a = 0) := by
  apply propext
  constructor
  · intro e
    have := congrArg Int32.toInt e
    rw [nI_toInt h] at this
    have z : (0 : Int32).toInt = 0 := rfl
    omega
  · intro e
    rw [e]; rfl
theorem ag_b {c m : Nat} (hc : c ≤ 8) (hm : m < 2 ^ 31) : (nI m >>> (nI c &&& 31) = 0) = (m < 2 ^ c) ∧ ((1 : Int32) <<< (nI c &&& 31)) - 1 = nI (2 ^ c - 1) := by
  have key : ∀ (s : Int32) (k : Nat), (s.toBitVec.smod 32).toNat = k → k ≤ 8 → (nI m >>> s = 0) = (m < 2 ^ k) := by
    intro s k hs hk
    rw [pk_shrN hm s k hs, nI_e0' (Nat.lt_of_le_of_lt (Nat.div_le_self m (2 ^ k)) hm)]
    apply propext
    rw [Nat.div_eq_zero_iff_lt (Nat.two_pow_pos k)]
  have : c = 0 ∨ c = 1 ∨ c = 2 ∨ c = 3 ∨ c = 4 ∨ c = 5 ∨ c = 6 ∨ c = 7 ∨ c = 8 := by omega
  rcases this with rfl | rfl | rfl | rfl | rfl | rfl | rfl | rfl | rfl <;> exact ⟨key _ _ (by decide) (by omega), by decide⟩
theorem inn_p {v : Int32} {hi : Nat} (hh : hi < 2000000000) : inn v 0 (nI hi) = (decide (0 ≤ v.toInt) && decide (v.toInt ≤ hi)) := by
  unfold inn
  rw [Bool.eq_iff_iff]
  simp only [Bool.and_eq_true, decide_eq_true_eq, Int32.le_iff_toInt_le]
  rw [nI_i hh]
  exact Iff.rfl
/-- whether what is needed is told: both tests -/
theorem ag_t {c : Nat} (hc : c ≤ 8) {v : Int32} : inn v 0 ((1 : Int32) <<< (nI c &&& 31) - 1) = true ↔ ¬ v < 0 ∧ v >>> (nI c &&& 31) = 0 := by
  have z0 : (0 : Int32).toInt = 0 := rfl
  rw [(ag_b (m := 0) hc (by omega)).2]
  have p8 : 2 ^ c ≤ 2 ^ 8 := Nat.pow_le_pow_right (by omega) hc
  have p1 := Nat.two_pow_pos c
  rw [inn_p (by omega), i_lt, z0]
  by_cases s : 0 ≤ v.toInt
  · have hl := Int32.toInt_lt v
    have ev : v = nI v.toInt.toNat := by
      apply Int32.toInt_inj.mp
      rw [nI_toInt (by omega)]
      omega
    have hb := (ag_b (c := c) (m := v.toInt.toNat) hc (by omega)).1
    rw [← ev] at hb
    rw [hb]
    simp only [Bool.and_eq_true, decide_eq_true_eq]
    omega
  · simp only [Bool.and_eq_true, decide_eq_true_eq]
    constructor
    · intro q; exact absurd q.1 s
    · intro q; exact absurd q.1 (by omega)
theorem Inv.A (k : Inv X h) : ∃ n : Nat, a_i h 127 4 = nI n ∧ n ≤ 8 ∧ Nn (a_i h 127 4) = n := by
  have b := k.2.1.1.2.2.2.2.2.2.2.2.1
  obtain ⟨n, e1, e2, e3⟩ := btn b (by omega) (by omega)
  refine ⟨n, e1, ?_, e3⟩
  unfold bt at b
  omega
theorem Inv.H (k : Inv X h) : ∃ n : Nat, a_i h 127 5 = nI n ∧ n ≤ 8 ∧ Nn (a_i h 127 5) = n := by
  have b := k.2.1.1.2.2.2.2.2.2.2.2.2.1
  obtain ⟨n, e1, e2, e3⟩ := btn b (by omega) (by omega)
  refine ⟨n, e1, ?_, e3⟩
  unfold bt at b
  omega
set_option maxRecDepth 20000 in
set_option maxHeartbeats 1000000 in
theorem op_agree (k : Inv X h) {v0 v1 v2 : Int32} : opS X (d + 1) mX11_agree mX12_agree [.ref 0, .int v0, .int v1, .int v2] [.ref 126, .int v0, .int v1, .int v2] h := by
  have hC := k.1.1
  have hR := k.1.2.1
  obtain ⟨n, e1, e2, e3⟩ := k.A
  have e27 : a_i h 27 3 = nI n := by rw [k.2.1.1.2.2.1.1]; exact e1
  obtain ⟨r1, r2, r3, r4, r5⟩ := k.2.1.1
  have b0 := bt_n (m := 4) r5.1 (by omega) (by omega)
  have b5 := bt_n (m := 8) r5.2.2.2.2.2.1 (by omega) (by omega)
  by_cases c : v0 = -1
  · refine ⟨0, s_i h 27 3 0, s_i (s_i h 27 3 0) 127 4 0, fun Q => ?_, fun Q => ?_, ?_⟩
    · rw [q_X11_agree (eq_true hC), if_pos c]
    · rw [q_X12_agree (h := s_i h 27 3 0) (eq_true hR), if_pos c]
    · refine Inv_lo k rfl rfl rfl rfl ?_ ?_ ?_ ?_ ⟨?_, ?_, ?_, ?_, ?_⟩
      · intro q j z1 z2 z3 z4
        simp (disch := omega) only [ine]
      · simp (disch := omega) only [ine, Nat.le_refl]
      · simp (disch := omega) only [ine]
      · simp (disch := omega) only [ine]
      · exact rTo_fr (fun k j hk => by simp (disch := omega) only [ine]) (by simp (disch := omega) only [ine]) (fun k h1 h2 => by simp (disch := omega) only [ine]) r1
      · unfold rMs at r2 ⊢
        simp (disch := omega) only [ine]
        exact r2
      · unfold rAg
        simp (disch := omega) only [ine, ieq]
        exact ⟨trivial, fun j hj => absurd hj (by have : Nn 0 = 0 := rfl; omega)⟩
      · exact rHd_fr (fun k j hk => by simp (disch := omega) only [ine]) (by simp (disch := omega) only [ine]) (fun k h1 h2 => by simp (disch := omega) only [ine]) r4
      · unfold wG at r5 ⊢
        obtain ⟨k1, k2, k3, k4, k5, k6, k7, k8, k9, k10, k11, k12⟩ := r5
        simp (disch := omega) only [ine, ieq]
        refine ⟨k1, k2, k3, k4, ⟨by decide, by decide⟩, k6, k7, k8, k9, fun e he => ?_, fun j hj => absurd hj (by have : Nn 0 = 0 := rfl; omega), fun e he => ?_⟩
        · exact k10 e he
        · exact k12 e he
  · by_cases c1 : inn v0 1 99 = true ∧ inn v1 0 99 = true ∧ inn v2 0 ((1 : Int32) <<< (nI n &&& 31) - 1) = true
    · obtain ⟨c1, c2, c3⟩ := c1
      have c4 := (ag_t e2).mp c3
      by_cases c5 : n = 8
      · have f1 : (nI n < 8) = False := nI_ltF (b := 8) (by omega) (by omega)
        have f2 : nI n = 8 := by rw [c5]; rfl
        refine opS_ref (r := 1) k (by omega) (ans := -2) (fun Q => ?_) (fun Q => ?_)
        · rw [q_X11_agree (eq_true hC)]
          simp only [e27, if_neg c, c1, c2, if_true, if_neg c4.1, c4.2, f1, if_false]
        · have ea : ∀ j, a_i (s_i h 26 1 (a_i h 26 1 + 1)) 127 j = a_i h 127 j := fun j => ine (by omega)
          rw [q_X12_agree (h := s_i h 26 1 (a_i h 26 1 + 1)) (eq_true hR)]
          simp only [ea, e1, if_neg c, c1, c2, c3, if_true, if_pos f2]
      · have f1 : (nI n < 8) = True := nI_ltT (b := 8) (by omega) (by omega)
        have f2 : ¬ nI n = 8 := by rw [show (8 : Int32) = nI 8 from rfl, nI_inj (by omega) (by omega)]; exact c5
        have en : Nn (nI (n + 1)) = n + 1 := Nn_n (by omega)
        refine ⟨nI (n + 1), s_i (s_i (s_i (s_i h 28 n v0) 29 n v1) 30 n v2) 27 3 (nI (n + 1)), s_i (s_i (s_i (s_i (s_i (s_i (s_i (s_i h 28 n v0) 29 n v1) 30 n v2) 27 3 (nI (n + 1))) 127 (30 + 3 * n) v0) 127 (30 + 3 * n + 1) v1) 127 (30 + 3 * n + 2) v2) 127 4 (nI (n + 1)), fun Q => ?_, fun Q => ?_, ?_⟩
        · rw [q_X11_agree (eq_true hC)]
          simp only [e27, if_neg c, c1, c2, if_true, if_neg c4.1, c4.2, f1, nI_c (show n < 2000000000 by omega), nI_p (show n < 2000000000 by omega), true_and, nI_s]
          simp [show n < 8 by omega]
        · have i0 : (30 + 3 * nI n).toNatClampNeg = 30 + 3 * n := ixG0 (by omega)
          have j0 : (0 ≤ 30 + 3 * nI n) = True := ipG0 (by omega)
          have i1 : (30 + 3 * nI n + 1).toNatClampNeg = 30 + 3 * n + 1 := ixG1 (by omega)
          have j1 : (0 ≤ 30 + 3 * nI n + 1) = True := ipG1 (by omega)
          have i2 : (30 + 3 * nI n + 2).toNatClampNeg = 30 + 3 * n + 2 := ixG2 (by omega)
          have j2 : (0 ≤ 30 + 3 * nI n + 2) = True := ipG2 (by omega)
          rw [q_X12_agree (h := s_i (s_i (s_i (s_i h 28 n v0) 29 n v1) 30 n v2) 27 3 (nI (n + 1))) (eq_true hR)]
          have ea : a_i (s_i (s_i (s_i (s_i h 28 n v0) 29 n v1) 30 n v2) 27 3 (nI (n + 1))) 127 4 = nI n := by
            simp (disch := omega) only [ine]
            exact e1
          simp only [ea, if_neg c, c1, c2, c3, if_true, if_neg f2, i0, i1, i2, j0, j1, j2, show (30 + 3 * n < 20150) = True from eq_true (by omega), show (30 + 3 * n + 1 < 20150) = True from eq_true (by omega), show (30 + 3 * n + 2 < 20150) = True from eq_true (by omega), true_and, and_self, show ¬ 4 = 30 + 3 * n by omega, show ¬ 4 = 30 + 3 * n + 1 by omega, show ¬ 4 = 30 + 3 * n + 2 by omega, if_false, nI_s]
        · refine Inv_lo k rfl rfl rfl rfl ?_ ?_ ?_ ?_ ⟨?_, ?_, ?_, ?_, ?_⟩
          · intro q j z1 z2 z3 z4
            simp (disch := omega) only [ine]
          · simp (disch := omega) only [ine, Nat.le_refl]
          · simp (disch := omega) only [ine]
          · simp (disch := omega) only [ine]
          · exact rTo_fr (fun k j hk => by simp (disch := omega) only [ine]) (by simp (disch := omega) only [ine]) (fun k h1 h2 => by simp (disch := omega) only [ine]) r1
          · unfold rMs at r2 ⊢
            simp (disch := omega) only [ine]
            exact r2
          · unfold rAg
            simp (disch := omega) only [ine, ieq]
            refine ⟨trivial, fun j hj => ?_⟩
            rw [en] at hj
            by_cases q : j = n
            · simp (disch := omega) only [ine, ieq, q, and_self]
            · simp (disch := omega) only [ine]
              exact r3.2 j (by omega)
          · exact rHd_fr (fun k j hk => by simp (disch := omega) only [ine]) (by simp (disch := omega) only [ine]) (fun k h1 h2 => by simp (disch := omega) only [ine]) r4
          · unfold wG at r5 ⊢
            obtain ⟨k1, k2, k3, k4, k5, k6, k7, k8, k9, k10, k11, k12⟩ := r5
            have v2b : bt 0 v2 255 := by
              have p8 : 2 ^ n ≤ 2 ^ 8 := Nat.pow_le_pow_right (by omega) e2
              rw [(ag_b (m := 0) e2 (by omega)).2] at c3
              have := inn_bt c3
              rw [nI_i (by omega)] at this
              have z0 : (0 : Int32).toInt = 0 := rfl
              unfold bt at this ⊢
              omega
            refine ⟨?_, ?_, ?_, ?_, ?_, ?_, ?_, ?_, ?_, fun e he => ?_, fun j hj => ?_, fun e he => ?_⟩
            · simp (disch := omega) only [ine]; exact k1
            · simp (disch := omega) only [ine]; exact k2
            · simp (disch := omega) only [ine]; exact k3
            · simp (disch := omega) only [ine]; exact k4
            · rw [ieq rfl rfl]
              unfold bt
              rw [nI_i (by omega)]
              omega
            · simp (disch := omega) only [ine]; exact k6
            · simp (disch := omega) only [ine]; exact k7
            · simp (disch := omega) only [ine]; exact k8
            · simp (disch := omega) only [ine]; exact k9
            · simp (disch := omega) only [ine] at he
              simp (disch := omega) only [ine]
              exact k10 e he
            · rw [ieq rfl rfl, en] at hj
              by_cases q : j = n
              · simp (disch := omega) only [ine, ieq, q]
                exact ⟨inn_bt c1, inn_bt c2, v2b⟩
              · simp (disch := omega) only [ine]
                exact k11 j (by omega)
            · simp (disch := omega) only [ine] at he
              simp (disch := omega) only [ine]
              exact k12 e he
    · refine opS_ref (r := 0) k (by omega) (ans := -2) (fun Q => ?_) (fun Q => ?_)
      · rw [q_X11_agree (eq_true hC)]
        rw [e27, if_neg c]
        by_cases d1 : inn v0 1 99 = true
        · by_cases d2 : inn v1 0 99 = true
          · have d3 : ¬ (¬ v2 < 0 ∧ v2 >>> (nI n &&& 31) = 0) := fun q => c1 ⟨d1, d2, (ag_t e2).mpr q⟩
            by_cases d4 : v2 < 0
            · simp [d1, d2, d4]
            · have d5 : ¬ v2 >>> (nI n &&& 31) = 0 := fun q => d3 ⟨d4, q⟩
              simp [d1, d2, d4, d5]
          · simp [d1, d2]
        · simp [d1]
      · have ea : ∀ j, a_i (s_i h 26 0 (a_i h 26 0 + 1)) 127 j = a_i h 127 j := fun j => ine (by omega)
        rw [q_X12_agree (h := s_i h 26 0 (a_i h 26 0 + 1)) (eq_true hR)]
        simp only [ea, e1, if_neg c]
        by_cases d1 : inn v0 1 99 = true
        · by_cases d2 : inn v1 0 99 = true
          · have d3 : ¬ inn v2 0 ((1 : Int32) <<< (nI n &&& 31) - 1) = true := fun q => c1 ⟨d1, d2, q⟩
            simp [d1, d2, d3]
          · simp [d1, d2]
        · simp [d1]
end OPS8
