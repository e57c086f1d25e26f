/-! two fresh ends are made -/
section PAIRINIT
variable {X : PX} {d : Nat} {h h' y y' : am_h} {q : Nat}
theorem z_sl_ (h : am_h) (p k : Nat) (v : Int64) : a_z (s_l h p k v) = a_z h := Eq.trans rfl rfl
theorem mkB {s s' : am_h} {m p k : Nat} (e : s' = s_r (s_mn s 2 1001) p k (some m)) (hn : a_n s = m) (hp : p < m) : a_n s' = m + 3 ∧ a_z s' = a_z s + 2004 ∧ a_t s' m = (26, 2) ∧ a_t s' (m + 1) = (20, 1001) ∧ a_t s' (m + 2) = (20, 1001) ∧ a_r s' m 0 = some (m + 1) ∧ a_r s' m 1 = some (m + 2) ∧ a_r s' p k = some m
    ∧ (∀ q, ¬ (m ≤ q ∧ q < m + 3) → a_t s' q = a_t s q) ∧ (∀ q j, ¬ (m ≤ q ∧ q < m + 3) → a_i s' q j = a_i s q j ∧ a_l s' q j = a_l s q j) ∧ ∀ q j, ¬ (m ≤ q ∧ q < m + 3) → ¬ (q = p ∧ j = k) → a_r s' q j = a_r s q j := by
  subst e
  subst hn
  refine ⟨rfl, rfl, ?_, ?_, ?_, ?_, ?_, req rfl rfl, fun q c => ?_, fun q j c => ⟨?_, ?_⟩, fun q j c1 c2 => ?_⟩
  · exact if_pos rfl
  · show (if a_n s + 1 = a_n s then (26, 2) else if a_n s < a_n s + 1 ∧ a_n s + 1 < a_n s + (1 + 2) then (20, 1001) else a_t s (a_n s + 1)) = _
    rw [if_neg (by omega), if_pos (by omega)]
  · show (if a_n s + 2 = a_n s then (26, 2) else if a_n s < a_n s + 2 ∧ a_n s + 2 < a_n s + (1 + 2) then (20, 1001) else a_t s (a_n s + 2)) = _
    rw [if_neg (by omega), if_pos (by omega)]
  · rw [rne (by omega)]
    show (if a_n s = a_n s then (if 0 < 2 then some (a_n s + 1 + 0) else none) else _) = _
    rw [if_pos rfl, if_pos (by omega)]
  · rw [rne (by omega)]
    show (if a_n s = a_n s then (if 1 < 2 then some (a_n s + 1 + 1) else none) else _) = _
    rw [if_pos rfl, if_pos (by omega)]
  · show (if q = a_n s then (26, 2) else if a_n s < q ∧ q < a_n s + (1 + 2) then (20, 1001) else a_t s q) = _
    rw [if_neg (by omega), if_neg (by omega)]
  · show (if a_n s ≤ q ∧ q < a_n s + (1 + 2) then 0 else a_i s q j) = _
    rw [if_neg (by omega)]
  · show (if a_n s ≤ q ∧ q < a_n s + (1 + 2) then 0 else a_l s q j) = _
    rw [if_neg (by omega)]
  · rw [rne c2]
    show (if q = a_n s then (if j < 2 then some (a_n s + 1 + j) else none) else if a_n s < q ∧ q < a_n s + (1 + 2) then none else a_r s q j) = _
    rw [if_neg (by omega), if_neg (by omega)]
set_option maxRecDepth 20000 in
set_option maxHeartbeats 4000000 in
theorem q_X6_init (hp : a_t h q = (6, 13)) (hn : a_n h = q + 1) (hm : q < 800000) : ∃ h', (∀ Q, Cal d mX6_init [.ref q] h Q = Q none h') ∧ a_n h' = q + 16 ∧ a_z h' = a_z h + 6647 ∧ shP (a_t h') (a_r h') q ∧ a_i h' q 12 = -1
    ∧ ∀ p, ¬ (q ≤ p ∧ p < q + 16) → a_t h' p = a_t h p ∧ ∀ j, a_i h' p j = a_i h p j ∧ a_l h' p j = a_l h p j ∧ a_r h' p j = a_r h p j := by
  obtain ⟨A, eA⟩ : ∃ A, A = s_r (s_nw h 20 2) q 0 (some (q + 1)) := ⟨_, rfl⟩
  obtain ⟨a1, a2, a3, a4, a5, a6, a7⟩ := mkA eA hn (by omega)
  obtain ⟨B, eB⟩ : ∃ B, B = s_r (s_nw A 20 2) q 1 (some (q + 2)) := ⟨_, rfl⟩
  obtain ⟨b1, b2, b3, b4, b5, b6, b7⟩ := mkA eB a1 (by omega)
  obtain ⟨C, eC⟩ : ∃ C, C = s_r (s_mn B 2 1001) q 4 (some (q + 3)) := ⟨_, rfl⟩
  obtain ⟨c1, c2, c3, c3a, c3b, c3c, c3d, c4, c5, c6, c7⟩ := mkB eC b1 (by omega)
  obtain ⟨D, eD⟩ : ∃ D, D = s_r (s_mn C 2 1001) q 5 (some (q + 6)) := ⟨_, rfl⟩
  obtain ⟨d1, d2, d3, d3a, d3b, d3c, d3d, d4, d5, d6, d7⟩ := mkB eD c1 (by omega)
  obtain ⟨E, eE⟩ : ∃ E, E = s_r (s_mn D 2 1001) q 6 (some (q + 9)) := ⟨_, rfl⟩
  obtain ⟨e1, e2, e3, e3a, e3b, e3c, e3d, e4, e5, e6, e7⟩ := mkB eE d1 (by omega)
  obtain ⟨F, eF⟩ : ∃ F, F = s_r (s_nw E 20 2) q 7 (some (q + 12)) := ⟨_, rfl⟩
  obtain ⟨f1, f2, f3, f4, f5, f6, f7⟩ := mkA eF e1 (by omega)
  obtain ⟨G, eG⟩ : ∃ G, G = s_r (s_nw F 20 2) q 8 (some (q + 13)) := ⟨_, rfl⟩
  obtain ⟨g1, g2, g3, g4, g5, g6, g7⟩ := mkA eG f1 (by omega)
  obtain ⟨H, eH⟩ : ∃ H, H = s_r (s_nw G 20 2) q 9 (some (q + 14)) := ⟨_, rfl⟩
  obtain ⟨h1, h2, h3, h4, h5, h6, h7⟩ := mkA eH g1 (by omega)
  obtain ⟨K, eK⟩ : ∃ K, K = s_r (s_nw H 20 625) q 11 (some (q + 15)) := ⟨_, rfl⟩
  obtain ⟨k1, k2, k3, k4, k5, k6, k7⟩ := mkA eK h1 (by omega)
  have tA : a_t (s_nw h 20 2) q = (6, 13) := by rw [nwt0 (by omega)]; exact hp
  have tA' : a_t A q = (6, 13) := by rw [a5 q (by omega)]; exact hp
  have tB : a_t (s_nw A 20 2) q = (6, 13) := by rw [nwt0 (by omega)]; exact tA'
  have tB' : a_t B q = (6, 13) := by rw [b5 q (by omega)]; exact tA'
  have mn : ∀ s : am_h, q < a_n s → a_t (s_mn s 2 1001) q = a_t s q := fun s c => by
    show (if q = a_n s then (26, 2) else if a_n s < q ∧ q < a_n s + (1 + 2) then (20, 1001) else a_t s q) = _
    rw [if_neg (by omega), if_neg (by omega)]
  have tC : a_t (s_mn B 2 1001) q = (6, 13) := by rw [mn _ (by omega)]; exact tB'
  have tC' : a_t C q = (6, 13) := by rw [c5 q (by omega)]; exact tB'
  have tD : a_t (s_mn C 2 1001) q = (6, 13) := by rw [mn _ (by omega)]; exact tC'
  have tD' : a_t D q = (6, 13) := by rw [d5 q (by omega)]; exact tC'
  have tE : a_t (s_mn D 2 1001) q = (6, 13) := by rw [mn _ (by omega)]; exact tD'
  have tE' : a_t E q = (6, 13) := by rw [e5 q (by omega)]; exact tD'
  have tF : a_t (s_nw E 20 2) q = (6, 13) := by rw [nwt0 (by omega)]; exact tE'
  have tF' : a_t F q = (6, 13) := by rw [f5 q (by omega)]; exact tE'
  have tG : a_t (s_nw F 20 2) q = (6, 13) := by rw [nwt0 (by omega)]; exact tF'
  have tG' : a_t G q = (6, 13) := by rw [g5 q (by omega)]; exact tF'
  have tH : a_t (s_nw G 20 2) q = (6, 13) := by rw [nwt0 (by omega)]; exact tG'
  have tH' : a_t H q = (6, 13) := by rw [h5 q (by omega)]; exact tG'
  have tK : a_t (s_nw H 20 625) q = (6, 13) := by rw [nwt0 (by omega)]; exact tH'
  have tK' : a_t K q = (6, 13) := by rw [k5 q (by omega)]; exact tH'
  refine ⟨s_i K q 12 (-1), fun Q => ?_, k1, ?_, ?_, ieq rfl rfl, fun p c => ⟨?_, fun j => ⟨?_, ?_, ?_⟩⟩⟩
  · unfold Cal
    rw [l_X6_init]
    simp only [am_en, am_ag, ct_i, ct_r, ct_l, List.length_cons, List.length_nil, List.replicate]
    simp [w_aload_n0 (M := mX6_init) dX6_init_0, w_oi (M := mX6_init) dX6_init_1 lk_6_3, w_aload_n0 (M := mX6_init) dX6_init_4, w_iconst (M := mX6_init) (v := 2) dX6_init_5 rfl, w_newa (M := mX6_init) (t := 20) dX6_init_6 rfl, w_putA (M := mX6_init) dX6_init_8 f_6_9 rfl (Or.inr ⟨rfl, rfl⟩), w_aload_n0 (M := mX6_init) dX6_init_11, w_iconst (M := mX6_init) (v := 2) dX6_init_12 rfl, w_newa (M := mX6_init) (t := 20) dX6_init_13 rfl, w_putA (M := mX6_init) dX6_init_15 f_6_15 rfl (Or.inr ⟨rfl, rfl⟩), w_aload_n0 (M := mX6_init) dX6_init_18, w_iconst (M := mX6_init) (v := 2) dX6_init_19 rfl, w_sipush (M := mX6_init) (v := 1001) dX6_init_20 rfl, w_mnew (M := mX6_init) dX6_init_23 cl_6_18, w_putA (M := mX6_init) dX6_init_27 f_6_20 rfl (Or.inr ⟨rfl, rfl⟩), w_aload_n0 (M := mX6_init) dX6_init_30, w_iconst (M := mX6_init) (v := 2) dX6_init_31 rfl, w_sipush (M := mX6_init) (v := 1001) dX6_init_32 rfl, w_mnew (M := mX6_init) dX6_init_35 cl_6_18, w_putA (M := mX6_init) dX6_init_39 f_6_23 rfl (Or.inr ⟨rfl, rfl⟩), w_aload_n0 (M := mX6_init) dX6_init_42, w_iconst (M := mX6_init) (v := 2) dX6_init_43 rfl, w_sipush (M := mX6_init) (v := 1001) dX6_init_44 rfl, w_mnew (M := mX6_init) dX6_init_47 cl_6_18, w_putA (M := mX6_init) dX6_init_51 f_6_26 rfl (Or.inr ⟨rfl, rfl⟩), w_aload_n0 (M := mX6_init) dX6_init_54, w_iconst (M := mX6_init) (v := 2) dX6_init_55 rfl, w_newa (M := mX6_init) (t := 20) dX6_init_56 rfl, w_putA (M := mX6_init) dX6_init_58 f_6_29 rfl (Or.inr ⟨rfl, rfl⟩), w_aload_n0 (M := mX6_init) dX6_init_61, w_iconst (M := mX6_init) (v := 2) dX6_init_62 rfl, w_newa (M := mX6_init) (t := 20) dX6_init_63 rfl, w_putA (M := mX6_init) dX6_init_65 f_6_32 rfl (Or.inr ⟨rfl, rfl⟩), w_aload_n0 (M := mX6_init) dX6_init_68, w_iconst (M := mX6_init) (v := 2) dX6_init_69 rfl, w_newa (M := mX6_init) (t := 20) dX6_init_70 rfl, w_putA (M := mX6_init) dX6_init_72 f_6_35 rfl (Or.inr ⟨rfl, rfl⟩), w_aload_n0 (M := mX6_init) dX6_init_75, w_sipush (M := mX6_init) (v := 625) dX6_init_76 rfl, w_newa (M := mX6_init) (t := 20) dX6_init_79 rfl, w_putA (M := mX6_init) dX6_init_81 f_6_38 rfl (Or.inr ⟨rfl, rfl⟩), w_aload_n0 (M := mX6_init) dX6_init_84, w_iconst (M := mX6_init) (v := (-1)) dX6_init_85 rfl, w_putI (M := mX6_init) dX6_init_86 f_6_41 rfl (Or.inl rfl), w_vret (M := mX6_init) dX6_init_89 rfl, Kn_v_, Kn_n_, kl_i_, kl_a_, kl_l_, kl_n_, s1_0_, s2_0_, s1_1, s1_2, s1_3, s1_4, s1_5, s1_6, s1_7, s1_8, s1_9, s1_10, s1_11, s1_12, s1_13, s1_14, s2_1, s2_2, s2_3, s2_4, s2_5, s2_6, s2_7, s2_8, s2_9, s2_10, s2_11, s2_12, s2_13, s2_14, List.map_nil, List.map_cons, List.sum_nil, List.sum_cons, ct_i_, ct_r_, ct_l_, t_si_, t_sl_, t_sr_, n_si_, n_sl_, n_sr_, i_si_, i_sl_, i_sr_, l_si_, l_sl_, l_sr_, r_si_, r_sl_, r_sr_, vr_s_, vr_n_, nz_0_, nz_1_, hp, hn, tA, tA', ← eA, a1, tB, tB', ← eB, b1, tC, tC', ← eC, c1, tD, tD', ← eD, d1, tE, tE', ← eE, e1, tF, tF', ← eF, f1, tG, tG', ← eG, g1, tH, tH', ← eH, h1, tK, tK', ← eK, am_MX, show (2 : Int32).toNatClampNeg = 2 from rfl, show (1001 : Int32).toNatClampNeg = 1001 from rfl, show (625 : Int32).toNatClampNeg = 625 from rfl, show ¬ (2 : Int32) < 0 from by decide, show ¬ (1001 : Int32) < 0 from by decide, show ¬ (625 : Int32) < 0 from by decide, show q + 1 < 900000 by omega, show q + 2 < 900000 by omega, show q + 3 < 900000 by omega, show q + 6 < 900000 by omega, show q + 9 < 900000 by omega, show q + 12 < 900000 by omega, show q + 13 < 900000 by omega, show q + 14 < 900000 by omega, show q + 15 < 900000 by omega]
  · rw [z_si_, k2, h2, g2, f2, e2, d2, c2, b2, a2]
  · refine ⟨tK', ?_, ?_, ?_, ?_, ?_, ?_, ?_, ?_, k3, fun e he => ?_, ?_, ?_, ?_, ?_, ?_, ?_, ?_, ?_, k4⟩
    · show a_t K (q + 1) = _
      rw [k5 _ (by omega), h5 _ (by omega), g5 _ (by omega), f5 _ (by omega), e5 _ (by omega), d5 _ (by omega), c5 _ (by omega), b5 _ (by omega)]; exact a3
    · show a_t K (q + 2) = _
      rw [k5 _ (by omega), h5 _ (by omega), g5 _ (by omega), f5 _ (by omega), e5 _ (by omega), d5 _ (by omega), c5 _ (by omega)]; exact b3
    · show a_t K (q + 3) = _
      rw [k5 _ (by omega), h5 _ (by omega), g5 _ (by omega), f5 _ (by omega), e5 _ (by omega), d5 _ (by omega)]; exact c3
    · show a_t K (q + 6) = _
      rw [k5 _ (by omega), h5 _ (by omega), g5 _ (by omega), f5 _ (by omega), e5 _ (by omega)]; exact d3
    · show a_t K (q + 9) = _
      rw [k5 _ (by omega), h5 _ (by omega), g5 _ (by omega), f5 _ (by omega)]; exact e3
    · show a_t K (q + 12) = _
      rw [k5 _ (by omega), h5 _ (by omega), g5 _ (by omega)]; exact f3
    · show a_t K (q + 13) = _
      rw [k5 _ (by omega), h5 _ (by omega)]; exact g3
    · show a_t K (q + 14) = _
      rw [k5 _ (by omega)]; exact h3
    · rcases show e = 0 ∨ e = 1 by omega with rfl | rfl
      · refine ⟨?_, ?_, ?_, ?_, ?_, ?_⟩
        · show a_t K (q + 4) = _
          rw [k5 _ (by omega), h5 _ (by omega), g5 _ (by omega), f5 _ (by omega), e5 _ (by omega), d5 _ (by omega)]; exact c3a
        · show a_t K (q + 7) = _
          rw [k5 _ (by omega), h5 _ (by omega), g5 _ (by omega), f5 _ (by omega), e5 _ (by omega)]; exact d3a
        · show a_t K (q + 10) = _
          rw [k5 _ (by omega), h5 _ (by omega), g5 _ (by omega), f5 _ (by omega)]; exact e3a
        · show a_r K (q + 3) 0 = _
          rw [k7 _ _ (by omega) (by omega), h7 _ _ (by omega) (by omega), g7 _ _ (by omega) (by omega), f7 _ _ (by omega) (by omega), e7 _ _ (by omega) (by omega), d7 _ _ (by omega) (by omega)]; exact c3c
        · show a_r K (q + 6) 0 = _
          rw [k7 _ _ (by omega) (by omega), h7 _ _ (by omega) (by omega), g7 _ _ (by omega) (by omega), f7 _ _ (by omega) (by omega), e7 _ _ (by omega) (by omega)]; exact d3c
        · show a_r K (q + 9) 0 = _
          rw [k7 _ _ (by omega) (by omega), h7 _ _ (by omega) (by omega), g7 _ _ (by omega) (by omega), f7 _ _ (by omega) (by omega)]; exact e3c
      · refine ⟨?_, ?_, ?_, ?_, ?_, ?_⟩
        · show a_t K (q + 5) = _
          rw [k5 _ (by omega), h5 _ (by omega), g5 _ (by omega), f5 _ (by omega), e5 _ (by omega), d5 _ (by omega)]; exact c3b
        · show a_t K (q + 8) = _
          rw [k5 _ (by omega), h5 _ (by omega), g5 _ (by omega), f5 _ (by omega), e5 _ (by omega)]; exact d3b
        · show a_t K (q + 11) = _
          rw [k5 _ (by omega), h5 _ (by omega), g5 _ (by omega), f5 _ (by omega)]; exact e3b
        · show a_r K (q + 3) 1 = _
          rw [k7 _ _ (by omega) (by omega), h7 _ _ (by omega) (by omega), g7 _ _ (by omega) (by omega), f7 _ _ (by omega) (by omega), e7 _ _ (by omega) (by omega), d7 _ _ (by omega) (by omega)]; exact c3d
        · show a_r K (q + 6) 1 = _
          rw [k7 _ _ (by omega) (by omega), h7 _ _ (by omega) (by omega), g7 _ _ (by omega) (by omega), f7 _ _ (by omega) (by omega), e7 _ _ (by omega) (by omega)]; exact d3d
        · show a_r K (q + 9) 1 = _
          rw [k7 _ _ (by omega) (by omega), h7 _ _ (by omega) (by omega), g7 _ _ (by omega) (by omega), f7 _ _ (by omega) (by omega)]; exact e3d
    · show a_r K q 0 = _
      rw [k7 _ _ (by omega) (by omega), h7 _ _ (by omega) (by omega), g7 _ _ (by omega) (by omega), f7 _ _ (by omega) (by omega), e7 _ _ (by omega) (by omega), d7 _ _ (by omega) (by omega), c7 _ _ (by omega) (by omega), b7 _ _ (by omega) (by omega)]; exact a4
    · show a_r K q 1 = _
      rw [k7 _ _ (by omega) (by omega), h7 _ _ (by omega) (by omega), g7 _ _ (by omega) (by omega), f7 _ _ (by omega) (by omega), e7 _ _ (by omega) (by omega), d7 _ _ (by omega) (by omega), c7 _ _ (by omega) (by omega)]; exact b4
    · show a_r K q 4 = _
      rw [k7 _ _ (by omega) (by omega), h7 _ _ (by omega) (by omega), g7 _ _ (by omega) (by omega), f7 _ _ (by omega) (by omega), e7 _ _ (by omega) (by omega), d7 _ _ (by omega) (by omega)]; exact c4
    · show a_r K q 5 = _
      rw [k7 _ _ (by omega) (by omega), h7 _ _ (by omega) (by omega), g7 _ _ (by omega) (by omega), f7 _ _ (by omega) (by omega), e7 _ _ (by omega) (by omega)]; exact d4
    · show a_r K q 6 = _
      rw [k7 _ _ (by omega) (by omega), h7 _ _ (by omega) (by omega), g7 _ _ (by omega) (by omega), f7 _ _ (by omega) (by omega)]; exact e4
    · show a_r K q 7 = _
      rw [k7 _ _ (by omega) (by omega), h7 _ _ (by omega) (by omega), g7 _ _ (by omega) (by omega)]; exact f4
    · show a_r K q 8 = _
      rw [k7 _ _ (by omega) (by omega), h7 _ _ (by omega) (by omega)]; exact g4
    · show a_r K q 9 = _
      rw [k7 _ _ (by omega) (by omega)]; exact h4
  · show a_t K p = _
    rw [k5 _ (by omega), h5 _ (by omega), g5 _ (by omega), f5 _ (by omega), e5 _ (by omega), d5 _ (by omega), c5 _ (by omega), b5 _ (by omega), a5 _ (by omega)]
  · rw [ine (by omega), (k6 _ _ (by omega)).1, (h6 _ _ (by omega)).1, (g6 _ _ (by omega)).1, (f6 _ _ (by omega)).1, (e6 _ _ (by omega)).1, (d6 _ _ (by omega)).1, (c6 _ _ (by omega)).1, (b6 _ _ (by omega)).1, (a6 _ _ (by omega)).1]
  · show a_l K p j = _
    rw [(k6 _ _ (by omega)).2, (h6 _ _ (by omega)).2, (g6 _ _ (by omega)).2, (f6 _ _ (by omega)).2, (e6 _ _ (by omega)).2, (d6 _ _ (by omega)).2, (c6 _ _ (by omega)).2, (b6 _ _ (by omega)).2, (a6 _ _ (by omega)).2]
  · show a_r K p j = _
    rw [k7 _ _ (by omega) (by omega), h7 _ _ (by omega) (by omega), g7 _ _ (by omega) (by omega), f7 _ _ (by omega) (by omega), e7 _ _ (by omega) (by omega), d7 _ _ (by omega) (by omega), c7 _ _ (by omega) (by omega), b7 _ _ (by omega) (by omega), a7 _ _ (by omega) (by omega)]
set_option maxRecDepth 20000 in
set_option maxHeartbeats 4000000 in
/-- the pair, made or not yet -/
theorem q_X11_pairNow (k : Inv XP h) : ∃ (q : Nat) (y : am_h), (∀ Q, Cal (d + 1) mX11_pairNow [.ref 0] h Q = Q (some (.ref q)) y) ∧ Inv XP y ∧ 177 ≤ q ∧ a_r y 0 7 = some q ∧ (∀ p j, p < 177 → a_i y p j = a_i h p j) := by
  have hC := k.1.1
  rcases k.1.2.2.2.1 with z | ⟨q, z1, z2, z3, z4, z5⟩
  · -- it is made
    obtain ⟨n, en⟩ : ∃ n, n = a_n h := ⟨_, rfl⟩
    have rm := k.1.2.2.2.2
    have n8 : n + 16 ≤ 800 := by
      have := rm.1
      rw [if_pos z] at this
      omega
    have n1 : 177 ≤ n := by have := k.1.2.2.1.1; omega
    obtain ⟨h1, c1, v1, v2, v3, v4, v5⟩ := q_X6_init (d := d) (h := s_nw h 6 13) (q := n) (nwt1 en) (by rw [nw_n, en]) (by omega)
    have old : ∀ p, ¬ (n ≤ p ∧ p < n + 16) → a_t h1 p = a_t h p ∧ ∀ j, a_i h1 p j = a_i h p j ∧ a_l h1 p j = a_l h p j ∧ a_r h1 p j = a_r h p j := fun p c => by
      obtain ⟨u1, u2⟩ := v5 p c
      refine ⟨u1.trans (nwt0 (by omega)), fun j => ?_⟩
      obtain ⟨x1, x2, x3⟩ := u2 j
      exact ⟨x1.trans (nwi0 (by omega)), x2.trans (nwl0 (by omega)), x3.trans (nwr0 (by omega))⟩
    have sP : shP (a_t (s_r h1 0 7 (some n))) (a_r (s_r h1 0 7 (some n))) n := shP_cg (t := a_t h1) (r := a_r h1) (fun _ _ => rfl) (fun k j hk => rne (by omega)) v3
    have t0 : a_t h1 0 = (11, 8) := by rw [(old 0 (by omega)).1]; exact hC.e.1
    have nul_e : nul (a_r (s_r h1 0 7 (some n))) = nul (a_r h) := by
      unfold nul
      have e25 : ∀ i, a_r (s_r h1 0 7 (some n)) 25 i = a_r h 25 i := fun i => by rw [rne (by omega)]; exact ((old 25 (by omega)).2 i).2.2
      have e58 : ∀ i, a_r (s_r h1 0 7 (some n)) 58 i = a_r h 58 i := fun i => by rw [rne (by omega)]; exact ((old 58 (by omega)).2 i).2.2
      simp only [e25, e58]
    refine ⟨n, s_r h1 0 7 (some n), fun Q => ?_, ?_, n1, req rfl rfl, fun p j hp => ((old p (by omega)).2 j).1⟩
    · have tn : a_t (s_nw h 6 13) 0 = (11, 8) := by rw [nwt0 (by omega)]; exact hC.e.1
      have c1' := c1
      unfold Cal
      rw [l_X11_pairNow]
      simp only [am_en, am_ag, ct_i, ct_r, ct_l, List.length_cons, List.length_nil, List.replicate]
      simp [w_aload_n0 (M := mX11_pairNow) dX11_pairNow_0, w_getO (M := mX11_pairNow) dX11_pairNow_1 f_11_377 rfl (by decide) (by decide), w_ifnonnull_n (M := mX11_pairNow) (tgt := 18) dX11_pairNow_4 (by decide), w_ifnonnull_r (M := mX11_pairNow) (tgt := 18) dX11_pairNow_4 (by decide), w_aload_n0 (M := mX11_pairNow) dX11_pairNow_7, w_new (M := mX11_pairNow) dX11_pairNow_8 cl_11_340 (by decide), w_dup_int (M := mX11_pairNow) dX11_pairNow_11, w_dup_ref (M := mX11_pairNow) dX11_pairNow_11, c_11_381 (M := mX11_pairNow) dX11_pairNow_12 rfl, w_putO (M := mX11_pairNow) dX11_pairNow_15 f_11_377 rfl (Or.inl rfl), w_putON (M := mX11_pairNow) dX11_pairNow_15 f_11_377 rfl (Or.inl rfl), w_aload_n0 (M := mX11_pairNow) dX11_pairNow_18, w_getO (M := mX11_pairNow) dX11_pairNow_19 f_11_377 rfl (by decide) (by decide), w_aret (M := mX11_pairNow) dX11_pairNow_22 rfl, Kn_v_, Kn_n_, kl_i_, kl_a_, kl_l_, kl_n_, s1_0_, s2_0_, s1_1, s1_2, s1_3, s1_4, s1_5, s1_6, s1_7, s1_8, s1_9, s1_10, s1_11, s1_12, s1_13, s1_14, s2_1, s2_2, s2_3, s2_4, s2_5, s2_6, s2_7, s2_8, s2_9, s2_10, s2_11, s2_12, s2_13, s2_14, List.map_nil, List.map_cons, List.sum_nil, List.sum_cons, ct_i_, ct_r_, ct_l_, t_si_, t_sl_, t_sr_, n_si_, n_sl_, n_sr_, i_si_, i_sl_, i_sr_, l_si_, l_sl_, l_sr_, r_si_, r_sl_, r_sr_, vr_s_, vr_n_, nz_0_, nz_1_, hC.e.1, z, am_MX, ← en, show n < 900000 by omega, am_sz, c1, t0, nwt1 en, v3.1]
    · refine Inv_pr (q := n) k n1 (by rw [n_sr_, v1]; omega) (by rw [n_sr_, v1]; exact Nat.le_refl _) (req rfl rfl) (fun o i p ho hi e => Or.inl (by have := (k.1.2.2.1.2.1 o i p ho hi e).2.1; omega)) (fun p c => (old p c).1) (fun p j c c' => by rw [rne c']; exact ((old p c).2 j).2.2) (fun p j c => ((old p c).2 j).1) (fun p j c => ((old p c).2 j).2.1) ?_ (XP_mk sP (Or.inl v4))
      obtain ⟨rm1, rm2⟩ := rm
      rw [if_pos z] at rm1 rm2
      unfold rRm
      rw [n_sr_, z_sr_, v1, v2, nul_e, nw_z, if_neg (by rw [req rfl rfl]; simp), if_neg (by rw [req rfl rfl]; simp)]
      omega
  · refine ⟨q, h, fun Q => ?_, k, z2, z1, fun _ _ _ => rfl⟩
    unfold Cal
    rw [l_X11_pairNow]
    simp only [am_en, am_ag, ct_i, ct_r, ct_l, List.length_cons, List.length_nil, List.replicate]
    simp [w_aload_n0 (M := mX11_pairNow) dX11_pairNow_0, w_getO (M := mX11_pairNow) dX11_pairNow_1 f_11_377 rfl (by decide) (by decide), w_ifnonnull_n (M := mX11_pairNow) (tgt := 18) dX11_pairNow_4 (by decide), w_ifnonnull_r (M := mX11_pairNow) (tgt := 18) dX11_pairNow_4 (by decide), w_aload_n0 (M := mX11_pairNow) dX11_pairNow_7, w_new (M := mX11_pairNow) dX11_pairNow_8 cl_11_340 (by decide), w_dup_int (M := mX11_pairNow) dX11_pairNow_11, w_dup_ref (M := mX11_pairNow) dX11_pairNow_11, c_11_381 (M := mX11_pairNow) dX11_pairNow_12 rfl, w_putO (M := mX11_pairNow) dX11_pairNow_15 f_11_377 rfl (Or.inl rfl), w_putON (M := mX11_pairNow) dX11_pairNow_15 f_11_377 rfl (Or.inl rfl), w_aload_n0 (M := mX11_pairNow) dX11_pairNow_18, w_getO (M := mX11_pairNow) dX11_pairNow_19 f_11_377 rfl (by decide) (by decide), w_aret (M := mX11_pairNow) dX11_pairNow_22 rfl, Kn_v_, Kn_n_, kl_i_, kl_a_, kl_l_, kl_n_, s1_0_, s2_0_, s1_1, s1_2, s1_3, s1_4, s1_5, s1_6, s1_7, s1_8, s1_9, s1_10, s1_11, s1_12, s1_13, s1_14, s2_1, s2_2, s2_3, s2_4, s2_5, s2_6, s2_7, s2_8, s2_9, s2_10, s2_11, s2_12, s2_13, s2_14, List.map_nil, List.map_cons, List.sum_nil, List.sum_cons, ct_i_, ct_r_, ct_l_, t_si_, t_sl_, t_sr_, n_si_, n_sl_, n_sr_, i_si_, i_sl_, i_sr_, l_si_, l_sl_, l_sr_, r_si_, r_sl_, r_sr_, vr_s_, vr_n_, nz_0_, nz_1_, hC.e.1, z1]
end PAIRINIT
