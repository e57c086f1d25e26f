/-! a step kept on both sides: all holds again, second -/
section KEEP2
variable {g : Nat → Int32} {n j k : Nat}
theorem ks_lo (hn : n ≤ 30) (hk : k < 740) (h3 : ¬ k = 3) : KS n g k = g k := by
  unfold KS K2 K1
  by_cases c : n = 30
  · rw [if_pos c]
    show (if k = 3 then _ else if _ then _ else _) = _
    rw [if_neg h3, if_neg (by omega), if_neg h3, if_neg (by omega)]
  · rw [if_neg c]
    show (if k = 3 then _ else if _ then _ else _) = _
    rw [if_neg h3, if_neg (by omega)]
theorem ks_3 (hn : n ≤ 30) : KS n g 3 = nI (if n = 30 then 30 else n + 1) := by
  unfold KS K2
  by_cases c : n = 30
  · rw [if_pos c, if_pos c]
    exact if_pos rfl
  · rw [if_neg c, if_neg c]
    exact if_pos rfl
theorem ks_d (hn : n ≤ 30) (hj : j + 1 < (if n = 30 then 30 else n + 1)) : dec (KS n g) (740 + 647 * j) = dec g (740 + 647 * (j + (if n = 30 then 1 else 0))) := by
  refine dec_congr (fun i hi => ?_)
  unfold KS K2 K1
  by_cases c : n = 30
  · rw [if_pos c] at hj ⊢
    rw [if_pos c]
    show (if _ then _ else if _ then _ else if _ then _ else if _ then _ else _) = _
    rw [if_neg (by omega), if_neg (by omega), if_neg (by omega), if_pos (by omega)]
    exact congrArg g (by omega)
  · rw [if_neg c] at hj ⊢
    rw [if_neg c]
    show (if _ then _ else if _ then _ else _) = _
    rw [if_neg (by omega), if_neg (by omega)]
    rfl
theorem ks_l (hn : n ≤ 30) (hj : j + 1 = (if n = 30 then 30 else n + 1)) : dec (KS n g) (740 + 647 * j) = dec g 90 := by
  refine dec_congr (fun i hi => ?_)
  unfold KS K2 K1
  by_cases c : n = 30
  · rw [if_pos c] at hj ⊢
    show (if _ then _ else if _ then _ else _) = _
    rw [if_neg (by omega), if_pos (by omega)]
    show (if _ then _ else if _ then _ else _) = _
    rw [if_neg (by omega), if_neg (by omega)]
    exact congrArg g (by omega)
  · rw [if_neg c] at hj ⊢
    show (if _ then _ else if _ then _ else _) = _
    rw [if_neg (by omega), if_pos (by omega)]
    exact congrArg g (by omega)
theorem wOld_refl {s : TS} : wOld s s := ⟨Nat.le_refl _, Nat.le_refl _, fun i _ => ⟨rfl, rfl, rfl, Or.inr ⟨rfl, rfl⟩⟩, fun i _ => ⟨rfl, rfl, rfl⟩⟩
theorem wOld_tr {s s' s'' : TS} (a : wOld s s') (b : wOld s' s'') : wOld s s'' := by
  obtain ⟨a1, a2, a3, a4⟩ := a
  obtain ⟨b1, b2, b3, b4⟩ := b
  refine ⟨by omega, by omega, fun i hi => ?_, fun i hi => ?_⟩
  · obtain ⟨x1, x2, x3, x4⟩ := a3 i hi
    obtain ⟨y1, y2, y3, y4⟩ := b3 i (by omega)
    refine ⟨x1.trans y1, x2.trans y2, x3.trans y3, ?_⟩
    rcases x4 with x4 | x4
    · exact Or.inl x4
    · rcases y4 with y4 | y4
      · exact Or.inl ⟨x4.1.trans y4.1, x4.2.trans y4.2⟩
      · exact Or.inr ⟨x4.1.trans y4.1, x4.2.trans y4.2⟩
  · obtain ⟨x1, x2, x3⟩ := a4 i hi
    obtain ⟨y1, y2, y3⟩ := b4 i (by omega)
    exact ⟨x1.trans y1, x2.trans y2, x3.trans y3⟩
theorem wG_3 {g g' : Nat → Int32} (hg : ∀ k, k < 90 → ¬ k = 3 → g' k = g k) (h3 : bt 0 (g' 3) 30) (k : wG g) : wG g' := by
  have b0 := bt_n (m := 4) k.1 (by omega) (by omega)
  have b4 := bt_n (m := 8) k.2.2.2.2.1 (by omega) (by omega)
  have b5 := bt_n (m := 8) k.2.2.2.2.2.1 (by omega) (by omega)
  unfold wG at k ⊢
  rw [hg 0 (by omega) (by omega), hg 1 (by omega) (by omega), hg 2 (by omega) (by omega), hg 4 (by omega) (by omega), hg 5 (by omega) (by omega), hg 6 (by omega) (by omega), hg 7 (by omega) (by omega), hg 8 (by omega) (by omega)]
  obtain ⟨k1, k2, k3, k4, k5, k6, k7, k8, k9, k10, k11, k12⟩ := k
  refine ⟨k1, k2, k3, h3, k5, k6, k7, k8, k9, fun e he => ?_, fun e he => ?_, fun e he => ?_⟩
  · rw [hg _ (by omega) (by omega), hg _ (by omega) (by omega), hg _ (by omega) (by omega), hg _ (by omega) (by omega)]; exact k10 e he
  · rw [hg _ (by omega) (by omega), hg _ (by omega) (by omega), hg _ (by omega) (by omega)]; exact k11 e he
  · rw [hg _ (by omega) (by omega), hg _ (by omega) (by omega), hg _ (by omega) (by omega), hg _ (by omega) (by omega)]; exact k12 e he
variable {X : PX} {h h' : am_h}
theorem Inv_keep (kk : Inv X h) (hn : a_i h 127 3 = nI n) (hn2 : n ≤ 30) (hk : k < 30) (hk2 : a_i h 1 5 = nI k) {p : Nat} (hp : a_r h 25 k = some p) (w : cpL h h' p 7) : Inv X (s_w (s_i (s_i h' 1 5 (nI ((k + 1) % 30))) 1 4 (nI (if n = 30 then 30 else n + 1))) 127 (KS n (a_i h 127))) := by
  obtain ⟨w1, w2, w3, w4, w5, w6⟩ := w
  obtain ⟨⟨s1, s2, s3, s4, s5⟩, ⟨⟨r1, r2, r3, r4, r5⟩, r6, r7, r8, r9⟩, c1, tp, tn, tx⟩ := kk
  obtain ⟨p1, p2, p3⟩ := s3.2.1 0 k p (Or.inl rfl) hk hp
  have hN := s3.1
  have b0 := bt_n (m := 4) r5.1 (by omega) (by omega)
  have b4 := bt_n (m := 8) r5.2.2.2.2.1 (by omega) (by omega)
  have b5 := bt_n (m := 8) r5.2.2.2.2.2.1 (by omega) (by omega)
  have n3 : Nn (a_i h 127 3) = n := by rw [hn]; exact Nn_n (by omega)
  obtain ⟨hv, ev⟩ : ∃ hv, hv = s_w (s_i (s_i h' 1 5 (nI ((k + 1) % 30))) 1 4 (nI (if n = 30 then 30 else n + 1))) 127 (KS n (a_i h 127)) := ⟨_, rfl⟩
  rw [← ev]
  have vt : a_t hv = a_t h := by rw [ev]; exact w1.1
  have vr : a_r hv = a_r h := by rw [ev]; exact w1.2.1
  have v1 : hv.1 = h.1 := by rw [ev]; exact w1.2.2
  have vn : a_n hv = a_n h := congrArg Prod.fst v1
  have vz : a_z hv = a_z h := congrArg Prod.snd v1
  have vg : a_i hv 127 = KS n (a_i h 127) := by rw [ev]; exact iwe rfl
  have vI : ∀ q j, ¬ q = 127 → ¬ (q = 1 ∧ (j = 4 ∨ j = 5)) → ¬ (p ≤ q ∧ q < p + 9) → a_i hv q j = a_i h q j := by
    intro q j c1 c2 c3
    rw [ev, iwn c1, ine (by omega), ine (by omega)]
    exact w5 q j c3
  have vP : ∀ q j, p ≤ q → q < p + 9 → a_i hv q j = a_i h' q j := by
    intro q j c1 c2
    rw [ev, iwn (by omega), ine (by omega), ine (by omega)]
  have vL : a_l hv = a_l h' := by rw [ev]; rfl
  have vJ : ∀ q j, ¬ (p ≤ q ∧ q < p + 9) → a_l hv q j = a_l h q j := by
    intro q j c
    rw [vL]; exact w6 q j c
  have x4 : a_i hv 1 4 = nI (if n = 30 then 30 else n + 1) := by rw [ev, iwn (by omega), ieq rfl rfl]
  have x5 : a_i hv 1 5 = nI ((k + 1) % 30) := by rw [ev, iwn (by omega), ine (by omega), ieq rfl rfl]
  have lo : ∀ i, i < 740 → ¬ i = 3 → KS n (a_i h 127) i = a_i h 127 i := fun i h1 h2 => ks_lo hn2 h1 h2
  have d9 : dec (KS n (a_i h 127)) 90 = dec (a_i h 127) 90 := dec_congr (fun i hi => lo _ (by omega) (by omega))
  have g3 : Nn (KS n (a_i h 127) 3) = (if n = 30 then 30 else n + 1) := by
    rw [ks_3 hn2]
    refine Nn_n ?_
    split <;> omega
  have hz : ∀ e, e < 4 → a_i h (7 + 5 + e) 0 = 0 ∨ a_i h (7 + 5 + e) 0 = 1 := by
    intro e he
    have z1 := (r6.2.2.2.2.2.2 e he).1
    have z2 := (r9.1.2.2.2.2.1 e he).1
    rw [show 7 + 0 + 5 + e = 7 + 5 + e by omega] at z1
    rw [z1]
    exact z2
  have hL : ∀ i q, i < 30 → ¬ i = k → a_r h 25 i = some q → (∀ k j, k < 9 → a_i hv (q + k) j = a_i h (q + k) j) ∧ ∀ e, e < 4 → a_l hv (q + 5 + e) 13 = a_l h (q + 5 + e) 13 := by
    intro i q hi hik hq
    have z := s3.2.2 0 i q 0 k p (Or.inl rfl) (Or.inl rfl) hi hk hq hp (by omega)
    have y := (s3.2.1 0 i q (Or.inl rfl) hi hq).1
    exact ⟨fun k j _ => vI _ _ (by omega) (by omega) (by omega), fun e _ => vJ _ _ (by omega)⟩
  have hw : rLn (a_i hv) (a_l hv) p (dec (a_i h 127) 90) := cpr (I := a_i h) (J := a_l h) (q := 7) (fun j hj => by rw [vP _ _ (by omega) (by omega)]; exact w2 j hj) (fun k j h1 h2 h3 => by rw [vP _ _ (by omega) (by omega)]; exact w3 k j h1 h2 h3) (fun e he => ⟨fun j hj => by rw [vP _ _ (by omega) (by omega)]; exact (w4 e he).1 j hj, by rw [vL]; exact (w4 e he).2⟩) r6
  have hpz : ∀ e, e < 4 → a_i hv (p + 5 + e) 0 = 0 ∨ a_i hv (p + 5 + e) 0 = 1 := by
    intro e he
    rw [vP _ _ (by omega) (by omega), (w4 e he).1 0 (by omega)]
    exact hz e he
  refine ⟨⟨by rw [vt, vr]; exact s1, by rw [vt, vr]; exact s2, by rw [vn, vt, vr]; exact s3, ?_, by rw [vn, vz, vr]; exact s5⟩, ⟨⟨?_, ?_, ?_, ?_, ?_⟩, ?_, ?_, ?_, ?_⟩, ?_, ?_, ?_, ?_⟩
  · unfold rPr at s4 ⊢
    rw [vr, vt, vn]
    rcases s4 with z | ⟨q, q1, q2, q3, q4, q5⟩
    · exact Or.inl z
    · refine Or.inr ⟨q, q1, q2, q3, q4, ?_⟩
      have qp := q4 0 k p (Or.inl rfl) hk hp
      have e1 : (fun k j => if k < 16 then a_i hv (q + k) j else 0) = (fun k j => if k < 16 then a_i h (q + k) j else 0) := by
        funext k j
        by_cases hk : k < 16
        · rw [if_pos hk, if_pos hk]; exact vI _ _ (by omega) (by omega) (by omega)
        · rw [if_neg hk, if_neg hk]
      rw [e1]
      exact q5
  · rw [vg]
    exact rTo_fr (fun k j hk => vI _ _ (by omega) (by omega) (by omega)) (lo 0 (by omega) (by omega)) (fun k h1 h2 => lo k (by omega) (by omega)) r1
  · rw [vg]
    unfold rMs at r2 ⊢
    simp (disch := omega) only [vI, lo]
    exact r2
  · rw [vg]
    exact rAg_fr (fun k j hk => vI _ _ (by omega) (by omega) (by omega)) (lo 4 (by omega) (by omega)) (fun k h1 h2 => lo k (by omega) (by omega)) r3
  · rw [vg]
    exact rHd_fr (fun k j hk => vI _ _ (by omega) (by omega) (by omega)) (lo 5 (by omega) (by omega)) (fun k h1 h2 => lo k (by omega) (by omega)) r4
  · rw [vg]
    refine wG_3 (fun k h1 h2 => lo k (by omega) h2) ?_ r5
    rw [ks_3 hn2]
    unfold bt
    rw [nI_i (by split <;> omega)]
    split <;> omega
  · rw [vg, d9]
    exact rLn_fr (fun k j hk => vI _ _ (by omega) (by omega) (by omega)) (fun e he => vJ _ _ (by omega)) r6
  · rw [vg, d9]
    exact rBk_fr (fun k j hk => vI _ _ (by omega) (by omega) (by omega)) r7
  · rw [vg, vr]
    unfold rSt at r8 ⊢
    obtain ⟨k81, ⟨m, k82, k83, k84⟩, k85⟩ := r8
    have em : m = k := by
      rw [show 1 + 0 = 1 from rfl, hk2, nI_inj (by omega) (by omega)] at k83
      exact k83.symm
    subst em
    refine ⟨by rw [ks_3 hn2]; exact x4, ⟨(m + 1) % 30, by omega, x5, fun j hj => ?_⟩, fun i q hi hq e he => ?_⟩
    · rw [g3] at hj ⊢
      by_cases c : j + 1 = (if n = 30 then 30 else n + 1)
      · refine ⟨p, ?_, ?_⟩
        · rw [show ((m + 1) % 30 + 30 - (if n = 30 then 30 else n + 1) + j) % 30 = m by split at c <;> split <;> omega]
          exact hp
        · rw [ks_l hn2 c]
          exact hw
      · have c2 : j + 1 < (if n = 30 then 30 else n + 1) := by omega
        obtain ⟨q, q1, q2⟩ := k84 (j + (if n = 30 then 1 else 0)) (by rw [n3]; split at c2 <;> split <;> omega)
        rw [n3] at q1
        have ne : ¬ (m + 30 - n + (j + (if n = 30 then 1 else 0))) % 30 = m := by split at c2 <;> split <;> omega
        refine ⟨q, ?_, ?_⟩
        · rw [show ((m + 1) % 30 + 30 - (if n = 30 then 30 else n + 1) + j) % 30 = (m + 30 - n + (j + (if n = 30 then 1 else 0))) % 30 by split at c2 <;> (try split) <;> (try split) <;> omega]
          exact q1
        · rw [ks_d hn2 c2]
          have z := hL _ q (Nat.mod_lt _ (by omega)) ne q1
          exact rLn_fr z.1 z.2 q2
    · by_cases c : i = m
      · subst c
        have hq' : a_r h 25 i = some q := hq
        rw [hp] at hq'
        injection hq' with hq'
        subst hq'
        exact hpz e he
      · have z := (hL i q hi c hq).1 (5 + e) 0 (by omega)
        rw [← Nat.add_assoc] at z
        rw [z]
        exact k85 i q hi hq e he
  · rw [vg]
    unfold wH at r9 ⊢
    rw [d9, g3, lo 0 (by omega) (by omega)]
    refine ⟨r9.1, fun j hj => ?_⟩
    by_cases c : j + 1 = (if n = 30 then 30 else n + 1)
    · rw [ks_l hn2 c]
      refine ⟨r9.1, wOld_refl, fun j' hj' => ?_⟩
      have c2 : j' + 1 < (if n = 30 then 30 else n + 1) := by omega
      rw [ks_d hn2 c2]
      exact (r9.2 (j' + (if n = 30 then 1 else 0)) (by rw [n3]; split at c2 <;> split <;> omega)).2.1
    · have c2 : j + 1 < (if n = 30 then 30 else n + 1) := by omega
      rw [ks_d hn2 c2]
      have z := r9.2 (j + (if n = 30 then 1 else 0)) (by rw [n3]; split at c2 <;> split <;> omega)
      refine ⟨z.1, z.2.1, fun j' hj' => ?_⟩
      rw [ks_d hn2 (by omega)]
      exact z.2.2 (j' + (if n = 30 then 1 else 0)) (by omega)
  · rw [vr, show a_i hv 128 = a_i h 128 from funext fun j => vI _ _ (by omega) (by omega) (by omega)]
    refine rC_g (fun k j h1 h2 => vI _ _ (by omega) (by omega) (by omega)) (fun k _ _ => vJ _ _ (by omega)) (fun i q hi hq => ?_) (fun i q hi hn' hq => by rw [hn'] at hq; exact absurd hq (by simp)) (fun _ _ => rfl) c1
    have z := s3.2.2 33 i q 0 k p (Or.inr rfl) (Or.inl rfl) hi hk hq hp (by omega)
    have y := (s3.2.1 33 i q (Or.inr rfl) hi hq).1
    exact ⟨hq, fun k j _ => vI _ _ (by omega) (by omega) (by omega), fun e _ => vJ _ _ (by omega)⟩
  · exact rTp_fr (fun j => vI _ _ (by omega) (by omega) (by omega)) (fun j => vI _ _ (by omega) (by omega) (by omega)) (fun j _ => vI _ _ (by omega) (by omega) (by omega)) (fun j => vI _ _ (by omega) (by omega) (by omega)) tp
  · rw [vI 128 1 (by omega) (by omega) (by omega), vg, lo 1 (by omega) (by omega)]; exact tn
  · intro t ht'
    rw [vg, lo 1 (by omega) (by omega)] at ht'
    have b1 := bt_n (m := 4) r5.2.1 (by omega) (by omega)
    exact rTx_fr (fun k j hk => vI _ _ (by omega) (by omega) (by omega)) (fun k j h1 h2 => vI _ _ (by omega) (by omega) (by omega)) (tx t ht')
end KEEP2
