/-! the relation, a text more -/
section RELTX
variable {n q w c g j K d e p k u : Nat} {h h' hc hr H : am_h} {I I' : Nat → Nat → Int32} {X : PX}
theorem rTx_f2 {t : Nat} (h0 : ∀ k j, k < 8 → I' (94 + 8 * t + k) j = I (94 + 8 * t + k) j) (h130 : I' 130 t = I 130 t) (h1 : ∀ p i, 131 ≤ p → p ≤ 135 → i < 24 → I' p (24 * t + i) = I p (24 * t + i)) (h2 : ∀ p i, p = 136 ∨ p = 137 → i < 400 → I' p (400 * t + i) = I p (400 * t + i)) (k : rTx I t) : rTx I' t := by
  unfold rTx at k ⊢
  obtain ⟨k1, k2, k3, k4⟩ := k
  have b := bt_n (m := 24) k2 (by omega) (by omega)
  have e0 : ∀ j, I' (94 + 8 * t) j = I (94 + 8 * t) j := fun j => h0 0 j (by omega)
  refine ⟨(e0 4).trans (k1.trans h130.symm), by rw [h130]; exact k2, fun k lk => ?_, fun w lw => ?_⟩
  · rw [h130] at lk
    obtain ⟨a1, a2, a3, a4, a5⟩ := k3 k lk
    rw [h1 131 k (by omega) (by omega) (by omega), h1 133 k (by omega) (by omega) (by omega), h1 134 k (by omega) (by omega) (by omega), h1 135 k (by omega) (by omega) (by omega), h0 1 k (by omega), h0 2 k (by omega), h0 3 k (by omega), h0 4 k (by omega)]
    exact ⟨a1, a2, a3, a4, a5⟩
  · rcases k4 w lw with ⟨b1, b2⟩ | ⟨k, f, n, x, c1, c2, c3, c4, c5, c6, c7, c8, c9⟩
    · refine Or.inl ⟨by rw [h0 5 w (by omega)]; exact b1, fun k lk => ?_⟩
      rw [h130] at lk
      rw [h1 131 k (by omega) (by omega) (by omega)]
      exact b2 k lk
    · refine Or.inr ⟨k, f, n, x, by rw [h130]; exact c1, by rw [h1 131 k (by omega) (by omega) (by omega)]; exact c2, fun j lj ej => ?_, c4, c5, by rw [h0 5 w (by omega)]; exact c6, by rw [h0 6 w (by omega)]; exact c7, by rw [h1 132 k (by omega) (by omega) (by omega)]; exact c8, ?_⟩
      · rw [h130] at lj
        rw [h1 131 j (by omega) (by omega) (by omega)] at ej
        exact c3 j lj ej
      · obtain ⟨d1, op, a, ty, d2, d3, d4, d5⟩ := c9
        have o6 : ∀ i, i ≤ n → I' 136 (400 * t + x + i) = I 136 (400 * t + x + i) := fun i li => by
          rw [Nat.add_assoc]; exact h2 136 (x + i) (Or.inl rfl) (by omega)
        have o7 : ∀ i, i ≤ n → I' 137 (400 * t + x + i) = I 137 (400 * t + x + i) := fun i li => by
          rw [Nat.add_assoc]; exact h2 137 (x + i) (Or.inr rfl) (by omega)
        refine ⟨by rw [o6 n (Nat.le_refl _)]; exact d1, op, a, ty, d2, d3, d4, fun i li => ?_⟩
        rw [o6 i (by omega), o7 i (by omega), h0 7 (f + i) (by omega)]
        exact d5 i li
theorem oOf_n : ∀ op, op < 18 → ¬ (op = 2 ∨ op = 3) → ¬ (oOf op = 403 ∨ oOf op = 404) := by decide
/-- the new text -/
theorem rTx_new (eq : q = 94 + 8 * u) (S : clR q K c g hc hr) (lK : K ≤ 24) (lc : c ≤ 300) (lg : g ≤ 301) (h4 : a_i hc q 4 = nI K) (hq : ∀ k j, k < 8 → a_i H (q + k) j = a_i hc (q + k) j) (h130 : a_i H 130 u = nI K) (hcp : ∀ p m, 131 ≤ p → p ≤ 135 → m < K → a_i H p (24 * u + m) = cpV hr u p m) (hco : ∀ p m, p = 136 ∨ p = 137 → m < g → a_i H p (400 * u + m) = coV hr u p m) : rTx (a_i H) u := by
  obtain ⟨A1, A2⟩ := S
  have n400 : ∀ x, 400 * nI u + nI x = nI (400 * u + x) := fun x => by rw [show (400 : Int32) = nI 400 from rfl, nI_m, nI_a]
  have v1 : ∀ m, m < K → a_i H 131 (24 * u + m) = a_i hr 143 m := fun m lm => by
    rw [hcp _ _ (by omega) (by omega) lm]; unfold cpV; rw [if_neg (by omega)]
  have v2 : ∀ m, m < K → a_i H 132 (24 * u + m) = 400 * nI u + a_i hr 144 m := fun m lm => by
    rw [hcp _ _ (by omega) (by omega) lm]; unfold cpV; rw [if_pos rfl]
  have v3 : ∀ p m, 133 ≤ p → p ≤ 135 → m < K → a_i H p (24 * u + m) = a_i hr (p + 12) m := fun p m p1 p2 lm => by
    rw [hcp _ _ (by omega) (by omega) lm]; unfold cpV; rw [if_neg (by omega)]
  have v6 : ∀ m, m < g → a_i H 136 (400 * u + m) = a_i hr 148 m := fun m lm => by
    rw [hco _ _ (Or.inl rfl) lm]; unfold coV; rw [if_pos rfl]
  have v7 : ∀ m, m < g → a_i H 137 (400 * u + m) = a_i hr 149 m + (if a_i hr 148 m = 403 ∨ a_i hr 148 m = 404 then 400 * nI u else 0) := fun m lm => by
    rw [hco _ _ (Or.inr rfl) lm]; unfold coV; rw [if_neg (by omega)]
  have hq0 : ∀ j, a_i H q j = a_i hc q j := fun j => hq 0 j (by omega)
  have bK : bt 0 (nI K) 24 := by
    unfold bt
    rw [nI_i (by omega)]
    omega
  unfold rTx
  rw [h130, Nn_n (by omega), ← eq]
  refine ⟨by rw [hq0]; exact h4, bK, fun k lk => ?_, fun w lw => ?_⟩
  · obtain ⟨w, a1, a2, a3, a4, a5, a6⟩ := A1 k lk
    have i10 : bt 0 (nI w) 10 := by
      unfold bt
      rw [nI_i (by omega)]
      omega
    rw [hq 1 k (by omega), hq 2 k (by omega), hq 3 k (by omega), hq 4 k (by omega), v1 k lk, v3 133 k (by omega) (by omega) lk, v3 134 k (by omega) (by omega) lk, v3 135 k (by omega) (by omega) lk, a2]
    refine ⟨a3, i10, fun z => ?_, fun z => ?_, fun z => ?_⟩
    · rw [nI_i (by omega)] at z
      exact a4 (by omega)
    · refine a5 ?_
      rcases z with z | z
      · rw [show (5 : Int32) = nI 5 from rfl, nI_inj (by omega) (by omega)] at z; exact Or.inl z
      · rw [show (9 : Int32) = nI 9 from rfl, nI_inj (by omega) (by omega)] at z; exact Or.inr z
    · rw [show (9 : Int32) = nI 9 from rfl, nI_inj (by omega) (by omega)] at z
      exact a6 z
  · rcases A2 w lw with ⟨b1, b2⟩ | ⟨k, f, x, ws, b1, b2, b3, b4, b5, b6, b7, b8, b9, b10, b11, b12⟩
    · exact Or.inl ⟨by rw [hq 5 w (by omega)]; exact b1, fun k lk => by rw [v1 k lk]; exact b2 k lk⟩
    · refine Or.inr ⟨k, f, ws.length, x, b1, by rw [v1 k b1]; exact b2, fun j lj ej => b3 j lj (by rw [← v1 j lj]; exact ej), by omega, by omega, by rw [hq 5 w (by omega)]; exact b6, by rw [hq 6 w (by omega)]; exact b7, by rw [v2 k b1, b8, n400], ?_⟩
      obtain ⟨ty, t1, t2, t3, t4⟩ := b12
      rw [Nat.zero_add] at t2
      refine ⟨by rw [Nat.add_assoc, v6 _ b5]; exact b9, fun i => (ws[i]?.getD (0, 0)).1, fun i => (ws[i]?.getD (0, 0)).2, fun i => if i ≤ ws.length then ty i else [], ?_, ?_, fun i => ?_, fun i li => ?_⟩
      · show (if 0 ≤ ws.length then ty 0 else []) = []
        rw [if_pos (Nat.zero_le _)]; exact t1
      · show (if ws.length ≤ ws.length then ty ws.length else []) = [false]
        rw [if_pos (Nat.le_refl _)]; exact t2
      · show (if i ≤ ws.length then ty i else []).length ≤ 64
        split
        · have := t3 i (Nat.zero_le _) (by omega)
          omega
        · exact Nat.zero_le _
      · obtain ⟨y, ey⟩ : ∃ y, ws[i]? = some y := ⟨_, List.getElem?_eq_getElem li⟩
        obtain ⟨u1, u2, u3, u4, u5⟩ := t4 i y ey
        have wc : a_i hc (q + 7) (f + i) = cwd f y := b10 i y ey
        have wr1 : a_i hr 148 (x + i) = oOf y.1 := (b11 i y ey).1
        have wr2 : a_i hr 149 (x + i) = rwd x y := (b11 i y ey).2
        rw [Nat.zero_add] at u4 u5
        have g1 : (ws[i]?.getD (0, 0)).1 = y.1 := by rw [ey]; rfl
        have g2 : (ws[i]?.getD (0, 0)).2 = y.2 := by rw [ey]; rfl
        show (ws[i]?.getD (0, 0)).1 < 18 ∧ (ws[i]?.getD (0, 0)).2 ≤ 9999 ∧ ((ws[i]?.getD (0, 0)).1 = 1 → okN w (ws[i]?.getD (0, 0)).2) ∧ a_i H 136 (400 * u + x + i) = oOf (ws[i]?.getD (0, 0)).1 ∧ tyStep (fun i => if i ≤ ws.length then ty i else []) i (ws[i]?.getD (0, 0)).1 (ws[i]?.getD (0, 0)).2 ∧ (if (ws[i]?.getD (0, 0)).1 = 2 ∨ (ws[i]?.getD (0, 0)).1 = 3 then (ws[i]?.getD (0, 0)).2 ≤ ws.length ∧ a_i H (q + 7) (f + i) = nI ((f + (ws[i]?.getD (0, 0)).2) * 32 + (ws[i]?.getD (0, 0)).1) ∧ a_i H 137 (400 * u + x + i) = nI (400 * u + x + (ws[i]?.getD (0, 0)).2) else a_i H (q + 7) (f + i) = nI ((ws[i]?.getD (0, 0)).2 * 32 + (ws[i]?.getD (0, 0)).1) ∧ a_i H 137 (400 * u + x + i) = nI (ws[i]?.getD (0, 0)).2)
        rw [g1, g2, Nat.add_assoc (400 * u) x i, v6 _ (by omega), v7 _ (by omega), wr1, wr2, hq 7 _ (by omega), wc]
        refine ⟨u1, u2, u3, rfl, ty_congr u4 u1 (if_pos (by omega)) (if_pos (by omega)) (fun z => if_pos (by have := u5 z; omega)), ?_⟩
        unfold cwd rwd
        by_cases z : y.1 = 2 ∨ y.1 = 3
        · have o : oOf y.1 = 403 ∨ oOf y.1 = 404 := by
            rcases z with z | z <;> rw [z]
            · exact Or.inr rfl
            · exact Or.inl rfl
          rw [if_pos z, if_pos z, if_pos z, if_pos o]
          refine ⟨by have := u5 z; omega, rfl, ?_⟩
          rw [Int32.add_comm, n400, Nat.add_assoc]
        · rw [if_neg z, if_neg z, if_neg z, if_neg (oOf_n _ u1 z)]
          exact ⟨rfl, Int32.add_zero _⟩
theorem Inv_tx (k : Inv X h) (ht : a_t h' = a_t h) (h1 : h'.1 = h.1) (hr : ∀ q j, ¬ (q = 86 ∧ j = 4) → a_r h' q j = a_r h q j) (hl : a_l h' = a_l h)
    (hI : ∀ q j, ¬ (q = 86 ∨ (88 ≤ q ∧ q ≤ 90) ∨ (94 ≤ q ∧ q ≤ 126) ∨ (130 ≤ q ∧ q ≤ 149) ∨ (q = 127 ∧ j = 1) ∨ (q = 1 ∧ j = 6)) → a_i h' q j = a_i h q j)
    (tp : rTp (a_i h')) (n1 : a_i h' 1 6 = a_i h' 127 1) (b1 : bt 0 (a_i h' 127 1) 4) (l1 : (a_i h 127 1).toInt ≤ (a_i h' 127 1).toInt) (tx : ∀ t, t < Nn (a_i h' 127 1) → rTx (a_i h') t) : Inv X h' := by
  obtain ⟨⟨s1, s2, s3, s4, s5⟩, ⟨⟨r1, r2, r3, r4, r5⟩, r6, r7, r8, r9⟩, kk, -, tn, -⟩ := k
  have en : a_n h' = a_n h := congrArg Prod.fst h1
  have ez : a_z h' = a_z h := congrArg Prod.snd h1
  have b0 := bt_n (m := 4) r5.1 (by omega) (by omega)
  have b3 := bt_n (m := 30) r5.2.2.2.1 (by omega) (by omega)
  have b4 := bt_n (m := 8) r5.2.2.2.2.1 (by omega) (by omega)
  have b5 := bt_n (m := 8) r5.2.2.2.2.2.1 (by omega) (by omega)
  have hG : ∀ j, ¬ j = 1 → a_i h' 127 j = a_i h 127 j := fun j c => hI 127 j (by omega)
  have hr25 : ∀ i, a_r h' 25 i = a_r h 25 i := fun i => hr _ _ (by omega)
  have hr58 : ∀ i, a_r h' 58 i = a_r h 58 i := fun i => hr _ _ (by omega)
  have hr07 : a_r h' 0 7 = a_r h 0 7 := hr _ _ (by omega)
  have hro : ∀ o, (o = 0 ∨ o = 33) → ∀ i, a_r h' (25 + o) i = a_r h (25 + o) i := fun o ho i => hr _ _ (by omega)
  have hL : ∀ o, (o = 0 ∨ o = 33) → ∀ i p, i < 30 → a_r h (25 + o) i = some p → a_r h' (25 + o) i = some p ∧ (∀ k j, k < 9 → a_i h' (p + k) j = a_i h (p + k) j) ∧ ∀ e, e < 4 → a_l h' (p + 5 + e) 13 = a_l h (p + 5 + e) 13 := by
    intro o ho i p hi hp
    have z := (s3.2.1 o i p ho hi hp).1
    exact ⟨by rw [hro o ho]; exact hp, fun k j _ => hI _ _ (by omega), fun e _ => by rw [hl]⟩
  have ed : dec (a_i h' 127) 90 = dec (a_i h 127) 90 := dec_congr (fun i hi => hG _ (by omega))
  refine ⟨⟨sh_C_fr (fun q _ => by rw [ht]) (fun q j _ c => hr q j (by omega)) s1, sh_R_fr (fun q _ => by rw [ht]) (fun q j _ c => hr q j (by omega)) s2, ?_, ?_, ?_⟩, ⟨⟨?_, ?_, ?_, ?_, ?_⟩, ?_, ?_, ?_, ?_⟩, ?_, tp, ?_, tx⟩
  · rw [en, ht]
    refine ⟨s3.1, fun o i p ho hi hp => ?_, fun o i p o' i' p' ho ho' hi hi' hp hp' ne => ?_⟩
    · rw [hro o ho] at hp
      obtain ⟨y1, y2, y3⟩ := s3.2.1 o i p ho hi hp
      refine ⟨y1, y2, ?_⟩
      unfold shL at y3 ⊢
      rw [hr _ _ (by omega), hr _ _ (by omega), hr _ _ (by omega), hr _ _ (by omega)]
      refine ⟨y3.1, y3.2.1, y3.2.2.1, y3.2.2.2.1, y3.2.2.2.2.1, fun e he => ?_, y3.2.2.2.2.2.2⟩
      rw [hr _ _ (by omega)]
      exact y3.2.2.2.2.2.1 e he
    · rw [hro o ho] at hp
      rw [hro o' ho'] at hp'
      exact s3.2.2 o i p o' i' p' ho ho' hi hi' hp hp' ne
  · unfold rPr at s4 ⊢
    rw [hr07, ht, en]
    rcases s4 with z | ⟨q, q1, q2, q3, q4, q5⟩
    · exact Or.inl z
    · refine Or.inr ⟨q, q1, q2, q3, fun o i p ho hi hp => ?_, ?_⟩
      · rw [hro o ho] at hp
        exact q4 o i p ho hi hp
      · have e1 : (fun k j => if k < 16 then a_i h' (q + k) j else 0) = (fun k j => if k < 16 then a_i h (q + k) j else 0) := by
          funext k j
          by_cases hk : k < 16
          · rw [if_pos hk, if_pos hk]; exact hI _ _ (by omega)
          · rw [if_neg hk, if_neg hk]
        have e3 : (fun k j => if k < 16 then a_r h' (q + k) j else none) = (fun k j => if k < 16 then a_r h (q + k) j else none) := by
          funext k j
          by_cases hk : k < 16
          · rw [if_pos hk, if_pos hk]; exact hr _ _ (by omega)
          · rw [if_neg hk, if_neg hk]
        rw [e1, e3]
        exact q5
  · unfold rRm at s5 ⊢
    have : nul (a_r h') = nul (a_r h) := by
      unfold nul
      simp only [hr25, hr58]
    rw [hr07, en, ez, this]
    exact s5
  · exact rTo_fr (fun k j hk => hI _ _ (by omega)) (hG 0 (by omega)) (fun k h1 h2 => hG k (by omega)) r1
  · obtain ⟨k1, k2, k3, k4, k5, k6, k7, k8⟩ := r2
    exact ⟨n1, (hI 1 7 (by omega)).trans (k2.trans (hG 2 (by omega)).symm), (hI 1 9 (by omega)).trans (k3.trans (hG 6 (by omega)).symm), (hI 1 10 (by omega)).trans (k4.trans (hG 7 (by omega)).symm), (hI 1 11 (by omega)).trans (k5.trans (hG 8 (by omega)).symm), (hI 26 0 (by omega)).trans (k6.trans (hG 9 (by omega)).symm), (hI 26 1 (by omega)).trans (k7.trans (hG 10 (by omega)).symm), (hI 26 2 (by omega)).trans (k8.trans (hG 11 (by omega)).symm)⟩
  · exact rAg_fr (fun k j hk => hI _ _ (by omega)) (hG 4 (by omega)) (fun k h1 h2 => hG k (by omega)) r3
  · exact rHd_fr (fun k j hk => hI _ _ (by omega)) (hG 5 (by omega)) (fun k h1 h2 => hG k (by omega)) r4
  · unfold wG at r5 ⊢
    obtain ⟨k1, k2, k3, k4, k5, k6, k7, k8, k9, k10, k11, k12⟩ := r5
    rw [hG 0 (by omega), hG 2 (by omega), hG 3 (by omega), hG 4 (by omega), hG 5 (by omega), hG 6 (by omega), hG 7 (by omega), hG 8 (by omega)]
    refine ⟨k1, b1, ?_, k4, k5, k6, k7, k8, k9, fun e he => ?_, fun e he => ?_, fun e he => ?_⟩
    · unfold bt at k3 ⊢
      omega
    · rw [hG (12 + 4 * e) (by omega), hG (12 + 4 * e + 1) (by omega), hG (12 + 4 * e + 2) (by omega), hG (12 + 4 * e + 3) (by omega)]; exact k10 e he
    · rw [hG (30 + 3 * e) (by omega), hG (30 + 3 * e + 1) (by omega), hG (30 + 3 * e + 2) (by omega)]; exact k11 e he
    · rw [hG (54 + 4 * e) (by omega), hG (54 + 4 * e + 1) (by omega), hG (54 + 4 * e + 2) (by omega), hG (54 + 4 * e + 3) (by omega)]; exact k12 e he
  · rw [ed]
    exact rLn_fr (fun k j hk => hI _ _ (by omega)) (fun e he => by rw [hl]) r6
  · rw [ed]
    exact rBk_fr (fun k j hk => hI _ _ (by omega)) r7
  · exact rSt_g (hI _ _ (by omega)) (hI _ _ (by omega)) (hL 0 (Or.inl rfl)) (fun i _ => hr25 i) (hG 3 (by omega)) r5.2.2.2.1 (fun k h1 h2 => hG k (by omega)) r8
  · exact wH_fr (by rw [hG 0 (by omega)]; exact Nat.le_refl _) (hG 3 (by omega)) r5.2.2.2.1 (fun k h1 h2 => hG k (by omega)) r9
  · rw [show a_i h' 128 = a_i h 128 from funext fun j => hI _ _ (by omega)]
    exact rC_g (fun k j h1 h2 => hI _ _ (by omega)) (fun k _ _ => by rw [hl]) (hL 33 (Or.inr rfl)) (fun i p hi hn' hp => by rw [hro 33 (Or.inr rfl), hn'] at hp; exact absurd hp (by simp)) (fun _ _ => rfl) kk
  · rw [hI 128 1 (by omega)]
    exact Int.le_trans tn l1
end RELTX
