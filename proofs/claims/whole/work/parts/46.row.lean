/-! one number of the row changes -/
section ROW
section
variable {g : Nat → Int32} {b i : Nat} {v : Int32}
theorem du_d0 : dec (ud g (b) v) b = up (dec g b) 0 0 v := by
  funext c' i'
  unfold up
  by_cases e : c' = 0 ∧ i' = 0
  · obtain ⟨rfl, rfl⟩ := e
    rw [if_pos ⟨rfl, rfl⟩]
    exact (dec_0 (g := ud g (b) v)).trans (ude rfl)
  · rw [if_neg e]
    unfold dec ud
    split <;> (repeat' split) <;> first | rfl | (exfalso; omega)
theorem du_d1 : dec (ud g (b + 1) v) b = up (dec g b) 0 1 v := by
  funext c' i'
  unfold up
  by_cases e : c' = 0 ∧ i' = 1
  · obtain ⟨rfl, rfl⟩ := e
    rw [if_pos ⟨rfl, rfl⟩]
    exact (dec_1 (g := ud g (b + 1) v)).trans (ude rfl)
  · rw [if_neg e]
    unfold dec ud
    split <;> (repeat' split) <;> first | rfl | (exfalso; omega)
theorem du_d2 : dec (ud g (b + 2) v) b = up (dec g b) 0 2 v := by
  funext c' i'
  unfold up
  by_cases e : c' = 0 ∧ i' = 2
  · obtain ⟨rfl, rfl⟩ := e
    rw [if_pos ⟨rfl, rfl⟩]
    exact (dec_2 (g := ud g (b + 2) v)).trans (ude rfl)
  · rw [if_neg e]
    unfold dec ud
    split <;> (repeat' split) <;> first | rfl | (exfalso; omega)
theorem du_d3 : dec (ud g (b + 75) v) b = up (dec g b) 0 3 v := by
  funext c' i'
  unfold up
  by_cases e : c' = 0 ∧ i' = 3
  · obtain ⟨rfl, rfl⟩ := e
    rw [if_pos ⟨rfl, rfl⟩]
    exact (dec_3 (g := ud g (b + 75) v)).trans (ude rfl)
  · rw [if_neg e]
    unfold dec ud
    split <;> (repeat' split) <;> first | rfl | (exfalso; omega)
theorem du_d4 : dec (ud g (b + 526) v) b = up (dec g b) 0 4 v := by
  funext c' i'
  unfold up
  by_cases e : c' = 0 ∧ i' = 4
  · obtain ⟨rfl, rfl⟩ := e
    rw [if_pos ⟨rfl, rfl⟩]
    exact (dec_4 (g := ud g (b + 526) v)).trans (ude rfl)
  · rw [if_neg e]
    unfold dec ud
    split <;> (repeat' split) <;> first | rfl | (exfalso; omega)
theorem du_c1 (hi : i < 4) : dec (ud g (b + 3 + i) v) b = up (dec g b) 1 i v := by
  funext c' i'
  unfold up
  by_cases e : c' = 1 ∧ i' = i
  · obtain ⟨rfl, rfl⟩ := e
    rw [if_pos ⟨rfl, rfl⟩]
    exact (dec_c1 hi).trans (ude rfl)
  · rw [if_neg e]
    unfold dec ud
    split <;> (repeat' split) <;> first | rfl | (exfalso; omega)
theorem du_c2 (hi : i < 4) : dec (ud g (b + 7 + i) v) b = up (dec g b) 2 i v := by
  funext c' i'
  unfold up
  by_cases e : c' = 2 ∧ i' = i
  · obtain ⟨rfl, rfl⟩ := e
    rw [if_pos ⟨rfl, rfl⟩]
    exact (dec_c2 hi).trans (ude rfl)
  · rw [if_neg e]
    unfold dec ud
    split <;> (repeat' split) <;> first | rfl | (exfalso; omega)
theorem du_c3 (hi : i < 4) : dec (ud g (b + 11 + i) v) b = up (dec g b) 3 i v := by
  funext c' i'
  unfold up
  by_cases e : c' = 3 ∧ i' = i
  · obtain ⟨rfl, rfl⟩ := e
    rw [if_pos ⟨rfl, rfl⟩]
    exact (dec_c3 hi).trans (ude rfl)
  · rw [if_neg e]
    unfold dec ud
    split <;> (repeat' split) <;> first | rfl | (exfalso; omega)
theorem du_c4 (hi : i < 4) : dec (ud g (b + 15 + i) v) b = up (dec g b) 4 i v := by
  funext c' i'
  unfold up
  by_cases e : c' = 4 ∧ i' = i
  · obtain ⟨rfl, rfl⟩ := e
    rw [if_pos ⟨rfl, rfl⟩]
    exact (dec_c4 hi).trans (ude rfl)
  · rw [if_neg e]
    unfold dec ud
    split <;> (repeat' split) <;> first | rfl | (exfalso; omega)
theorem du_c5 (hi : i < 4) : dec (ud g (b + 19 + i) v) b = up (dec g b) 5 i v := by
  funext c' i'
  unfold up
  by_cases e : c' = 5 ∧ i' = i
  · obtain ⟨rfl, rfl⟩ := e
    rw [if_pos ⟨rfl, rfl⟩]
    exact (dec_c5 hi).trans (ude rfl)
  · rw [if_neg e]
    unfold dec ud
    split <;> (repeat' split) <;> first | rfl | (exfalso; omega)
theorem du_c6 (hi : i < 4) : dec (ud g (b + 23 + i) v) b = up (dec g b) 6 i v := by
  funext c' i'
  unfold up
  by_cases e : c' = 6 ∧ i' = i
  · obtain ⟨rfl, rfl⟩ := e
    rw [if_pos ⟨rfl, rfl⟩]
    exact (dec_c6 hi).trans (ude rfl)
  · rw [if_neg e]
    unfold dec ud
    split <;> (repeat' split) <;> first | rfl | (exfalso; omega)
theorem du_c7 (hi : i < 16) : dec (ud g (b + 27 + i) v) b = up (dec g b) 7 i v := by
  funext c' i'
  unfold up
  by_cases e : c' = 7 ∧ i' = i
  · obtain ⟨rfl, rfl⟩ := e
    rw [if_pos ⟨rfl, rfl⟩]
    exact (dec_c7 hi).trans (ude rfl)
  · rw [if_neg e]
    unfold dec ud
    split <;> (repeat' split) <;> first | rfl | (exfalso; omega)
theorem du_c8 (hi : i < 16) : dec (ud g (b + 43 + i) v) b = up (dec g b) 8 i v := by
  funext c' i'
  unfold up
  by_cases e : c' = 8 ∧ i' = i
  · obtain ⟨rfl, rfl⟩ := e
    rw [if_pos ⟨rfl, rfl⟩]
    exact (dec_c8 hi).trans (ude rfl)
  · rw [if_neg e]
    unfold dec ud
    split <;> (repeat' split) <;> first | rfl | (exfalso; omega)
theorem du_c9 (hi : i < 16) : dec (ud g (b + 59 + i) v) b = up (dec g b) 9 i v := by
  funext c' i'
  unfold up
  by_cases e : c' = 9 ∧ i' = i
  · obtain ⟨rfl, rfl⟩ := e
    rw [if_pos ⟨rfl, rfl⟩]
    exact (dec_c9 hi).trans (ude rfl)
  · rw [if_neg e]
    unfold dec ud
    split <;> (repeat' split) <;> first | rfl | (exfalso; omega)
theorem du_c10 (hi : i < 90) : dec (ud g (b + 76 + 5 * i) v) b = up (dec g b) 10 i v := by
  funext c' i'
  unfold up
  by_cases e : c' = 10 ∧ i' = i
  · obtain ⟨rfl, rfl⟩ := e
    rw [if_pos ⟨rfl, rfl⟩]
    exact (dec_c10 hi).trans (ude rfl)
  · rw [if_neg e]
    unfold dec ud
    split <;> (repeat' split) <;> first | rfl | (exfalso; omega)
theorem du_c11 (hi : i < 90) : dec (ud g (b + 76 + 5 * i + 1) v) b = up (dec g b) 11 i v := by
  funext c' i'
  unfold up
  by_cases e : c' = 11 ∧ i' = i
  · obtain ⟨rfl, rfl⟩ := e
    rw [if_pos ⟨rfl, rfl⟩]
    exact (dec_c11 hi).trans (ude rfl)
  · rw [if_neg e]
    unfold dec ud
    split <;> (repeat' split) <;> first | rfl | (exfalso; omega)
theorem du_c12 (hi : i < 90) : dec (ud g (b + 76 + 5 * i + 2) v) b = up (dec g b) 12 i v := by
  funext c' i'
  unfold up
  by_cases e : c' = 12 ∧ i' = i
  · obtain ⟨rfl, rfl⟩ := e
    rw [if_pos ⟨rfl, rfl⟩]
    exact (dec_c12 hi).trans (ude rfl)
  · rw [if_neg e]
    unfold dec ud
    split <;> (repeat' split) <;> first | rfl | (exfalso; omega)
theorem du_c13 (hi : i < 90) : dec (ud g (b + 76 + 5 * i + 3) v) b = up (dec g b) 13 i v := by
  funext c' i'
  unfold up
  by_cases e : c' = 13 ∧ i' = i
  · obtain ⟨rfl, rfl⟩ := e
    rw [if_pos ⟨rfl, rfl⟩]
    exact (dec_c13 hi).trans (ude rfl)
  · rw [if_neg e]
    unfold dec ud
    split <;> (repeat' split) <;> first | rfl | (exfalso; omega)
theorem du_c14 (hi : i < 90) : dec (ud g (b + 76 + 5 * i + 4) v) b = up (dec g b) 14 i v := by
  funext c' i'
  unfold up
  by_cases e : c' = 14 ∧ i' = i
  · obtain ⟨rfl, rfl⟩ := e
    rw [if_pos ⟨rfl, rfl⟩]
    exact (dec_c14 hi).trans (ude rfl)
  · rw [if_neg e]
    unfold dec ud
    split <;> (repeat' split) <;> first | rfl | (exfalso; omega)
theorem du_c15 (hi : i < 40) : dec (ud g (b + 527 + 3 * i) v) b = up (dec g b) 15 i v := by
  funext c' i'
  unfold up
  by_cases e : c' = 15 ∧ i' = i
  · obtain ⟨rfl, rfl⟩ := e
    rw [if_pos ⟨rfl, rfl⟩]
    exact (dec_c15 hi).trans (ude rfl)
  · rw [if_neg e]
    unfold dec ud
    split <;> (repeat' split) <;> first | rfl | (exfalso; omega)
theorem du_c16 (hi : i < 40) : dec (ud g (b + 527 + 3 * i + 1) v) b = up (dec g b) 16 i v := by
  funext c' i'
  unfold up
  by_cases e : c' = 16 ∧ i' = i
  · obtain ⟨rfl, rfl⟩ := e
    rw [if_pos ⟨rfl, rfl⟩]
    exact (dec_c16 hi).trans (ude rfl)
  · rw [if_neg e]
    unfold dec ud
    split <;> (repeat' split) <;> first | rfl | (exfalso; omega)
theorem du_c17 (hi : i < 40) : dec (ud g (b + 527 + 3 * i + 2) v) b = up (dec g b) 17 i v := by
  funext c' i'
  unfold up
  by_cases e : c' = 17 ∧ i' = i
  · obtain ⟨rfl, rfl⟩ := e
    rw [if_pos ⟨rfl, rfl⟩]
    exact (dec_c17 hi).trans (ude rfl)
  · rw [if_neg e]
    unfold dec ud
    split <;> (repeat' split) <;> first | rfl | (exfalso; omega)
theorem upe {s : TS} {c : Nat} {v : Int32} : up s c i v c i = v := if_pos ⟨rfl, rfl⟩
theorem upn {s : TS} {c c' i' : Nat} {v : Int32} (e : ¬ (c' = c ∧ i' = i)) : up s c i v c' i' = s c' i' := if_neg e
end
variable {I I' : Nat → Nat → Int32} {J J' : Nat → Nat → Int64} {R R' : Nat → Nat → Option Nat} {g g' : Nat → Int32} {o p q e : Nat} {s : TS}
theorem rSt_g (h4 : I' (1 + o) 4 = I (1 + o) 4) (h5 : I' (1 + o) 5 = I (1 + o) 5) (hL : ∀ i p, i < 30 → R (25 + o) i = some p → R' (25 + o) i = some p ∧ (∀ k j, k < 9 → I' (p + k) j = I (p + k) j) ∧ ∀ e, e < 4 → J' (p + 5 + e) 13 = J (p + 5 + e) 13) (hR : ∀ i, i < 30 → R' (25 + o) i = R (25 + o) i) (h3 : g' 3 = g 3) (hb : bt 0 (g 3) 30) (hg : ∀ k, 740 ≤ k → k < 20150 → g' k = g k) (k8 : rSt I J R o g) : rSt I' J' R' o g' := by
  have b3 := bt_n (m := 30) hb (by omega) (by omega)
  unfold rSt at k8 ⊢
  obtain ⟨k81, ⟨m, k82, k83, k84⟩, k85⟩ := k8
  refine ⟨by rw [h4, h3]; exact k81, ⟨m, k82, by rw [h5]; exact k83, fun j hj => ?_⟩, fun i p hi hp e he => ?_⟩
  · rw [h3] at hj ⊢
    obtain ⟨p, r1, r2⟩ := k84 j hj
    obtain ⟨z1, z2, z3⟩ := hL _ p (Nat.mod_lt _ (by omega)) r1
    refine ⟨p, z1, ?_⟩
    rw [dec_congr (g := g') (g' := g) (b := 740 + 647 * j) (b' := 740 + 647 * j) (fun i hi => hg _ (by omega) (by omega))]
    exact rLn_fr z2 z3 r2
  · rw [hR i hi] at hp
    obtain ⟨z1, z2, z3⟩ := hL i p hi hp
    have := z2 (5 + e) 0 (by omega)
    rw [show p + (5 + e) = p + 5 + e by omega] at this
    rw [this]
    exact k85 i p hi hp e he
/-- cells that nothing is told by between two calls -/
def scr (q j : Nat) : Prop := (67 ≤ q ∧ q ≤ 84) ∨ (91 ≤ q ∧ q ≤ 93) ∨ (138 ≤ q ∧ q < 177) ∨ (q = 126 ∧ ¬ (3 ≤ j ∧ j ≤ 5))
variable {X : PX} {h h' : am_h}
theorem Inv_row (k : Inv X h) (ht : a_t h' = a_t h) (h1 : h'.1 = h.1) (hr : ∀ q j, ¬ (q = 91 ∧ j = 0) → a_r h' q j = a_r h q j)
    (hI : ∀ q j, ¬ (7 ≤ q ∧ q ≤ 24) → ¬ scr q j → ¬ (q = 127 ∧ 90 ≤ j ∧ j < 737) → a_i h' q j = a_i h q j)
    (hJ : ∀ q, (34 ≤ q ∧ q < 67) ∨ 177 ≤ q → a_l h' q 13 = a_l h q 13)
    (c6 : rLn (a_i h') (a_l h') 7 (dec (a_i h' 127) 90)) (c7 : rBk (a_i h') 0 (dec (a_i h' 127) 90)) (c9 : wS (Nn (a_i h 127 0)) (dec (a_i h' 127) 90)) (co : wOld (dec (a_i h 127) 90) (dec (a_i h' 127) 90)) : Inv X h' := by
  obtain ⟨⟨s1, s2, s3, s4, s5⟩, ⟨⟨r1, r2, r3, r4, r5⟩, r6, r7, r8, r9⟩, kk, tp, tn, tx⟩ := k
  have en : a_n h' = a_n h := congrArg Prod.fst h1
  have ez : a_z h' = a_z h := congrArg Prod.snd h1
  have b0 := bt_n (m := 4) r5.1 (by omega) (by omega)
  have b1 := bt_n (m := 4) r5.2.1 (by omega) (by omega)
  have b3 := bt_n (m := 30) r5.2.2.2.1 (by omega) (by omega)
  have b4 := bt_n (m := 8) r5.2.2.2.2.1 (by omega) (by omega)
  have b5 := bt_n (m := 8) r5.2.2.2.2.2.1 (by omega) (by omega)
  have hA : ∀ q j, (q < 7 ∨ (25 ≤ q ∧ q < 67) ∨ (85 ≤ q ∧ q < 91) ∨ (94 ≤ q ∧ q < 126) ∨ (128 ≤ q ∧ q < 138) ∨ 177 ≤ q) → a_i h' q j = a_i h q j := fun q j c => hI q j (by omega) (by unfold scr; omega) (by omega)
  have hG : ∀ j, (j < 90 ∨ 737 ≤ j) → a_i h' 127 j = a_i h 127 j := fun j c => hI 127 j (by omega) (by unfold scr; omega) (by omega)
  have hr25 : ∀ i, a_r h' 25 i = a_r h 25 i := fun i => hr _ _ (by omega)
  have hr58 : ∀ i, a_r h' 58 i = a_r h 58 i := fun i => hr _ _ (by omega)
  have hr07 : a_r h' 0 7 = a_r h 0 7 := hr _ _ (by omega)
  have hro : ∀ o, (o = 0 ∨ o = 33) → ∀ i, a_r h' (25 + o) i = a_r h (25 + o) i := fun o ho i => hr _ _ (by omega)
  have hL : ∀ o, (o = 0 ∨ o = 33) → ∀ i p, i < 30 → a_r h (25 + o) i = some p → a_r h' (25 + o) i = some p ∧ (∀ k j, k < 9 → a_i h' (p + k) j = a_i h (p + k) j) ∧ ∀ e, e < 4 → a_l h' (p + 5 + e) 13 = a_l h (p + 5 + e) 13 := by
    intro o ho i p hi hp
    have z := (s3.2.1 o i p ho hi hp).1
    exact ⟨by rw [hro o ho]; exact hp, fun k j _ => hA _ _ (by omega), fun e _ => hJ _ (by omega)⟩
  refine ⟨⟨sh_C_fr (fun q _ => by rw [ht]) (fun q j _ c => hr q j (by omega)) s1, sh_R_fr (fun q _ => by rw [ht]) (fun q j _ c => hr q j (by omega)) s2, ?_, ?_, ?_⟩, ⟨⟨?_, ?_, ?_, ?_, ?_⟩, c6, c7, ?_, ?_⟩, ?_, ?_, ?_, ?_⟩
  · rw [en, ht]
    refine ⟨s3.1, fun o i p ho hi hp => ?_, fun o i p o' i' p' ho ho' hi hi' hp hp' ne => ?_⟩
    · rw [hro o ho] at hp
      obtain ⟨y1, y2, y3⟩ := s3.2.1 o i p ho hi hp
      refine ⟨y1, y2, ?_⟩
      unfold shL at y3 ⊢
      rw [hr _ _ (by omega), hr _ _ (by omega), hr _ _ (by omega), hr _ _ (by omega)]
      refine ⟨y3.1, y3.2.1, y3.2.2.1, y3.2.2.2.1, y3.2.2.2.2.1, fun e he => ?_, y3.2.2.2.2.2.2⟩
      rw [hr _ _ (by omega)]
      exact y3.2.2.2.2.2.1 e he
    · rw [hro o ho] at hp
      rw [hro o' ho'] at hp'
      exact s3.2.2 o i p o' i' p' ho ho' hi hi' hp hp' ne
  · unfold rPr at s4 ⊢
    rw [hr07, ht, en]
    rcases s4 with z | ⟨q, q1, q2, q3, q4, q5⟩
    · exact Or.inl z
    · refine Or.inr ⟨q, q1, q2, q3, fun o i p ho hi hp => ?_, ?_⟩
      · rw [hro o ho] at hp
        exact q4 o i p ho hi hp
      · have e1 : (fun k j => if k < 16 then a_i h' (q + k) j else 0) = (fun k j => if k < 16 then a_i h (q + k) j else 0) := by
          funext k j
          by_cases hk : k < 16
          · rw [if_pos hk, if_pos hk]; exact hA _ _ (by omega)
          · rw [if_neg hk, if_neg hk]
        have e3 : (fun k j => if k < 16 then a_r h' (q + k) j else none) = (fun k j => if k < 16 then a_r h (q + k) j else none) := by
          funext k j
          by_cases hk : k < 16
          · rw [if_pos hk, if_pos hk]; exact hr _ _ (by omega)
          · rw [if_neg hk, if_neg hk]
        rw [e1, e3]
        exact q5
  · unfold rRm at s5 ⊢
    have : nul (a_r h') = nul (a_r h) := by
      unfold nul
      simp only [hr25, hr58]
    rw [hr07, en, ez, this]
    exact s5
  · exact rTo_fr (fun k j hk => hA _ _ (by omega)) (hG 0 (by omega)) (fun k h1 h2 => hG k (by omega)) r1
  · exact rMs_fr (fun j => hA _ _ (by omega)) (fun j => hA _ _ (by omega)) (fun k hk => hG k (by omega)) r2
  · exact rAg_fr (fun k j hk => hA _ _ (by omega)) (hG 4 (by omega)) (fun k h1 h2 => hG k (by omega)) r3
  · exact rHd_fr (fun k j hk => hA _ _ (by omega)) (hG 5 (by omega)) (fun k h1 h2 => hG k (by omega)) r4
  · exact wG_fr (fun k hk => hG k (by omega)) r5
  · exact rSt_g (hA _ _ (by omega)) (hA _ _ (by omega)) (hL 0 (Or.inl rfl)) (fun i _ => hr25 i) (hG 3 (by omega)) r5.2.2.2.1 (fun k h1 h2 => hG k (by omega)) r8
  · have e2 : ∀ j, j < 30 → dec (a_i h' 127) (740 + 647 * j) = dec (a_i h 127) (740 + 647 * j) := fun j hj => dec_congr (fun i hi => hG _ (by omega))
    unfold wH at r9 ⊢
    rw [hG 3 (by omega), hG 0 (by omega)]
    refine ⟨c9, fun j hj => ?_⟩
    have z := r9.2 j hj
    rw [e2 j (by omega)]
    exact ⟨z.1, wOld_tr z.2.1 co, fun j' hj' => by rw [e2 j' (by omega)]; exact z.2.2 j' hj'⟩
  · rw [show a_i h' 128 = a_i h 128 from funext fun j => hA _ _ (by omega)]
    exact rC_g (fun k j h1 h2 => hA _ _ (by omega)) (fun k _ _ => hJ _ (by omega)) (hL 33 (Or.inr rfl)) (fun i p hi hn' hp => by rw [hro 33 (Or.inr rfl), hn'] at hp; exact absurd hp (by simp)) (fun _ _ => rfl) kk
  · exact rTp_fr (fun j => hA _ _ (by omega)) (fun j => hA _ _ (by omega)) (fun j _ => hI _ _ (by omega) (by unfold scr; omega) (by omega)) (fun j => hA _ _ (by omega)) tp
  · rw [hG 1 (by omega), hA 128 1 (by omega)]; exact tn
  · intro t ht'
    rw [hG 1 (by omega)] at ht'
    exact rTx_fr (fun k j hk => hA _ _ (by omega)) (fun k j h1 h2 => hA _ _ (by omega)) (tx t ht')
/-- changes where nothing is told by -/
theorem Inv_scr (k : Inv X h) (ht : a_t h' = a_t h) (h1 : h'.1 = h.1) (hr : ∀ q j, ¬ (q = 91 ∧ j = 0) → a_r h' q j = a_r h q j) (hI : ∀ q j, ¬ scr q j → a_i h' q j = a_i h q j) (hJ : ∀ q, q < 67 ∨ 177 ≤ q → a_l h' q 13 = a_l h q 13) : Inv X h' := by
  have e : a_i h' 127 = a_i h 127 := funext fun j => hI _ _ (by unfold scr; omega)
  refine Inv_row k ht h1 hr (fun q j _ c _ => hI q j c) (fun q c => hJ q (by omega)) ?_ ?_ ?_ ?_
  · rw [e]
    exact rLn_fr (fun k j hk => hI _ _ (by unfold scr; omega)) (fun e he => hJ _ (by omega)) k.2.1.2.1
  · rw [e]
    exact rBk_fr (fun k j hk => hI _ _ (by unfold scr; omega)) k.2.1.2.2.1
  · rw [e]
    exact k.2.1.2.2.2.2.1
  · rw [e]
    exact wOld_refl
end ROW
