/-! a step kept on both sides: all holds again -/
section KEEP
set_option maxRecDepth 20000 in
theorem sh_C_fr {t t' : Nat → Nat × Nat} {r r' : Nat → Nat → Option Nat} (ht : ∀ q, q < 177 → t' q = t q) (hr : ∀ q j, q < 177 → ¬ (q = 25 ∨ q = 58 ∨ (q = 0 ∧ j = 7) ∨ (q = 86 ∧ j = 4) ∨ (q = 91 ∧ j = 0)) → r' q j = r q j) (k : sh_C t r) : sh_C t' r' := by
  unfold sh_C at k ⊢
  simp (disch := omega) only [ht, hr]
  exact k
set_option maxRecDepth 20000 in
theorem sh_R_fr {t t' : Nat → Nat × Nat} {r r' : Nat → Nat → Option Nat} (ht : ∀ q, q < 177 → t' q = t q) (hr : ∀ q j, q < 177 → ¬ (q = 25 ∨ q = 58 ∨ (q = 0 ∧ j = 7) ∨ (q = 86 ∧ j = 4) ∨ (q = 91 ∧ j = 0)) → r' q j = r q j) (k : sh_R t r) : sh_R t' r' := by
  unfold sh_R at k ⊢
  simp (disch := omega) only [ht, hr]
  exact k
variable {I I' : Nat → Nat → Int32} {J J' : Nat → Nat → Int64} {R R' : Nat → Nat → Option Nat} {g g' : Nat → Int32} {o p q e : Nat} {s : TS}
theorem rC_g (hI : ∀ k j, 1 ≤ k → k < 34 → I' (k + o) j = I (k + o) j) (hJ : ∀ k, 7 ≤ k → k < 16 → J' (k + o) 13 = J (k + o) 13) (hL : ∀ i p, i < 30 → R (25 + o) i = some p → R' (25 + o) i = some p ∧ (∀ k j, k < 9 → I' (p + k) j = I (p + k) j) ∧ ∀ e, e < 4 → J' (p + 5 + e) 13 = J (p + 5 + e) 13) (hZ : ∀ i p, i < 30 → R (25 + o) i = none → R' (25 + o) i = some p → ∀ e, e < 4 → I' (p + 5 + e) 0 = 0 ∨ I' (p + 5 + e) 0 = 1) (hg : ∀ k, k < 20150 → g' k = g k) (k : rC I J R o g) : rC I' J' R' o g' := by
  obtain ⟨⟨k1, k2, k3, k4, k5⟩, k6, k7, k8, k9⟩ := k
  have b0 := bt_n (m := 4) k5.1 (by omega) (by omega)
  have b4 := bt_n (m := 8) k5.2.2.2.2.1 (by omega) (by omega)
  have b5 := bt_n (m := 8) k5.2.2.2.2.2.1 (by omega) (by omega)
  have b3 := bt_n (m := 30) k5.2.2.2.1 (by omega) (by omega)
  have c : ∀ a k j, a + k < 34 → 1 ≤ a + k → I' (a + o + k) j = I (a + o + k) j := by
    intro a k j h1 h2
    rw [show a + o + k = (a + k) + o by omega]
    exact hI _ _ h2 h1
  refine ⟨⟨rTo_fr (fun k j hk => c 2 k j (by omega) (by omega)) (hg 0 (by omega)) (fun k h1 h2 => hg k (by omega)) k1, rMs_fr (fun j => hI 1 _ (by omega) (by omega)) (fun j => hI 26 _ (by omega) (by omega)) (fun k hk => hg k (by omega)) k2, rAg_fr (fun k j hk => c 27 k j (by omega) (by omega)) (hg 4 (by omega)) (fun k h1 h2 => hg k (by omega)) k3, rHd_fr (fun k j hk => c 31 k j (by omega) (by omega)) (hg 5 (by omega)) (fun k h1 h2 => hg k (by omega)) k4, wG_fr (fun k hk => hg k (by omega)) k5⟩, ?_, ?_, ?_, ?_⟩
  · rw [dec_congr (g := g') (g' := g) (b := 90) (b' := 90) (fun i hi => hg _ (by omega))]
    refine rLn_fr (fun k j hk => c 7 k j (by omega) (by omega)) (fun e he => ?_) k6
    rw [show 7 + o + 5 + e = (12 + e) + o by omega]
    exact hJ _ (by omega) (by omega)
  · rw [dec_congr (g := g') (g' := g) (b := 90) (b' := 90) (fun i hi => hg _ (by omega))]
    exact rBk_fr (fun k j hk => c 17 k j (by omega) (by omega)) k7
  · unfold rSt at k8 ⊢
    obtain ⟨k81, ⟨m, k82, k83, k84⟩, k85⟩ := k8
    have h3 := hg 3 (by omega)
    refine ⟨by rw [hI 1 4 (by omega) (by omega), h3]; exact k81, ⟨m, k82, by rw [hI 1 5 (by omega) (by omega)]; exact k83, fun j hj => ?_⟩, fun i p hi hp e he => ?_⟩
    · rw [h3] at hj ⊢
      obtain ⟨p, r1, r2⟩ := k84 j hj
      obtain ⟨z1, z2, z3⟩ := hL _ p (Nat.mod_lt _ (by omega)) r1
      refine ⟨p, z1, ?_⟩
      rw [dec_congr (g := g') (g' := g) (b := 740 + 647 * j) (b' := 740 + 647 * j) (fun i hi => hg _ (by omega))]
      exact rLn_fr z2 z3 r2
    · cases hr : R (25 + o) i with
      | none => exact hZ i p hi hr hp e he
      | some p' =>
        obtain ⟨z1, z2, z3⟩ := hL i p' hi hr
        rw [z1] at hp
        injection hp with hp
        subst hp
        have := z2 (5 + e) 0 (by omega)
        rw [show p' + (5 + e) = p' + 5 + e by omega] at this
        rw [this]
        exact k85 i p' hi hr e he
  · exact wH_fr (by rw [hg 0 (by omega)]; exact Nat.le_refl _) (hg 3 (by omega)) k5.2.2.2.1 (fun k h1 h2 => hg k h2) k9
theorem itr_add {f : Nat → Nat} : ∀ (k i a : Nat), itr (fun i a => a + f i) i k a = a + itr (fun i a => a + f i) i k 0 := by
  intro k
  induction k with
  | zero => intro i a; rfl
  | succ k ih =>
    intro i a
    show itr (fun i a => a + f i) (i + 1) k (a + f i) = a + itr (fun i a => a + f i) (i + 1) k (0 + f i)
    rw [ih, ih (a := 0 + f i)]
    omega
theorem itr_one {f f' : Nat → Nat} {i0 : Nat} (hf : ∀ i, ¬ i = i0 → f' i = f i) (h0 : f i0 = f' i0 + 1) : ∀ (k i : Nat), i ≤ i0 → i0 < i + k → itr (fun i a => a + f i) i k 0 = itr (fun i a => a + f' i) i k 0 + 1 := by
  have same : ∀ (k i : Nat), i0 < i → itr (fun i a => a + f i) i k 0 = itr (fun i a => a + f' i) i k 0 := by
    intro k
    induction k with
    | zero => intro i _; rfl
    | succ k ih =>
      intro i hi
      show itr (fun i a => a + f i) (i + 1) k (0 + f i) = itr (fun i a => a + f' i) (i + 1) k (0 + f' i)
      rw [itr_add, itr_add (a := 0 + f' i), ih (i + 1) (by omega), hf i (by omega)]
  intro k
  induction k with
  | zero => intro i h1 h2; omega
  | succ k ih =>
    intro i h1 h2
    show itr (fun i a => a + f i) (i + 1) k (0 + f i) = itr (fun i a => a + f' i) (i + 1) k (0 + f' i) + 1
    rw [itr_add, itr_add (a := 0 + f' i)]
    by_cases c : i = i0
    · subst c
      rw [same k (i + 1) (by omega)]
      omega
    · rw [ih (i + 1) (by omega) (by omega), hf i c]
      omega
theorem nul_one {i p : Nat} (ho : o = 0 ∨ o = 33) (hi : i < 30) (h0 : R (25 + o) i = none) (h1 : R' (25 + o) i = some p) (hR : ∀ q j, ¬ (q = 25 + o ∧ j = i) → R' q j = R q j) : nul R = nul R' + 1 := by
  unfold nul
  have e : ∀ r : Nat → Nat → Option Nat, (fun i a => a + (if r 25 i = none then 1 else 0) + (if r 58 i = none then 1 else 0)) = (fun i a => a + ((if r 25 i = none then 1 else 0) + (if r 58 i = none then 1 else 0) : Nat)) := by
    intro r
    funext i a
    omega
  rw [e, e]
  refine itr_one (i0 := i) (fun j hj => ?_) ?_ 30 0 (by omega) (by omega)
  · rw [hR 25 j (by omega), hR 58 j (by omega)]
  · rcases ho with rfl | rfl
    · rw [hR 58 i (by omega)]
      simp only [Nat.add_zero] at h0 h1
      rw [h0, h1]
      simp; omega
    · rw [hR 25 i (by omega)]
      simp only [Nat.reduceAdd] at h0 h1
      rw [h0, h1]
      simp
variable {X : PX} {h h' : am_h}
/-- a line that was made for a step changes nothing else -/
theorem Inv_new (k : Inv X h) (ho : o = 0 ∨ o = 33) {i : Nat} (hi : i < 30) (h0 : a_r h (25 + o) i = none) (w : nwL h h' (25 + o) i) : Inv X h' := by
  obtain ⟨w1, w2, w3, w4, w5, w6⟩ := w
  obtain ⟨⟨s1, s2, s3, s4, s5⟩, c0, c1, tp, tn, tx⟩ := k
  have hn := s3.1
  have ht : ∀ q, q < 177 → a_t h' q = a_t h q := fun q hq => (w6 q (by omega)).1
  have hr : ∀ q j, q < 177 → ¬ (q = 25 ∨ q = 58 ∨ (q = 0 ∧ j = 7) ∨ (q = 86 ∧ j = 4) ∨ (q = 91 ∧ j = 0)) → a_r h' q j = a_r h q j := fun q j hq c => ((w6 q (by omega)).2 j).2.2 (by omega)
  have hI : ∀ q j, q < a_n h → a_i h' q j = a_i h q j := fun q j hq => ((w6 q (by omega)).2 j).1
  have hJ : ∀ q j, q < a_n h → a_l h' q j = a_l h q j := fun q j hq => ((w6 q (by omega)).2 j).2.1
  have hR : ∀ q j, q < a_n h → ¬ (q = 25 + o ∧ j = i) → a_r h' q j = a_r h q j := fun q j hq c => ((w6 q (by omega)).2 j).2.2 c
  have hS : ∀ o' i' p', (o' = 0 ∨ o' = 33) → i' < 30 → a_r h' (25 + o') i' = some p' → (o' = o ∧ i' = i ∧ p' = a_n h) ∨ (¬ (o' = o ∧ i' = i) ∧ a_r h (25 + o') i' = some p') := by
    intro o' i' p' ho' hi' e
    by_cases c : o' = o ∧ i' = i
    · obtain ⟨rfl, rfl⟩ := c
      rw [w5] at e
      injection e with e
      exact Or.inl ⟨rfl, rfl, e.symm⟩
    · rw [hR _ _ (by omega) (by omega)] at e
      exact Or.inr ⟨c, e⟩
  have hr07 : a_r h' 0 7 = a_r h 0 7 := hR _ _ (by omega) (by omega)
  have nulE : nul (a_r h) = nul (a_r h') + 1 := by
    have : nul (a_r h') = nul (fun q j => if q = 25 + o ∧ j = i then some (a_n h) else a_r h q j) := by
      unfold nul
      congr 1
      funext i' a
      show a + (if a_r h' 25 i' = none then 1 else 0) + (if a_r h' 58 i' = none then 1 else 0) = a + (if (if 25 = 25 + o ∧ i' = i then some (a_n h) else a_r h 25 i') = none then 1 else 0) + (if (if 58 = 25 + o ∧ i' = i then some (a_n h) else a_r h 58 i') = none then 1 else 0)
      by_cases c1 : 25 = 25 + o ∧ i' = i
      · rw [if_pos c1, hR 58 i' (by omega) (by omega), if_neg (c := 58 = 25 + o ∧ i' = i) (by omega), c1.2, show a_r h' 25 i = some (a_n h) from by have := w5; rw [← c1.1] at this; exact this]
      · rw [if_neg c1, hR 25 i' (by omega) (by omega)]
        by_cases c2 : 58 = 25 + o ∧ i' = i
        · rw [if_pos c2, c2.2, show a_r h' 58 i = some (a_n h) from by have := w5; rw [← c2.1] at this; exact this]
        · rw [if_neg c2, hR 58 i' (by omega) (by omega)]
    rw [this]
    exact nul_one (o := o) ho hi h0 (if_pos ⟨rfl, rfl⟩) (fun q j c => if_neg c)
  have hC : ∀ o', (o' = 0 ∨ o' = 33) → ∀ g, rC (a_i h) (a_l h) (a_r h) o' g → rC (a_i h') (a_l h') (a_r h') o' g := by
    intro o' ho' g kk
    refine rC_g (fun k j _ _ => hI _ _ (by omega)) (fun k _ _ => hJ _ _ (by omega)) (fun i' p' hi' hp' => ?_) (fun i' p' hi' hn' hp' e he => ?_) (fun _ _ => rfl) kk
    · have sp := s3.2.1 o' i' p' ho' hi' hp'
      refine ⟨?_, fun k j hk => hI _ _ (by omega), fun e he => hJ _ _ (by omega)⟩
      by_cases c : o' = o ∧ i' = i
      · obtain ⟨rfl, rfl⟩ := c
        rw [h0] at hp'
        exact absurd hp' (by simp)
      · rw [hR _ _ (by omega) (by omega)]
        exact hp'
    · rcases hS o' i' p' ho' hi' hp' with ⟨_, _, rfl⟩ | ⟨_, z⟩
      · exact Or.inl (w4 e he)
      · rw [hn'] at z
        exact absurd z (by simp)
  have sL : ∀ p, 177 ≤ p → p + 9 ≤ a_n h → shL (a_t h) (a_r h) p → shL (a_t h') (a_r h') p := by
    intro p hp1 hp2 z
    have tt : ∀ k, k < 9 → a_t h' (p + k) = a_t h (p + k) := fun k hk => (w6 (p + k) (by omega)).1
    have rr : ∀ k j, k < 9 → a_r h' (p + k) j = a_r h (p + k) j := fun k j hk => hR _ _ (by omega) (by omega)
    have t0 := tt 0 (by omega)
    have r0 := fun j => rr 0 j (by omega)
    simp only [Nat.add_zero] at t0 r0
    unfold shL at z ⊢
    rw [t0, tt 1 (by omega), tt 2 (by omega), tt 3 (by omega), tt 4 (by omega), r0, r0, r0, r0]
    refine ⟨z.1, z.2.1, z.2.2.1, z.2.2.2.1, z.2.2.2.2.1, fun e he => ?_, z.2.2.2.2.2.2⟩
    have te := tt (5 + e) (by omega)
    rw [← Nat.add_assoc] at te
    rw [te, rr 4 e (by omega)]
    exact z.2.2.2.2.2.1 e he
  refine ⟨⟨sh_C_fr ht hr s1, sh_R_fr ht hr s2, ⟨by omega, fun o' i' p' ho' hi' e => ?_, fun o1 i1 p1 o2 i2 p2 z1 z2 z3 z4 z5 z6 z7 => ?_⟩, ?_, ?_⟩, ?_, ?_, ?_, ?_, ?_⟩
  · rcases hS o' i' p' ho' hi' e with ⟨rfl, rfl, rfl⟩ | ⟨_, z⟩
    · exact ⟨by omega, by omega, w1⟩
    · obtain ⟨y1, y2, y3⟩ := s3.2.1 o' i' p' ho' hi' z
      exact ⟨y1, by omega, sL p' y1 y2 y3⟩
  · rcases hS o1 i1 p1 z1 z3 z5 with ⟨rfl, rfl, rfl⟩ | ⟨_, y1⟩ <;> rcases hS o2 i2 p2 z2 z4 z6 with ⟨rfl, rfl, rfl⟩ | ⟨_, y2⟩
    · exact absurd ⟨rfl, rfl⟩ z7
    · have := (s3.2.1 _ _ _ z2 z4 y2).2.1
      omega
    · have := (s3.2.1 _ _ _ z1 z3 y1).2.1
      omega
    · exact s3.2.2 o1 i1 p1 o2 i2 p2 z1 z2 z3 z4 y1 y2 z7
  · unfold rPr at s4 ⊢
    rw [hr07]
    rcases s4 with z | ⟨q, q1, q2, q3, q4, q5⟩
    · exact Or.inl z
    · refine Or.inr ⟨q, q1, q2, by omega, fun o' i' p' ho' hi' e => ?_, ?_⟩
      · rcases hS o' i' p' ho' hi' e with ⟨rfl, rfl, rfl⟩ | ⟨_, z⟩
        · omega
        · exact q4 o' i' p' ho' hi' z
      · have e1 : (fun k j => if k < 16 then a_i h' (q + k) j else 0) = (fun k j => if k < 16 then a_i h (q + k) j else 0) := by
          funext k j
          by_cases hk : k < 16
          · rw [if_pos hk, if_pos hk]; exact hI _ _ (by omega)
          · rw [if_neg hk, if_neg hk]
        have e2 : (fun k => if k < 16 then a_t h' (q + k) else (0, 0)) = (fun k => if k < 16 then a_t h (q + k) else (0, 0)) := by
          funext k
          by_cases hk : k < 16
          · rw [if_pos hk, if_pos hk]; exact (w6 _ (by omega)).1
          · rw [if_neg hk, if_neg hk]
        have e3 : (fun k j => if k < 16 then a_r h' (q + k) j else none) = (fun k j => if k < 16 then a_r h (q + k) j else none) := by
          funext k j
          by_cases hk : k < 16
          · rw [if_pos hk, if_pos hk]; exact hR _ _ (by omega) (by omega)
          · rw [if_neg hk, if_neg hk]
        rw [e1, e2, e3]
        exact q5
  · unfold rRm at s5 ⊢
    rw [hr07, w2, w3]
    have := nulE
    omega
  · rw [show a_i h' 127 = a_i h 127 from funext fun j => hI _ _ (by omega)]
    exact hC 0 (Or.inl rfl) _ c0
  · rw [show a_i h' 128 = a_i h 128 from funext fun j => hI _ _ (by omega)]
    exact hC 33 (Or.inr rfl) _ c1
  · exact rTp_fr (fun j => hI _ _ (by omega)) (fun j => hI _ _ (by omega)) (fun j _ => hI _ _ (by omega)) (fun j => hI _ _ (by omega)) tp
  · rw [hI 128 1 (by omega), hI 127 1 (by omega)]; exact tn
  · intro t ht'
    rw [hI 127 1 (by omega)] at ht'
    have b1 := bt_n (m := 4) c0.1.2.2.2.2.2.1 (by omega) (by omega)
    exact rTx_fr (fun k j hk => hI _ _ (by omega)) (fun k j h1 h2 => hI _ _ (by omega)) (tx t ht')
end KEEP
