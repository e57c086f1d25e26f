/-! what a change elsewhere leaves -/
section FRAME
theorem iq {h : am_h} {p k : Nat} {v : Int32} {q j : Nat} (e : ¬ q = p) : a_i (s_i h p k v) q j = a_i h q j := by
  show (if q = p ∧ j = k then v else a_i h q j) = a_i h q j
  exact if_neg (fun z => e z.1)
theorem ik {h : am_h} {p k : Nat} {v : Int32} {q j : Nat} (e : ¬ j = k) : a_i (s_i h p k v) q j = a_i h q j := by
  show (if q = p ∧ j = k then v else a_i h q j) = a_i h q j
  exact if_neg (fun z => e z.2)
theorem ie {h : am_h} {p k : Nat} {v : Int32} : a_i (s_i h p k v) p k = v := if_pos ⟨rfl, rfl⟩
theorem ieq {h : am_h} {p k : Nat} {v : Int32} {q j : Nat} (e : q = p) (f : j = k) : a_i (s_i h p k v) q j = v := if_pos ⟨e, f⟩
variable {I I' : Nat → Nat → Int32} {J J' : Nat → Nat → Int64} {R R' : Nat → Nat → Option Nat} {g g' : Nat → Int32} {o p q e : Nat} {s : TS}
theorem rEn_fr (hI : ∀ j, I' q j = I q j) (hJ : J' q 13 = J q 13) (k : rEn I J q e s) : rEn I' J' q e s := by
  unfold rEn at k ⊢
  simpa only [hI, hJ] using k
theorem rLn_fr (hI : ∀ k j, k < 9 → I' (p + k) j = I (p + k) j) (hJ : ∀ e, e < 4 → J' (p + 5 + e) 13 = J (p + 5 + e) 13) (k : rLn I J p s) : rLn I' J' p s := by
  unfold rLn at k ⊢
  obtain ⟨k0, k1, k2, k3, k4, k5, k6⟩ := k
  have h0 := fun j => hI 0 j (by omega)
  have h1 := fun j => hI 1 j (by omega)
  have h2 := fun j => hI 2 j (by omega)
  have h3 := fun j => hI 3 j (by omega)
  simp only [Nat.add_zero] at h0
  refine ⟨by rw [h0]; exact k0, by rw [h0]; exact k1, by rw [h0]; exact k2, by rw [h0]; exact k3, by rw [h0]; exact k4, fun i hi => ?_, fun e he => ?_⟩
  · rw [h1, h2, h3]; exact k5 i hi
  · refine rEn_fr (fun j => ?_) (hJ e he) (k6 e he)
    have := hI (5 + e) j (by omega)
    rw [← Nat.add_assoc] at this
    exact this
theorem rBk_fr (hI : ∀ k j, k < 8 → I' (17 + o + k) j = I (17 + o + k) j) (k : rBk I o s) : rBk I' o s := by
  have h0 := fun j => hI 0 j (by omega)
  have h1 := fun j => hI 1 j (by omega)
  have h2 := fun j => hI 2 j (by omega)
  have h3 := fun j => hI 3 j (by omega)
  have h4 := fun j => hI 4 j (by omega)
  have h5 := fun j => hI 5 j (by omega)
  have h6 := fun j => hI 6 j (by omega)
  have h7 := fun j => hI 7 j (by omega)
  rw [show 17 + o + 0 = 17 + o by omega] at h0
  rw [show 17 + o + 1 = 18 + o by omega] at h1
  rw [show 17 + o + 2 = 19 + o by omega] at h2
  rw [show 17 + o + 3 = 20 + o by omega] at h3
  rw [show 17 + o + 4 = 21 + o by omega] at h4
  rw [show 17 + o + 5 = 22 + o by omega] at h5
  rw [show 17 + o + 6 = 23 + o by omega] at h6
  rw [show 17 + o + 7 = 24 + o by omega] at h7
  unfold rBk at k ⊢
  simpa only [h0, h1, h2, h3, h4, h5, h6, h7] using k
theorem rTo_fr (hI : ∀ k j, k < 5 → I' (2 + o + k) j = I (2 + o + k) j) (h0 : g' 0 = g 0) (hg : ∀ k, 12 ≤ k → k < 12 + 4 * Nn (g 0) → g' k = g k) (k : rTo I o g) : rTo I' o g' := by
  unfold rTo at k ⊢
  have i0 := hI 0 4 (by omega)
  rw [show 2 + o + 0 = 2 + o by omega] at i0
  refine ⟨by rw [i0, h0]; exact k.1, fun e he => ?_⟩
  rw [h0] at he
  have i1 := hI 1 e (by omega)
  have i2 := hI 2 e (by omega)
  have i3 := hI 3 e (by omega)
  have i4 := hI 4 e (by omega)
  rw [show 2 + o + 1 = 3 + o by omega] at i1
  rw [show 2 + o + 2 = 4 + o by omega] at i2
  rw [show 2 + o + 3 = 5 + o by omega] at i3
  rw [show 2 + o + 4 = 6 + o by omega] at i4
  rw [i1, i2, i3, i4, hg _ (by omega) (by omega), hg _ (by omega) (by omega), hg _ (by omega) (by omega), hg _ (by omega) (by omega)]
  exact k.2 e he
theorem rMs_fr (h1 : ∀ j, I' (1 + o) (6 + j) = I (1 + o) (6 + j)) (h2 : ∀ j, I' (26 + o) j = I (26 + o) j) (hg : ∀ k, k < 12 → g' k = g k) (k : rMs I o g) : rMs I' o g' := by
  unfold rMs at k ⊢
  have i6 := h1 0
  have i7 := h1 1
  have i9 := h1 3
  have i10 := h1 4
  have i11 := h1 5
  simp only [Nat.reduceAdd] at i6 i7 i9 i10 i11
  rw [i6, i7, i9, i10, i11, h2, h2, h2, hg 1 (by omega), hg 2 (by omega), hg 6 (by omega), hg 7 (by omega), hg 8 (by omega), hg 9 (by omega), hg 10 (by omega), hg 11 (by omega)]
  exact k
theorem rAg_fr (hI : ∀ k j, k < 4 → I' (27 + o + k) j = I (27 + o + k) j) (h0 : g' 4 = g 4) (hg : ∀ k, 30 ≤ k → k < 30 + 3 * Nn (g 4) → g' k = g k) (k : rAg I o g) : rAg I' o g' := by
  unfold rAg at k ⊢
  have i0 := hI 0 3 (by omega)
  rw [show 27 + o + 0 = 27 + o by omega] at i0
  refine ⟨by rw [i0, h0]; exact k.1, fun e he => ?_⟩
  rw [h0] at he
  have i1 := hI 1 e (by omega)
  have i2 := hI 2 e (by omega)
  have i3 := hI 3 e (by omega)
  rw [show 27 + o + 1 = 28 + o by omega] at i1
  rw [show 27 + o + 2 = 29 + o by omega] at i2
  rw [show 27 + o + 3 = 30 + o by omega] at i3
  rw [i1, i2, i3, hg _ (by omega) (by omega), hg _ (by omega) (by omega), hg _ (by omega) (by omega)]
  exact k.2 e he
theorem rHd_fr (hI : ∀ k j, k < 3 → I' (31 + o + k) j = I (31 + o + k) j) (h0 : g' 5 = g 5) (hg : ∀ k, 54 ≤ k → k < 54 + 4 * Nn (g 5) → g' k = g k) (k : rHd I o g) : rHd I' o g' := by
  unfold rHd at k ⊢
  have i0 := hI 0 2 (by omega)
  rw [show 31 + o + 0 = 31 + o by omega] at i0
  refine ⟨by rw [i0, h0]; exact k.1, fun e he => ?_⟩
  rw [h0] at he
  have i1 := hI 1 e (by omega)
  have i2 := hI 2 e (by omega)
  rw [show 31 + o + 1 = 32 + o by omega] at i1
  rw [show 31 + o + 2 = 33 + o by omega] at i2
  rw [i1, i2, hg _ (by omega) (by omega), hg _ (by omega) (by omega), hg _ (by omega) (by omega), hg _ (by omega) (by omega)]
  exact k.2 e he
theorem bt_n {lo hi : Int} {v : Int32} {m : Nat} (k : bt lo v hi) (h0 : 0 ≤ lo) (hm : hi ≤ m) : Nn v ≤ m := by
  unfold bt at k
  unfold Nn Int32.toNatClampNeg
  omega
theorem bt_i {lo hi : Int} {v : Int32} (k : bt lo v hi) (h0 : 0 ≤ lo) : (Nn v : Int) = v.toInt := by
  unfold bt at k
  unfold Nn Int32.toNatClampNeg
  omega
theorem bt_e {lo hi : Int} {v : Int32} (k : bt lo v hi) (h0 : 0 ≤ lo) (hh : hi < 2000000000) : v = nI (Nn v) := by
  have e := bt_i k h0
  unfold bt at k
  apply Int32.toInt_inj.mp
  rw [nI_i (by omega)]
  exact e.symm
theorem rSt_fr {n : Nat} {t : Nat → Nat × Nat} (hD : shD n t R) (ho : o = 0 ∨ o = 33) (h4 : I' (1 + o) 4 = I (1 + o) 4) (h5 : I' (1 + o) 5 = I (1 + o) 5) (hI : ∀ q j, 177 ≤ q → I' q j = I q j) (hJ : ∀ q, 177 ≤ q → J' q 13 = J q 13) (h0 : g' 3 = g 3) (hb : bt 0 (g 3) 30) (hg : ∀ k, 740 ≤ k → k < 20150 → g' k = g k) (k : rSt I J R o g) : rSt I' J' R o g' := by
  unfold rSt at k ⊢
  obtain ⟨k1, ⟨m, k2, k3, k4⟩, k5⟩ := k
  refine ⟨by rw [h4, h0]; exact k1, ⟨m, k2, by rw [h5]; exact k3, fun j hj => ?_⟩, fun i p hi hp e he => ?_⟩
  · rw [h0] at hj ⊢
    have hN := bt_n (m := 30) hb (by omega) (by omega)
    obtain ⟨p, r1, r2⟩ := k4 j hj
    have sp := (hD.2.1 o _ p ho (Nat.mod_lt _ (by omega)) r1).1
    refine ⟨p, r1, ?_⟩
    rw [dec_congr (g := g') (g' := g) (b := 740 + 647 * j) (b' := 740 + 647 * j) (fun i hi => hg _ (by omega) (by omega))]
    exact rLn_fr (fun i j _ => hI _ j (by omega)) (fun e _ => hJ _ (by omega)) r2
  · have sp := (hD.2.1 o i p ho hi hp).1
    rw [hI _ _ (by omega)]
    exact k5 i p hi hp e he
theorem wS_mono {n m : Nat} (hm : n ≤ m) (k : wS n s) : wS m s := by
  unfold wS at k ⊢
  obtain ⟨k1, k2, k3, k4, k5, k6, k7, k8, k9, k10⟩ := k
  refine ⟨k1, k2, k3, k4, fun e he => ?_, k6, fun i hi => ?_, k8, k9, fun i hi => ?_⟩
  · have := k5 e he
    unfold bt at *
    refine ⟨this.1, ⟨this.2.1.1, by omega⟩, this.2.2⟩
  · have := k7 i hi
    unfold wTn at *
    refine ⟨?_, this.2⟩
    have := this.1
    unfold bt at *
    omega
  · have := k10 i hi
    refine ⟨?_, this.2⟩
    have := this.1
    unfold bt at *
    omega
theorem wH_fr (h0 : Nn (g 0) ≤ Nn (g' 0)) (h3 : g' 3 = g 3) (hb : bt 0 (g 3) 30) (hg : ∀ k, 90 ≤ k → k < 20150 → g' k = g k) (k : wH g) : wH g' := by
  have hN := bt_n (m := 30) hb (by omega) (by omega)
  have e1 : dec g' 90 = dec g 90 := dec_congr (fun i hi => hg _ (by omega) (by omega))
  have e2 : ∀ j, j < 30 → dec g' (740 + 647 * j) = dec g (740 + 647 * j) := fun j hj => dec_congr (fun i hi => hg _ (by omega) (by omega))
  unfold wH at k ⊢
  rw [e1, h3]
  refine ⟨wS_mono h0 k.1, fun j hj => ?_⟩
  have kj := k.2 j hj
  rw [e2 j (by omega)]
  exact ⟨wS_mono h0 kj.1, kj.2.1, fun j' hj' => by rw [e2 j' (by omega)]; exact kj.2.2 j' hj'⟩
theorem wG_fr (hg : ∀ k, k < 90 → g' k = g k) (k : wG g) : wG g' := by
  have b0 := bt_n (m := 4) k.1 (by omega) (by omega)
  have b4 := bt_n (m := 8) k.2.2.2.2.1 (by omega) (by omega)
  have b5 := bt_n (m := 8) k.2.2.2.2.2.1 (by omega) (by omega)
  unfold wG at k ⊢
  rw [hg 0 (by omega), hg 1 (by omega), hg 2 (by omega), hg 3 (by omega), hg 4 (by omega), hg 5 (by omega), hg 6 (by omega), hg 7 (by omega), hg 8 (by omega)]
  obtain ⟨k1, k2, k3, k4, k5, k6, k7, k8, k9, k10, k11, k12⟩ := k
  refine ⟨k1, k2, k3, k4, k5, k6, k7, k8, k9, fun e he => ?_, fun e he => ?_, fun e he => ?_⟩
  · rw [hg _ (by omega), hg _ (by omega), hg _ (by omega), hg _ (by omega)]; exact k10 e he
  · rw [hg _ (by omega), hg _ (by omega), hg _ (by omega)]; exact k11 e he
  · rw [hg _ (by omega), hg _ (by omega), hg _ (by omega), hg _ (by omega)]; exact k12 e he
theorem rC_fr {n : Nat} {t : Nat → Nat × Nat} (hD : shD n t R) (ho : o = 0 ∨ o = 33) (hI : ∀ k j, 1 ≤ k → k < 34 → I' (k + o) j = I (k + o) j) (hI2 : ∀ q j, 177 ≤ q → I' q j = I q j) (hJ : ∀ k, 7 ≤ k → k < 16 → J' (k + o) 13 = J (k + o) 13) (hJ2 : ∀ q, 177 ≤ q → J' q 13 = J q 13) (hg : ∀ k, k < 20150 → g' k = g k) (k : rC I J R o g) : rC I' J' R o g' := by
  obtain ⟨⟨k1, k2, k3, k4, k5⟩, k6, k7, k8, k9⟩ := k
  have b0 := bt_n (m := 4) k5.1 (by omega) (by omega)
  have b4 := bt_n (m := 8) k5.2.2.2.2.1 (by omega) (by omega)
  have b5 := bt_n (m := 8) k5.2.2.2.2.2.1 (by omega) (by omega)
  have c : ∀ a k j, a + k < 34 → 1 ≤ a + k → I' (a + o + k) j = I (a + o + k) j := by
    intro a k j h1 h2
    rw [show a + o + k = (a + k) + o by omega]
    exact hI _ _ h2 h1
  refine ⟨⟨rTo_fr (fun k j hk => c 2 k j (by omega) (by omega)) (hg 0 (by omega)) (fun k h1 h2 => hg k (by omega)) k1, rMs_fr (fun j => hI 1 _ (by omega) (by omega)) (fun j => hI 26 _ (by omega) (by omega)) (fun k hk => hg k (by omega)) k2, rAg_fr (fun k j hk => c 27 k j (by omega) (by omega)) (hg 4 (by omega)) (fun k h1 h2 => hg k (by omega)) k3, rHd_fr (fun k j hk => c 31 k j (by omega) (by omega)) (hg 5 (by omega)) (fun k h1 h2 => hg k (by omega)) k4, wG_fr (fun k hk => hg k (by omega)) k5⟩, ?_, ?_, ?_, ?_⟩
  · rw [dec_congr (g := g') (g' := g) (b := 90) (b' := 90) (fun i hi => hg _ (by omega))]
    refine rLn_fr (fun k j hk => c 7 k j (by omega) (by omega)) (fun e he => ?_) k6
    rw [show 7 + o + 5 + e = (12 + e) + o by omega]
    exact hJ _ (by omega) (by omega)
  · rw [dec_congr (g := g') (g' := g) (b := 90) (b' := 90) (fun i hi => hg _ (by omega))]
    exact rBk_fr (fun k j hk => c 17 k j (by omega) (by omega)) k7
  · exact rSt_fr hD ho (hI 1 _ (by omega) (by omega)) (hI 1 _ (by omega) (by omega)) hI2 hJ2 (hg 3 (by omega)) k5.2.2.2.1 (fun k h1 h2 => hg k h2) k8
  · exact wH_fr (by rw [hg 0 (by omega)]; exact Nat.le_refl _) (hg 3 (by omega)) k5.2.2.2.1 (fun k h1 h2 => hg k h2) k9
theorem rTp_fr (h86 : ∀ j, I' 86 (j + 1) = I 86 (j + 1)) (h87 : ∀ j, I' 87 j = I 87 j) (h126 : ∀ j, j < 3 → I' 126 (3 + j) = I 126 (3 + j)) (h129 : ∀ j, I' 129 j = I 129 j) (k : rTp I) : rTp I' := by
  unfold rTp at k ⊢
  have a1 := h86 0
  have a2 := h86 1
  have a3 := h86 2
  have b3 := h126 0 (by omega)
  have b4 := h126 1 (by omega)
  have b5 := h126 2 (by omega)
  simp only [Nat.reduceAdd] at a1 a2 a3 b3 b4 b5
  simp only [a1, a2, a3, b3, b4, b5, h87, h129]
  exact k
theorem rLaw_fr {w c f n x : Nat} (hc : ∀ j, I' c j = I c j) (h6 : ∀ j, I' 136 j = I 136 j) (h7 : ∀ j, I' 137 j = I 137 j) (k : rLaw I w c f n x) : rLaw I' w c f n x := by
  unfold rLaw at k ⊢
  simpa only [hc, h6, h7] using k
theorem rTx_fr {t : Nat} (hq : ∀ k j, k < 8 → I' (94 + 8 * t + k) j = I (94 + 8 * t + k) j) (hr : ∀ k j, 130 ≤ k → k < 138 → I' k j = I k j) (k : rTx I t) : rTx I' t := by
  have h0 := fun j => hq 0 j (by omega)
  rw [show 94 + 8 * t + 0 = 94 + 8 * t by omega] at h0
  unfold rTx at k ⊢
  obtain ⟨k1, k2, k3, k4⟩ := k
  have r0 := fun j => hr 130 j (by omega) (by omega)
  have r1 := fun j => hr 131 j (by omega) (by omega)
  have r2 := fun j => hr 132 j (by omega) (by omega)
  have r3 := fun j => hr 133 j (by omega) (by omega)
  have r4 := fun j => hr 134 j (by omega) (by omega)
  have r5 := fun j => hr 135 j (by omega) (by omega)
  have q1 := fun j => hq 1 j (by omega)
  have q2 := fun j => hq 2 j (by omega)
  have q3 := fun j => hq 3 j (by omega)
  have q4 := fun j => hq 4 j (by omega)
  have q5 := fun j => hq 5 j (by omega)
  have q6 := fun j => hq 6 j (by omega)
  refine ⟨by rw [h0, r0]; exact k1, by rw [r0]; exact k2, fun k hk => ?_, fun w hw => ?_⟩
  · rw [r0] at hk
    simp only [q1, q2, q3, q4, r1, r3, r4, r5]
    exact k3 k hk
  · rcases k4 w hw with z | ⟨k, f, n, x, z1, z2, z3, z4, z5, z6, z7, z8, z9⟩
    · refine Or.inl ?_
      simp only [q5, r0, r1]
      exact z
    · refine Or.inr ⟨k, f, n, x, ?_⟩
      simp only [q5, q6, r0, r1, r2]
      exact ⟨z1, z2, z3, z4, z5, z6, z7, z8, rLaw_fr (fun j => hq 7 j (by omega)) (fun j => hr 136 j (by omega) (by omega)) (fun j => hr 137 j (by omega) (by omega)) z9⟩
theorem rPr_fr {X : PX} {n : Nat} {t : Nat → Nat × Nat} (hI : ∀ q j, 177 ≤ q → I' q j = I q j) (k : rPr X n t I R) : rPr X n t I' R := by
  unfold rPr at k ⊢
  rcases k with k | ⟨q, k1, k2, k3, k4, k5⟩
  · exact Or.inl k
  · refine Or.inr ⟨q, k1, k2, k3, k4, ?_⟩
    have e : (fun k j => if k < 16 then I' (q + k) j else 0) = (fun k j => if k < 16 then I (q + k) j else 0) := by
      funext k j
      by_cases hk : k < 16
      · rw [if_pos hk, if_pos hk]; exact hI _ _ (by omega)
      · rw [if_neg hk, if_neg hk]
    rw [e]; exact k5
end FRAME
