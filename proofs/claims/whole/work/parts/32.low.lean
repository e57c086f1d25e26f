/-! changes of the first numbers -/
section LOW
theorem ine {h : am_h} {p k : Nat} {v : Int32} {q j : Nat} (e : ¬ (q = p ∧ j = k)) : a_i (s_i h p k v) q j = a_i h q j := if_neg e
variable {X : PX} {h h' : am_h}
theorem wG_lo {g g' : Nat → Int32} (hg : ∀ k, k < 90 → ¬ (9 ≤ k ∧ k ≤ 11) → g' k = g k) (k : wG g) : wG g' := by
  have b0 := bt_n (m := 4) k.1 (by omega) (by omega)
  have b4 := bt_n (m := 8) k.2.2.2.2.1 (by omega) (by omega)
  have b5 := bt_n (m := 8) k.2.2.2.2.2.1 (by omega) (by omega)
  unfold wG at k ⊢
  rw [hg 0 (by omega) (by omega), hg 1 (by omega) (by omega), hg 2 (by omega) (by omega), hg 3 (by omega) (by omega), hg 4 (by omega) (by omega), hg 5 (by omega) (by omega), hg 6 (by omega) (by omega), hg 7 (by omega) (by omega), hg 8 (by omega) (by omega)]
  obtain ⟨k1, k2, k3, k4, k5, k6, k7, k8, k9, k10, k11, k12⟩ := k
  refine ⟨k1, k2, k3, k4, k5, k6, k7, k8, k9, fun e he => ?_, fun e he => ?_, fun e he => ?_⟩
  · rw [hg _ (by omega) (by omega), hg _ (by omega) (by omega), hg _ (by omega) (by omega), hg _ (by omega) (by omega)]; exact k10 e he
  · rw [hg _ (by omega) (by omega), hg _ (by omega) (by omega), hg _ (by omega) (by omega)]; exact k11 e he
  · rw [hg _ (by omega) (by omega), hg _ (by omega) (by omega), hg _ (by omega) (by omega), hg _ (by omega) (by omega)]; exact k12 e he
theorem Inv_lo (k : Inv X h) (ht : a_t h' = a_t h) (hr : a_r h' = a_r h) (hn : h'.1 = h.1) (hl : a_l h' = a_l h)
    (hI : ∀ q j, ¬ (2 ≤ q ∧ q ≤ 6) → ¬ (26 ≤ q ∧ q ≤ 33) → ¬ (q = 1 ∧ 6 ≤ j) → ¬ (q = 127 ∧ j < 90) → a_i h' q j = a_i h q j)
    (h0 : Nn (a_i h 127 0) ≤ Nn (a_i h' 127 0)) (h3 : a_i h' 127 3 = a_i h 127 3) (h1 : a_i h' 127 1 = a_i h 127 1)
    (c1 : rTo (a_i h') 0 (a_i h' 127) ∧ rMs (a_i h') 0 (a_i h' 127) ∧ rAg (a_i h') 0 (a_i h' 127) ∧ rHd (a_i h') 0 (a_i h' 127) ∧ wG (a_i h' 127)) : Inv X h' := by
  obtain ⟨⟨s1, s2, s3, s4, s5⟩, ⟨⟨r1, r2, r3, r4, r5⟩, r6, r7, r8, r9⟩, kk, tp, tn, tx⟩ := k
  have en : a_n h' = a_n h := congrArg Prod.fst hn
  have ez : a_z h' = a_z h := congrArg Prod.snd hn
  unfold Inv
  rw [ht, hr, hl, en, ez]
  refine ⟨⟨s1, s2, s3, rPr_fr (fun q j hq => hI q j (by omega) (by omega) (by omega) (by omega)) s4, s5⟩, ⟨c1, ?_, ?_, ?_, ?_⟩, ?_, ?_, ?_, ?_⟩
  · rw [dec_congr (g := a_i h' 127) (g' := a_i h 127) (b := 90) (b' := 90) (fun i hi => hI _ _ (by omega) (by omega) (by omega) (by omega))]
    exact rLn_fr (fun k j hk => hI _ _ (by omega) (by omega) (by omega) (by omega)) (fun e he => rfl) r6
  · rw [dec_congr (g := a_i h' 127) (g' := a_i h 127) (b := 90) (b' := 90) (fun i hi => hI _ _ (by omega) (by omega) (by omega) (by omega))]
    exact rBk_fr (fun k j hk => hI _ _ (by omega) (by omega) (by omega) (by omega)) r7
  · exact rSt_fr s3 (Or.inl rfl) (hI _ _ (by omega) (by omega) (by omega) (by omega)) (hI _ _ (by omega) (by omega) (by omega) (by omega)) (fun q j hq => hI _ _ (by omega) (by omega) (by omega) (by omega)) (fun q hq => rfl) h3 r5.2.2.2.1 (fun k h1 h2 => hI _ _ (by omega) (by omega) (by omega) (by omega)) r8
  · exact wH_fr h0 h3 r5.2.2.2.1 (fun k h1 h2 => hI _ _ (by omega) (by omega) (by omega) (by omega)) r9
  · exact rC_fr s3 (Or.inr rfl) (fun k j h1 h2 => hI _ _ (by omega) (by omega) (by omega) (by omega)) (fun q j hq => hI _ _ (by omega) (by omega) (by omega) (by omega)) (fun _ _ _ => rfl) (fun _ _ => rfl) (fun k hk => hI _ _ (by omega) (by omega) (by omega) (by omega)) kk
  · exact rTp_fr (fun j => hI _ _ (by omega) (by omega) (by omega) (by omega)) (fun j => hI _ _ (by omega) (by omega) (by omega) (by omega)) (fun j _ => hI _ _ (by omega) (by omega) (by omega) (by omega)) (fun j => hI _ _ (by omega) (by omega) (by omega) (by omega)) tp
  · rw [h1, hI 128 1 (by omega) (by omega) (by omega) (by omega)]; exact tn
  · intro t ht'
    rw [h1] at ht'
    have b1 := bt_n (m := 4) r5.2.1 (by omega) (by omega)
    exact rTx_fr (fun k j hk => hI _ _ (by omega) (by omega) (by omega) (by omega)) (fun k j h1 h2 => hI _ _ (by omega) (by omega) (by omega) (by omega)) (tx t ht')
/-- a refusal is counted on both sides -/
theorem Inv_ref (k : Inv X h) {r : Nat} (hr : r < 3) : Inv X (s_i (s_i h 26 r (a_i h 26 r + 1)) 127 (9 + r) (a_i h 127 (9 + r) + 1)) := by
  obtain ⟨r1, r2, r3, r4, r5⟩ := k.2.1.1
  have b0 := bt_n (m := 4) r5.1 (by omega) (by omega)
  have b4 := bt_n (m := 8) r5.2.2.2.2.1 (by omega) (by omega)
  have b5 := bt_n (m := 8) r5.2.2.2.2.2.1 (by omega) (by omega)
  refine Inv_lo k rfl rfl rfl rfl ?_ ?_ ?_ ?_ ⟨?_, ?_, ?_, ?_, ?_⟩
  · intro q j z1 z2 z3 z4
    simp (disch := omega) only [ine]
  · simp (disch := omega) only [ine, Nat.le_refl]
  · simp (disch := omega) only [ine]
  · simp (disch := omega) only [ine]
  · exact rTo_fr (fun k j hk => by simp (disch := omega) only [ine]) (by simp (disch := omega) only [ine]) (fun k h1 h2 => by simp (disch := omega) only [ine]) r1
  · unfold rMs at r2 ⊢
    obtain ⟨k1, k2, k3, k4, k5, k6, k7, k8⟩ := r2
    have : r = 0 ∨ r = 1 ∨ r = 2 := by omega
    rcases this with rfl | rfl | rfl <;> simp (disch := omega) only [ine, ie, ieq, Nat.reduceAdd, Nat.add_zero] at * <;> refine ⟨k1, k2, k3, k4, k5, ?_, ?_, ?_⟩ <;> simp only [k6, k7, k8]
  · exact rAg_fr (fun k j hk => by simp (disch := omega) only [ine]) (by simp (disch := omega) only [ine]) (fun k h1 h2 => by simp (disch := omega) only [ine]) r3
  · exact rHd_fr (fun k j hk => by simp (disch := omega) only [ine]) (by simp (disch := omega) only [ine]) (fun k h1 h2 => by simp (disch := omega) only [ine]) r4
  · exact wG_lo (fun k hk h2 => by simp (disch := omega) only [ine]) r5
/-- both sides, one after the other, answer the same, and all holds again -/
def opS (X : PX) (d : Nat) (M1 M2 : am_m) (as1 as2 : List Value) (h : am_h) : Prop := ∃ (r : Int32) (h1 h2 : am_h), (∀ Q, Cal d M1 as1 h Q = Q (some (.int r)) h1) ∧ (∀ Q, Cal d M2 as2 h1 Q = Q (some (.int r)) h2) ∧ Inv X h2
theorem both0.S {d : Nat} {M1 M2 : am_m} {as1 as2 : List Value} (k : both0 d M1 M2 as1 as2 h) (i : Inv X h) : opS X d M1 M2 as1 as2 h := by
  obtain ⟨r, k1, k2⟩ := k
  exact ⟨r, h, h, k1, k2, i⟩
end LOW
