/-! two fresh ends: what is kept of them; they are made -/
section PAIRNEW
variable {X : PX} {d : Nat} {h h' y y' : am_h} {q : Nat} {m : FMo}
/-- the pair's cells alone change, or are new -/
theorem Inv_pr (k : Inv X h) (hq : 177 ≤ q) (hn : a_n h ≤ a_n h') (qn : q + 16 ≤ a_n h') (r07 : a_r h' 0 7 = some q)
    (ap : ∀ o i p, (o = 0 ∨ o = 33) → i < 30 → a_r h (25 + o) i = some p → p + 9 ≤ q ∨ q + 16 ≤ p)
    (ht : ∀ p, ¬ (q ≤ p ∧ p < q + 16) → a_t h' p = a_t h p) (hr : ∀ p j, ¬ (q ≤ p ∧ p < q + 16) → ¬ (p = 0 ∧ j = 7) → a_r h' p j = a_r h p j)
    (hI : ∀ p j, ¬ (q ≤ p ∧ p < q + 16) → a_i h' p j = a_i h p j) (hJ : ∀ p j, ¬ (q ≤ p ∧ p < q + 16) → a_l h' p j = a_l h p j)
    (rm : rRm (a_n h') (a_z h') (a_r h')) (x : X q (fun k j => if k < 16 then a_i h' (q + k) j else 0) (fun k => if k < 16 then a_t h' (q + k) else (0, 0)) (fun k j => if k < 16 then a_r h' (q + k) j else none)) : Inv X h' := by
  obtain ⟨⟨s1, s2, s3, s4, s5⟩, c0, c1, tp, tn, tx⟩ := k
  have hs : ∀ o i, (o = 0 ∨ o = 33) → a_r h' (25 + o) i = a_r h (25 + o) i := fun o i ho => hr _ _ (by omega) (by omega)
  have hC : ∀ o', (o' = 0 ∨ o' = 33) → ∀ g, rC (a_i h) (a_l h) (a_r h) o' g → rC (a_i h') (a_l h') (a_r h') o' g := by
    intro o' ho' g kk
    refine rC_g (fun k j _ _ => hI _ _ (by omega)) (fun k _ _ => hJ _ _ (by omega)) (fun i' p' hi' hp' => ?_) (fun i' p' hi' hn' hp' e he => ?_) (fun _ _ => rfl) kk
    · have z := ap o' i' p' ho' hi' hp'
      have sp := s3.2.1 o' i' p' ho' hi' hp'
      exact ⟨by rw [hs o' i' ho']; exact hp', fun k j hk => hI _ _ (by omega), fun e he => hJ _ _ (by omega)⟩
    · rw [hs o' i' ho', hn'] at hp'
      exact absurd hp' (by simp)
  refine ⟨⟨sh_C_fr (fun p hp => ht p (by omega)) (fun p j hp c => hr p j (by omega) (by omega)) s1, sh_R_fr (fun p hp => ht p (by omega)) (fun p j hp c => hr p j (by omega) (by omega)) s2, ⟨by omega, fun o i p ho hi e => ?_, fun o1 i1 p1 o2 i2 p2 z1 z2 z3 z4 z5 z6 z7 => ?_⟩, Or.inr ⟨q, r07, hq, qn, fun o i p ho hi e => ?_, x⟩, rm⟩, ?_, ?_, ?_, ?_, ?_⟩
  · rw [hs o i ho] at e
    have z := ap o i p ho hi e
    obtain ⟨y1, y2, y3⟩ := s3.2.1 o i p ho hi e
    refine ⟨y1, by omega, ?_⟩
    have tt : ∀ k, k < 9 → a_t h' (p + k) = a_t h (p + k) := fun k hk => ht _ (by omega)
    have rr : ∀ k j, k < 9 → a_r h' (p + k) j = a_r h (p + k) j := fun k j hk => hr _ _ (by omega) (by omega)
    have t0 := tt 0 (by omega)
    have r0 := fun j => rr 0 j (by omega)
    simp only [Nat.add_zero] at t0 r0
    unfold shL at y3 ⊢
    rw [t0, tt 1 (by omega), tt 2 (by omega), tt 3 (by omega), tt 4 (by omega), r0, r0, r0, r0]
    refine ⟨y3.1, y3.2.1, y3.2.2.1, y3.2.2.2.1, y3.2.2.2.2.1, fun e he => ?_, y3.2.2.2.2.2.2⟩
    have te := tt (5 + e) (by omega)
    rw [← Nat.add_assoc] at te
    rw [te, rr 4 e (by omega)]
    exact y3.2.2.2.2.2.1 e he
  · rw [hs o1 i1 z1] at z5
    rw [hs o2 i2 z2] at z6
    exact s3.2.2 o1 i1 p1 o2 i2 p2 z1 z2 z3 z4 z5 z6 z7
  · rw [hs o i ho] at e
    exact ap o i p ho hi e
  · rw [show a_i h' 127 = a_i h 127 from funext fun j => hI _ _ (by omega)]
    exact hC 0 (Or.inl rfl) _ c0
  · rw [show a_i h' 128 = a_i h 128 from funext fun j => hI _ _ (by omega)]
    exact hC 33 (Or.inr rfl) _ c1
  · exact rTp_fr (fun j => hI _ _ (by omega)) (fun j => hI _ _ (by omega)) (fun j _ => hI _ _ (by omega)) (fun j => hI _ _ (by omega)) tp
  · rw [hI 128 1 (by omega), hI 127 1 (by omega)]; exact tn
  · intro t ht'
    rw [hI 127 1 (by omega)] at ht'
    have b1 := bt_n (m := 4) c0.1.2.2.2.2.2.1 (by omega) (by omega)
    exact rTx_fr (fun k j hk => hI _ _ (by omega)) (fun k j h1 h2 => hI _ _ (by omega)) (tx t ht')
theorem shP_cg {t t' : Nat → Nat × Nat} {r r' : Nat → Nat → Option Nat} (ht : ∀ k, k < 16 → t' (q + k) = t (q + k)) (hr : ∀ k j, k < 16 → r' (q + k) j = r (q + k) j) (k : shP t r q) : shP t' r' q := by
  have t0 := ht 0 (by omega)
  have r0 := fun j => hr 0 j (by omega)
  simp only [Nat.add_zero] at t0 r0
  unfold shP at k ⊢
  rw [t0, ht 1 (by omega), ht 2 (by omega), ht 3 (by omega), ht 6 (by omega), ht 9 (by omega), ht 12 (by omega), ht 13 (by omega), ht 14 (by omega), ht 15 (by omega)]
  simp only [r0]
  obtain ⟨k1, k2, k3, k4, k5, k6, k7, k8, k9, k10, k11, k12⟩ := k
  refine ⟨k1, k2, k3, k4, k5, k6, k7, k8, k9, k10, fun e he => ?_, k12⟩
  have a4 := ht (4 + e) (by omega)
  have a7 := ht (7 + e) (by omega)
  have a10 := ht (10 + e) (by omega)
  rw [← Nat.add_assoc] at a4 a7 a10
  rw [a4, a7, a10, hr 3 e (by omega), hr 6 e (by omega), hr 9 e (by omega)]
  exact k11 e he
/-- what comes, whatever it is -/
noncomputable def ansV (m : FMo) : Nat := @dite Nat (∃ b, isAns m b) (Classical.propDecidable _) (fun h => Classical.choose h) (fun _ => 0)
theorem ansV_e {b : Nat} (k : isAns m b) : ansV m = b := by
  have h : ∃ b, isAns m b := ⟨b, k⟩
  have e : ansV m = Classical.choose h := by
    unfold ansV
    exact dif_pos h
  rw [e]
  exact (Classical.choose_spec h).uq k
/-- of 625 pairs of waits, whether the i-th comes apart -/
def gA (a b L S i : Nat) : Prop := ¬ ansV (mkM (i / 25) (i % 25) a b L S) = 0
/-- those of the first n that come apart, in a row -/
def flD (a b L S n K : Nat) (row : Nat → Nat) : Prop := (∀ j, j < K → row j < n ∧ gA a b L S (row j)) ∧ (∀ i, i < n → gA a b L S i → ∃ j, j < K ∧ row j = i) ∧ ∀ j j', j < j' → j' < K → row j < row j'
/-- what the row holds of what was asked last -/
def apX (A : Nat → Nat → Int32) (q : Nat) : Prop := A q 12 = -1 ∨ ∃ (a b L S K : Nat) (row : Nat → Nat), a ≤ 60 ∧ b ≤ 60 ∧ L ≤ 99 ∧ S ≤ 99 ∧ A (q + 2) 0 = nI (1 + a) ∧ A (q + 2) 1 = nI (1 + b) ∧ A q 2 = nI L ∧ A q 3 = nI S ∧ K ≤ 625 ∧ A q 12 = nI K ∧ (∀ j, j < K → A (q + 15) j = nI (row j)) ∧ flD a b L S 625 K row
def XP : PX := fun q I t r => shP (fun p => t (p - q)) (fun p j => r (p - q) j) q ∧ apX (fun p j => I (p - q) j) q
theorem XP_mk (sP : shP (a_t y) (a_r y) q) (ax : apX (a_i y) q) : XP q (fun k j => if k < 16 then a_i y (q + k) j else 0) (fun k => if k < 16 then a_t y (q + k) else (0, 0)) (fun k j => if k < 16 then a_r y (q + k) j else none) := by
  refine ⟨shP_cg (t := a_t y) (r := a_r y) (fun k hk => ?_) (fun k j hk => ?_) sP, ?_⟩
  · show (if q + k - q < 16 then a_t y (q + (q + k - q)) else (0, 0)) = _
    rw [if_pos (by omega), show q + (q + k - q) = q + k by omega]
  · show (if q + k - q < 16 then a_r y (q + (q + k - q)) j else none) = _
    rw [if_pos (by omega), show q + (q + k - q) = q + k by omega]
  · have e : ∀ k j, k < 16 → (if q + k - q < 16 then a_i y (q + (q + k - q)) j else 0) = a_i y (q + k) j := fun k j hk => by
      rw [if_pos (by omega), show q + (q + k - q) = q + k by omega]
    have e0 := fun j => e 0 j (by omega)
    simp only [Nat.add_zero] at e0
    unfold apX at ax ⊢
    simp only [e0, e 2 _ (by omega), e 15 _ (by omega)]
    exact ax
theorem XP_un (k : XP q (fun k j => if k < 16 then a_i y (q + k) j else 0) (fun k => if k < 16 then a_t y (q + k) else (0, 0)) (fun k j => if k < 16 then a_r y (q + k) j else none)) : shP (a_t y) (a_r y) q ∧ apX (a_i y) q := by
  obtain ⟨sP, ax⟩ := k
  refine ⟨shP_cg (fun k hk => ?_) (fun k j hk => ?_) sP, ?_⟩
  · show _ = (if q + k - q < 16 then a_t y (q + (q + k - q)) else (0, 0))
    rw [if_pos (by omega), show q + (q + k - q) = q + k by omega]
  · show _ = (if q + k - q < 16 then a_r y (q + (q + k - q)) j else none)
    rw [if_pos (by omega), show q + (q + k - q) = q + k by omega]
  · have e : ∀ k j, k < 16 → (if q + k - q < 16 then a_i y (q + (q + k - q)) j else 0) = a_i y (q + k) j := fun k j hk => by
      rw [if_pos (by omega), show q + (q + k - q) = q + k by omega]
    have e0 := fun j => e 0 j (by omega)
    simp only [Nat.add_zero] at e0
    unfold apX at ax ⊢
    simp only [e0, e 2 _ (by omega), e 15 _ (by omega)] at ax
    exact ax
end PAIRNEW
