/-! a line's cells against the model -/
section LINE
variable {I I' : Nat → Nat → Int32} {J J' : Nat → Nat → Int64} {p q e n T i : Nat} {s x : TS} {b l sp z kd : Int32}
def rMe (I : Nat → Nat → Int32) (J : Nat → Nat → Int64) (q e : Nat) (s : TS) : Prop :=
  I q 0 = s 1 e ∧ I q 1 = s 2 e ∧ I q 2 = s 3 e ∧ I q 3 = s 4 e ∧ I q 5 = s 5 e ∧ I q 6 = s 6 e ∧ I q 10 = s 18 e ∧ I q 11 = s 19 e ∧ I q 12 = s 20 e
  ∧ (s 1 e = 1 → I q 7 = s 21 e ∧ I q 8 = s 22 e ∧ I q 9 = s 23 e) ∧ ∀ k, k < 64 → ((J q 13).toBitVec.getLsbD k = true ↔ s (30 + e) k = 1)
def rM (I : Nat → Nat → Int32) (J : Nat → Nat → Int64) (p : Nat) (s : TS) : Prop :=
  (I p 0 = s 0 1 ∧ I p 1 = s 0 0 ∧ I p 2 = s 0 2 ∧ I p 3 = s 0 3 ∧ I p 4 = s 0 4)
  ∧ (∀ k, k < 16 → I (p + 1) k = s 7 k ∧ I (p + 2) k = s 8 k ∧ I (p + 3) k = s 9 k)
  ∧ ∀ e, e < 4 → rMe I J (p + 5 + e) e s
theorem cn_c (hs : ∀ c i, c < 18 → x c i = s c i) {k : Int32} : cn x e k = cn s e k := by
  unfold cn
  simp (disch := omega) only [hs]
theorem lend_c (hs : ∀ c i, c < 18 → x c i = s c i) : lend x e = lend s e := by
  unfold lend
  simp (disch := omega) only [hs]
theorem spk_c (hs : ∀ c i, c < 18 → x c i = s c i) {y : Int} : spk x e y = spk s e y := by
  unfold spk
  simp (disch := omega) only [hs]
theorem wS_c (hs : ∀ c i, c < 18 → x c i = s c i) (k : wS n s) : wS n x := by
  unfold wS wTn at *
  simp (disch := omega) only [hs]
  exact k
/-- the columns beyond, as the cells have them -/
def ext (I : Nat → Nat → Int32) (J : Nat → Nat → Int64) (p : Nat) (s : TS) : TS := fun c i => if c < 18 then s c i else if c = 18 then I (p + 5 + i) 10 else if c = 19 then I (p + 5 + i) 11 else if c = 20 then I (p + 5 + i) 12 else if c = 21 then I (p + 5 + i) 7 else if c = 22 then I (p + 5 + i) 8 else if c = 23 then I (p + 5 + i) 9 else if c < 30 then 0 else if (J (p + 5 + (c - 30)) 13).toBitVec.getLsbD i = true then 1 else 0
theorem ext_b {c : Nat} (hc : 30 ≤ c) : ext I J p s c i = if (J (p + 5 + (c - 30)) 13).toBitVec.getLsbD i = true then 1 else 0 := by
  unfold ext
  rw [if_neg (by omega), if_neg (by omega), if_neg (by omega), if_neg (by omega), if_neg (by omega), if_neg (by omega), if_neg (by omega), if_neg (by omega)]
theorem rLn_M (k : rLn I J p s) : (∀ c i, c < 18 → ext I J p s c i = s c i) ∧ rM I J p (ext I J p s) ∧ D1 (fun _ => s 0 1 + 1) (ext I J p s) ∧ Dh (ext I J p s) (s 0 1).toInt := by
  have hs : ∀ c i, c < 18 → ext I J p s c i = s c i := fun c i hc => if_pos hc
  obtain ⟨k0, k1, k2, k3, k4, k5, k6⟩ := k
  refine ⟨hs, ⟨⟨k0, k1, k2, k3, k4⟩, k5, fun e he => ?_⟩, fun e he => ?_, fun e j he hj => ?_⟩
  · obtain ⟨z1, z2, z3, z4, z5, z6, z7, z8, z9, z10, z11⟩ := k6 e he
    refine ⟨z1, z2, z3, z4, z5, z6, rfl, rfl, rfl, fun _ => ⟨rfl, rfl, rfl⟩, fun j hj => ?_⟩
    rw [ext_b (by omega), show 30 + e - 30 = e by omega]
    by_cases c : (J (p + 5 + e) 13).toBitVec.getLsbD j = true
    · rw [if_pos c]; simp [c]
    · rw [if_neg c]; simp [c]
  · obtain ⟨z1, z2, z3, z4, z5, z6, z7, z8, z9, z10, z11⟩ := k6 e he
    rw [cn_c hs, cn_c hs, lend_c hs]
    refine ⟨z7, z8, z9, fun q i hi h10 h13 => ?_⟩
    exact z10 q i hi h10 h13
  · obtain ⟨z1, z2, z3, z4, z5, z6, z7, z8, z9, z10, z11⟩ := k6 e he
    rw [ext_b (by omega), show 30 + e - 30 = e by omega, spk_c hs, ← z11 j hj]
    by_cases c : (J (p + 5 + e) 13).toBitVec.getLsbD j = true
    · rw [if_pos c]; simp [c]
    · rw [if_neg c]; simp [c]
theorem rM_Ln (hs : ∀ c i, c < 18 → x c i = s c i) (m : rM I J p x) (d1 : D1 (fun _ => x 0 1 + 1) x) (dh : Dh x (x 0 1).toInt) : rLn I J p s := by
  obtain ⟨⟨m0, m1, m2, m3, m4⟩, m5, m6⟩ := m
  have h0 := fun i => hs 0 i (by omega)
  refine ⟨m0.trans (h0 1), m1.trans (h0 0), m2.trans (h0 2), m3.trans (h0 3), m4.trans (h0 4), fun i hi => ?_, fun e he => ?_⟩
  · have := m5 i hi
    rw [hs 7 i (by omega), hs 8 i (by omega), hs 9 i (by omega)] at this
    exact this
  · obtain ⟨z1, z2, z3, z4, z5, z6, z7, z8, z9, z10, z11⟩ := m6 e he
    obtain ⟨a1, a2, a3, a4⟩ := d1 e he
    rw [cn_c hs] at a1 a2
    rw [lend_c hs] at a3
    refine ⟨z1.trans (hs _ _ (by omega)), z2.trans (hs _ _ (by omega)), z3.trans (hs _ _ (by omega)), z4.trans (hs _ _ (by omega)), z5.trans (hs _ _ (by omega)), z6.trans (hs _ _ (by omega)), z7.trans a1, z8.trans a2, z9.trans a3, fun q i hi h10 h13 => ?_, fun j hj => ?_⟩
    · rw [← hs 1 e (by omega)] at q
      rw [← h0 3] at hi
      rw [← hs 10 i (by omega)] at h10
      rw [← hs 13 i (by omega)] at h13
      obtain ⟨y1, y2, y3⟩ := z10 q
      obtain ⟨b1, b2, b3⟩ := a4 q i hi h10 h13
      refine ⟨y1.trans b1, y2.trans (b2.trans (hs _ _ (by omega))), ?_⟩
      rw [y3, b3, h0 1, hs 11 i (by omega)]
    · rw [z11 j hj, dh e j he hj, spk_c hs, h0 1]
theorem rM_opn (k : rM I J p s) (he : e < 4) (h0 : I' (p + 5 + e) 0 = 1) (h3 : I' (p + 5 + e) 3 = 0) (h7 : I' (p + 5 + e) 7 = nI T) (h8 : I' (p + 5 + e) 8 = l) (h9 : I' (p + 5 + e) 9 = sp) (h10 : I' (p + 5 + e) 10 = I (p + 5 + e) 10 + 1) (ho : ∀ j, j = 1 ∨ j = 2 ∨ j = 5 ∨ j = 6 ∨ j = 11 ∨ j = 12 → I' (p + 5 + e) j = I (p + 5 + e) j) (hp3 : I' p 3 = nI (T + 1)) (hp : ∀ q j, p ≤ q → q < p + 9 → ¬ q = p + 5 + e → ¬ (q = p ∧ j = 3) → I' q j = I q j) : rM I' J p (opn s e T b l sp) := by
  obtain ⟨⟨m0, m1, m2, m3, m4⟩, m5, m6⟩ := k
  refine ⟨⟨?_, ?_, ?_, ?_, ?_⟩, fun i hi => ?_, fun e' he' => ?_⟩
  · rw [hp p 0 (by omega) (by omega) (by omega) (by omega), opn_0 (by omega)]; exact m0
  · rw [hp p 1 (by omega) (by omega) (by omega) (by omega), opn_0 (by omega)]; exact m1
  · rw [hp p 2 (by omega) (by omega) (by omega) (by omega), opn_0 (by omega)]; exact m2
  · rw [hp3, opn_03]
  · rw [hp p 4 (by omega) (by omega) (by omega) (by omega), opn_0 (by omega)]; exact m4
  · rw [hp (p + 1) i (by omega) (by omega) (by omega) (by omega), hp (p + 2) i (by omega) (by omega) (by omega) (by omega), hp (p + 3) i (by omega) (by omega) (by omega) (by omega)]
    unfold opn
    simp (disch := omega) only [upn]
    exact m5 i hi
  · obtain ⟨z1, z2, z3, z4, z5, z6, z7, z8, z9, z10, z11⟩ := m6 e' he'
    by_cases c : e' = e
    · subst c
      unfold rMe opn
      simp (disch := omega) only [upn, upe']
      rw [h0, ho 1 (by omega), ho 2 (by omega), h3, ho 5 (by omega), ho 6 (by omega), h10, ho 11 (by omega), ho 12 (by omega), h7, h8, h9]
      refine ⟨rfl, z2, z3, rfl, z5, z6, by rw [z7], z8, z9, fun _ => ⟨rfl, rfl, rfl⟩, z11⟩
    · have hq : ∀ j, I' (p + 5 + e') j = I (p + 5 + e') j := fun j => hp _ j (by omega) (by omega) (by omega) (by omega)
      unfold rMe opn
      simp (disch := omega) only [upn, hq]
      exact ⟨z1, z2, z3, z4, z5, z6, z7, z8, z9, z10, z11⟩
theorem rM_cls (k : rM I J p s) (he : e < 4) (h0 : I' (p + 5 + e) 0 = 0) (h1 : I' (p + 5 + e) 1 = 0) (h11 : I' (p + 5 + e) 11 = I (p + 5 + e) 11 + (if kd = 2 then 1 else 0)) (h12 : I' (p + 5 + e) 12 = if 0 < s 23 e then z else I (p + 5 + e) 12) (ho : ∀ j, j = 2 ∨ j = 3 ∨ j = 5 ∨ j = 6 ∨ j = 10 → I' (p + 5 + e) j = I (p + 5 + e) j) (hp : ∀ q j, p ≤ q → q < p + 9 → ¬ q = p + 5 + e → I' q j = I q j) : rM I' J p (cls s e i z kd) := by
  obtain ⟨⟨m0, m1, m2, m3, m4⟩, m5, m6⟩ := k
  have p0 := fun j => hp p j (by omega) (by omega) (by omega)
  refine ⟨⟨?_, ?_, ?_, ?_, ?_⟩, fun i hi => ?_, fun e' he' => ?_⟩
  · rw [p0, cls_03]; exact m0
  · rw [p0, cls_03]; exact m1
  · rw [p0, cls_03]; exact m2
  · rw [p0, cls_03]; exact m3
  · rw [p0, cls_03]; exact m4
  · rw [hp (p + 1) i (by omega) (by omega) (by omega), hp (p + 2) i (by omega) (by omega) (by omega), hp (p + 3) i (by omega) (by omega) (by omega)]
    unfold cls
    simp (disch := omega) only [upn]
    exact m5 i hi
  · obtain ⟨z1, z2, z3, z4, z5, z6, z7, z8, z9, z10, z11⟩ := m6 e' he'
    by_cases c : e' = e
    · subst c
      unfold rMe cls
      simp (disch := omega) only [upn, upe']
      rw [h0, h1, ho 2 (by omega), ho 3 (by omega), ho 5 (by omega), ho 6 (by omega), ho 10 (by omega), h11, h12]
      refine ⟨rfl, rfl, z3, z4, z5, z6, z7, by rw [z8], by rw [z9], fun q => absurd q (by decide), z11⟩
    · have hq : ∀ j, I' (p + 5 + e') j = I (p + 5 + e') j := fun j => hp _ j (by omega) (by omega) (by omega)
      unfold rMe cls
      simp (disch := omega) only [upn, hq]
      exact ⟨z1, z2, z3, z4, z5, z6, z7, z8, z9, z10, z11⟩
end LINE
