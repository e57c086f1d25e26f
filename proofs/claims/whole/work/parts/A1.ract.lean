/-! a tenth: an end that speaks: the other side -/
section RACT
variable {e n m j i T r c d : Nat} {s : TS} {h0 h h1 x : am_h} {b0 v z kd b l : Int32} {u : Nat → Int32} {V VW VS VL : (Nat → Int32) → Int32 → Int32} {w : Nat} {g : Nat → Int32} {F : Nat → Bool} {Q : Option Value → am_h → Prop}
/-- what stands while tenths go by -/
def rBs (m n : Nat) (g : Nat → Int32) (VW VS VL : (Nat → Int32) → Int32 → Int32) (h0 : am_h) : Prop := m ≤ 1 ∧ LX h0 0 VW ∧ LX h0 1 VS ∧ LX h0 2 VL ∧ gB g n ∧ ∀ j, j < 90 → ¬ j = 3 → a_i h0 127 j = g j
theorem rBk_r {s s' : TS} {z kd : Int32} (k : rJr h s) (hz : a_i h1 127 = ud (ud (a_i h 127) (166 + 5 * i + 3) z) (166 + 5 * i + 4) kd) (hi : i < 90) (hs : ∀ c j, (7 ≤ c ∧ c < 18) ∨ (c = 0 ∧ (j = 0 ∨ j = 3 ∨ j = 4)) → s' c j = up (up s 13 i z) 14 i kd c j) : rJr h1 s' := by
  intro c j hc
  rw [hs c j hc, hz]
  rw [show dec (ud (ud (a_i h 127) (166 + 5 * i + 3) z) (166 + 5 * i + 4) kd) 90 = up (up (dec (a_i h 127) 90) 13 i z) 14 i kd from ((du_c14 hi).trans (congrArg (fun s => up s 14 i kd) (du_c13 hi)))]
  unfold up
  split
  · rfl
  · split
    · rfl
    · exact k c j hc
theorem sub_sub32 {a b : Int32} : a - (a - b) = b := by
  rw [Int32.sub_eq_add_neg a (a - b), Int32.sub_eq_add_neg a b, Int32.neg_add, Int32.sub_eq_add_neg (-a), Int32.neg_neg, ← Int32.add_assoc, Int32.add_right_neg, Int32.zero_add]
theorem lt_sub32 {a b : Int32} (ha : bt 0 a 100000) (hb : bt 0 b 100000) : (a - b < a) = (0 < b) := by
  unfold bt at *
  have e : (a - b).toInt = a.toInt - b.toInt := by
    rw [Int32.toInt_sub, Int.bmod_eq_of_le (by omega) (by omega)]
  rw [i_lt, i_lt, e]
  apply propext
  show _ ↔ (0 : Int) < _
  omega
set_option maxRecDepth 20000 in
set_option maxHeartbeats 4000000 in
theorem r_endsTurn (B : rBs m n g VW VS VL h0) (k : rJ m n b0 u h0 h s) (he : e < 4) (h1e : s 1 e = 1) (hu : u e = s 0 1) (h23 : bt 0 (s 23 e) 100000) (ht : bt 0 (s 0 1) 100000) (hi : m = 0 → ∃ i, i < 90 ∧ s 21 e = nI i) (hk : kd = 1 ∨ kd = 2) : ∃ h', (∀ Q, Cal d mX12_endsTurn [.ref 126, .int (nI e), .int kd] h Q = Q none h') ∧ rJ m n b0 u h0 h' (cls s e (Nn (s 21 e)) (s 0 1) kd) ∧ (∀ j, a_i h' 166 j = a_i h 166 j) ∧ ∀ j, a_i h' 164 j = a_i h 164 j := by
  obtain ⟨m1, x0, x1, x2, G, hg⟩ := B
  have hR := k.R x0.2.1
  obtain ⟨k1, ⟨a1, a2, a3, a4, a5, a6⟩, k3, k4, k5, k6, k7, k8⟩ := k
  obtain ⟨z1, z2, z3, z4, z5, z6, z7, z8, z9, z10⟩ := k3 e he
  obtain ⟨y1, y2, y3⟩ := z10 h1e
  have ie : am_in1 (nI e) 4 = True := by rw [in1_n (by omega)]; exact eq_true he
  have ce : (nI e).toNatClampNeg = e := nI_c (by omega)
  have pe : (0 ≤ nI e) = True := nI_p (by omega)
  have lt : (a_i h 158 e < s 0 1) = (0 < s 23 e) := by rw [y1, hu]; exact lt_sub32 ht h23
  obtain ⟨I, hI, hI2⟩ : ∃ I, I = Nn (s 21 e) ∧ (m = 0 → I < 90 ∧ a_i h 163 e = nI I) := ⟨_, rfl, fun z => by
    obtain ⟨i, i1, i2⟩ := hi z
    rw [y3 z, i2, Nn_n (by omega)]
    exact ⟨i1, rfl⟩⟩
  rw [← hI]
  have fin : ∀ h', (∀ Q, Cal d mX12_endsTurn [.ref 126, .int (nI e), .int kd] h Q = Q none h') → sm h h' → a_l h' = a_l h → a_i h' 152 e = 0 → a_i h' 153 e = 0 → a_i h' 162 e = a_i h 162 e + (if kd = 2 then 1 else 0) → a_i h' 160 e = (if 0 < s 23 e then s 0 1 else a_i h 160 e) → (∀ q j, ¬ q = 127 → ¬ (j = e ∧ (q = 152 ∨ q = 153 ∨ q = 162 ∨ q = 160)) → a_i h' q j = a_i h q j) → (m = 0 → a_i h' 127 = ud (ud (a_i h 127) (166 + 5 * I + 3) (s 0 1)) (166 + 5 * I + 4) kd) → (m = 1 → a_i h' 127 = a_i h 127) → ∃ h', (∀ Q, Cal d mX12_endsTurn [.ref 126, .int (nI e), .int kd] h Q = Q none h') ∧ rJ m n b0 u h0 h' (cls s e I (s 0 1) kd) ∧ (∀ j, a_i h' 166 j = a_i h 166 j) ∧ ∀ j, a_i h' 164 j = a_i h 164 j := by
    intro h' c0 c1 c2 c3 c4 c5 c6 c7 c8 c9
    refine ⟨h', c0, ⟨k1.tr c1, ⟨?_, ?_, ?_, ?_, ?_, ?_⟩, fun e' he' => ?_, fun k hk => ?_, fun q => ?_, fun q => ?_, fun q j cc => ?_, fun q j cc => by rw [c2]; exact k8 q j cc⟩, fun j => c7 _ _ (by omega) (by omega), fun j => c7 _ _ (by omega) (by omega)⟩
    · rw [c7 _ _ (by omega) (by omega)]; exact a1
    · rw [c7 _ _ (by omega) (by omega)]; exact a2
    · rw [c7 _ _ (by omega) (by omega), cls_03]; exact a3
    · rw [c7 _ _ (by omega) (by omega), cls_03]; exact a4
    · rw [c7 _ _ (by omega) (by omega), cls_03]; exact a5
    · rw [c7 _ _ (by omega) (by omega), cls_03]; exact a6
    · obtain ⟨w1, w2, w3, w4, w5, w6, w7, w8, w9, w10⟩ := k3 e' he'
      have s3 : cls s e I (s 0 1) kd 3 e' = s 3 e' := cls_c (by omega)
      have s4 : cls s e I (s 0 1) kd 4 e' = s 4 e' := cls_c (by omega)
      have s5 : cls s e I (s 0 1) kd 5 e' = s 5 e' := cls_c (by omega)
      have s6 : cls s e I (s 0 1) kd 6 e' = s 6 e' := cls_c (by omega)
      have s2 : cls s e I (s 0 1) kd 2 e' = if e' = e then 0 else s 2 e' := by
        unfold cls
        by_cases q : e' = e
        · rw [if_pos q]; simp (disch := omega) only [upn, upe']
        · rw [if_neg q]; simp (disch := omega) only [upn]
      refine ⟨?_, ?_, ?_, ?_, ?_, ?_, ?_, ?_, ?_, fun h1 => ?_⟩
      · rw [cls_1]
        by_cases q : e' = e
        · rw [if_pos q, q]; exact c3
        · rw [if_neg q, c7 _ _ (by omega) (by omega)]; exact w1
      · rw [s2]
        by_cases q : e' = e
        · rw [if_pos q, q]; exact c4
        · rw [if_neg q, c7 _ _ (by omega) (by omega)]; exact w2
      · rw [c7 _ _ (by omega) (by omega), s3]; exact w3
      · rw [c7 _ _ (by omega) (by omega), s4]; exact w4
      · rw [c7 _ _ (by omega) (by omega), s5]; exact w5
      · rw [c7 _ _ (by omega) (by omega), s6]; exact w6
      · by_cases q : e' = e
        · subst q
          rw [c6, cls_e.2]
          split
          · rfl
          · exact w7
        · rw [cls_y (by omega) q, c7 _ _ (by omega) (by omega)]; exact w7
      · rw [cls_x (by omega), c7 _ _ (by omega) (by omega)]; exact w8
      · by_cases q : e' = e
        · subst q
          rw [c5, cls_e.1, w9]
        · rw [cls_y (by omega) q, c7 _ _ (by omega) (by omega)]; exact w9
      · rw [cls_1] at h1
        by_cases q : e' = e
        · rw [if_pos q] at h1
          exact absurd h1 (by decide)
        · rw [if_neg q] at h1
          obtain ⟨v1, v2, v3⟩ := w10 h1
          rw [cls_x (c := 23) (by omega), cls_x (c := 22) (by omega), cls_x (c := 21) (by omega)]
          exact ⟨by rw [c7 _ _ (by omega) (by omega)]; exact v1, by rw [c7 _ _ (by omega) (by omega)]; exact v2, fun hm => by rw [c7 _ _ (by omega) (by omega)]; exact v3 hm⟩
    · rw [c7 _ _ (by omega) (by omega), cls_c (by omega)]; exact k4 k hk
    · refine rBk_r (k5 q) (c8 q) (hI2 q).1 (fun c j hc => ?_)
      unfold cls
      rw [upn (by omega), upn (by omega), upn (by omega), upn (by omega)]
    · rw [c7 _ _ (by omega) (by omega), c7 _ _ (by omega) (by omega), show cls s e I (s 0 1) kd 8 = s 8 from funext fun i => cls_c (by omega), show cls s e I (s 0 1) kd 9 = s 9 from funext fun i => cls_c (by omega)]
      exact k6 q
    · by_cases q7 : q = 127
      · subst q7
        by_cases hm : m = 0
        · rw [c8 hm]
          have := (hI2 hm).1
          rw [udn (fun z => cc (by unfold jch; omega)), udn (fun z => cc (by unfold jch; omega))]
          exact k7 _ j cc
        · rw [c9 (by omega)]
          exact k7 _ j cc
      · rw [c7 _ _ q7 (fun z => cc (by unfold jch; omega))]
        exact k7 q j cc
  have k12 : (kd = 2) = ¬ kd = 1 := by
    rcases hk with z | z <;> rw [z] <;> decide
  have m01 : m = 0 ∨ m = 1 := by omega
  rcases m01 with rfl | rfl
  · obtain ⟨i9, i163⟩ := hI2 rfl
    have j3 : (166 + 5 * nI I + 3).toNatClampNeg = 166 + 5 * I + 3 := ixT3 (by omega)
    have l3 : (0 ≤ 166 + 5 * nI I + 3) = True := ipT3 (by omega)
    have j4 : (166 + 5 * nI I + 4).toNatClampNeg = 166 + 5 * I + 4 := ixT4 (by omega)
    have l4 : (0 ≤ 166 + 5 * nI I + 4) = True := ipT4 (by omega)
    by_cases c2 : kd = 2 <;> by_cases c23 : 0 < s 23 e
    · refine fin (s_i (s_i (s_i (s_i (s_i (s_i h 127 (166 + 5 * I + 3) (s 0 1)) 127 (166 + 5 * I + 4) kd) 162 e (a_i h 162 e + 1)) 160 e (s 0 1)) 152 e 0) 153 e 0) (fun Q => ?_) ⟨rfl, rfl, rfl⟩ rfl ?_ ?_ ?_ ?_ (fun q j h7 hq => ?_) (fun z => ?_) (fun z => ?_)
      · rw [q_X12_endsTurn (eq_true hR)]
        simp [a1, show nI 0 = 0 from rfl, pe, ce, he, i163, j3, l3, j4, l4, i9, show 166 + 5 * I + 3 < 20150 by omega, show 166 + 5 * I + 4 < 20150 by omega, show 166 + 5 * I < 20146 by omega, show 166 + 5 * I < 20147 by omega, c2, lt, c23, a3]
      · simp (disch := omega) only [ine, ieq]
      · simp (disch := omega) only [ine, ieq]
      · simp (disch := omega) only [ine, ieq, if_pos c2]
      · simp (disch := omega) only [ine, ieq, if_pos c23]
      · simp (disch := omega) only [ine]
      · simp (disch := omega) only [a127_sc]
        rw [a127_ud, a127_ud]
      · exact absurd z (by omega)
    · refine fin (s_i (s_i (s_i (s_i (s_i h 127 (166 + 5 * I + 3) (s 0 1)) 127 (166 + 5 * I + 4) kd) 162 e (a_i h 162 e + 1)) 152 e 0) 153 e 0) (fun Q => ?_) ⟨rfl, rfl, rfl⟩ rfl ?_ ?_ ?_ ?_ (fun q j h7 hq => ?_) (fun z => ?_) (fun z => ?_)
      · rw [q_X12_endsTurn (eq_true hR)]
        simp [a1, show nI 0 = 0 from rfl, pe, ce, he, i163, j3, l3, j4, l4, i9, show 166 + 5 * I + 3 < 20150 by omega, show 166 + 5 * I + 4 < 20150 by omega, show 166 + 5 * I < 20146 by omega, show 166 + 5 * I < 20147 by omega, c2, lt, c23, a3]
      · simp (disch := omega) only [ine, ieq]
      · simp (disch := omega) only [ine, ieq]
      · simp (disch := omega) only [ine, ieq, if_pos c2]
      · simp (disch := omega) only [ine, ieq, if_neg c23]
      · simp (disch := omega) only [ine]
      · simp (disch := omega) only [a127_sc]
        rw [a127_ud, a127_ud]
      · exact absurd z (by omega)
    · refine fin (s_i (s_i (s_i (s_i (s_i (s_i h 127 (166 + 5 * I + 3) (s 0 1)) 127 (166 + 5 * I + 4) kd) 162 e (a_i h 162 e)) 160 e (s 0 1)) 152 e 0) 153 e 0) (fun Q => ?_) ⟨rfl, rfl, rfl⟩ rfl ?_ ?_ ?_ ?_ (fun q j h7 hq => ?_) (fun z => ?_) (fun z => ?_)
      · rw [q_X12_endsTurn (eq_true hR)]
        simp [a1, show nI 0 = 0 from rfl, pe, ce, he, i163, j3, l3, j4, l4, i9, show 166 + 5 * I + 3 < 20150 by omega, show 166 + 5 * I + 4 < 20150 by omega, show 166 + 5 * I < 20146 by omega, show 166 + 5 * I < 20147 by omega, c2, lt, c23, a3]
      · simp (disch := omega) only [ine, ieq]
      · simp (disch := omega) only [ine, ieq]
      · simp (disch := omega) only [ine, ieq, if_neg c2, Int32.add_zero]
      · simp (disch := omega) only [ine, ieq, if_pos c23]
      · simp (disch := omega) only [ine]
      · simp (disch := omega) only [a127_sc]
        rw [a127_ud, a127_ud]
      · exact absurd z (by omega)
    · refine fin (s_i (s_i (s_i (s_i (s_i h 127 (166 + 5 * I + 3) (s 0 1)) 127 (166 + 5 * I + 4) kd) 162 e (a_i h 162 e)) 152 e 0) 153 e 0) (fun Q => ?_) ⟨rfl, rfl, rfl⟩ rfl ?_ ?_ ?_ ?_ (fun q j h7 hq => ?_) (fun z => ?_) (fun z => ?_)
      · rw [q_X12_endsTurn (eq_true hR)]
        simp [a1, show nI 0 = 0 from rfl, pe, ce, he, i163, j3, l3, j4, l4, i9, show 166 + 5 * I + 3 < 20150 by omega, show 166 + 5 * I + 4 < 20150 by omega, show 166 + 5 * I < 20146 by omega, show 166 + 5 * I < 20147 by omega, c2, lt, c23, a3]
      · simp (disch := omega) only [ine, ieq]
      · simp (disch := omega) only [ine, ieq]
      · simp (disch := omega) only [ine, ieq, if_neg c2, Int32.add_zero]
      · simp (disch := omega) only [ine, ieq, if_neg c23]
      · simp (disch := omega) only [ine]
      · simp (disch := omega) only [a127_sc]
        rw [a127_ud, a127_ud]
      · exact absurd z (by omega)
  · skip
    by_cases c2 : kd = 2 <;> by_cases c23 : 0 < s 23 e
    · refine fin (s_i (s_i (s_i (s_i h 162 e (a_i h 162 e + 1)) 160 e (s 0 1)) 152 e 0) 153 e 0) (fun Q => ?_) ⟨rfl, rfl, rfl⟩ rfl ?_ ?_ ?_ ?_ (fun q j h7 hq => ?_) (fun z => ?_) (fun z => ?_)
      · rw [q_X12_endsTurn (eq_true hR)]
        simp [a1, show nI 1 = 1 from rfl, pe, ce, he, c2, lt, c23, a3]
      · simp (disch := omega) only [ine, ieq]
      · simp (disch := omega) only [ine, ieq]
      · simp (disch := omega) only [ine, ieq, if_pos c2]
      · simp (disch := omega) only [ine, ieq, if_pos c23]
      · simp (disch := omega) only [ine]
      · exact absurd z (by omega)
      · simp (disch := omega) only [a127_sc]
    · refine fin (s_i (s_i (s_i h 162 e (a_i h 162 e + 1)) 152 e 0) 153 e 0) (fun Q => ?_) ⟨rfl, rfl, rfl⟩ rfl ?_ ?_ ?_ ?_ (fun q j h7 hq => ?_) (fun z => ?_) (fun z => ?_)
      · rw [q_X12_endsTurn (eq_true hR)]
        simp [a1, show nI 1 = 1 from rfl, pe, ce, he, c2, lt, c23, a3]
      · simp (disch := omega) only [ine, ieq]
      · simp (disch := omega) only [ine, ieq]
      · simp (disch := omega) only [ine, ieq, if_pos c2]
      · simp (disch := omega) only [ine, ieq, if_neg c23]
      · simp (disch := omega) only [ine]
      · exact absurd z (by omega)
      · simp (disch := omega) only [a127_sc]
    · refine fin (s_i (s_i (s_i (s_i h 162 e (a_i h 162 e)) 160 e (s 0 1)) 152 e 0) 153 e 0) (fun Q => ?_) ⟨rfl, rfl, rfl⟩ rfl ?_ ?_ ?_ ?_ (fun q j h7 hq => ?_) (fun z => ?_) (fun z => ?_)
      · rw [q_X12_endsTurn (eq_true hR)]
        simp [a1, show nI 1 = 1 from rfl, pe, ce, he, c2, lt, c23, a3]
      · simp (disch := omega) only [ine, ieq]
      · simp (disch := omega) only [ine, ieq]
      · simp (disch := omega) only [ine, ieq, if_neg c2, Int32.add_zero]
      · simp (disch := omega) only [ine, ieq, if_pos c23]
      · simp (disch := omega) only [ine]
      · exact absurd z (by omega)
      · simp (disch := omega) only [a127_sc]
    · refine fin (s_i (s_i (s_i h 162 e (a_i h 162 e)) 152 e 0) 153 e 0) (fun Q => ?_) ⟨rfl, rfl, rfl⟩ rfl ?_ ?_ ?_ ?_ (fun q j h7 hq => ?_) (fun z => ?_) (fun z => ?_)
      · rw [q_X12_endsTurn (eq_true hR)]
        simp [a1, show nI 1 = 1 from rfl, pe, ce, he, c2, lt, c23, a3]
      · simp (disch := omega) only [ine, ieq]
      · simp (disch := omega) only [ine, ieq]
      · simp (disch := omega) only [ine, ieq, if_neg c2, Int32.add_zero]
      · simp (disch := omega) only [ine, ieq, if_neg c23]
      · simp (disch := omega) only [ine]
      · exact absurd z (by omega)
      · simp (disch := omega) only [a127_sc]
end RACT
