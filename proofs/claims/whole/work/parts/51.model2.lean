/-! the plain model: what holds of the turns, and of the columns that follow from them -/
section MODEL2
variable {s : TS} {n e T i : Nat} {b l sp z kd : Int32}
/-- what holds of the turns: none later than y -/
def wZ (n : Nat) (s : TS) (y : Int) : Prop :=
  (∀ i, i < Nn (s 0 3) → bt 0 (s 10 i) (n - 1) ∧ bt 0 (s 11 i) y ∧ bt 1 (s 12 i) 99
    ∧ ((s 13 i = -1 ∧ s 14 i = 0 ∧ s 1 (Nn (s 10 i)) = 1) ∨ (bt (s 11 i).toInt (s 13 i) y ∧ (s 14 i = 2 ∨ s 14 i = 3 ∨ (s 14 i = 1 ∧ (s 11 i).toInt < (s 13 i).toInt)))))
  ∧ (∀ e, e < 4 → s 1 e = 1 → ∃ i, i < Nn (s 0 3) ∧ s 10 i = nI e ∧ s 13 i = -1)
  ∧ ∀ i j, i < j → j < Nn (s 0 3) → s 10 i = s 10 j → ¬ s 13 i = -1 ∧ (s 13 i).toInt ≤ (s 11 j).toInt
theorem wS_Z {y : Int} (k : wS n s) (hy : y = (s 0 1).toInt + 1) : wZ n s y := by
  obtain ⟨k1, k2, k3, k4, k5, k6, k7, k8, k9, k10⟩ := k
  subst hy
  exact ⟨fun i hi => k7 i hi, k8, k9⟩
theorem wZ_mono {y y' : Int} (hy : y ≤ y') (k : wZ n s y) : wZ n s y' := by
  obtain ⟨k1, k2, k3⟩ := k
  refine ⟨fun i hi => ?_, k2, k3⟩
  obtain ⟨a1, a2, a3, a4⟩ := k1 i hi
  refine ⟨a1, ?_, a3, ?_⟩
  · unfold bt at *; omega
  · rcases a4 with a4 | ⟨a4, a5⟩
    · exact Or.inl a4
    · refine Or.inr ⟨?_, a5⟩
      unfold bt at *; omega
/-- who is silent has no turn that goes on -/
theorem wZ_sil {y : Int} (k : wZ n s y) (hn : n ≤ 4) (he : e < 4) (h1 : ¬ s 1 e = 1) (hi : i < Nn (s 0 3)) (h10 : s 10 i = nI e) : ¬ s 13 i = -1 ∧ (s 13 i).toInt ≤ y := by
  obtain ⟨a1, a2, a3, a4⟩ := k.1 i hi
  rw [h10, Nn_n (by omega)] at a4
  rcases a4 with a4 | ⟨a4, a5⟩
  · exact absurd a4.2.2 h1
  · refine ⟨fun c => ?_, a4.2⟩
    rw [c] at a4
    have : (-1 : Int32).toInt = -1 := rfl
    unfold bt at a2 a4
    omega
theorem opn_1 {j : Nat} : opn s e T b l sp 1 j = if j = e then 1 else s 1 j := by
  unfold opn
  by_cases c : j = e
  · rw [if_pos c]
    simp (disch := omega) only [upn, upe']
  · rw [if_neg c]
    simp (disch := omega) only [upn]
theorem cls_1 {j : Nat} : cls s e i z kd 1 j = if j = e then 0 else s 1 j := by
  unfold cls
  by_cases c : j = e
  · rw [if_pos c]
    simp (disch := omega) only [upn, upe']
  · rw [if_neg c]
    simp (disch := omega) only [upn]
theorem wZ_opn {y : Int} (k : wZ n s y) (hn : n ≤ 4) (he : e < n) (hT : Nn (s 0 3) = T) (hT2 : T < 90) (h1 : ¬ s 1 e = 1) (hb : 0 ≤ b.toInt ∧ b.toInt = y) (hl : bt 1 l 99) : wZ n (opn s e T b l sp) y := by
  have e03 : Nn (opn s e T b l sp 0 3) = T + 1 := by rw [opn_03]; exact Nn_n (by omega)
  refine ⟨fun i hi => ?_, fun e' he' h1' => ?_, fun i j hij hj hs => ?_⟩
  · rw [e03] at hi
    by_cases c : i = T
    · subst c
      obtain ⟨t1, t2, t3, t4, t5⟩ := opn_T (s := s) (e := e) (T := i) (b := b) (l := l) (sp := sp)
      rw [t1, t2, t3, t4, t5]
      refine ⟨?_, ?_, hl, Or.inl ⟨rfl, rfl, ?_⟩⟩
      · unfold bt; rw [nI_i (by omega)]; omega
      · unfold bt; omega
      · rw [Nn_n (by omega), opn_1, if_pos rfl]
    · have hi' : i < T := by omega
      obtain ⟨a1, a2, a3, a4⟩ := k.1 i (by omega)
      rw [opn_lt (by omega) (by omega) hi', opn_lt (by omega) (by omega) hi', opn_lt (by omega) (by omega) hi', opn_lt (by omega) (by omega) hi', opn_lt (by omega) (by omega) hi']
      refine ⟨a1, a2, a3, ?_⟩
      rcases a4 with a4 | a4
      · refine Or.inl ⟨a4.1, a4.2.1, ?_⟩
        rw [opn_1]
        split
        · rfl
        · exact a4.2.2
      · exact Or.inr a4
  · rw [e03]
    by_cases c : e' = e
    · subst c
      exact ⟨T, by omega, opn_T.1, opn_T.2.2.2.1⟩
    · rw [opn_1, if_neg c] at h1'
      obtain ⟨i, i1, i2, i3⟩ := k.2.1 e' he' h1'
      refine ⟨i, by omega, ?_⟩
      rw [opn_lt (by omega) (by omega) (by omega), opn_lt (by omega) (by omega) (by omega)]
      exact ⟨i2, i3⟩
  · rw [e03] at hj
    have hi' : i < T := by omega
    rw [opn_lt (by omega) (by omega) hi'] at hs
    rw [opn_lt (by omega) (by omega) hi']
    by_cases c : j = T
    · subst c
      rw [opn_T.1] at hs
      rw [opn_T.2.1]
      have := wZ_sil k hn (e := e) (by omega) h1 (i := i) (by omega) hs
      exact ⟨this.1, by omega⟩
    · rw [opn_lt (by omega) (by omega) (by omega)] at hs
      rw [opn_lt (by omega) (by omega) (by omega)]
      exact k.2.2 i j hij (by omega) hs
theorem wZ_cls {y : Int} (k : wZ n s y) (hn : n ≤ 4) (he : e < 4) (hi : i < Nn (s 0 3)) (h10 : s 10 i = nI e) (h13 : s 13 i = -1) (hz : z.toInt = y) (hk : kd = 2 ∨ kd = 3 ∨ (kd = 1 ∧ (s 11 i).toInt < y)) : wZ n (cls s e i z kd) y := by
  have ord : ∀ j, j < Nn (s 0 3) → s 10 j = nI e → j = i ∨ (j < i ∧ ¬ s 13 j = -1) := by
    intro j hj h
    by_cases c1 : j < i
    · exact Or.inr ⟨c1, (k.2.2 j i c1 hi (by rw [h, h10])).1⟩
    · by_cases c2 : i < j
      · exact absurd h13 (k.2.2 i j c2 hj (by rw [h, h10])).1
      · exact Or.inl (by omega)
  have e0 : (s 11 i).toInt ≤ y := (k.1 i hi).2.1.2
  refine ⟨fun j hj => ?_, fun e' he' h1' => ?_, fun j j' hij hj hs => ?_⟩
  · rw [cls_03] at hj
    obtain ⟨a1, a2, a3, a4⟩ := k.1 j hj
    rw [cls_o (c := 10) (by omega) (by omega) (by omega), cls_o (c := 11) (by omega) (by omega) (by omega), cls_o (c := 12) (by omega) (by omega) (by omega)]
    refine ⟨a1, a2, a3, ?_⟩
    by_cases c : j = i
    · subst c
      rw [cls_i.1, cls_i.2]
      refine Or.inr ⟨⟨by omega, by omega⟩, ?_⟩
      rcases hk with hk | hk | hk
      · exact Or.inl hk
      · exact Or.inr (Or.inl hk)
      · exact Or.inr (Or.inr ⟨hk.1, by omega⟩)
    · rw [cls_o (c := 13) (by omega) (by omega) (by omega), cls_o (c := 14) (by omega) (by omega) (by omega)]
      rcases a4 with a4 | a4
      · refine Or.inl ⟨a4.1, a4.2.1, ?_⟩
        rw [cls_1, if_neg ?_]
        · exact a4.2.2
        · intro q
          have e10 : s 10 j = nI e := by
            have := bt_e a1 (by omega) (by omega)
            rw [q] at this
            exact this
          rcases ord j hj e10 with h | h
          · exact c h
          · exact h.2 a4.1
      · exact Or.inr a4
  · rw [cls_03]
    by_cases c : e' = e
    · subst c
      rw [cls_1, if_pos rfl] at h1'
      exact absurd h1' (by decide)
    · rw [cls_1, if_neg c] at h1'
      obtain ⟨j, j1, j2, j3⟩ := k.2.1 e' he' h1'
      have ne : ¬ j = i := by
        intro q
        subst q
        rw [h10] at j2
        exact c (nIn he' he j2.symm)
      refine ⟨j, j1, ?_⟩
      rw [cls_o (c := 10) (by omega) (by omega) (by omega), cls_o (c := 13) (by omega) (by omega) (by omega)]
      exact ⟨j2, j3⟩
  · rw [cls_03] at hj
    rw [cls_o (c := 10) (by omega) (by omega) (by omega), cls_o (c := 10) (by omega) (by omega) (by omega)] at hs
    rw [cls_o (c := 11) (by omega) (by omega) (by omega)]
    have := k.2.2 j j' hij hj hs
    by_cases c : j = i
    · subst c
      exact absurd h13 this.1
    · rw [cls_o (c := 13) (by omega) (by omega) (by omega)]
      exact this
/-- the columns that follow from the turns -/
def D1 (u : Nat → Int32) (s : TS) : Prop := ∀ e, e < 4 → s 18 e = cn s e (-1) ∧ s 19 e = cn s e 2 ∧ s 20 e = lend s e ∧ (s 1 e = 1 → ∀ i, i < Nn (s 0 3) → s 10 i = nI e → s 13 i = -1 → s 21 e = nI i ∧ s 22 e = s 12 i ∧ s 23 e = u e - s 11 i)
def Dh (s : TS) (y : Int) : Prop := ∀ e k, e < 4 → k < 64 → (s (30 + e) k = 1 ↔ ((k : Int) ≤ y ∧ spk s e (y - k)))
theorem opn_0 {j : Nat} (hj : ¬ j = 3) : opn s e T b l sp 0 j = s 0 j := by
  unfold opn
  simp (disch := omega) only [upn]
theorem opn_e : opn s e T b l sp 18 e = s 18 e + 1 ∧ opn s e T b l sp 21 e = nI T ∧ opn s e T b l sp 22 e = l ∧ opn s e T b l sp 23 e = sp := by
  unfold opn
  simp (disch := omega) only [upn, upe', and_self]
theorem opn_x {c j : Nat} (hc : c = 19 ∨ c = 20 ∨ 24 ≤ c ∨ (17 < c ∧ ¬ j = e)) : opn s e T b l sp c j = s c j := by
  unfold opn
  simp (disch := omega) only [upn]
theorem D1_opn {u : Nat → Int32} (k : D1 u s) {y : Int} (w : wZ n s y) (hn : n ≤ 4) (he : e < 4) (hT : Nn (s 0 3) = T) (hT2 : T < 90) (h1 : ¬ s 1 e = 1) (hsp : sp = u e - b) : D1 u (opn s e T b l sp) := by
  intro e' he'
  obtain ⟨a1, a2, a3, a4⟩ := k e' he'
  rw [cn_opn hT hT2, cn_opn hT hT2, lend_opn hT hT2, opn_x (c := 19) (by omega), opn_x (c := 20) (by omega), opn_03, Nn_n (by omega)]
  have f2 : ¬ (nI e = nI e' ∧ ((2 : Int32) = -1 ∨ (0 : Int32) = 2)) := fun q => absurd q.2 (by decide)
  rw [if_neg f2]
  refine ⟨?_, by rw [a2]; simp, a3, fun q i hi h10 h13 => ?_⟩
  · by_cases c : e' = e
    · subst c
      rw [opn_e.1, if_pos ⟨rfl, Or.inl rfl⟩, a1]
    · rw [opn_x (by omega), if_neg (fun q => c (nIn he' he q.1.symm)), a1]
      simp
  · by_cases c : i = T
    · subst c
      rw [opn_T.1] at h10
      have : e' = e := nIn he' he h10.symm
      subst this
      rw [opn_e.2.1, opn_e.2.2.1, opn_e.2.2.2, opn_T.2.2.1, opn_T.2.1]
      exact ⟨rfl, rfl, hsp⟩
    · rw [opn_lt (by omega) (by omega) (by omega)] at h10 h13
      have ne : ¬ e' = e := by
        intro q
        subst q
        exact (wZ_sil w hn he h1 (i := i) (by omega) h10).1 h13
      rw [opn_1, if_neg ne] at q
      rw [opn_x (c := 21) (by omega), opn_x (c := 22) (by omega), opn_x (c := 23) (by omega), opn_lt (c := 12) (by omega) (by omega) (by omega), opn_lt (c := 11) (by omega) (by omega) (by omega)]
      exact a4 q i (by omega) h10 h13
theorem Dh_opn {y' : Int} (k : Dh s y') (hT : Nn (s 0 3) = T) (hT2 : T < 90) (hb : y' < b.toInt) : Dh (opn s e T b l sp) y' := by
  intro e' j he' hj
  rw [opn_x (by omega), k e' j he' hj, spk_opn hT hT2]
  constructor
  · rintro ⟨q1, q2⟩
    exact ⟨q1, Or.inl q2⟩
  · rintro ⟨q1, q2 | q2⟩
    · exact ⟨q1, q2⟩
    · omega
theorem cls_x {c j : Nat} (hc : 21 ≤ c ∨ c = 18) : cls s e i z kd c j = s c j := by
  unfold cls
  simp (disch := omega) only [upn]
theorem cls_e : cls s e i z kd 19 e = s 19 e + (if kd = 2 then 1 else 0) ∧ cls s e i z kd 20 e = if 0 < s 23 e then z else s 20 e := by
  unfold cls
  simp (disch := omega) only [upn, upe', and_self]
theorem cls_y {c j : Nat} (hc : c = 19 ∨ c = 20) (hj : ¬ j = e) : cls s e i z kd c j = s c j := by
  unfold cls
  simp (disch := omega) only [upn]
theorem sub_pos32 {a b : Int32} (ha : 0 ≤ a.toInt ∧ a.toInt ≤ b.toInt ∧ b.toInt ≤ 100000) : (0 < b - a) = (a < b) := by
  rw [i_lt, i_lt, Int32.toInt_sub, Int.bmod_eq_of_le (by omega) (by omega)]
  have : (0 : Int32).toInt = 0 := rfl
  apply propext
  omega
theorem D1_cls {u : Nat → Int32} (k : D1 u s) {y : Int} (w : wZ n s y) (he : e < 4) (h1 : s 1 e = 1) (hi : i < Nn (s 0 3)) (h10 : s 10 i = nI e) (h13 : s 13 i = -1) (hz : z.toInt = y) (hz2 : z.toInt ≤ 100000) (hu : u e = z) : D1 u (cls s e i z kd) := by
  have h14 : s 14 i = 0 := by
    rcases (w.1 i hi).2.2.2 with q | ⟨q, _⟩
    · exact q.2.1
    · rw [h13] at q
      have := (w.1 i hi).2.1
      have e1 : (-1 : Int32).toInt = -1 := rfl
      unfold bt at q this
      omega
  have hb := (w.1 i hi).2.1
  unfold bt at hb
  have hz1 : ¬ z = -1 := by
    intro q
    have e1 : (-1 : Int32).toInt = -1 := rfl
    rw [q] at hz
    omega
  have hl : ∀ j, i < j → j < Nn (s 0 3) → ¬ s 10 j = nI e := fun j hj1 hj2 q => (w.2.2 i j hj1 hj2 (by rw [h10, q])).1 h13
  intro e' he'
  obtain ⟨a1, a2, a3, a4⟩ := k e' he'
  rw [cn_cls hi h10 h14 (Or.inl rfl), cn_cls hi h10 h14 (Or.inr rfl), lend_cls hi h10 h13 hz1 hl, cls_x (c := 18) (by omega), cls_03, cls_x (c := 21) (by omega), cls_x (c := 22) (by omega), cls_x (c := 23) (by omega)]
  refine ⟨?_, ?_, ?_, fun q j hj j10 j13 => ?_⟩
  · rw [if_neg (fun q => absurd q.2.1 (by decide)), a1]
    simp
  · by_cases c : e' = e
    · subst c
      rw [cls_e.1, a2]
      by_cases c2 : kd = 2
      · rw [if_pos c2, if_pos ⟨rfl, rfl, c2⟩]
      · rw [if_neg c2, if_neg (fun q => c2 q.2.2)]
    · rw [cls_y (by omega) c, if_neg (fun q => c (nIn he' he q.1.symm)), a2]
      simp
  · by_cases c : e' = e
    · subst c
      rw [cls_e.2, a3, (a4 h1 i hi h10 h13).2.2, hu]
      have sp := sub_pos32 (a := s 11 i) (b := z) (by omega)
      by_cases c2 : s 11 i < z
      · rw [if_pos (by rw [sp]; exact c2), if_pos ⟨rfl, c2⟩]
      · rw [if_neg (by rw [sp]; exact c2), if_neg (fun q => c2 q.2)]
    · rw [cls_y (by omega) c, if_neg (fun q => c (nIn he' he q.1.symm)), a3]
  · have ne : ¬ e' = e := by
      intro q'
      subst q'
      rw [cls_1, if_pos rfl] at q
      exact absurd q (by decide)
    have ni : ¬ j = i := by
      intro q'
      subst q'
      rw [cls_o (by omega) (by omega) (by omega), h10] at j10
      exact ne (nIn he' he j10.symm)
    rw [cls_1, if_neg ne] at q
    rw [cls_o (c := 10) (by omega) (by omega) (by omega)] at j10
    rw [cls_o (c := 13) (by omega) (by omega) (by omega)] at j13
    rw [cls_o (c := 12) (by omega) (by omega) (by omega), cls_o (c := 11) (by omega) (by omega) (by omega)]
    exact a4 q j hj j10 j13
theorem Dh_cls {y' : Int} (k : Dh s y') (hi : i < Nn (s 0 3)) (h13 : s 13 i = -1) (hz : ¬ z = -1) (hy : y' < z.toInt) : Dh (cls s e i z kd) y' := by
  intro e' j he' hj
  rw [cls_x (by omega), k e' j he' hj]
  constructor
  · rintro ⟨q1, q2⟩
    exact ⟨q1, (spk_cls hi h13 hz (by omega)).mpr q2⟩
  · rintro ⟨q1, q2⟩
    exact ⟨q1, (spk_cls hi h13 hz (by omega)).mp q2⟩
theorem wOld_opn (hT : Nn (s 0 3) = T) (hT2 : T < 90) : wOld s (opn s e T b l sp) := by
  have e03 : Nn (opn s e T b l sp 0 3) = T + 1 := by rw [opn_03]; exact Nn_n (by omega)
  refine ⟨by omega, by rw [opn_0 (by omega)]; exact Nat.le_refl _, fun i hi => ?_, fun i hi => ?_⟩
  · rw [hT] at hi
    rw [opn_lt (by omega) (by omega) hi, opn_lt (by omega) (by omega) hi, opn_lt (by omega) (by omega) hi, opn_lt (by omega) (by omega) hi, opn_lt (by omega) (by omega) hi]
    exact ⟨rfl, rfl, rfl, Or.inr ⟨rfl, rfl⟩⟩
  · unfold opn
    simp (disch := omega) only [upn, and_self]
theorem wOld_cls (h13 : s 13 i = -1) (h14 : s 14 i = 0) : wOld s (cls s e i z kd) := by
  refine ⟨by rw [cls_03]; exact Nat.le_refl _, by rw [cls_03]; exact Nat.le_refl _, fun j hj => ?_, fun j hj => ?_⟩
  · rw [cls_o (c := 10) (by omega) (by omega) (by omega), cls_o (c := 11) (by omega) (by omega) (by omega), cls_o (c := 12) (by omega) (by omega) (by omega)]
    refine ⟨rfl, rfl, rfl, ?_⟩
    by_cases c : j = i
    · subst c; exact Or.inl ⟨h13, h14⟩
    · rw [cls_o (c := 13) (by omega) (by omega) (by omega), cls_o (c := 14) (by omega) (by omega) (by omega)]
      exact Or.inr ⟨rfl, rfl⟩
  · rw [cls_o (by omega) (by omega) (by omega), cls_o (by omega) (by omega) (by omega), cls_o (by omega) (by omega) (by omega)]
    exact ⟨rfl, rfl, rfl⟩
end MODEL2
