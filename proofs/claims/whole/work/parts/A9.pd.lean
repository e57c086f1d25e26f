/-! so many tenths: what both sides keep stands -/
section PDs
variable {e n m j i T K Z t : Nat} {s s0 z : TS} {g : Nat → Int32} {u : Nat → Int32} {VW VS VL : (Nat → Int32) → Int32 → Int32} {H : Nat → Nat → Bool} {hr : Bool} {y yo : Int}
/-- within a tenth -/
def PM (n : Nat) (s0 : TS) (u : Nat → Int32) (y yo : Int) (s : TS) : Prop := wZ n s y ∧ D1 u s ∧ Dh s yo ∧ wOld s0 s
theorem PM.o {s' : TS} (k : PM n s0 u y yo s) (h : ∀ c i, (c = 0 ∧ i = 3) ∨ (c = 0 ∧ i = 4) ∨ c = 1 ∨ (10 ≤ c ∧ c ≤ 23) ∨ 30 ≤ c → s' c i = s c i) : PM n s0 u y yo s' := by
  obtain ⟨k1, k2, k3, k4⟩ := k
  refine ⟨?_, ?_, ?_, ?_⟩
  · unfold wZ at k1 ⊢
    simp (disch := omega) only [h]
    exact k1
  · unfold D1 cn lend at k2 ⊢
    simp (disch := omega) only [h]
    exact k2
  · unfold Dh spk at k3 ⊢
    simp (disch := omega) only [h]
    exact k3
  · exact wOld_tr k4 (by
      unfold wOld
      simp (disch := omega) only [h]
      exact wOld_refl)
theorem PM.uu {u' : Nat → Int32} (k : PM n s0 u y yo s) (h : ∀ e, e < 4 → s 1 e = 1 → u' e = u e) : PM n s0 u' y yo s := by
  obtain ⟨k1, k2, k3, k4⟩ := k
  refine ⟨k1, fun e he => ?_, k3, k4⟩
  obtain ⟨a1, a2, a3, a4⟩ := k2 e he
  exact ⟨a1, a2, a3, fun h1 i hi h10 h13 => by rw [h e he h1]; exact a4 h1 i hi h10 h13⟩
/-- the turn that an end is in -/
theorem PM.tn (k : PM n s0 u y yo s) (hn : n ≤ 4) (he : e < n) (h1 : s 1 e = 1) : ∃ i, i < Nn (s 0 3) ∧ s 10 i = nI e ∧ s 13 i = -1 ∧ s 14 i = 0 ∧ s 21 e = nI i ∧ s 22 e = s 12 i ∧ s 23 e = u e - s 11 i ∧ bt 0 (s 11 i) y ∧ bt 1 (s 12 i) 99 := by
  obtain ⟨i, i1, i2, i3⟩ := k.1.2.1 e (by omega) h1
  obtain ⟨b1, b2, b3⟩ := (k.2.1 e (by omega)).2.2.2 h1 i i1 i2 i3
  obtain ⟨c1, c2, c3, c4⟩ := k.1.1 i i1
  refine ⟨i, i1, i2, i3, ?_, b1, b2, b3, c2, c3⟩
  rcases c4 with w | ⟨w, -⟩
  · exact w.2.1
  · exfalso
    rw [i3] at w
    have : (-1 : Int32).toInt = -1 := rfl
    unfold bt at w c2
    omega
theorem PM.xcls {kd : Int32} (k : PM n s0 u y yo s) (hn : n ≤ 4) (he : e < n) (h1 : s 1 e = 1) (hT : Nn (s 0 3) ≤ 90) (hu : u e = s 0 1) (hy : (s 0 1).toInt = y) (hy2 : yo < y) (hyb : 0 ≤ yo ∧ y ≤ 100000) (hk : kd = 2 ∨ kd = 1 ∧ ¬ s 23 e < s 22 e) : PM n s0 u y yo (cls s e (Nn (s 21 e)) (s 0 1) kd) := by
  obtain ⟨i, i1, i2, i3, i4, i5, i6, i7, i8, i9⟩ := k.tn hn he h1
  obtain ⟨k1, k2, k3, k4⟩ := k
  have nz : ¬ s 0 1 = -1 := fun w => by
    rw [w] at hy
    have : (-1 : Int32).toInt = -1 := rfl
    omega
  rw [i5, Nn_n (by omega)]
  refine ⟨wZ_cls k1 hn (by omega) i1 i2 i3 hy ?_, D1_cls k2 k1 (by omega) h1 i1 i2 i3 hy (by omega) hu, Dh_cls k3 i1 i3 nz (by omega), wOld_tr k4 (wOld_cls i3 i4)⟩
  rcases hk with w | ⟨w1, w2⟩
  · exact Or.inl w
  · refine Or.inr (Or.inr ⟨w1, ?_⟩)
    rw [i6, i7, hu, i_lt] at w2
    unfold bt at i8 i9
    have e : (s 0 1 - s 11 i).toInt = (s 0 1).toInt - (s 11 i).toInt := by
      rw [Int32.toInt_sub, Int.bmod_eq_of_le (by omega) (by omega)]
    rw [e] at w2
    omega
theorem PM.xopn {l : Int32} {u' : Nat → Int32} (k : PM n s0 u y yo s) (hn : n ≤ 4) (he : e < n) (h1 : ¬ s 1 e = 1) (hT : Nn (s 0 3) = T) (hT2 : T < 90) (hu : ∀ e', u' e' = if e' = e then s 0 1 + 1 else u e') (hy : (s 0 1).toInt = y) (hy2 : yo < y) (hyb : 0 ≤ yo ∧ y ≤ 100000) (hl : bt 1 l 99) : PM n s0 u' y yo (opn s e T (s 0 1) l 1) := by
  have k' : PM n s0 u' y yo s := k.uu (fun e' he' h1' => by
    rw [hu]
    by_cases c : e' = e
    · rw [c] at h1'; exact absurd h1' h1
    · rw [if_neg c])
  obtain ⟨k1, k2, k3, k4⟩ := k'
  refine ⟨wZ_opn k1 hn he hT hT2 h1 (by omega) hl, D1_opn k2 k1 hn (by omega) hT hT2 h1 ?_, Dh_opn k3 hT hT2 (by omega), wOld_tr k4 (wOld_opn hT hT2)⟩
  rw [hu, if_pos rfl, Int32.sub_eq_add_neg, Int32.add_assoc, Int32.add_comm 1, ← Int32.add_assoc, Int32.add_right_neg, Int32.zero_add]
theorem PM.act (k : PM n s0 u y yo s) (P : PA 0 n K s) (hn : n ≤ 4) (he : e < n) (hu : u e = s 0 1) (hy : (s 0 1).toInt = y) (hy2 : yo < y) (hyb : 0 ≤ yo ∧ y ≤ 100000) (hl : ∀ N, bt 1 (VL N (tw g 2 e)) 99) : PM n s0 (fun e' => if e' = e then s 0 1 + 1 else u e') y yo (ACT g VW VS VL 0 n H e s) := by
  have T90 : ∀ z : TS, (∃ T, z 0 3 = nI T ∧ T ≤ K ∧ ((0 : Nat) = 0 → T ≤ 90)) → Nn (z 0 3) ≤ 90 := by
    rintro z ⟨T, t1, t2, t3⟩
    have := t3 rfl
    rw [t1, Nn_n (by omega)]
    exact this
  have ue : ∀ z, PM n s0 u y yo z → ¬ z 1 e = 1 → PM n s0 (fun e' => if e' = e then s 0 1 + 1 else u e') y yo z := by
    intro z kz h
    refine kz.uu (fun e' he' h1' => ?_)
    by_cases c : e' = e
    · rw [c] at h1'; exact absurd h1' h
    · rw [if_neg c]
  have sil : ∀ z, PM n s0 u y yo z → ¬ z 1 e = 1 → z 0 1 = s 0 1 → (∃ T, z 0 3 = nI T ∧ T ≤ K ∧ ((0 : Nat) = 0 → T ≤ 90)) → ∀ hr, PM n s0 (fun e' => if e' = e then s 0 1 + 1 else u e') y yo (aQ g VW VL 0 n hr z e) := by
    intro z kz h1 h01 hT hr
    unfold aQ
    have ap : PM n s0 u y yo (aP g VW n z e) := kz.o (fun c i h => aP_o (by omega))
    split
    · exact ue _ (kz.o (fun c i h => upn (by omega))) (by rw [upn (by omega)]; exact h1)
    · split
      · split
        · exact ue _ ap (by rw [aP_o (by omega)]; exact h1)
        · rename_i c
          obtain ⟨T, t1, t2, t3⟩ := hT
          have t3 := t3 rfl
          have ap2 : PM n s0 u y yo (up (aP g VW n z e) 2 e (z 2 e + 1)) := ap.o (fun c i h => upn (by omega))
          have e01 : (up (aP g VW n z e) 2 e (z 2 e + 1)) 0 1 = z 0 1 := by rw [upn (by omega), aP_o (by omega)]
          have := ap2.xopn (l := VL (nmS g z e) (tw g 2 e)) (T := T) (u' := fun e' => if e' = e then s 0 1 + 1 else u e') hn he (by rw [upn (by omega), aP_o (by omega)]; exact h1) (by rw [upn (by omega), aP_o (by omega), t1, Nn_n (by omega)]) (by
            by_cases q : T = 90
            · exact absurd ⟨rfl, by rw [t1, q]; rfl⟩ c
            · omega) (fun e' => by rw [e01, h01]) (by rw [e01, h01]; exact hy) hy2 hyb (hl _)
          rw [e01] at this
          rw [t1, Nn_n (by omega)]
          exact this
      · exact ue _ (ap.o (fun c i h => upn (by omega))) (by rw [upn (by omega), aP_o (by omega)]; exact h1)
  unfold ACT
  by_cases c : s 1 e = 1
  · rw [if_pos c]
    have up4 : ∀ v, PM n s0 u y yo (up s 4 e v) := fun v => k.o (fun c i h => upn (by omega))
    have cl : ∀ v kd, (kd = 2 ∨ kd = 1 ∧ ¬ s 23 e < s 22 e) → PM n s0 u y yo (cls (up s 4 e v) e (Nn (s 21 e)) (s 0 1) kd) := by
      intro v kd hk
      have := (up4 v).xcls (kd := kd) hn he (by rw [upn (by omega)]; exact c) (by rw [upn (by omega)]; exact T90 s P.2.1) (by rw [upn (by omega)]; exact hu) (by rw [upn (by omega)]; exact hy) hy2 hyb (by rw [upn (by omega), upn (by omega)]; exact hk)
      rw [upn (by omega), upn (by omega)] at this
      exact this
    by_cases c2 : aS g VS (decide (¬ bN (H e) = 0)) s e 1 e = 1
    · rw [if_pos c2]
      obtain ⟨q, w | ⟨c4, w⟩ | ⟨c4, w⟩⟩ := aS_c g VS (decide (¬ bN (H e) = 0)) s e
      · rw [w, cls_1, if_pos rfl] at c2
        exact absurd c2 (by decide)
      · rw [w]
        obtain ⟨i, i1, i2, i3, i4, i5, i6, i7, i8, i9⟩ := k.tn hn he c
        obtain ⟨k1, k2, k3, k4⟩ := up4 q
        refine ⟨?_, ?_, ?_, ?_⟩
        · unfold wZ at k1 ⊢
          simp (disch := omega) only [upn] at k1 ⊢
          exact k1
        · intro e' he'
          obtain ⟨a1, a2, a3, a4⟩ := k2 e' he'
          unfold cn lend at a1 a2 a3 ⊢
          simp (disch := omega) only [upn] at a1 a2 a3 a4 ⊢
          refine ⟨a1, a2, a3, fun h1 i hi h10 h13 => ?_⟩
          obtain ⟨b1, b2, b3⟩ := a4 h1 i hi h10 h13
          refine ⟨b1, b2, ?_⟩
          by_cases q : e' = e
          · subst q
            rw [upe' rfl rfl, if_pos rfl, b3, hu, Int32.sub_eq_add_neg, Int32.sub_eq_add_neg]
            ac_rfl
          · rw [upn (by omega), if_neg q]
            rw [upn (by omega)] at b3
            exact b3
        · unfold Dh spk at k3 ⊢
          simp (disch := omega) only [upn] at k3 ⊢
          exact k3
        · exact wOld_tr k4 (by
            unfold wOld
            simp (disch := omega) only [upn]
            exact wOld_refl)
      · rw [w, cls_1, if_pos rfl] at c2
        exact absurd c2 (by decide)
    · rw [if_neg c2]
      have kz : PM n s0 u y yo (aS g VS (decide (¬ bN (H e) = 0)) s e) := by
        obtain ⟨q, w | ⟨c4, w⟩ | ⟨c4, w⟩⟩ := aS_c g VS (decide (¬ bN (H e) = 0)) s e
        · rw [w]; exact cl _ 2 (Or.inl rfl)
        · rw [w, upn (by omega), upn (by omega)] at c2
          exact absurd c c2
        · rw [w]; exact cl _ 1 (Or.inr ⟨rfl, c4⟩)
      have z01 : ∀ j, ¬ j = 2 → aS g VS (decide (¬ bN (H e) = 0)) s e 0 j = s 0 j := by
        intro j hj
        obtain ⟨q, w | ⟨-, w⟩ | ⟨-, w⟩⟩ := aS_c g VS (decide (¬ bN (H e) = 0)) s e
        · rw [w, cls_03, upn (by omega)]
        · rw [w, upn (by omega), upn (by omega)]
        · rw [w, cls_03, upn (by omega)]
      exact sil _ kz c2 (z01 1 (by omega)) (by rw [z01 3 (by omega)]; exact P.2.1) _
  · rw [if_neg c]
    exact sil s k c rfl P.2.1 _
/-- between two tenths -/
def PD (n : Nat) (s0 s : TS) : Prop := wS n s ∧ D1 (fun _ => s 0 1 + 1) s ∧ Dh s (s 0 1).toInt ∧ wOld s0 s
end PDs
