/-! so many tenths: what both sides keep stands -/
section PDs
variable {e n m j i T K Z t : Nat} {s s0 z : TS} {g : Nat → Int32} {u : Nat → Int32} {VW VS VL : (Nat → Int32) → Int32 → Int32} {H : Nat → Nat → Bool} {hr : Bool} {y yo : Int}
/-- within a tenth -/
def PM (n : Nat) (s0 : TS) (u : Nat → Int32) (y yo : Int) (s : TS) : Prop := wZ n s y ∧ D1 u s ∧ Dh s yo ∧ wOld s0 s
theorem PM.o {s' : TS} (k : PM n s0 u y yo s) (h : ∀ c i, (c = 0 ∧ i = 3) ∨ (c = 0 ∧ i = 4) ∨ c = 1 ∨ (10 ≤ c ∧ c ≤ 23) ∨ 30 ≤ c → s' c i = s c i) : PM n s0 u y yo s' := by
  obtain ⟨k1, k2, k3, k4⟩ := k
  refine ⟨?_, ?_, ?_, ?_⟩
  · unfold wZ at k1 ⊢
    simp (disch := omega) only [h]
    exact k1
  · unfold D1 cn lend at k2 ⊢
    simpa (disch := omega) only [h] using k2
  · unfold Dh spk at k3 ⊢
    simp (disch := omega) only [h]
    exact k3
  · exact wOld_tr k4 (wOld_s (fun c i hc => h c i (by omega)))
theorem PM.uu {u' : Nat → Int32} (k : PM n s0 u y yo s) (h : ∀ e, e < 4 → s 1 e = 1 → u' e = u e) : PM n s0 u' y yo s := by
  obtain ⟨k1, k2, k3, k4⟩ := k
  refine ⟨k1, fun e he => ?_, k3, k4⟩
  obtain ⟨a1, a2, a3, a4⟩ := k2 e he
  exact ⟨a1, a2, a3, fun h1 i hi h10 h13 => by rw [h e he h1]; exact a4 h1 i hi h10 h13⟩
/-- the turn that an end is in -/
theorem PM.tn (k : PM n s0 u y yo s) (hn : n ≤ 4) (he : e < n) (h1 : s 1 e = 1) : ∃ i, i < Nn (s 0 3) ∧ s 10 i = nI e ∧ s 13 i = -1 ∧ s 14 i = 0 ∧ s 21 e = nI i ∧ s 22 e = s 12 i ∧ s 23 e = u e - s 11 i ∧ bt 0 (s 11 i) y ∧ bt 1 (s 12 i) 99 := by
  obtain ⟨i, i1, i2, i3⟩ := k.1.2.1 e (by omega) h1
  obtain ⟨b1, b2, b3⟩ := (k.2.1 e (by omega)).2.2.2 h1 i i1 i2 i3
  obtain ⟨c1, c2, c3, c4⟩ := k.1.1 i i1
  refine ⟨i, i1, i2, i3, ?_, b1, b2, b3, c2, c3⟩
  rcases c4 with w | ⟨w, -⟩
  · exact w.2.1
  · exfalso
    rw [i3] at w
    have : (-1 : Int32).toInt = -1 := rfl
    unfold bt at w c2
    omega
theorem PM.xcls {kd : Int32} (k : PM n s0 u y yo s) (hn : n ≤ 4) (he : e < n) (h1 : s 1 e = 1) (hT : Nn (s 0 3) ≤ 90) (hu : u e = s 0 1) (hy : (s 0 1).toInt = y) (hy2 : yo < y) (hyb : 0 ≤ yo ∧ y ≤ 100000) (hk : kd = 2 ∨ kd = 1 ∧ ¬ s 23 e < s 22 e) : PM n s0 u y yo (cls s e (Nn (s 21 e)) (s 0 1) kd) := by
  obtain ⟨i, i1, i2, i3, i4, i5, i6, i7, i8, i9⟩ := k.tn hn he h1
  obtain ⟨k1, k2, k3, k4⟩ := k
  have nz : ¬ s 0 1 = -1 := fun w => by
    rw [w] at hy
    have : (-1 : Int32).toInt = -1 := rfl
    omega
  rw [i5, Nn_n (by omega)]
  refine ⟨wZ_cls k1 hn (by omega) i1 i2 i3 hy ?_, D1_cls k2 k1 (by omega) h1 i1 i2 i3 hy (by omega) hu, Dh_cls k3 i1 i3 nz (by omega), wOld_tr k4 (wOld_cls i3 i4)⟩
  rcases hk with w | ⟨w1, w2⟩
  · exact Or.inl w
  · refine Or.inr (Or.inr ⟨w1, ?_⟩)
    rw [i6, i7, hu, i_lt] at w2
    unfold bt at i8 i9
    have e : (s 0 1 - s 11 i).toInt = (s 0 1).toInt - (s 11 i).toInt := by
      rw [Int32.toInt_sub, Int.bmod_eq_of_le (by omega) (by omega)]
    rw [e] at w2
    omega
theorem PM.xopn {l : Int32} {u' : Nat → Int32} (k : PM n s0 u y yo s) (hn : n ≤ 4) (he : e < n) (h1 : ¬ s 1 e = 1) (hT : Nn (s 0 3) = T) (hT2 : T < 90) (hu : ∀ e', u' e' = if e' = e then s 0 1 + 1 else u e') (hy : (s 0 1).toInt = y) (hy2 : yo < y) (hyb : 0 ≤ yo ∧ y ≤ 100000) (hl : bt 1 l 99) : PM n s0 u' y yo (opn s e T (s 0 1) l 1) := by
  have k' : PM n s0 u' y yo s := k.uu (fun e' he' h1' => by
    rw [hu]
    by_cases c : e' = e
    · rw [c] at h1'; exact absurd h1' h1
    · rw [if_neg c])
  obtain ⟨k1, k2, k3, k4⟩ := k'
  refine ⟨wZ_opn k1 hn he hT hT2 h1 (by omega) hl, D1_opn k2 k1 hn (by omega) hT hT2 h1 ?_, Dh_opn k3 hT hT2 (by omega), wOld_tr k4 (wOld_opn hT hT2)⟩
  rw [hu, if_pos rfl, Int32.sub_eq_add_neg, Int32.add_assoc, Int32.add_comm 1, ← Int32.add_assoc, Int32.add_right_neg, Int32.zero_add]
theorem PM.act (k : PM n s0 u y yo s) (P : PA 0 n K s) (hn : n ≤ 4) (he : e < n) (hu : u e = s 0 1) (hy : (s 0 1).toInt = y) (hy2 : yo < y) (hyb : 0 ≤ yo ∧ y ≤ 100000) (hl : ∀ N, bt 1 (VL N (tw g 2 e)) 99) : PM n s0 (fun e' => if e' = e then s 0 1 + 1 else u e') y yo (ACT g VW VS VL 0 n H e s) := by
  have T90 : ∀ z : TS, (∃ T, z 0 3 = nI T ∧ T ≤ K ∧ ((0 : Nat) = 0 → T ≤ 90)) → Nn (z 0 3) ≤ 90 := by
    rintro z ⟨T, t1, t2, t3⟩
    have := t3 rfl
    rw [t1, Nn_n (by omega)]
    exact this
  have ue : ∀ z, PM n s0 u y yo z → ¬ z 1 e = 1 → PM n s0 (fun e' => if e' = e then s 0 1 + 1 else u e') y yo z := by
    intro z kz h
    refine kz.uu (fun e' he' h1' => ?_)
    by_cases c : e' = e
    · rw [c] at h1'; exact absurd h1' h
    · rw [if_neg c]
  have sil : ∀ z, PM n s0 u y yo z → ¬ z 1 e = 1 → z 0 1 = s 0 1 → (∃ T, z 0 3 = nI T ∧ T ≤ K ∧ ((0 : Nat) = 0 → T ≤ 90)) → ∀ hr, PM n s0 (fun e' => if e' = e then s 0 1 + 1 else u e') y yo (aQ g VW VL 0 n hr z e) := by
    intro z kz h1 h01 hT hr
    unfold aQ
    have ap : PM n s0 u y yo (aP g VW n z e) := kz.o (fun c i h => aP_o (by omega))
    split
    · exact ue _ (kz.o (fun c i h => upn (by omega))) (by rw [upn (by omega)]; exact h1)
    · split
      · split
        · exact ue _ ap (by rw [aP_o (by omega)]; exact h1)
        · rename_i c
          obtain ⟨T, t1, t2, t3⟩ := hT
          have t3 := t3 rfl
          have ap2 : PM n s0 u y yo (up (aP g VW n z e) 2 e (z 2 e + 1)) := ap.o (fun c i h => upn (by omega))
          have e01 : (up (aP g VW n z e) 2 e (z 2 e + 1)) 0 1 = z 0 1 := by rw [upn (by omega), aP_o (by omega)]
          have := ap2.xopn (l := VL (nmS g z e) (tw g 2 e)) (T := T) (u' := fun e' => if e' = e then s 0 1 + 1 else u e') hn he (by rw [upn (by omega), aP_o (by omega)]; exact h1) (by rw [upn (by omega), aP_o (by omega), t1, Nn_n (by omega)]) (by
            by_cases q : T = 90
            · exact absurd ⟨rfl, by rw [t1, q]; rfl⟩ c
            · omega) (fun e' => by rw [e01, h01]) (by rw [e01, h01]; exact hy) hy2 hyb (hl _)
          rw [e01] at this
          rw [t1, Nn_n (by omega)]
          exact this
      · exact ue _ (ap.o (fun c i h => upn (by omega))) (by rw [upn (by omega), aP_o (by omega)]; exact h1)
  unfold ACT
  by_cases c : s 1 e = 1
  · rw [if_pos c]
    have up4 : ∀ v, PM n s0 u y yo (up s 4 e v) := fun v => k.o (fun c i h => upn (by omega))
    have cl : ∀ v kd, (kd = 2 ∨ kd = 1 ∧ ¬ s 23 e < s 22 e) → PM n s0 u y yo (cls (up s 4 e v) e (Nn (s 21 e)) (s 0 1) kd) := by
      intro v kd hk
      have := (up4 v).xcls (kd := kd) hn he (by rw [upn (by omega)]; exact c) (by rw [upn (by omega)]; exact T90 s P.2.1) (by rw [upn (by omega)]; exact hu) (by rw [upn (by omega)]; exact hy) hy2 hyb (by rw [upn (by omega), upn (by omega)]; exact hk)
      rw [upn (by omega), upn (by omega)] at this
      exact this
    by_cases c2 : aS g VS (decide (¬ bN (H e) = 0)) s e 1 e = 1
    · rw [if_pos c2]
      obtain ⟨q, w | ⟨c4, w⟩ | ⟨c4, w⟩⟩ := aS_c g VS (decide (¬ bN (H e) = 0)) s e
      · rw [w, cls_1, if_pos rfl] at c2
        exact absurd c2 (by decide)
      · rw [w]
        obtain ⟨i, i1, i2, i3, i4, i5, i6, i7, i8, i9⟩ := k.tn hn he c
        obtain ⟨k1, k2, k3, k4⟩ := up4 q
        refine ⟨?_, ?_, ?_, ?_⟩
        · unfold wZ at k1 ⊢
          simp (disch := omega) only [upn] at k1 ⊢
          exact k1
        · intro e' he'
          obtain ⟨a1, a2, a3, a4⟩ := k2 e' he'
          unfold cn at a1 a2 ⊢
          unfold lend at a3 ⊢
          simp (disch := omega) only [upn] at a1 a2 a3 a4 ⊢
          refine ⟨a1, a2, a3, fun h1 i hi h10 h13 => ?_⟩
          obtain ⟨b1, b2, b3⟩ := a4 h1 i hi h10 h13
          refine ⟨b1, b2, ?_⟩
          by_cases q : e' = e
          · subst q
            rw [upe' rfl rfl, if_pos rfl, b3, hu, Int32.sub_eq_add_neg, Int32.sub_eq_add_neg]
            ac_rfl
          · rw [upn (by omega), if_neg q, upn (by omega)]
            exact b3
        · unfold Dh spk at k3 ⊢
          simp (disch := omega) only [upn] at k3 ⊢
          exact k3
        · exact wOld_tr k4 (wOld_s (fun c i hc => upn (by omega)))
      · rw [w, cls_1, if_pos rfl] at c2
        exact absurd c2 (by decide)
    · rw [if_neg c2]
      have kz : PM n s0 u y yo (aS g VS (decide (¬ bN (H e) = 0)) s e) := by
        obtain ⟨q, w | ⟨c4, w⟩ | ⟨c4, w⟩⟩ := aS_c g VS (decide (¬ bN (H e) = 0)) s e
        · rw [w]; exact cl _ 2 (Or.inl rfl)
        · rw [w, upn (by omega), upn (by omega)] at c2
          exact absurd c c2
        · rw [w]; exact cl _ 1 (Or.inr ⟨rfl, c4⟩)
      have z01 : ∀ j, ¬ j = 2 → aS g VS (decide (¬ bN (H e) = 0)) s e 0 j = s 0 j := by
        intro j hj
        obtain ⟨q, w | ⟨-, w⟩ | ⟨-, w⟩⟩ := aS_c g VS (decide (¬ bN (H e) = 0)) s e
        · rw [w, cls_03, upn (by omega)]
        · rw [w, upn (by omega), upn (by omega)]
        · rw [w, cls_03, upn (by omega)]
      exact sil _ kz c2 (z01 1 (by omega)) (by rw [z01 3 (by omega)]; exact P.2.1) _
  · rw [if_neg c]
    exact sil s k c rfl P.2.1 _
/-- rows of turns that were there stay -/
theorem acts_old (P : PA 0 n K s) (hn : n ≤ 4) (hK : K + 8 ≤ 100000) : ∀ k, k ≤ n → Nn (s 0 3) ≤ Nn (itr (ACT g VW VS VL 0 n H) 0 k s 0 3) ∧ ∀ i, i < Nn (s 0 3) → itr (ACT g VW VS VL 0 n H) 0 k s 10 i = s 10 i := by
  intro k
  induction k with
  | zero => intro _; exact ⟨Nat.le_refl _, fun _ _ => rfl⟩
  | succ k ih =>
    intro hk
    obtain ⟨i1, i2⟩ := ih (by omega)
    rw [itr_snoc, Nat.zero_add]
    have Pk := P.acts hn hK k (by omega) (g := g) (VW := VW) (VS := VS) (VL := VL) (H := H)
    generalize itr (ACT g VW VS VL 0 n H) 0 k s = z at i1 i2 Pk ⊢
    have hq : ∀ hr y, (∃ T, y 0 3 = nI T ∧ T ≤ 90) → Nn (y 0 3) ≤ Nn (aQ g VW VL 0 n hr y k 0 3) ∧ ∀ i, i < Nn (y 0 3) → aQ g VW VL 0 n hr y k 10 i = y 10 i := by
      rintro hr y ⟨T, t1, t2⟩
      unfold aQ
      split
      · rw [upn (by omega)]
        exact ⟨Nat.le_refl _, fun i _ => upn (by omega)⟩
      · split
        · split
          · rw [aP_o (by omega)]
            exact ⟨Nat.le_refl _, fun i _ => aP_o (by omega)⟩
          · rw [opn_03, t1, Nn_n (by omega), Nn_n (by omega)]
            refine ⟨by omega, fun i hi => ?_⟩
            rw [opn_lt (by omega) (by omega) hi, upn (by omega), aP_o (by omega)]
        · rw [upn (by omega), aP_o (by omega)]
          exact ⟨Nat.le_refl _, fun i _ => by rw [upn (by omega), aP_o (by omega)]⟩
    have hs : ∀ c i, (c = 0 ∧ i = 3) ∨ c = 10 → aS g VS (decide (¬ bN (H k) = 0)) z k c i = z c i := by
      intro c i hc
      have cl : ∀ (y : TS) q zz kd, cls y k q zz kd c i = y c i := by
        intro y q zz kd
        unfold cls
        simp (disch := omega) only [upn]
      obtain ⟨q, w | ⟨-, w⟩ | ⟨-, w⟩⟩ := aS_c g VS (decide (¬ bN (H k) = 0)) z k
      · rw [w, cl, upn (by omega)]
      · rw [w, upn (by omega), upn (by omega)]
      · rw [w, cl, upn (by omega)]
    obtain ⟨T, t1, t2, t3⟩ := Pk.2.1
    have t3 := t3 rfl
    have st : Nn (z 0 3) ≤ Nn (ACT g VW VS VL 0 n H k z 0 3) ∧ ∀ i, i < Nn (z 0 3) → ACT g VW VS VL 0 n H k z 10 i = z 10 i := by
      unfold ACT
      split
      · split
        · rw [hs _ _ (Or.inl ⟨rfl, rfl⟩)]
          exact ⟨Nat.le_refl _, fun i _ => hs _ _ (Or.inr rfl)⟩
        · obtain ⟨b1, b2⟩ := hq (decide (¬ bN (H k) = 0)) (aS g VS (decide (¬ bN (H k) = 0)) z k) ⟨T, by rw [hs _ _ (Or.inl ⟨rfl, rfl⟩)]; exact t1, t3⟩
          rw [hs _ _ (Or.inl ⟨rfl, rfl⟩)] at b1 b2
          exact ⟨b1, fun i hi => (b2 i hi).trans (hs _ _ (Or.inr rfl))⟩
      · exact hq _ z ⟨T, t1, t3⟩
    exact ⟨by omega, fun i hi => (st.2 i (by omega)).trans (i2 i hi)⟩
/-- between two tenths -/
def PD (n : Nat) (s0 s : TS) : Prop := wS n s ∧ D1 (fun _ => s 0 1 + 1) s ∧ Dh s (s 0 1).toInt ∧ wOld s0 s
theorem PD.tk (k : PD n s0 s) (P : PA 0 n K s) (hK : K + 8 ≤ 100000) (hn : n ≤ 4) (wr : WR n Z s) (h0 : g 0 = nI n) (hl : ∀ e N, e < n → bt 1 (VL N (tw g 2 e)) 99) (ht : (s 0 1).toInt + 1 ≤ 9000) : PD n s0 (TK g VW VS VL 0 n s) := by
  obtain ⟨k1, k2, k3, k4⟩ := k
  have w := k1
  obtain ⟨w1, w2, w3, w4, w5, w6, w7, w8, w9, w10⟩ := w
  obtain ⟨T, t1, t2, t3⟩ := btn w2 (by omega) (by omega)
  have T9 : T ≤ 8999 := by omega
  have e1 : s 0 1 + 1 = nI (T + 1) := by rw [t1, nI_s]
  have i1 : (s 0 1 + 1).toInt = (s 0 1).toInt + 1 := by rw [e1, nI_i (by omega)]; omega
  have L0 : PM n s0 (fun _ => s 0 1 + 1) ((s 0 1).toInt + 1) (s 0 1).toInt (LIS s (hB s n) n) := PM.o ⟨wS_Z k1 rfl, k2, k3, k4⟩ (fun c i hc => LIS_o (by omega))
  have P0 := P.lis hn (by
    rw [e1]
    unfold bt
    rw [nI_i (by omega)]
    omega) n
  have y01 : ∀ i, itr (ACT g VW VS VL 0 n (hB s n)) 0 i (LIS s (hB s n) n) 0 1 = s 0 1 + 1 := by
    intro i
    rw [acts_o (by omega)]
    rfl
  have acts : ∀ i, i ≤ n → PM n s0 (fun e' => if e' < i then s 0 1 + 1 + 1 else s 0 1 + 1) ((s 0 1).toInt + 1) (s 0 1).toInt (itr (ACT g VW VS VL 0 n (hB s n)) 0 i (LIS s (hB s n) n)) := by
    intro i
    induction i with
    | zero => intro _; exact L0.uu (fun e _ _ => if_neg (by omega))
    | succ i ih =>
      intro hi
      rw [itr_snoc, Nat.zero_add]
      have := (ih (by omega)).act (H := hB s n) (VW := VW) (VS := VS) (P0.acts hn hK i (by omega) (g := g) (VW := VW) (VS := VS) (VL := VL) (H := hB s n)) hn (show i < n by omega) (by
        rw [y01]
        simp) (by rw [y01]; exact i1) (by omega) (by omega) (fun N => hl i N (by omega))
      refine this.uu (fun e' _ _ => ?_)
      rw [y01]
      by_cases q : e' = i
      · rw [if_pos q, if_pos (by omega)]
      · rw [if_neg q]
        by_cases q2 : e' < i
        · rw [if_pos q2, if_pos (by omega)]
        · rw [if_neg q2, if_neg (by omega)]
  have A := acts n (Nat.le_refl _)
  have PAn := P0.acts hn hK n (Nat.le_refl _) (g := g) (VW := VW) (VS := VS) (VL := VL) (H := hB s n)
  obtain ⟨Y, hY⟩ : ∃ Y, Y = itr (ACT g VW VS VL 0 n (hB s n)) 0 n (LIS s (hB s n) n) := ⟨_, rfl⟩
  have tkY : TK g VW VS VL 0 n s = CNT Y (hB s n) n := by rw [hY]; rfl
  have Yo : ∀ c i, (c = 0 ∧ ¬ i = 2 ∧ ¬ i = 3) ∨ (7 ≤ c ∧ c ≤ 9) ∨ (15 ≤ c ∧ c ≤ 17) ∨ 24 ≤ c → Y c i = LIS s (hB s n) n c i := fun c i hc => by rw [hY]; exact acts_o (by omega) n
  rw [← hY] at A PAn
  obtain ⟨a1, a2, a3, a4⟩ := A
  have C : ∀ c i, ¬ c = 8 → ¬ c = 9 → c < 30 → TK g VW VS VL 0 n s c i = Y c i := by
    intro c i h1 h2 h3
    rw [tkY]
    unfold CNT
    rw [if_neg h1, if_neg h2, if_neg (by omega)]
  have Y01 : Y 0 1 = s 0 1 + 1 := by rw [hY]; exact y01 n
  have nsp : ∀ e, e < 4 → Y 1 e = 1 → e < n := by
    intro e he z
    by_cases q : e < n
    · exact q
    · rw [hY, acts_ge (by omega) n (by omega), LIS_o (by omega)] at z
      exact (wr.2.2 e he z).1
  have h03 := PAn.2.1
  obtain ⟨T3, u1, u2, u3⟩ := h03
  have u3 := u3 rfl
  have zY : wZ n Y ((s 0 1).toInt + 1) := a1
  refine ⟨wS_of ?_ ?_ ?_ ?_ (fun e he => ?_) (fun j hj => ?_) ?_ (fun j hj => ?_), ?_, ?_, ?_⟩
  · rw [C 0 0 (by omega) (by omega) (by omega), Yo 0 0 (by omega), LIS_o (by omega)]; exact w1
  · rw [C 0 1 (by omega) (by omega) (by omega), Y01]
    unfold bt
    omega
  · rw [C 0 3 (by omega) (by omega) (by omega), u1]
    unfold bt
    rw [nI_i (by omega)]
    omega
  · rw [C 0 4 (by omega) (by omega) (by omega), Yo 0 4 (by omega), LIS_o (by omega)]; exact w4
  · rw [C 1 e (by omega) (by omega) (by omega), C 5 e (by omega) (by omega) (by omega), C 6 e (by omega) (by omega) (by omega), C 0 1 (by omega) (by omega) (by omega), Y01, i1]
    obtain ⟨b1, b2, b3, b4, b5, b6⟩ := PAn.2.2 e he
    refine ⟨b1, b2, ?_⟩
    have o6 : Y 6 e = LIS s (hB s n) n 6 e := by rw [hY]; exact acts_o (by omega) n
    rw [o6]
    unfold LIS
    rw [if_neg (by omega), if_neg (by omega)]
    split
    · unfold bt; omega
    · exact bt_mono (w5 e he).2.2 (by omega)
  · rw [TK_7]; exact w6 j hj
  · rw [C 0 1 (by omega) (by omega) (by omega), Y01, i1]
    refine wZ_mono (y := (s 0 1).toInt + 1) (by omega) ?_
    unfold wZ at zY ⊢
    simp (disch := omega) only [C]
    exact zY
  · have c4 : TK g VW VS VL 0 n s 0 4 = s 0 4 := TK_0.2.2
    rw [c4] at hj
    have y15 : ∀ c, 15 ≤ c → c ≤ 17 → TK g VW VS VL 0 n s c j = s c j := fun c h1 h2 => by
      rw [C c j (by omega) (by omega) (by omega), Yo c j (by omega), LIS_o (by omega)]
    obtain ⟨z1, z2, z3, z4⟩ := w10 j hj
    rw [y15 15 (by omega) (by omega), y15 16 (by omega) (by omega), y15 17 (by omega) (by omega), C 0 1 (by omega) (by omega) (by omega), Y01, i1, C 0 3 (by omega) (by omega) (by omega)]
    have o3 : Nn (s 0 3) ≤ Nn (Y 0 3) ∧ ∀ i, i < Nn (s 0 3) → Y 10 i = s 10 i := by
      -- the rows that were there stay
      have := acts_old (g := g) (VW := VW) (VS := VS) (VL := VL) (H := hB s n) (s := LIS s (hB s n) n) P0 hn hK n (Nat.le_refl _)
      rw [← hY] at this
      have e03 : LIS s (hB s n) n 0 3 = s 0 3 := LIS_o (by omega)
      rw [e03] at this
      exact ⟨this.1, fun i hi => (this.2 i hi).trans (LIS_o (by omega))⟩
    have i3 := bt_i w3 (by omega)
    have iT3 : (Y 0 3).toInt = (Nn (Y 0 3) : Int) := by rw [u1, nI_i (by omega), Nn_n (by omega)]
    refine ⟨z1, bt_mono z2 (by omega), ?_, ?_⟩
    · unfold bt at z3 ⊢
      omega
    · rcases z4 with z4 | z4
      · exact Or.inl z4
      · by_cases q : s 17 j = -1
        · exact Or.inl q
        · refine Or.inr ?_
          have lt : Nn (s 17 j) < Nn (s 0 3) := by
            have q' : ¬ (s 17 j).toInt = -1 := fun z => q (Int32.toInt_inj.mp z)
            unfold bt at z3
            unfold Nn Int32.toNatClampNeg at i3 ⊢
            omega
          rw [C 10 _ (by omega) (by omega) (by omega), o3.2 _ lt]
          exact z4
  · have : D1 (fun _ => s 0 1 + 1 + 1) Y := by
      refine (PM.uu (y := (s 0 1).toInt + 1) (yo := (s 0 1).toInt) (s0 := s0) (n := n) (u' := fun _ => s 0 1 + 1 + 1) ⟨a1, a2, a3, a4⟩ (fun e he z => ?_)).2.1
      rw [if_pos (nsp e he z)]
    rw [C 0 1 (by omega) (by omega) (by omega), Y01]
    unfold D1 cn lend at this ⊢
    simpa (disch := omega) only [C] using this
  · rw [C 0 1 (by omega) (by omega) (by omega), Y01, i1]
    intro f kk hf hk
    have sp : ∀ z, spk (TK g VW VS VL 0 n s) f z ↔ spk Y f z := by
      intro z
      unfold spk
      simp (disch := omega) only [C]
    rw [sp, TK_past hf]
    by_cases q : f < n
    · rw [if_pos q]
      by_cases c : kk = 0
      · subst c
        rw [if_pos rfl, C 1 f (by omega) (by omega) (by omega)]
        constructor
        · intro z
          obtain ⟨i, i1', i2, i3⟩ := zY.2.1 f hf z
          have b := (zY.1 i i1').2.1
          refine ⟨by omega, i, i1', i2, ?_, Or.inl i3⟩
          unfold bt at b
          omega
        · rintro ⟨-, i, i1', i2, i3, i4⟩
          obtain ⟨b1, b2, b3, b4⟩ := zY.1 i i1'
          rcases b4 with b4 | ⟨b4, -⟩
          · have := b4.2.2
            rw [i2, Nn_n (by omega)] at this
            exact this
          · exfalso
            rcases i4 with i4 | i4
            · rw [i4] at b4
              have : (-1 : Int32).toInt = -1 := rfl
              unfold bt at b4 b2
              omega
            · unfold bt at b4
              omega
      · rw [if_neg c]
        have d := a3 f (kk - 1) hf (by omega)
        rw [Yo (30 + f) (kk - 1) (by omega), LIS_o (by omega)] at d
        rw [d]
        have e : (s 0 1).toInt - ((kk - 1 : Nat) : Int) = (s 0 1).toInt + 1 - (kk : Int) := by omega
        rw [e]
        exact ⟨fun z => ⟨by omega, z.2⟩, fun z => ⟨by omega, z.2⟩⟩
    · rw [if_neg q]
      constructor
      · intro z
        exact absurd z (wr.2.1 f kk (by omega) hf hk)
      · rintro ⟨-, i, i1', i2, i3, i4⟩
        exfalso
        have b := (zY.1 i i1').1
        rw [i2] at b
        unfold bt at b
        rw [nI_i (by omega)] at b
        omega
  · refine wOld_tr a4 (wOld_s (fun c i hc => C c i (by omega) (by omega) (by omega)))
theorem PD.tks (k : PD n s0 s) (w : WW 0 n K Z s) (hn : n ≤ 4) (h0 : g 0 = nI n) (hl : ∀ e N, e < n → bt 1 (VL N (tw g 2 e)) 99) (ht : s 0 1 = nI T) : ∀ t, K + 8 * t ≤ 100000 → Z + t + 1 ≤ 100000 → T + t ≤ 9000 → PD n s0 (TKS g VW VS VL 0 n t s) := by
  intro t
  induction t with
  | zero => intro _ _ _; exact k
  | succ t ih =>
    intro h1 h2 h3
    rw [TKS_s]
    have W := w.tks (g := g) (VW := VW) (VS := VS) (VL := VL) hn t (by omega) (by omega)
    refine (ih (by omega) (by omega) (by omega)).tk W.1.1 (by omega) hn W.2 h0 hl ?_
    rw [TKS_01 ht, nI_i (by omega)]
    omega
end PDs
