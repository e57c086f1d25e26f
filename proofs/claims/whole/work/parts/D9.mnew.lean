/-! rows of rows are made -/
section MNEW
variable {l : Launch}
theorem mn_t {h : am_h} {N K q : Nat} : a_t (s_mn h N K) q = if q = a_n h then (26, N) else if a_n h < q ∧ q < a_n h + (1 + N) then (20, K) else a_t h q := rfl
theorem mn_i {h : am_h} {N K q j : Nat} : a_i (s_mn h N K) q j = if a_n h ≤ q ∧ q < a_n h + (1 + N) then 0 else a_i h q j := rfl
theorem mn_l {h : am_h} {N K q j : Nat} : a_l (s_mn h N K) q j = if a_n h ≤ q ∧ q < a_n h + (1 + N) then 0 else a_l h q j := rfl
theorem mn_r {h : am_h} {N K q j : Nat} : a_r (s_mn h N K) q j = if q = a_n h then (if j < N then some (a_n h + 1 + j) else none) else if a_n h < q ∧ q < a_n h + (1 + N) then none else a_r h q j := rfl
theorem mn_out (c : ClassId) (N w : Nat) : ∀ i : Nat, Jvm.Free.Multi.outerC c N w i = arrV c N (fun j => va_rf (if j < i then some (w + 1 + j) else none))
  | 0 => by
    refine Eq.trans (arrV_new ..) (congrArg (arrV c N) (funext fun j => ?_))
    rw [if_neg (Nat.not_lt_zero j)]
    rfl
  | i + 1 => by
    refine Eq.trans (congrArg (fun x : Cell => x.setSlot i (.ref (w + 1 + i))) (mn_out c N w i)) ?_
    show (arrV c N _).setSlot i (.ref (w + 1 + i)) = _
    rw [arrV_store]
    refine congrArg (arrV c N) (funext fun j => ?_)
    unfold updV
    by_cases c1 : j = i
    · rw [if_pos c1, if_pos (by omega), c1]; rfl
    · rw [if_neg c1]
      show va_rf (if j < i then some (w + 1 + j) else none) = _
      by_cases c2 : j < i
      · rw [if_pos c2, if_pos (by omega)]
      · rw [if_neg c2, if_neg (by omega)]
theorem am_mn : am_MN l := by
  intro M pc n L L2 S S2 h h2 pc2 x dm hd e
  simp only [am_I] at e
  split at e
  · rename_i k y S0
    obtain ⟨⟨rfl, rfl, hf, hk0, hy0, hk, hy, hmx⟩, e1⟩ := ck_s e
    obtain ⟨rfl, rfl, rfl, rfl⟩ := nx_s e1
    obtain ⟨i, hi⟩ := am_cTOK _ (lookup_mem hf)
    unfold am_cTB at hi
    simp only [if_true] at hi
    intro hw
    obtain ⟨N, eN⟩ : ∃ N, N = y.toNatClampNeg := ⟨_, rfl⟩
    obtain ⟨K, eK⟩ : ∃ K, K = k.toNatClampNeg := ⟨_, rfl⟩
    rw [← eN] at hy ⊢
    rw [← eK] at hk ⊢
    have hmx' : a_n h < 900000 := hmx
    have hn : a_n (s_mn h N K) = a_n h + (1 + N) := rfl
    have hz : a_z (s_mn h N K) = a_z h + (N + N * K) := rfl
    have out : ∀ q, q < a_n h ∨ a_n h + (1 + N) ≤ q → a_t (s_mn h N K) q = a_t h q ∧ a_i (s_mn h N K) q = a_i h q ∧ a_l (s_mn h N K) q = a_l h q ∧ a_r (s_mn h N K) q = a_r h q := fun q c => by
      refine ⟨?_, funext fun j => ?_, funext fun j => ?_, funext fun j => ?_⟩
      · rw [mn_t, if_neg (by omega), if_neg (by omega)]
      · rw [mn_i, if_neg (by omega)]
      · rw [mn_l, if_neg (by omega)]
      · rw [mn_r, if_neg (by omega), if_neg (by omega)]
    have hw2 : am_wf (s_mn h N K) := by
      refine ⟨by rw [hn]; omega, fun q hq => ?_, fun q hq => ?_⟩
      · rw [hn] at hq
        by_cases c : q < a_n h
        · rw [(out q (Or.inl c)).1]; exact hw.2.1 q c
        · rw [mn_t]
          by_cases c2 : q = a_n h
          · rw [if_pos c2]; exact Or.inr ⟨by show 20 ≤ 26; omega, by show 26 ≤ 26; omega⟩
          · rw [if_neg c2, if_pos (by omega)]; exact Or.inr ⟨by show 20 ≤ 20; omega, by show 20 ≤ 26; omega⟩
      · by_cases c : q < a_n h ∨ a_n h + (1 + N) ≤ q
        · rw [(out q c).1] at hq ⊢
          rcases hw.2.2 q hq with ⟨z1, z2⟩ | z1
          · exact Or.inl ⟨z1, by rw [hn]; omega⟩
          · exact Or.inr z1
        · refine Or.inl ⟨?_, by rw [hn]; omega⟩
          rw [mn_t]
          by_cases c2 : q = a_n h
          · rw [if_pos c2]; show 26 < 40; omega
          · rw [if_neg c2, if_pos (by omega)]; show 20 < 40; omega
    have hM : ∀ p, 1000000 ≤ p → a_t (s_mn h N K) p = a_t h p ∧ a_i (s_mn h N K) p = a_i h p ∧ a_r (s_mn h N K) p = a_r h p := fun p hp => by
      obtain ⟨x1, x2, x3, x4⟩ := out p (Or.inr (by omega))
      exact ⟨x1, x2, x4⟩
    refine ⟨hw2, ⟨by rw [hn]; omega, by rw [hz]; omega, hM⟩, ?_⟩
    intro p e R s m args below meth c G ca b ad H locs ls cells slots d Q X Y hL hc hs kk
    rw [hn] at hc
    rw [hz] at hs
    obtain ⟨hO, hS, hR⟩ := Y
    have hts := X.2.2.2.2.2.1
    have hK := X.2.2.2.2.2.2.2.2.1
    intro T hT Xs
    have hover : (Cond.arrayOver (.array .int)).before args s = true := hK.2.2.1.2.2.2
    obtain ⟨vm₁, cA, comp, -, fA, fC, hOO, -, X', step⟩ := Xs.multianewarray2F X.1 X.2.2.2.2.1 (ty := .int) (hts _ (am_at1_in hi)) hover (hts _ (am_in2 (c := 1) (j := 67) rfl rfl)) (g := F0 m pc ls (.int k :: .int y :: S0.map (cV ad))) rfl (by rw [X.2.1]; exact hd) rfl hy0 hk0 (by omega) (by show k.toNatClampNeg * 4 ≤ _; omega) (by omega) rfl rfl (by omega) (by rw [← eN, ← eK]; omega)
    have e26 : cA = ca 26 := Option.some.inj (fA.symm.trans (hK.1.2 6 _ rfl).2)
    have e20 : comp = ca 20 := Option.some.inj (fC.symm.trans (hK.1.2 0 _ rfl).2)
    subst e26 e20
    rw [← eN, ← eK] at X' step
    generalize hF : Jvm.Free.Multi.fill (T.setVm vm₁) (ca 26) (ca 20) N K (defaultValue .int) N = F at X' step
    have hTh : (T.setVm vm₁).heap = H := hT
    obtain ⟨f1, f2, -, -⟩ := Jvm.Free.Multi.fill_facts (T.setVm vm₁) (ca 26) (ca 20) N K (defaultValue .int) N
    rw [hF, hTh] at f1 f2
    have hold : ∀ x : Nat, x < H.size → F.heap[x]? = H[x]? := fun x hx => by
      have := Jvm.Free.Multi.fill_old (T.setVm vm₁) (ca 26) (ca 20) N K (defaultValue .int) (a := x) (by rw [hTh]; exact hx) N
      rw [hF, hTh] at this
      exact this
    have hrow : ∀ j : Nat, j < N → F.heap[H.size + 1 + j]? = some (vp_cell (ca 20) (K, .inl (fun _ => 0))) := fun j hj => by
      have := Jvm.Free.Multi.fill_inner (T.setVm vm₁) (ca 26) (ca 20) N K (defaultValue .int) N j hj
      rw [hF, hTh] at this
      exact this.trans (congrArg some (arrV_new ..))
    have hout : Jvm.Free.Multi.outerC (ca 26) N H.size N = vp_cell (ca 26) (N, .inr (.inr (.inr (.inr (fun i => if i < N then some (H.size + 1 + i) else none))))) := by
      rw [vp_cell_q]
      exact mn_out (ca 26) N H.size N
    rw [hout] at f2
    have Hs := hR.1
    have hS1 : va_S (am_A b) s.heap F.heap locs := ⟨by rw [f1]; have := hS.1; omega, fun x h1 h2 => (hold x (Nat.lt_of_lt_of_le h1 hS.1)).trans (hS.2.1 x h1 h2), hS.2.2⟩
    have ada : ad (a_n h) = H.size := by rw [hR.2.1 _ (by omega)]; exact Hs.symm
    have hY : am_Y s G ca b ad (s_mn h N K) F.heap locs := by
      refine ⟨hO.to hM, hS1, by rw [f1, hn, Hs]; omega, hR.2.1, fun q hq => ?_⟩
      rw [hn] at hq
      by_cases c : q < a_n h
      · obtain ⟨x1, x2, x3, x4⟩ := out q (Or.inl c)
        rw [am_ce_eq (h := h) (h2 := s_mn h N K) x1 x2 x3 x4]
        exact (hR.2.2 q c).kept (hold (ad q) (hR.2.2 q c).lt)
      · by_cases c2 : q = a_n h
        · have tq : a_t (s_mn h N K) q = (26, N) := by rw [mn_t, if_pos c2]
          rw [am_ce_r (by rw [tq]; show 23 ≤ 26; omega), tq]
          have fr : (fun j => (a_r (s_mn h N K) q j).map ad) = fun i => if i < N then some (H.size + 1 + i) else none := funext fun j => by
            rw [mn_r, if_pos c2]
            by_cases cj : j < N
            · rw [if_pos cj, if_pos cj, Option.map_some, hR.2.1 _ (by omega), Hs]
              exact congrArg some (by omega)
            · rw [if_neg cj, if_neg cj]; rfl
          rw [fr, c2, ada]
          exact f2
        · have tq : a_t (s_mn h N K) q = (20, K) := by rw [mn_t, if_neg c2, if_pos (by omega)]
          rw [am_ce_i (by rw [tq]), tq]
          have fi : a_i (s_mn h N K) q = fun _ => 0 := funext fun j => by rw [mn_i, if_pos (by omega)]
          rw [fi, hR.2.1 _ (by omega), show b + q = H.size + 1 + (q - a_n h - 1) by omega]
          exact hrow _ (by omega)
    have k2 := kk F.heap locs ls hY hL
    rw [hn, hz, Nat.add_sub_cancel_left, Nat.add_sub_cancel_left, ← Nat.add_assoc, ← Nat.add_assoc] at k2
    obtain ⟨t, a1, b1⟩ := k2 F rfl X'
    refine ⟨t, step t ?_, b1⟩
    have e : T.heap.size = H.size := by rw [hT]
    rw [e, ← ada]
    exact a1
  · cases e
end MNEW
