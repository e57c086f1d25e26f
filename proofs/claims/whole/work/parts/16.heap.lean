/-! steps that read and write the heap -/
section HEAP
variable {l : Launch} {M : am_m} {pc n : Nat} {L L2 : am_L} {S S2 : List Value} {h h2 : am_h} {pc2 : Nat}
theorem am_ce_eq {ad : Nat → Nat} {ca : Nat → ClassId} {q : Nat} (ht : a_t h2 q = a_t h q) (hi : a_i h2 q = a_i h q) (hl : a_l h2 q = a_l h q) (hr : a_r h2 q = a_r h q) : am_ce ad ca h2 q = am_ce ad ca h q := by
  unfold am_ce am_fv
  rw [ht, hi, hl, hr]
theorem am_wf.lt (hw : am_wf h) {q : Nat} (hk : (a_t h q).1 < 40) : q < a_n h := by
  rcases hw.2.2 q (by omega) with ⟨_, z⟩ | ⟨z, _⟩
  · exact z
  · omega
theorem am_wf.old (hw : am_wf h) {q : Nat} (hk : 40 ≤ (a_t h q).1) (hk2 : (a_t h q).1 < 90) : 1000000 ≤ q := by
  rcases hw.2.2 q hk2 with ⟨z, _⟩ | ⟨_, z⟩
  · omega
  · exact z
theorem am_O.to {b : Nat} {ad : Nat → Nat} {U : State} {H : Heap} (hM : ∀ p, 1000000 ≤ p → a_t h2 p = a_t h p ∧ a_i h2 p = a_i h p ∧ a_r h2 p = a_r h p) (k : am_O b ad h U H) : am_O b ad h2 U H := by
  obtain ⟨k1, k2, k3, k4⟩ := k
  refine ⟨fun p hp e => ?_, fun p hp e => ?_, fun p hp e => ?_, ?_⟩
  · have z := k1 p hp (by rw [← (hM p hp).1]; exact e)
    rw [(hM p hp).1, (hM p hp).2.1]; exact z
  · have z := k2 p hp (by rw [← (hM p hp).1]; exact e)
    rw [(hM p hp).1, (hM p hp).2.1]; exact z
  · exact k3 p hp (by rw [← (hM p hp).1]; exact e)
  · rw [(hM 1000008 (by omega)).2.2]; exact k4
/-- a step that writes one cell -/
theorem am_P.wr {q0 : Nat} (hk : (a_t h q0).1 < 40) (hn : a_n h2 = a_n h) (hz : a_z h2 = a_z h) (ht : a_t h2 = a_t h) (he : ∀ q, q ≠ q0 → a_i h2 q = a_i h q ∧ a_l h2 q = a_l h q ∧ a_r h2 q = a_r h q)
    (k : ∀ (p : Program) (e : Env) (R : Room) (s : State) (m : MethodId) (args : Array Value) (below : List Frame) (meth : Method) (c : Code) (G : va_G) (ca : Nat → ClassId) (b : Nat) (ad : Nat → Nat) (H : Heap) (locs : List Loc) (ls : Array Slot) (cells slots d : Nat) (Q : State → Prop), am_wf h → q0 < a_n h → am_A b (ad q0) → am_X p R s m args meth c G ca b ad M d → am_Y s G ca b ad h H locs → am_LR ad L ls (m_l M) → (∀ (H1 : Heap) (locs1 : List Loc), H1.size = H.size → (∀ q, q ≠ ad q0 → H1[q]? = H[q]?) → va_at G vwCl (ad q0, am_ce ad ca h2 q0) H1 → va_S (am_A b) s.heap H1 locs1 → W p l e R s m args below meth c H1 locs1 cells slots Q (F0 m pc2 ls (S2.map (cV ad)))) → W p l e R s m args below meth c H locs cells slots Q (F0 m pc ls (S.map (cV ad)))) : am_P l M pc L S h pc2 L S2 h2 := by
  intro hw
  have h0 := hw.lt hk
  have hw2 : am_wf h2 := by unfold am_wf; rw [hn, ht]; exact hw
  have hM : ∀ p, 1000000 ≤ p → a_t h2 p = a_t h p ∧ a_i h2 p = a_i h p ∧ a_r h2 p = a_r h p := fun p hp => by
    have hne : p ≠ q0 := by have := hw.1; omega
    exact ⟨by rw [ht], (he p hne).1, (he p hne).2.2⟩
  refine ⟨hw2, ⟨by rw [hn]; exact Nat.le_refl _, by rw [hz]; exact Nat.le_refl _, hM⟩, ?_⟩
  intro p e R s m args below meth c G ca b ad H locs ls cells slots d Q X Y hL _ _ kk
  obtain ⟨hO, hS, hR⟩ := Y
  have hlt : q0 < 1000000 := by have := hw.1; omega
  refine k p e R s m args below meth c G ca b ad H locs ls cells slots d Q hw h0 (by rw [hR.2.1 q0 hlt]; exact Nat.le_add_right _ _) X ⟨hO, hS, hR⟩ hL (fun H1 locs1 z1 z2 z3 z4 => ?_)
  have := kk H1 locs1 ls ⟨hO.to hM, z4, by rw [z1, hn]; exact hR.1, hR.2.1, fun q hq => ?_⟩ hL
  · rw [hn, hz, Nat.sub_self, Nat.sub_self, Nat.add_zero, Nat.add_zero] at this
    exact this
  · by_cases hne : q = q0
    · subst hne; exact z3
    · rw [am_ce_eq (h := h) (h2 := h2) (by rw [ht]) (he q hne).1 (he q hne).2.1 (he q hne).2.2]
      rw [hn] at hq
      refine (hR.2.2 q hq).kept (z2 (ad q) (fun z => hne ?_))
      have : q < 1000000 := by have := hw.1; omega
      rw [hR.2.1 q this, hR.2.1 q0 hlt] at z
      omega
/-- a step that makes one cell -/
theorem am_P.al {t z : Nat} (hk : (t ≤ 12 ∧ z = am_sz t) ∨ (20 ≤ t ∧ t ≤ 26)) (hx : a_n h < am_MX)
    (k : ∀ (p : Program) (e : Env) (R : Room) (s : State) (m : MethodId) (args : Array Value) (below : List Frame) (meth : Method) (c : Code) (G : va_G) (ca : Nat → ClassId) (b : Nat) (ad : Nat → Nat) (H : Heap) (locs : List Loc) (ls : Array Slot) (cells slots d : Nat) (Q : State → Prop), am_wf h → H.size = ad (a_n h) → am_X p R s m args meth c G ca b ad M d → am_Y s G ca b ad h H locs → am_LR ad L ls (m_l M) → cells + 1 ≤ R.cells → slots + z ≤ R.slots → (∀ (H1 : Heap), H1.size = H.size + 1 → (∀ q, q < H.size → H1[q]? = H[q]?) → va_at G vwCl (ad (a_n h), am_ce ad ca (s_nw h t z) (a_n h)) H1 → W p l e R s m args below meth c H1 locs (cells + 1) (slots + z) Q (F0 m pc2 ls (S2.map (cV ad)))) → W p l e R s m args below meth c H locs cells slots Q (F0 m pc ls (S.map (cV ad)))) : am_P l M pc L S h pc2 L S2 (s_nw h t z) := by
  intro hw
  have hmx : a_n h < 900000 := hx
  have hne : ∀ q, q ≠ a_n h → a_t (s_nw h t z) q = a_t h q ∧ a_i (s_nw h t z) q = a_i h q ∧ a_l (s_nw h t z) q = a_l h q ∧ a_r (s_nw h t z) q = a_r h q := fun q hq => by
    refine ⟨if_neg hq, funext fun j => if_neg hq, funext fun j => if_neg hq, funext fun j => if_neg hq⟩
  have hself : a_t (s_nw h t z) (a_n h) = (t, z) := if_pos rfl
  have hn : a_n (s_nw h t z) = a_n h + 1 := rfl
  have hz : a_z (s_nw h t z) = a_z h + z := rfl
  have hw2 : am_wf (s_nw h t z) := by
    refine ⟨by rw [hn]; omega, fun q hq => ?_, fun q hq => ?_⟩
    · by_cases e : q = a_n h
      · subst e; rw [hself]; exact hk
      · rw [(hne q e).1]; exact hw.2.1 q (by rw [hn] at hq; omega)
    · by_cases e : q = a_n h
      · subst e; rw [hself]; refine Or.inl ⟨?_, by rw [hn]; omega⟩
        rcases hk with ⟨q, _⟩ | ⟨_, q⟩ <;> (show t < 40; omega)
      · rw [(hne q e).1] at hq ⊢
        rcases hw.2.2 q hq with ⟨z1, z2⟩ | z1
        · exact Or.inl ⟨z1, by rw [hn]; omega⟩
        · exact Or.inr z1
  have hM : ∀ p, 1000000 ≤ p → a_t (s_nw h t z) p = a_t h p ∧ a_i (s_nw h t z) p = a_i h p ∧ a_r (s_nw h t z) p = a_r h p := fun p hp => by
    have e : p ≠ a_n h := by omega
    exact ⟨(hne p e).1, (hne p e).2.1, (hne p e).2.2.2⟩
  refine ⟨hw2, ⟨by rw [hn]; omega, by rw [hz]; omega, hM⟩, ?_⟩
  intro p e R s m args below meth c G ca b ad H locs ls cells slots d Q X Y hL hc hs kk
  rw [hn] at hc
  rw [hz] at hs
  obtain ⟨hO, hS, hR⟩ := Y
  have hsz : H.size = ad (a_n h) := by rw [hR.2.1 (a_n h) (by omega)]; exact hR.1
  refine k p e R s m args below meth c G ca b ad H locs ls cells slots d Q hw hsz X ⟨hO, hS, hR⟩ hL (by omega) (by omega) (fun H1 z1 z2 z3 => ?_)
  have hS1 : va_S (am_A b) s.heap H1 locs := ⟨by rw [z1]; exact Nat.le_succ_of_le hS.1, fun q hq hA => (z2 q (Nat.lt_of_lt_of_le hq hS.1)).trans (hS.2.1 q hq hA), hS.2.2⟩
  have := kk H1 locs ls ⟨hO.to hM, hS1, by rw [z1, hn, hR.1]; omega, hR.2.1, fun q hq => ?_⟩ hL
  · rw [hn, hz, Nat.add_sub_cancel_left, Nat.add_sub_cancel_left] at this
    exact this
  · by_cases e : q = a_n h
    · subst e; exact z3
    · rw [am_ce_eq (h := h) (h2 := s_nw h t z) (hne q e).1 (hne q e).2.1 (hne q e).2.2.1 (hne q e).2.2.2]
      have hq2 : q < a_n h := by rw [hn] at hq; omega
      exact (hR.2.2 q hq2).kept (z2 (ad q) (hR.2.2 q hq2).lt)
theorem am_ce_o {ad : Nat → Nat} {ca : Nat → ClassId} {q : Nat} (hk : (a_t h q).1 < 20) : am_ce ad ca h q = .inr ((a_t h q).1, (List.range (a_t h q).2).map (fun k => am_fv ad h q k (am_ty (a_t h q).1 k))) := by
  unfold am_ce; rw [if_pos hk]
theorem am_ce_i {ad : Nat → Nat} {ca : Nat → ClassId} {q : Nat} (hk : (a_t h q).1 = 20) : am_ce ad ca h q = .inl (ca 20, (a_t h q).2, .inl (a_i h q)) := by
  unfold am_ce; rw [if_neg (by omega), if_pos (by omega), hk]
theorem am_ce_b {ad : Nat → Nat} {ca : Nat → ClassId} {q : Nat} (hk : (a_t h q).1 = 21) : am_ce ad ca h q = .inl (ca 21, (a_t h q).2, .inl (a_i h q)) := by
  unfold am_ce; rw [if_neg (by omega), if_pos (by omega), hk]
theorem am_ce_l {ad : Nat → Nat} {ca : Nat → ClassId} {q : Nat} (hk : (a_t h q).1 = 22) : am_ce ad ca h q = .inl (ca 22, (a_t h q).2, .inr (.inl (a_l h q))) := by
  unfold am_ce; rw [if_neg (by omega), if_neg (by omega), if_pos hk]
theorem am_ce_r {ad : Nat → Nat} {ca : Nat → ClassId} {q : Nat} (hk : 23 ≤ (a_t h q).1) : am_ce ad ca h q = .inl (ca (a_t h q).1, (a_t h q).2, .inr (.inr (.inr (.inr (fun j => (a_r h q j).map ad))))) := by
  unfold am_ce; rw [if_neg (by omega), if_neg (by omega), if_neg (by omega)]
/-- one cell of the world by itself -/
theorem am_one {G : va_G} {q : Nat × va_E} {H : Heap} (k : va_at G vwCl q H) : va_P G vwCl [q] H := fun j x hx => by
  cases j with
  | zero => cases hx; exact k
  | succ j => simp at hx
theorem st_iaload (hd : decode (m_c M) pc = .ok (.iaload, n)) (e : am_I M .iaload n pc L S h = some (.inl (pc2, L2, S2, h2))) : am_P l M pc L S h pc2 L2 S2 h2 := by
  simp only [am_I] at e
  split at e
  · rename_i i q S0
    obtain ⟨⟨rfl, hk, hin⟩, e1⟩ := ck_s e
    obtain ⟨rfl, rfl, rfl, rfl⟩ := nx_s e1
    refine am_P.pure (fun p e R s m args below meth c G ca b ad H locs ls cells slots d Q hw X Y hL kk => ?_)
    rcases hk with hk | hk
    · have z := Y.2.2.2.2 q (hw.lt (by omega))
      rw [am_ce_i hk] at z
      exact va_iald X.1 X.2.1 X.2.2.2.2.2.2.2.2.1.1 (am_one z) 0 0 rfl rfl hin hd kk
    · exact va_ti X.1 X.2.1 (Y.1.1 q (hw.old (by omega) (by omega)) hk) Y.2.1 hin rfl hd kk
  · cases e
theorem st_baload (hd : decode (m_c M) pc = .ok (.baload, n)) (e : am_I M .baload n pc L S h = some (.inl (pc2, L2, S2, h2))) : am_P l M pc L S h pc2 L2 S2 h2 := by
  simp only [am_I] at e
  split at e
  · rename_i i q S0
    obtain ⟨⟨rfl, hk, hin⟩, e1⟩ := ck_s e
    obtain ⟨rfl, rfl, rfl, rfl⟩ := nx_s e1
    refine am_P.pure (fun p e R s m args below meth c G ca b ad H locs ls cells slots d Q hw X Y hL kk => ?_)
    rcases hk with hk | hk
    · have z := Y.2.2.2.2 q (hw.lt (by omega))
      rw [am_ce_b hk] at z
      exact va_bald X.1 X.2.1 X.2.2.2.2.2.2.2.2.1.1 (am_one z) 0 1 rfl rfl hin hd kk
    · exact va_tb X.1 X.2.1 (Y.1.2.1 q (hw.old (by omega) (by omega)) hk) Y.2.1 hin rfl hd kk
  · cases e
theorem st_laload (hd : decode (m_c M) pc = .ok (.laload, n)) (e : am_I M .laload n pc L S h = some (.inl (pc2, L2, S2, h2))) : am_P l M pc L S h pc2 L2 S2 h2 := by
  simp only [am_I] at e
  split at e
  · rename_i i q S0
    obtain ⟨⟨rfl, hk, hin⟩, e1⟩ := ck_s e
    obtain ⟨rfl, rfl, rfl, rfl⟩ := nx_s e1
    refine am_P.pure (fun p e R s m args below meth c G ca b ad H locs ls cells slots d Q hw X Y hL kk => ?_)
    have z := Y.2.2.2.2 q (hw.lt (by omega))
    rw [am_ce_l hk] at z
    exact va_lald X.1 X.2.1 X.2.2.2.2.2.2.2.2.1.1 (am_one z) 0 2 rfl rfl hin hd kk
  · cases e
theorem st_aaload (hd : decode (m_c M) pc = .ok (.aaload, n)) (e : am_I M .aaload n pc L S h = some (.inl (pc2, L2, S2, h2))) : am_P l M pc L S h pc2 L2 S2 h2 := by
  simp only [am_I] at e
  split at e
  · rename_i i q S0
    obtain ⟨⟨rfl, hk, hin⟩, e1⟩ := ck_s e
    obtain ⟨rfl, rfl, rfl, rfl⟩ := nx_s e1
    refine am_P.pure (fun p e R s m args below meth c G ca b ad H locs ls cells slots d Q hw X Y hL kk => ?_)
    have z := Y.2.2.2.2 q (hw.lt (by omega))
    rw [am_ce_r (by omega)] at z
    have kk2 : W p l e R s m args below meth c H locs cells slots Q (F0 m (pc + 1) ls (va_rf ((a_r h2 q i.toNatClampNeg).map ad) :: S0.map (cV ad))) := by
      rw [← cV_rf]; exact kk
    rcases (show (a_t h2 q).1 = 23 ∨ (a_t h2 q).1 = 24 ∨ (a_t h2 q).1 = 25 ∨ (a_t h2 q).1 = 26 by omega) with k9 | k9 | k9 | k9 <;> rw [k9] at z
    · exact va_aldq X.1 X.2.1 X.2.2.2.2.2.2.2.2.1.1 (am_one z) 0 3 rfl rfl hin hd kk2
    · exact va_aldq X.1 X.2.1 X.2.2.2.2.2.2.2.2.1.1 (am_one z) 0 4 rfl rfl hin hd kk2
    · exact va_aldq X.1 X.2.1 X.2.2.2.2.2.2.2.2.1.1 (am_one z) 0 5 rfl rfl hin hd kk2
    · have hlt : i.toNatClampNeg < (a_t h2 q).2 := Nat.not_le.mp fun z => hin (Or.inr z)
      exact W.aald (v := va_rf ((a_r h2 q i.toNatClampNeg).map ad)) (ty := .array .int) X.1 X.2.1 (am_one z 0 _ rfl) ((X.2.2.2.2.2.2.2.2.1.1.2 6 _ rfl).1 (a_t h2 q).2 (fun j => va_rf ((a_r h2 q j).map ad))) rfl (fun q => by cases q) (by show ¬ (i < 0 ∨ (arrV _ _ _).slots.size ≤ _); rw [arrV_size]; exact hin) (by show (arrV _ _ _).slots[_]? = _; rw [arrV_read _ _ hlt]) rfl rfl hd kk2
  · cases e
theorem st_alen (hd : decode (m_c M) pc = .ok (.arraylength, n)) (e : am_I M .arraylength n pc L S h = some (.inl (pc2, L2, S2, h2))) : am_P l M pc L S h pc2 L2 S2 h2 := by
  simp only [am_I] at e
  split at e
  · rename_i q S0
    obtain ⟨⟨rfl, hk⟩, e1⟩ := ck_s e
    obtain ⟨rfl, rfl, rfl, rfl⟩ := nx_s e1
    refine am_P.pure (fun p e R s m args below meth c G ca b ad H locs ls cells slots d Q hw X Y hL kk => ?_)
    rcases hk with hk | hk | hk
    · have z := Y.2.2.2.2 q (hw.lt (by omega))
      rcases (show (a_t h2 q).1 = 20 ∨ (a_t h2 q).1 = 21 ∨ (a_t h2 q).1 = 22 ∨ (a_t h2 q).1 = 23 ∨ (a_t h2 q).1 = 24 ∨ (a_t h2 q).1 = 25 ∨ (a_t h2 q).1 = 26 by omega) with k9 | k9 | k9 | k9 | k9 | k9 | k9
      · rw [am_ce_i k9] at z; exact va_alen X.1 X.2.1 X.2.2.2.2.2.2.2.2.1.1 (am_one z) 0 0 rfl rfl rfl hd kk
      · rw [am_ce_b k9] at z; exact va_alen X.1 X.2.1 X.2.2.2.2.2.2.2.2.1.1 (am_one z) 0 1 rfl rfl rfl hd kk
      · rw [am_ce_l k9] at z; exact va_alen X.1 X.2.1 X.2.2.2.2.2.2.2.2.1.1 (am_one z) 0 2 rfl rfl rfl hd kk
      · rw [am_ce_r (by omega), k9] at z; exact va_alen X.1 X.2.1 X.2.2.2.2.2.2.2.2.1.1 (am_one z) 0 3 rfl rfl rfl hd kk
      · rw [am_ce_r (by omega), k9] at z; exact va_alen X.1 X.2.1 X.2.2.2.2.2.2.2.2.1.1 (am_one z) 0 4 rfl rfl rfl hd kk
      · rw [am_ce_r (by omega), k9] at z; exact va_alen X.1 X.2.1 X.2.2.2.2.2.2.2.2.1.1 (am_one z) 0 5 rfl rfl rfl hd kk
      · rw [am_ce_r (by omega), k9] at z; exact va_alen X.1 X.2.1 X.2.2.2.2.2.2.2.2.1.1 (am_one z) 0 6 rfl rfl rfl hd kk
    · exact va_tlen X.1 X.2.1 (Y.1.1 q (hw.old (by omega) (by omega)) hk) Y.2.1 rfl hd kk
    · exact va_tlen X.1 X.2.1 (Y.1.2.1 q (hw.old (by omega) (by omega)) hk) Y.2.1 rfl hd kk
  · cases e
theorem st_iastore (hd : decode (m_c M) pc = .ok (.iastore, n)) (e : am_I M .iastore n pc L S h = some (.inl (pc2, L2, S2, h2))) : am_P l M pc L S h pc2 L2 S2 h2 := by
  simp only [am_I] at e
  split at e
  · rename_i x i q S0
    obtain ⟨⟨rfl, hk, hin⟩, e1⟩ := ck_s e
    obtain ⟨rfl, rfl, rfl, rfl⟩ := nx_s e1
    refine am_P.wr (q0 := q) (by omega) rfl rfl rfl (fun q2 hq => ⟨funext fun j => if_neg (fun z => hq z.1), rfl, rfl⟩) (fun p e R s m args below meth c G ca b ad H locs ls cells slots d Q hw h0 hA X Y hL kk => ?_)
    have z := Y.2.2.2.2 q h0
    rw [am_ce_i hk] at z
    refine W.iast X.1 X.2.1 z ((X.2.2.2.2.2.2.2.2.1.1.2 0 _ rfl).1 (a_t h q).2 (fun j => .int (a_i h q j))) (fun q => by cases q) (by show ¬ (i < 0 ∨ (arrV _ _ _).slots.size ≤ _); rw [arrV_size]; exact hin) rfl rfl hd fun H1 e1 z1 oq => ?_
    refine kk H1 _ z1 oq ?_ (Y.2.1.put z1 oq hA)
    rw [am_ce_i (h := s_i h q i.toNatClampNeg x) hk]
    show H1[ad q]? = some (vp_cell _ _)
    rw [e1, vp_cell_i, vp_cell_i, arrV_store]
    congr 2
    funext j
    by_cases hj : j = i.toNatClampNeg
    · subst hj; simp [updV, i_si]
    · simp [updV, i_si, hj]
  · cases e
theorem st_bastore (hd : decode (m_c M) pc = .ok (.bastore, n)) (e : am_I M .bastore n pc L S h = some (.inl (pc2, L2, S2, h2))) : am_P l M pc L S h pc2 L2 S2 h2 := by
  simp only [am_I] at e
  split at e
  · rename_i x i q S0
    obtain ⟨⟨rfl, hk, hin⟩, e1⟩ := ck_s e
    obtain ⟨rfl, rfl, rfl, rfl⟩ := nx_s e1
    refine am_P.wr (q0 := q) (by omega) rfl rfl rfl (fun q2 hq => ⟨funext fun j => if_neg (fun z => hq z.1), rfl, rfl⟩) (fun p e R s m args below meth c G ca b ad H locs ls cells slots d Q hw h0 hA X Y hL kk => ?_)
    have z := Y.2.2.2.2 q h0
    rw [am_ce_b hk] at z
    refine W.bast X.1 X.2.1 z ((X.2.2.2.2.2.2.2.2.1.1.2 1 _ rfl).1 (a_t h q).2 (fun j => .int (a_i h q j))) (fun q => by cases q) (by show ¬ (i < 0 ∨ (arrV _ _ _).slots.size ≤ _); rw [arrV_size]; exact hin) rfl rfl hd fun H1 e1 z1 oq => ?_
    refine kk H1 _ z1 oq ?_ (Y.2.1.put z1 oq hA)
    rw [am_ce_b (h := s_i h q i.toNatClampNeg x.toInt8.toInt32) hk]
    show H1[ad q]? = some (vp_cell _ _)
    rw [e1, vp_cell_i, vp_cell_i, arrV_store]
    congr 2
    funext j
    by_cases hj : j = i.toNatClampNeg
    · subst hj; simp [updV, i_si, narrow]
    · simp [updV, i_si, hj]
  · cases e
theorem st_lastore (hd : decode (m_c M) pc = .ok (.lastore, n)) (e : am_I M .lastore n pc L S h = some (.inl (pc2, L2, S2, h2))) : am_P l M pc L S h pc2 L2 S2 h2 := by
  simp only [am_I] at e
  split at e
  · rename_i x i q S0
    obtain ⟨⟨rfl, hk, hin⟩, e1⟩ := ck_s e
    obtain ⟨rfl, rfl, rfl, rfl⟩ := nx_s e1
    refine am_P.wr (q0 := q) (by omega) rfl rfl rfl (fun q2 hq => ⟨rfl, funext fun j => if_neg (fun z => hq z.1), rfl⟩) (fun p e R s m args below meth c G ca b ad H locs ls cells slots d Q hw h0 hA X Y hL kk => ?_)
    have z := Y.2.2.2.2 q h0
    rw [am_ce_l hk] at z
    refine W.last X.1 X.2.1 z ((X.2.2.2.2.2.2.2.2.1.1.2 2 _ rfl).1 (a_t h q).2 (fun j => .long (a_l h q j))) (fun q => by cases q) (by show ¬ (i < 0 ∨ (arrV _ _ _).slots.size ≤ _); rw [arrV_size]; exact hin) rfl rfl hd fun H1 e1 z1 oq => ?_
    refine kk H1 _ z1 oq ?_ (Y.2.1.put z1 oq hA)
    rw [am_ce_l (h := s_l h q i.toNatClampNeg x) hk]
    show H1[ad q]? = some (vp_cell _ _)
    rw [e1, vp_cell_l, vp_cell_l, arrV_store]
    congr 2
    funext j
    by_cases hj : j = i.toNatClampNeg
    · subst hj; simp [updV, l_sl]
    · simp [updV, l_sl, hj]
  · cases e
theorem st_aastore (hd : decode (m_c M) pc = .ok (.aastore, n)) (e : am_I M .aastore n pc L S h = some (.inl (pc2, L2, S2, h2))) : am_P l M pc L S h pc2 L2 S2 h2 := by
  simp only [am_I] at e
  split at e
  · rename_i v i q S0
    obtain ⟨⟨rfl, hk, hv, hin⟩, e1⟩ := ck_s e
    obtain ⟨rfl, rfl, rfl, rfl⟩ := nx_s e1
    refine am_P.wr (q0 := q) (by omega) rfl rfl rfl (fun q2 hq => ⟨rfl, rfl, funext fun j => if_neg (fun z => hq z.1)⟩) (fun p e R s m args below meth c G ca b ad H locs ls cells slots d Q hw h0 hA X Y hL kk => ?_)
    have z := Y.2.2.2.2 q h0
    rw [am_ce_r (by omega)] at z
    have hK := X.2.2.2.2.2.2.2.2.1.1
    have hlt : i.toNatClampNeg < (a_t h q).2 := Nat.not_le.mp fun q => hin (Or.inr q)
    have hi0 : ¬ i < 0 := fun q => hin (Or.inl q)
    obtain ⟨t0, ci, r, k9, hcl, hel, htys⟩ : ∃ (t0 ci : Nat) (r : vw_C), (a_t h v).1 = ci ∧ vwCl[ci]? = some r ∧ ci < 20 ∧ (am_tys ca)[t0]? = some (ca (a_t h q).1, .object r.1) := by
      rcases (show (a_t h q).1 = 23 ∨ (a_t h q).1 = 24 ∨ (a_t h q).1 = 25 by omega) with k9 | k9 | k9 <;> rw [k9] at hv ⊢
      · exact ⟨3, 3, _, hv, rfl, by decide, rfl⟩
      · exact ⟨4, 5, _, hv, rfl, by decide, rfl⟩
      · exact ⟨5, 9, _, hv, rfl, by decide, rfl⟩
    have zv := Y.2.2.2.2 v (hw.lt (by omega))
    rw [am_ce_o (by omega), k9] at zv
    obtain ⟨r', hr', cellV, g1, g2, g3, -⟩ := zv
    have hcls := (hK.1 ci r hcl).2
    obtain ⟨kA, comp, k1, k2, k3, -⟩ := (hK.2 t0 _ htys).2
    have hcomp : comp = G.1 ci := Option.some.inj (k3.symm.trans hcls.1)
    subst hcomp
    obtain ⟨kC, hkC, -⟩ := hcls.2
    refine W.aast X.1 X.2.1 z (fun q h => by cases h) (fun h => by cases h) k1 k2 rfl hkC ⟨hi0, by show _ < (arrV _ _ _).slots.size; rw [arrV_size]; exact hlt⟩ g1 (fun q h => by rw [g3] at h; cases h) (by rw [g2]; exact hkC) (by rw [g2]; exact va_assign hcls) rfl rfl hd fun H1 e1 z1 oq => ?_
    refine kk H1 _ z1 oq ?_ (Y.2.1.put z1 oq hA)
    rw [am_ce_r (h := s_r h q i.toNatClampNeg (some v)) (show 23 ≤ (a_t h q).1 by omega)]
    show H1[ad q]? = some (vp_cell _ _)
    rw [e1, vp_cell_q, vp_cell_q, arrV_store]
    congr 2
    funext j
    by_cases hj : j = i.toNatClampNeg
    · subst hj; simp [updV, r_sr, va_rf]
    · simp [updV, r_sr, hj]
  · cases e
theorem st_getfield {x : Nat} (hd : decode (m_c M) pc = .ok (.getfield x, n)) (e : am_I M (.getfield x) n pc L S h = some (.inl (pc2, L2, S2, h2))) : am_P l M pc L S h pc2 L2 S2 h2 := by
  simp only [am_I] at e
  split at e
  · rename_i q S0
    split at e
    · rename_i h42
      split at e
      · rename_i hc
        obtain ⟨rfl, e1⟩ := ck_s e
        obtain ⟨rfl, rfl, rfl, rfl⟩ := nx_s e1
        refine am_P.pure (fun p e R s m args below meth c G ca b ad H locs ls cells slots d Q hw X Y hL kk => ?_)
        have hown := X.2.2.2.2.1
        obtain ⟨ho, rfl⟩ := hc
        rw [ho] at hown
        exact vk_getf X.1 X.2.1 (Y.1.2.2.1 q (hw.old (by omega) (by omega)) h42).2.2 Y.2.1 hown (X.2.2.2.2.2.1 _ (am_in2 (c := 9) (j := 206) rfl rfl)) (fun _ z => z) hd kk
      · split at e
        · rename_i hc
          obtain ⟨rfl, e1⟩ := ck_s e
          obtain ⟨rfl, rfl, rfl, rfl⟩ := nx_s e1
          refine am_P.pure (fun p e R s m args below meth c G ca b ad H locs ls cells slots d Q hw X Y hL kk => ?_)
          have hown := X.2.2.2.2.1
          obtain ⟨ho, rfl⟩ := hc
          rw [ho] at hown
          exact vk_getf X.1 X.2.1 (Y.1.2.2.1 q (hw.old (by omega) (by omega)) h42).2.1 Y.2.1 hown (X.2.2.2.2.2.1 _ (am_in2 (c := 9) (j := 207) rfl rfl)) (fun _ z => z) hd kk
        · cases e
    · split at e
      · rename_i ci k hf
        obtain ⟨⟨rfl, hk⟩, e1⟩ := ck_s e
        obtain ⟨rfl, rfl, rfl, rfl⟩ := nx_s e1
        obtain ⟨i, hi⟩ := am_fTOK _ (lookup_mem hf)
        unfold am_fTB at hi
        simp only [Bool.and_eq_true, decide_eq_true_eq] at hi
        obtain ⟨⟨hi1, hi2⟩, hi3⟩ := hi
        refine am_P.pure (fun p e R s m args below meth c G ca b ad H locs ls cells slots d Q hw X Y hL kk => ?_)
        have z := Y.2.2.2.2 q (hw.lt (by omega))
        rw [am_ce_o (by omega), hk] at z
        have hsz : (a_t h2 q).2 = am_sz ci := by
          rcases hw.2.1 q (hw.lt (by omega)) with ⟨_, w⟩ | w
          · rw [w, hk]
          · omega
        rw [hsz] at z
        refine va_get X.1 X.2.1 X.2.2.2.2.2.1 (am_lyOK (by omega)) X.2.2.2.2.1 X.2.2.2.2.2.2.2.2.1.1 (am_one z) 0 rfl (am_clOK ci (by omega)) k hi2 (X.2.2.2.2.2.1 _ (am_at1_in hi1)) (fun _ z => z) (v := am_fv ad h2 q k (am_ty ci k)) ?_ hd ?_
        · rw [List.getElem?_map, List.getElem?_range hi2]; rfl
        · rw [← cV_fv]; exact kk
      · cases e
  · cases e
theorem st_getstatic {x : Nat} (hd : decode (m_c M) pc = .ok (.getstatic x, n)) (e : am_I M (.getstatic x) n pc L S h = some (.inl (pc2, L2, S2, h2))) : am_P l M pc L S h pc2 L2 S2 h2 := by
  simp only [am_I] at e
  split at e
  · rename_i v hv
    obtain ⟨rfl, e1⟩ := ck_s e
    obtain ⟨rfl, rfl, rfl, rfl⟩ := nx_s e1
    refine am_P.pure (fun p e R s m args below meth c G ca b ad H locs ls cells slots d Q hw X Y hL kk => ?_)
    have hown := X.2.2.2.2.1
    have hO := Y.1.2.2.2
    unfold am_gv at hv
    split at hv
    · rename_i ho
      rw [ho] at hown
      cases hv
      exact va_gets X.1 X.2.1 hO.1 Y.2.1 hown (X.2.2.2.2.2.1 _ (am_in2 (c := 3) (j := 161) rfl rfl)) (fun _ z => z) hd kk
    · rename_i ho
      rw [ho] at hown
      cases hv
      exact va_gets X.1 X.2.1 hO.2.1 Y.2.1 hown (X.2.2.2.2.2.1 _ (am_in2 (c := 3) (j := 163) rfl rfl)) (fun _ z => z) hd kk
    · rename_i ho
      rw [ho] at hown
      cases hv
      exact va_gets X.1 X.2.1 hO.2.2.1 Y.2.1 hown (X.2.2.2.2.2.1 _ (am_in2 (c := 4) (j := 11) rfl rfl)) (fun _ z => z) hd kk
    · rename_i ho
      rw [ho] at hown
      cases hv
      rw [List.map_cons, cV_rf] at kk
      exact va_gets X.1 X.2.1 hO.2.2.2 Y.2.1 hown (X.2.2.2.2.2.1 _ (am_in2 (c := 4) (j := 27) rfl rfl)) (fun _ z => z) hd kk
    · cases hv
  · cases e
end HEAP
