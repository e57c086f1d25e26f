/-! the two sides' cells don't refer to each other -/
section SEP
variable {d : Nat} {h h' y : am_h} {M : am_m} {as : List Value} {r : Option Value}
/-- what the class cannot see -/
def hC (p : Nat) : Prop := 126 ≤ p ∧ p < 177
/-- what the reference cannot see -/
def hR (p : Nat) : Prop := p < 126 ∨ (177 ≤ p ∧ p < 1000000)
def sepH (h : am_h) : Prop := clN hC h ∧ clN hR h ∧ (∀ q, 1000000 ≤ q → 40 ≤ (a_t h q).1) ∧ (∀ q, (a_t h q).1 = 42 → 1000000 ≤ q) ∧ 177 ≤ a_n h
theorem smN.refl {N : Nat → Prop} : smN N h h := fun _ _ => ⟨rfl, fun _ => ⟨rfl, rfl, rfl⟩⟩
theorem prC (k : sepH h) (sm : smN hC h y) (e : h.1 = y.1) : prN hC True h y := ⟨k.1, sm, fun _ => ⟨e, fun q c z => by have := z.2; have := k.2.2.2.2; omega⟩, fun q c z => by have := z.2; omega⟩
theorem prR (k : sepH h) (sm : smN hR h y) : prN hR False h y := ⟨k.2.1, sm, fun z => z.elim, fun q c z => by unfold hR at z; omega⟩
theorem Cal.one {h1 h2 : am_h} (k1 : ∀ Q, Cal d M as h Q = Q r h1) (k2 : ∀ Q, Cal d M as h Q = Q r h2) : h1 = h2 := by
  have z := k1 (fun _ f => f = h2)
  rw [k2] at z
  exact z.mp rfl
/-- a call of the class -/
theorem sepC (k : sepH h) (c : ∀ Q, Cal d M as h Q = Q r h') (hS : sok hC as) : sepH h' ∧ hsN hC h h' := by
  obtain ⟨y', e1, st⟩ := Cal.fr c hS (prC k smN.refl rfl) (Or.inl trivial)
  have o := Cal.old c
  refine ⟨⟨st.1, fun q z => ?_, fun q z => ?_, fun q z => k.2.2.2.1 q (st.2.2.2.2.2.2.2 q z), Nat.le_trans k.2.2.2.2 st.2.2.2.2.1⟩, st.2.2.1⟩
  · have un : a_t h' q = a_t h q ∧ ∀ j, a_r h' q j = a_r h q j := by
      by_cases q6 : 1000000 ≤ q
      · obtain ⟨x1, x2⟩ := o q q6 (k.2.2.1 q q6)
        exact ⟨x1, fun j => (x2 j).2.2⟩
      · have hq : hC q := by unfold hR at z; unfold hC; omega
        obtain ⟨x1, x2⟩ := st.2.2.1 q hq
        exact ⟨x1, fun j => (x2 j).2.2⟩
    exact ⟨fun j p e => (k.2.1 q z).1 j p (by rw [← un.2]; exact e), fun e => (k.2.1 q z).2 (by rw [← un.1]; exact e)⟩
  · rw [(o q z (k.2.2.1 q z)).1]; exact k.2.2.1 q z
/-- a call of the reference that makes no cells -/
theorem sepR (k : sepH h) (c : ∀ Q, Cal d M as h Q = Q r h') (hS : sok hR as) (n : a_n h' = a_n h) : sepH h' ∧ hsN hR h h' ∧ h'.1 = h.1 := by
  obtain ⟨y', e1, st⟩ := Cal.fr c hS (prR k smN.refl) (Or.inr n)
  have o := Cal.old c
  refine ⟨⟨fun q z => ?_, st.1, fun q z => ?_, fun q z => k.2.2.2.1 q (st.2.2.2.2.2.2.2 q z), Nat.le_trans k.2.2.2.2 st.2.2.2.2.1⟩, st.2.2.1, (st.2.2.2.2.2.2.1 n).1⟩
  · have un : a_t h' q = a_t h q ∧ ∀ j, a_r h' q j = a_r h q j := by
      by_cases q6 : 1000000 ≤ q
      · obtain ⟨x1, x2⟩ := o q q6 (k.2.2.1 q q6)
        exact ⟨x1, fun j => (x2 j).2.2⟩
      · have hq : hR q := by unfold hC at z; unfold hR; omega
        obtain ⟨x1, x2⟩ := st.2.2.1 q hq
        exact ⟨x1, fun j => (x2 j).2.2⟩
    exact ⟨fun j p e => (k.1 q z).1 j p (by rw [← un.2]; exact e), fun e => (k.1 q z).2 (by rw [← un.1]; exact e)⟩
  · rw [(o q z (k.2.2.1 q z)).1]; exact k.2.2.1 q z
/-- a call of the class, in a heap that the class sees alike -/
theorem runC (k : sepH h) (c : ∀ Q, Cal d M as h Q = Q r h') (hS : sok hC as) (sm : smN hC h y) (e : h.1 = y.1) : ∃ y', (∀ Q, Cal d M as y Q = Q r y') ∧ smN hC h' y' ∧ h'.1 = y'.1 ∧ hsN hC y y' := by
  obtain ⟨y', e1, st⟩ := Cal.fr c hS (prC k sm e) (Or.inl trivial)
  exact ⟨y', e1, st.2.1, st.2.2.2.2.2.1 trivial, st.2.2.2.1⟩
/-- a call of the reference, in a heap that the reference sees alike -/
theorem runR (k : sepH h) (c : ∀ Q, Cal d M as h Q = Q r h') (hS : sok hR as) (n : a_n h' = a_n h) (sm : smN hR h y) : ∃ y', (∀ Q, Cal d M as y Q = Q r y') ∧ smN hR h' y' ∧ y'.1 = y.1 ∧ hsN hR y y' := by
  obtain ⟨y', e1, st⟩ := Cal.fr c hS (prR k sm) (Or.inr n)
  exact ⟨y', e1, st.2.1, (st.2.2.2.2.2.2.1 n).2, st.2.2.2.1⟩
/-- alike in both views: one heap -/
theorem two_one (a : smN hC h y) (b : smN hR h y) (e : h.1 = y.1) : y = h := by
  have all : ∀ q, a_t y q = a_t h q ∧ ∀ j, a_i y q j = a_i h q j ∧ a_l y q j = a_l h q j ∧ a_r y q j = a_r h q j := fun q => by
    by_cases c : hC q
    · exact b q (by unfold hC at c; unfold hR; omega)
    · exact a q c
  have e1 : a_t y = a_t h := funext fun q => (all q).1
  have e2 : a_i y = a_i h := funext fun q => funext fun j => ((all q).2 j).1
  have e3 : a_l y = a_l h := funext fun q => funext fun j => ((all q).2 j).2.1
  have e4 : a_r y = a_r h := funext fun q => funext fun j => ((all q).2 j).2.2
  obtain ⟨y1, y2, y3, y4, y5⟩ := y
  obtain ⟨h1, h2, h3, h4, h5⟩ := h
  have f1 : y2 = h2 := e1
  have f2 : y3 = h3 := e2
  have f3 : y4 = h4 := e3
  have f4 : y5 = h5 := e4
  have f0 : h1 = y1 := e
  subst f0 f1 f2 f3 f4
  rfl
/-- both sides' calls, one after the other at K; each side's alone in a heap that it sees alike -/
theorem opT.two {X : PX} {K : am_h} {M1 M2 : am_m} {as1 as2 : List Value} (o : opT X d M1 M2 as1 as2 K) (ol : rOl K) (k : sepH K) (s1 : sok hC as1) (s2 : sok hR as2) : ∃ (r : Int32) (K2 : am_h), Inv X K2 ∧ rOl K2 ∧ sepH K2 ∧ a_i K2 127 1 = a_i K 127 1
    ∧ (∀ A, smN hC K A → K.1 = A.1 → ∃ A', (∀ Q, Cal d M1 as1 A Q = Q (some (.int r)) A') ∧ smN hC K2 A' ∧ K2.1 = A'.1 ∧ hsN hC A A')
    ∧ ∀ B, smN hR K B → ∃ B', (∀ Q, Cal d M2 as2 B Q = Q (some (.int r)) B') ∧ smN hR K2 B' ∧ B'.1 = B.1 ∧ hsN hR B B' := by
  obtain ⟨r, h1, h2, c1, c2, iv, n, ct⟩ := o
  obtain ⟨k1, u1⟩ := sepC k c1 s1
  obtain ⟨k2, u2, e2⟩ := sepR k1 c2 s2 n
  have o1 := Cal.old c1
  have o2 := Cal.old c2
  refine ⟨r, h2, iv, (ol.old o1).old o2, k2, ct, fun A sm e => ?_, fun B sm => ?_⟩
  · obtain ⟨A', a1, a2, a3, a4⟩ := runC k c1 s1 sm e
    refine ⟨A', a1, fun q c => ?_, e2.trans a3, a4⟩
    obtain ⟨x1, x2⟩ := a2 q c
    have un : a_t h2 q = a_t h1 q ∧ ∀ j, a_i h2 q j = a_i h1 q j ∧ a_l h2 q j = a_l h1 q j ∧ a_r h2 q j = a_r h1 q j := by
      by_cases q6 : 1000000 ≤ q
      · exact o2 q q6 (k1.2.2.1 q q6)
      · exact u2 q (by unfold hC at c; unfold hR; omega)
    exact ⟨x1.trans un.1.symm, fun j => ⟨(x2 j).1.trans (un.2 j).1.symm, (x2 j).2.1.trans (un.2 j).2.1.symm, (x2 j).2.2.trans (un.2 j).2.2.symm⟩⟩
  · refine runR k1 c2 s2 n (fun q c => ?_)
    obtain ⟨x1, x2⟩ := sm q c
    have un : a_t h1 q = a_t K q ∧ ∀ j, a_i h1 q j = a_i K q j ∧ a_l h1 q j = a_l K q j ∧ a_r h1 q j = a_r K q j := by
      by_cases q6 : 1000000 ≤ q
      · exact o1 q q6 (k.2.2.1 q q6)
      · exact u1 q (by unfold hR at c; unfold hC; omega)
    exact ⟨x1.trans un.1.symm, fun j => ⟨(x2 j).1.trans (un.2 j).1.symm, (x2 j).2.1.trans (un.2 j).2.1.symm, (x2 j).2.2.trans (un.2 j).2.2.symm⟩⟩
end SEP
