/-! one -/
section ONE
variable {t : Nat → Nat} {T : List (Nat × Nat × Nat)} {n q w c0 g0 d j j0 p φ φ' ω ω' o o' m k c g j' j1 j2 j3 y op e B : Nat} {ws ws1 ws2 ws3 ws4 : List (Nat × Nat)} {l : List Bool} {h h' hc hc' hc1 hc2 hc3 hr hr' hr1 hr2 hr3 hr5 : am_h} {Q : Option Value → am_h → Prop} {x : Nat × Nat × Nat} {v a1 a2 f s z : Int32}
theorem cs1 (K : okC q T c j h) (hx : T[j]? = some x) (sx : sml x) (ly : y < 400) (hz : z = nI y) (g : isS x y) : ∀ Q, Cal d mX7_isSign [.ref 86, .int z] h Q = Q (some (.int 1)) h := fun Q => by
  have := cq_sg (d := d) (Q := Q) (p := True) K hx sx ly (by simp; exact g)
  rw [if_pos trivial, ← hz] at this
  exact this
theorem cs0 (K : okC q T c j h) (hx : T[j]? = some x) (sx : sml x) (ly : y < 400) (hz : z = nI y) (g : ¬ isS x y) : ∀ Q, Cal d mX7_isSign [.ref 86, .int z] h Q = Q (some (.int 0)) h := fun Q => by
  have := cq_sg (d := d) (Q := Q) (p := False) K hx sx ly (by simp; exact g)
  rw [if_neg (fun z => z), ← hz] at this
  exact this
theorem cw1 (K : okC q T c j h) (hx : T[j]? = some x) (sx : sml x) (ly : y < 400) (hz : z = nI y) (g : isW x y) : ∀ Q, Cal d mX7_isWord [.ref 86, .int z] h Q = Q (some (.int 1)) h := fun Q => by
  have := cq_wd (d := d) (Q := Q) (p := True) K hx sx ly (by simp; exact g)
  rw [if_pos trivial, ← hz] at this
  exact this
theorem cw0 (K : okC q T c j h) (hx : T[j]? = some x) (sx : sml x) (ly : y < 400) (hz : z = nI y) (g : ¬ isW x y) : ∀ Q, Cal d mX7_isWord [.ref 86, .int z] h Q = Q (some (.int 0)) h := fun Q => by
  have := cq_wd (d := d) (Q := Q) (p := False) K hx sx ly (by simp; exact g)
  rw [if_neg (fun z => z), ← hz] at this
  exact this
theorem cm1 (hC : sh_C (a_t h) (a_r h)) (lo : o < 8) : ∀ Q, Cal (d + 1) mX7_mayOpen [.ref 86, .int (nI o)] h Q = Q (some (.int 1)) h := fun Q => by
  rw [q_X7_mayOpen hC (by omega), if_pos lo]
theorem cm0 (hC : sh_C (a_t h) (a_r h)) (lo : o = 8) : ∀ Q, Cal (d + 1) mX7_mayOpen [.ref 86, .int (nI o)] h Q = Q (some (.int 0)) (flA h 3) := fun Q => by
  rw [q_X7_mayOpen hC (by omega), if_neg (by omega)]
/-- an expected sign, word: it comes, or it doesn't -/
theorem ce1 (K : okC q T c j h) (hx : T[j]? = some x) (sx : sml x) (l1 : j + 1 < T.length) (ly : y < 400) (hz : z = nI y) (g : isS x y) : ∀ Q, Cal (d + 1) mX7_expectSign [.ref 86, .int z] h Q = Q none (cmA h (j + 1)) := fun Q => by
  obtain ⟨k10, k11, -⟩ := K.tk hx
  have e : a_i h 86 10 = 4 ∧ a_i h 86 11 = z := ⟨by rw [k10, g.1]; rfl, by rw [k11, g.2, hz]⟩
  rw [q_X7_expectSign (h' := cmA h (j + 1)) K.1.1 (fun _ => (cq_come K l1).1), if_pos e]
theorem ce0 (K : okC q T c j h) (hx : T[j]? = some x) (sx : sml x) (ly : y < 400) (hz : z = nI y) (g : ¬ isS x y) : ∀ Q, Cal (d + 1) mX7_expectSign [.ref 86, .int z] h Q = Q none (flA h 1) := fun Q => by
  obtain ⟨k10, k11, -⟩ := K.tk hx
  have e : ¬ (a_i h 86 10 = 4 ∧ a_i h 86 11 = z) := by
    rw [k10, k11, hz, show (4 : Int32) = nI 4 from rfl, nI_inj (by have := sx.1; omega) (by omega)]
    rintro ⟨u1, u2⟩
    rw [nI_inj (by have := sx.2 (by omega); omega) (by omega)] at u2
    exact g ⟨u1, u2⟩
  rw [q_X7_expectSign (h' := h) K.1.1 (fun z => absurd z e), if_neg e]
theorem cx1 (K : okC q T c j h) (hx : T[j]? = some x) (sx : sml x) (l1 : j + 1 < T.length) (ly : y < 400) (hz : z = nI y) (g : isW x y) : ∀ Q, Cal (d + 1) mX7_expectWord [.ref 86, .int z] h Q = Q none (cmA h (j + 1)) := fun Q => by
  obtain ⟨k10, k11, -⟩ := K.tk hx
  have e : a_i h 86 10 = 3 ∧ a_i h 86 11 = z := ⟨by rw [k10, g.1]; rfl, by rw [k11, g.2, hz]⟩
  rw [q_X7_expectWord (h' := cmA h (j + 1)) K.1.1 (fun _ => (cq_come K l1).1), if_pos e]
theorem cx0 (K : okC q T c j h) (hx : T[j]? = some x) (sx : sml x) (ly : y < 400) (hz : z = nI y) (g : ¬ isW x y) : ∀ Q, Cal (d + 1) mX7_expectWord [.ref 86, .int z] h Q = Q none (flA h 1) := fun Q => by
  obtain ⟨k10, k11, -⟩ := K.tk hx
  have e : ¬ (a_i h 86 10 = 3 ∧ a_i h 86 11 = z) := by
    rw [k10, k11, hz, show (3 : Int32) = nI 3 from rfl, nI_inj (by have := sx.1; omega) (by omega)]
    rintro ⟨u1, u2⟩
    rw [nI_inj (by have := sx.2 (by omega); omega) (by omega)] at u2
    exact g ⟨u1, u2⟩
  rw [q_X7_expectWord (h' := h) K.1.1 (fun z => absurd z e), if_neg e]
/-- a piece within another one -/
theorem pst.wrap (cf : cF q (c0 + p) hc hc1) (rf : rF φ ω (g0 + p) hr hr1) (A : pst t n T q w c0 g0 j0 p φ' ω' o' j2 ws hc1 hc2 hr1 hr2) (lj : j ≤ j0) (l1 : φ ≤ φ') (l2 : ω ≤ ω') (C3 : okC q T (c0 + p + ws.length + ws4.length) j3 hc3) (cf3 : cF q (c0 + p + ws.length) hc2 hc3) (P3 : okP t n T w j3 hr3) (K3 : okK (g0 + p + ws.length + ws4.length) φ ω o hr3) (rf3 : rF φ ω (g0 + p + ws.length) hr2 hr3) (wc : wdC hc3 q c0 (p + ws.length) ws4) (wr : wdR hr3 g0 (p + ws.length) ws4) (lj3 : j2 ≤ j3) (lj4 : j + ws.length + ws4.length ≤ j3) : pst t n T q w c0 g0 j p φ ω o j3 (ws ++ ws4) hc hc3 hr hr3 := by
  obtain ⟨a1, a2, a3, a4, a5, a6, a7, a8, a9⟩ := A
  have ll : (ws ++ ws4).length = ws.length + ws4.length := List.length_append
  exact ⟨by rw [ll, ← Nat.add_assoc]; exact C3, cf.tr (a2.tr cf3 (by omega)) (Nat.le_refl _), (a3.fr cf3 (Nat.le_refl _) a1.1.2.1).app wc, P3, by rw [ll, ← Nat.add_assoc]; exact K3, rf.tr ((rF.rf.tr a6 l1 l2 (Nat.le_refl _)).tr rf3 (Nat.le_refl _) (Nat.le_refl _) (by omega)) (Nat.le_refl _) (Nat.le_refl _) (Nat.le_refl _), (a7.fr rf3 (Nat.le_refl _)).app wr, by omega, by omega⟩
theorem okC.en (K : okC q T c j h) (hx : T[j]? = some x) (hf : ¬ f = 0) (lc : c ≤ 300) : flS q f (nI x.2.2) h (flA h f) := flS.en K hx hf lc
end ONE
