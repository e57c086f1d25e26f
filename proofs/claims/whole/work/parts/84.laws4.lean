/-! laws: a word of the one side's code -/
section LAWS4
variable {d : Nat} {h : am_h}
/-- what is piled, in a row -/
def stC (I : Nat → Int32) : List Int32 → Prop
  | [] => True
  | x :: L => I L.length = x ∧ stC I L
theorem stC_fr {I I' : Nat → Int32} : ∀ {L : List Int32}, (∀ j, j < L.length → I' j = I j) → stC I L → stC I' L := by
  intro L
  induction L with
  | nil => intro _ k; exact k
  | cons x L ih =>
    intro hj k
    refine ⟨?_, ih (fun j h1 => hj j (Nat.lt_succ_of_lt h1)) k.2⟩
    rw [hj L.length (Nat.lt_succ_self _)]
    exact k.1
/-- the pile of the one side: its cells, nothing else changed -/
def pl (h s : am_h) (L : List Int32) : Prop := sm h s ∧ a_l s = a_l h ∧ (∀ q j, ¬ (q = 93) → ¬ (q = 91 ∧ j = 3) → a_i s q j = a_i h q j) ∧ a_i s 91 3 = nI L.length ∧ stC (a_i s 93) L
theorem pl_push {s : am_h} {L : List Int32} {v : Int32} (k : pl h s L) : pl h (s_i (s_i s 93 L.length v) 91 3 (nI (L.length + 1))) (v :: L) := by
  obtain ⟨k1, k2, k3, k4, k5⟩ := k
  refine ⟨k1, k2, fun q j c1 c2 => ?_, ieq rfl rfl, ?_, ?_⟩
  · rw [ine (by omega), ine (by omega)]; exact k3 q j c1 c2
  · show a_i (s_i (s_i s 93 L.length v) 91 3 (nI (L.length + 1))) 93 L.length = v
    rw [ine (by omega), ieq rfl rfl]
  · refine stC_fr (fun j hj => ?_) k5
    rw [ine (by omega), ine (by omega)]
theorem pl_pop {s : am_h} {L : List Int32} {x : Int32} (k : pl h s (x :: L)) : pl h (s_i s 91 3 (nI L.length)) L ∧ a_i s 93 L.length = x ∧ a_i s 91 3 = nI (L.length + 1) := by
  obtain ⟨k1, k2, k3, k4, k5, k6⟩ := k
  refine ⟨⟨k1, k2, fun q j c1 c2 => ?_, ieq rfl rfl, ?_⟩, k5, k4⟩
  · rw [ine (by omega)]; exact k3 q j c1 c2
  · refine stC_fr (fun j hj => ?_) k6
    rw [ine (by omega)]
theorem c_push {s : am_h} {L : List Int32} {v : Int32} (k : pl h s L) (hC : sh_C (a_t h) (a_r h)) (h64 : L.length < 64) : ∃ s', (∀ Q, Cal d mX4_push [.ref 91, .int v] s Q = Q none s') ∧ pl h s' (v :: L) :=
  ⟨_, fun Q => q_push (by rw [k.1.1, k.1.2.1]; exact hC) k.2.2.2.1 h64, pl_push k⟩
theorem c_pop {s : am_h} {L : List Int32} {x : Int32} (k : pl h s (x :: L)) (hC : sh_C (a_t h) (a_r h)) (h64 : L.length < 64) : ∃ s', (∀ Q, Cal d mX4_pop [.ref 91] s Q = Q (some (.int x)) s') ∧ pl h s' L := by
  obtain ⟨p1, p2, p3⟩ := pl_pop k
  refine ⟨_, fun Q => ?_, p1⟩
  have := q_pop (d := d) (Q := Q) (h := s) (t := L.length) (by rw [k.1.1, k.1.2.1]; exact hC) p3 h64
  rw [p2] at this
  exact this
end LAWS4
