/-! the heap that the law begins with, and what the Statement says of it -/
section START
def wbs : List Int32 := [32, 119, 97, 105, 116, 32, 115, 116, 111, 112, 115, 32, 108, 111, 110, 103, 32, 99, 111, 108, 100, 32, 104, 97, 115, 116, 101, 32, 115, 112, 101, 97, 107, 32, 104, 117, 115, 104, 32, 121, 101, 115, 32, 103, 111, 32, 100, 101, 108, 97, 121, 32, 114, 117, 108, 101, 32, 102, 111, 114, 32, 116, 111, 32, 98, 121, 32, 105, 102, 32, 116, 104, 101, 110, 32, 101, 108, 115, 101, 32, 101, 110, 100, 32, 111, 114, 32, 97, 110, 100, 32, 110, 111, 116, 32, 119, 104, 111, 32, 101, 110, 100, 115, 32, 114, 117, 108, 101, 100, 32, 116, 117, 114, 110, 115, 32, 99, 117, 116, 32, 119, 97, 105, 116, 115, 32, 115, 112, 114, 101, 97, 100, 32, 115, 116, 111, 112, 32, 108, 101, 110, 103, 116, 104, 32, 103, 97, 112, 32, 105, 110, 116, 111, 32]
def sbs : List Int32 := [60, 62, 61, 35, 43, 45, 42, 47, 40, 41, 59]
/-- the script, the two rows of bounds, the two texts, what a formatter is -/
def hW (L : Nat) (xs : Nat → Int32) (fo : Option Nat) : am_h := ((0, 0), fun q => if q = 1000000 then (40, L) else if q = 1000001 ∨ q = 1000002 then (40, 5) else if q = 1000003 ∨ q = 1000005 then (42, 0) else if q = 1000004 then (41, 154) else if q = 1000006 then (41, 11) else (99, 0), fun q j => if q = 1000000 then xs j else if q = 1000001 then lo5 j else if q = 1000002 then hi5 j else if q = 1000004 then wbs.getD j 0 else if q = 1000006 then sbs.getD j 0 else 0, fun _ _ => 0, fun q _ => if q = 1000008 then fo else none)
variable {L : Nat} {xs : Nat → Int32} {fo : Option Nat}
theorem hW_t {q : Nat} : a_t (hW L xs fo) q = if q = 1000000 then (40, L) else if q = 1000001 ∨ q = 1000002 then (40, 5) else if q = 1000003 ∨ q = 1000005 then (42, 0) else if q = 1000004 then (41, 154) else if q = 1000006 then (41, 11) else (99, 0) := rfl
theorem hW_i {q j : Nat} : a_i (hW L xs fo) q j = if q = 1000000 then xs j else if q = 1000001 then lo5 j else if q = 1000002 then hi5 j else if q = 1000004 then wbs.getD j 0 else if q = 1000006 then sbs.getD j 0 else 0 := rfl
theorem hW_r {q j : Nat} : a_r (hW L xs fo) q j = if q = 1000008 then fo else none := rfl
theorem hW_k {q : Nat} : ((a_t (hW L xs fo) q).1 = 40 → q = 1000000 ∨ q = 1000001 ∨ q = 1000002) ∧ ((a_t (hW L xs fo) q).1 = 41 → q = 1000004 ∨ q = 1000006) ∧ ((a_t (hW L xs fo) q).1 = 42 → q = 1000003 ∨ q = 1000005) ∧ 40 ≤ (a_t (hW L xs fo) q).1 ∧ ((a_t (hW L xs fo) q).1 < 90 → 1000000 ≤ q) := by
  rw [hW_t]
  split
  · refine ⟨fun _ => by omega, fun e => absurd e (by simp), fun e => absurd e (by simp), by simp, fun _ => by omega⟩
  split
  · refine ⟨fun _ => by omega, fun e => absurd e (by simp), fun e => absurd e (by simp), by simp, fun _ => by omega⟩
  split
  · refine ⟨fun e => absurd e (by simp), fun e => absurd e (by simp), fun _ => by omega, by simp, fun _ => by omega⟩
  split
  · refine ⟨fun e => absurd e (by simp), fun _ => by omega, fun e => absurd e (by simp), by simp, fun _ => by omega⟩
  split
  · refine ⟨fun e => absurd e (by simp), fun _ => by omega, fun e => absurd e (by simp), by simp, fun _ => by omega⟩
  · refine ⟨fun e => absurd e (by simp), fun e => absurd e (by simp), fun e => absurd e (by simp), by simp, fun e => absurd e (by simp)⟩
theorem hW_wf : am_wf (hW L xs fo) := by
  refine ⟨Nat.zero_le _, fun p hp => absurd hp (Nat.not_lt_zero p), fun p hp => ?_⟩
  obtain ⟨-, -, -, k4, k5⟩ := hW_k (L := L) (xs := xs) (fo := fo) (q := p)
  exact Or.inr ⟨k4, k5 hp⟩
theorem hW_B (hf : ∀ t, fo = some t → 1000000 ≤ t) : B0 (hW L xs fo) := by
  refine ⟨rfl, rfl, fun q j p e => ?_, fun q e => ?_, fun q _ => ?_⟩
  · rw [hW_r] at e
    split at e
    · exact hf p e
    · exact absurd e (by simp)
  · rcases (hW_k (L := L) (xs := xs) (fo := fo) (q := q)).2.2.1 e with z | z <;> omega
  · exact (hW_k (L := L) (xs := xs) (fo := fo) (q := q)).2.2.2.1
theorem hW_L (hL : L ≤ 3584) : LW0 (hW L xs fo) L := by
  refine ⟨⟨rfl, rfl, fun w _ => ⟨rfl, rfl⟩⟩, fun q _ => (hW_k (L := L) (xs := xs) (fo := fo) (q := q)).2.2.2.1, rfl, hL⟩
end START
