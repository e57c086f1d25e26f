/-! a tenth: bounds that stand while tenths go by -/
section PAs
variable {p e n m B d j r K i T : Nat} {s : TS} {g : Nat → Int32} {H : Nat → Nat → Bool} {VW VS VL : (Nat → Int32) → Int32 → Int32} {z kd b l sp v : Int32} {hr : Bool}
def PA (m n K : Nat) (s : TS) : Prop := bt 0 (s 0 0) 3 ∧ (∃ T, s 0 3 = nI T ∧ T ≤ K ∧ (m = 0 → T ≤ 90)) ∧ ∀ e, e < 4 → (s 1 e = 0 ∨ s 1 e = 1) ∧ bt (-1) (s 5 e) (n - 1) ∧ bt (-1) (s 6 e) 100000 ∧ bt 0 (s 18 e) K ∧ bt 0 (s 19 e) K ∧ (m = 0 → s 1 e = 1 → ∃ i, i < 90 ∧ s 21 e = nI i)
def gB (g : Nat → Int32) (n : Nat) : Prop := n ≤ 4 ∧ g 0 = nI n ∧ ∀ e, e < n → bt 0 (g (12 + 4 * e)) 99 ∧ bt 0 (g (12 + 4 * e + 1)) 24 ∧ bt 0 (g (12 + 4 * e + 2)) 99 ∧ bt 1 (g (12 + 4 * e + 3)) 99
theorem bt_M {lo hi : Int} {v : Int32} (k : bt lo v hi) (h1 : -1000000 ≤ lo) (h2 : hi ≤ 1000000) : inM v := by
  unfold bt at k
  unfold inM
  omega
theorem nb_of (G : gB g n) (he : e < n) (P : PA m n K s) (hK : K ≤ 100000) : ∀ b, b < 9 → inM (nmS g s e b) := by
  obtain ⟨G1, G2, G3⟩ := G
  obtain ⟨g1, g2, g3, g4⟩ := G3 e he
  obtain ⟨P1, P2, P3⟩ := P
  obtain ⟨-, -, -, p18, p19, -⟩ := P3 e (by omega)
  intro b hb
  have : b = 0 ∨ b = 1 ∨ b = 2 ∨ b = 3 ∨ b = 4 ∨ b = 5 ∨ b = 6 ∨ b = 7 ∨ b = 8 := by omega
  rcases this with rfl | rfl | rfl | rfl | rfl | rfl | rfl | rfl | rfl
  · exact inM_n (by omega)
  · show inM (g 0)
    rw [G2]
    exact inM_n (by omega)
  · exact bt_M P1 (by omega) (by omega)
  · exact bt_M p18 (by omega) (by omega)
  · exact bt_M p19 (by omega) (by omega)
  · exact bt_M g1 (by omega) (by omega)
  · exact bt_M g2 (by omega) (by omega)
  · exact bt_M g3 (by omega) (by omega)
  · exact bt_M g4 (by omega) (by omega)
theorem bt_mono {lo hi hi' : Int} {v : Int32} (k : bt lo v hi) (h : hi ≤ hi') : bt lo v hi' := ⟨k.1, by have := k.2; omega⟩
theorem PA.mono {K' : Nat} (P : PA m n K s) (hK : K ≤ K') : PA m n K' s := by
  obtain ⟨P1, ⟨T, t1, t2, t3⟩, P3⟩ := P
  refine ⟨P1, ⟨T, t1, by omega, t3⟩, fun e he => ?_⟩
  obtain ⟨a1, a2, a3, a4, a5, a6⟩ := P3 e he
  exact ⟨a1, a2, a3, bt_mono a4 (by omega), bt_mono a5 (by omega), a6⟩
/-- columns that do not matter -/
theorem PA.o {s' : TS} (P : PA m n K s) (h : ∀ c i, (c = 0 ∧ (i = 0 ∨ i = 3)) ∨ c = 1 ∨ c = 5 ∨ c = 6 ∨ c = 18 ∨ c = 19 ∨ c = 21 → s' c i = s c i) : PA m n K s' := by
  unfold PA at *
  simp (disch := omega) only [h]
  exact P
theorem cls_f {c i' : Nat} (hc : c = 5 ∨ c = 6) : cls s e i z kd c i' = s c i' := by
  unfold cls
  simp (disch := omega) only [upn]
theorem PA.xcls (P : PA m n K s) (he : e < 4) (hK : K ≤ 100000) : PA m n (K + 1) (cls s e i z kd) := by
  obtain ⟨P1, ⟨T, t1, t2, t3⟩, P3⟩ := P
  refine ⟨by rw [cls_03]; exact P1, ⟨T, by rw [cls_03]; exact t1, by omega, t3⟩, fun e' he' => ?_⟩
  obtain ⟨a1, a2, a3, a4, a5, a6⟩ := P3 e' he'
  rw [cls_1, cls_f (by omega), cls_f (by omega), cls_x (c := 18) (by omega), cls_x (c := 21) (by omega)]
  refine ⟨?_, a2, a3, bt_mono a4 (by omega), ?_, fun hm h1 => ?_⟩
  · split
    · exact Or.inl rfl
    · exact a1
  · by_cases c : e' = e
    · subst c
      rw [cls_e.1]
      obtain ⟨k, k1, k2, k3⟩ := btn a5 (by omega) (by omega)
      unfold bt at a5 ⊢
      split
      · rw [k1, nI_s, nI_i (by omega)]; omega
      · rw [Int32.add_zero]; omega
    · rw [cls_y (by omega) c]
      exact bt_mono a5 (by omega)
  · by_cases c : e' = e
    · rw [if_pos c] at h1
      exact absurd h1 (by decide)
    · rw [if_neg c] at h1
      exact a6 hm h1
theorem PA.xopn (P : PA m n K s) (he : e < 4) (hK : K ≤ 100000) (hT : s 0 3 = nI T) (hT2 : T ≤ K) (hT3 : m = 0 → T < 90) : PA m n (K + 1) (opn s e T b l sp) := by
  obtain ⟨P1, -, P3⟩ := P
  refine ⟨by rw [opn_0 (by omega)]; exact P1, ⟨T + 1, opn_03, by omega, fun z => by have := hT3 z; omega⟩, fun e' he' => ?_⟩
  obtain ⟨a1, a2, a3, a4, a5, a6⟩ := P3 e' he'
  rw [opn_1, opn_c (c := 5) (by omega), opn_c (c := 6) (by omega), opn_x (c := 19) (by omega)]
  obtain ⟨o1, o2, o3, o4⟩ := opn_e (s := s) (e := e) (T := T) (b := b) (l := l) (sp := sp)
  refine ⟨?_, a2, a3, ?_, bt_mono a5 (by omega), fun hm h1 => ?_⟩
  · split
    · exact Or.inr rfl
    · exact a1
  · by_cases c : e' = e
    · subst c
      rw [o1]
      obtain ⟨k, k1, k2, k3⟩ := btn a4 (by omega) (by omega)
      unfold bt at a4 ⊢
      rw [k1, nI_s, nI_i (by omega)]; omega
    · rw [opn_x (by omega)]
      exact bt_mono a4 (by omega)
  · by_cases c : e' = e
    · subst c
      exact ⟨T, hT3 hm, o2⟩
    · rw [if_neg c] at h1
      rw [opn_x (by omega)]
      exact a6 hm h1
theorem PA.xaS (P : PA m n K s) (he : e < 4) (hK : K ≤ 100000) : PA m n (K + 1) (aS g VS hr s e) := by
  unfold aS
  generalize VS (nmS g s e) (tw g 1 e) = st
  generalize (if hr = true then s 4 e + 1 else 0) = q
  have P' : PA m n K (up s 4 e q) := P.o (fun c i h => upn (by omega))
  by_cases c1 : ¬ st = 0 ∧ q = st
  · rw [if_pos c1]
    exact PA.xcls (i := Nn (s 21 e)) (z := s 0 1) (kd := 2) P' he hK
  · rw [if_neg c1]
    by_cases c2 : s 23 e < s 22 e
    · rw [if_pos c2]
      exact (PA.o P' (s' := up (up s 4 e q) 23 e (s 23 e + 1)) (fun c i h => upn (by omega))).mono (by omega)
    · rw [if_neg c2]
      exact PA.xcls (i := Nn (s 21 e)) (z := s 0 1) (kd := 1) P' he hK
theorem PA.xaP (P : PA m n K s) : PA m n K (aP g VW n s e) := P.o (fun c i h => aP_o (by omega))
theorem PA.xaQ (P : PA m n K s) (he : e < 4) (hK : K ≤ 100000) : PA m n (K + 1) (aQ g VW VL m n hr s e) := by
  unfold aQ
  split
  · exact (P.o (fun c i h => upn (by omega))).mono (by omega)
  · split
    · split
      · exact (PA.xaP P).mono (by omega)
      · rename_i c
        obtain ⟨P1, ⟨T, t1, t2, t3⟩, P3⟩ := P
        have P2 : PA m n K (up (aP g VW n s e) 2 e (s 2 e + 1)) := (PA.xaP ⟨P1, ⟨T, t1, t2, t3⟩, P3⟩).o (fun c i h => upn (by omega))
        refine P2.xopn he hK (T := Nn (s 0 3)) ?_ ?_ (fun hm => ?_)
        · rw [upn (by omega), aP_o (by omega), t1, Nn_n (by omega)]
        · rw [t1, Nn_n (by omega)]; exact t2
        · have := t3 hm
          rw [t1, Nn_n (by omega)]
          by_cases q : T = 90
          · exact absurd ⟨hm, by rw [t1, q]; rfl⟩ c
          · omega
    · exact ((PA.xaP P).o (fun c i h => upn (by omega))).mono (by omega)
theorem PA.act (P : PA m n K s) (he : e < 4) (hK : K + 1 ≤ 100000) : PA m n (K + 2) (ACT g VW VS VL m n H e s) := by
  unfold ACT
  split
  · split
    · exact (P.xaS he (by omega)).mono (by omega)
    · exact (P.xaS he (by omega)).xaQ he hK
  · exact (P.xaQ he (by omega)).mono (by omega)
theorem PA.acts (P : PA m n K s) (hn : n ≤ 4) (hK : K + 8 ≤ 100000) : ∀ k, k ≤ n → PA m n (K + 2 * k) (itr (ACT g VW VS VL m n H) 0 k s) := by
  intro k
  induction k with
  | zero => intro _; exact P
  | succ k ih =>
    intro hk
    rw [itr_snoc, Nat.zero_add]
    exact (ih (by omega)).act (by omega) (by omega)
theorem bN_s {F : Nat → Bool} (h : ¬ bN F = 0) : ∃ i, i < 4 ∧ F i = true := by
  by_cases c : ∃ i, i < 4 ∧ F i = true
  · exact c
  · exfalso
    apply h
    exact bN_0 (fun i hi => by
      cases q : F i with
      | false => rfl
      | true => exact absurd ⟨i, hi, q⟩ c)
theorem hB_n {e f : Nat} (h : hB s n e f = true) : f < n := by
  unfold hB at h
  exact (of_decide_eq_true h).1
theorem PA.lis (P : PA m n K s) (hn : n ≤ 4) (ht : bt (-1) (s 0 1 + 1) 100000) (j : Nat) : PA m n K (LIS s (hB s n) j) := by
  obtain ⟨P1, P2, P3⟩ := P
  have a : ∀ c i, ¬ (c = 0 ∧ i = 1) → ¬ c = 5 → ¬ c = 6 → LIS s (hB s n) j c i = s c i := by
    intro c i h1 h2 h3
    unfold LIS
    rw [if_neg h1, if_neg (by omega), if_neg (by omega)]
  refine ⟨by rw [a _ _ (by omega) (by omega) (by omega)]; exact P1, by rw [a _ _ (by omega) (by omega) (by omega)]; exact P2, fun e he => ?_⟩
  obtain ⟨a1, a2, a3, a4, a5, a6⟩ := P3 e he
  rw [a 1 e (by omega) (by omega) (by omega), a 18 e (by omega) (by omega) (by omega), a 19 e (by omega) (by omega) (by omega), a 21 e (by omega) (by omega) (by omega)]
  refine ⟨a1, ?_, ?_, a4, a5, a6⟩
  · unfold LIS
    rw [if_neg (by omega)]
    split
    · exact low4_b hn (fun i hi => hB_n hi)
    · rw [if_neg (by omega)]
      exact a2
  · unfold LIS
    rw [if_neg (by omega), if_neg (by omega)]
    split
    · exact ht
    · exact a3
theorem PA.cnt (P : PA m n K s) (j : Nat) : PA m n K (CNT s H j) := P.o (fun c i h => by
  unfold CNT
  rw [if_neg (by omega), if_neg (by omega), if_neg (by omega)])
theorem PA.tk (P : PA m n K s) (hn : n ≤ 4) (ht : bt (-1) (s 0 1 + 1) 100000) (hK : K + 8 ≤ 100000) : PA m n (K + 8) (TK g VW VS VL m n s) := by
  unfold TK
  exact (((P.lis hn ht n).acts hn hK n (Nat.le_refl _)).cnt n).mono (by omega)
end PAs
