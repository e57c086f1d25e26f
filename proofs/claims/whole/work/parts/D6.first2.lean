/-! the first heap of both sides -/
section FIRST2
variable {h0 : am_h} {d : Nat}
def tT (p : Nat) : Nat × Nat := (cg tabC p).1
def rT (p j : Nat) : Option Nat := (cg tabC p).2.1.lookup j
set_option maxRecDepth 40000 in
theorem shC_cg {t t' : Nat → Nat × Nat} {r r' : Nat → Nat → Option Nat} (e1 : ∀ p, p < 177 → t' p = t p) (e2 : ∀ p j, p < 177 → r' p j = r p j) (k : sh_C t r) : sh_C t' r' := by
  have f1 : t' = fun p => if p < 177 then t p else t' p := funext fun p => by
    by_cases c : p < 177
    · rw [if_pos c]; exact e1 p c
    · rw [if_neg c]
  have f2 : r' = fun p j => if p < 177 then r p j else r' p j := funext fun p => funext fun j => by
    by_cases c : p < 177
    · rw [if_pos c]; exact e2 p j c
    · rw [if_neg c]
  rw [f1, f2]
  unfold sh_C at k ⊢
  simp only [Nat.reduceLT, reduceIte]
  exact k
set_option maxRecDepth 40000 in
theorem shR_cg {t t' : Nat → Nat × Nat} {r r' : Nat → Nat → Option Nat} (e1 : ∀ p, p < 177 → t' p = t p) (e2 : ∀ p j, p < 177 → r' p j = r p j) (k : sh_R t r) : sh_R t' r' := by
  have f1 : t' = fun p => if p < 177 then t p else t' p := funext fun p => by
    by_cases c : p < 177
    · rw [if_pos c]; exact e1 p c
    · rw [if_neg c]
  have f2 : r' = fun p j => if p < 177 then r p j else r' p j := funext fun p => funext fun j => by
    by_cases c : p < 177
    · rw [if_pos c]; exact e2 p j c
    · rw [if_neg c]
  rw [f1, f2]
  unfold sh_R at k ⊢
  simp only [Nat.reduceLT, reduceIte]
  exact k
set_option maxRecDepth 20000 in
theorem shC_0 : sh_C tT rT := by
  unfold sh_C
  (repeat' apply And.intro) <;> decide +kernel
set_option maxRecDepth 20000 in
theorem shR_0 : sh_R tT rT := by
  unfold sh_R
  (repeat' apply And.intro) <;> decide +kernel
def hS (h0 : am_h) : am_h := cHp h0 tabC
def h1S (h0 : am_h) : am_h := s_w (hS h0) 128 (CP (a_i (hS h0) 127) (a_i (hS h0) 128))
theorem cHp_t {C : List CLs} {p : Nat} : a_t (cHp h0 C) p = if p < C.length then (cg C p).1 else a_t h0 p := rfl
theorem cHp_r {C : List CLs} {p j : Nat} : a_r (cHp h0 C) p j = if p < C.length then (cg C p).2.1.lookup j else a_r h0 p j := rfl
theorem cHp_i {C : List CLs} {p j : Nat} : a_i (cHp h0 C) p j = if p < C.length then ((cg C p).2.2.lookup j).getD 0 else a_i h0 p j := rfl
theorem cHp_l {C : List CLs} {p j : Nat} : a_l (cHp h0 C) p j = if p < C.length then 0 else a_l h0 p j := rfl
theorem hS_t {p : Nat} (l : p < 177) : a_t (hS h0) p = tT p := by
  unfold hS tT
  rw [cHp_t, tabC_l, if_pos l]
theorem hS_r {p j : Nat} (l : p < 177) : a_r (hS h0) p j = rT p j := by
  unfold hS rT
  rw [cHp_r, tabC_l, if_pos l]
theorem hS_i {p j : Nat} (l : p < 177) : a_i (hS h0) p j = iv p j := by
  unfold hS iv
  rw [cHp_i, tabC_l, if_pos l]
theorem hS_l {p j : Nat} (l : p < 177) : a_l (hS h0) p j = 0 := by
  unfold hS
  rw [cHp_l, tabC_l, if_pos l]
theorem hS_o {p : Nat} (l : 177 ≤ p) : a_t (hS h0) p = a_t h0 p ∧ ∀ j, a_r (hS h0) p j = a_r h0 p j ∧ a_i (hS h0) p j = a_i h0 p j ∧ a_l (hS h0) p j = a_l h0 p j := by
  unfold hS
  refine ⟨?_, fun j => ⟨?_, ?_, ?_⟩⟩
  · rw [cHp_t, tabC_l, if_neg (by omega)]
  · rw [cHp_r, tabC_l, if_neg (by omega)]
  · rw [cHp_i, tabC_l, if_neg (by omega)]
  · rw [cHp_l, tabC_l, if_neg (by omega)]
theorem hS_shC : sh_C (a_t (hS h0)) (a_r (hS h0)) := shC_cg (fun p l => hS_t l) (fun p j l => hS_r l) shC_0
theorem hS_shR : sh_R (a_t (hS h0)) (a_r (hS h0)) := shR_cg (fun p l => hS_t l) (fun p j l => hS_r l) shR_0
theorem iv128 {j : Nat} : iv 128 j = 0 := by
  have : (cg tabC 128).2.2 = [] := by decide +kernel
  unfold iv
  rw [this]; rfl
theorem iv127 {j : Nat} (l : 20150 ≤ j) : iv 127 j = 0 := by
  have e : (cg tabC 127).2.2 = [(116, -1), (112, -1), (115, -1), (111, -1), (114, -1), (110, -1), (113, -1), (109, -1), (92, 13), (2, -1)] := by decide +kernel
  unfold iv
  rw [e]
  have z : ∀ a : Nat, a < 20150 → (j == a) = false := fun a h => by simp; omega
  simp only [List.lookup_cons, z 116 (by omega), z 112 (by omega), z 115 (by omega), z 111 (by omega), z 114 (by omega), z 110 (by omega), z 113 (by omega), z 109 (by omega), z 92 (by omega), z 2 (by omega)]
  rfl
theorem sw_ne {h : am_h} {p q j : Nat} {f : Nat → Int32} (n : q ≠ p) : a_i (s_w h p f) q j = a_i h q j := by
  show (if q = p then f else a_i h q) j = _
  rw [if_neg n]
theorem sw_eq {h : am_h} {p : Nat} {f : Nat → Int32} : a_i (s_w h p f) p = f := if_pos rfl
theorem h1_i {p j : Nat} (l : p < 177) (n : p ≠ 128) : a_i (h1S h0) p j = iv p j := by
  exact (sw_ne n).trans (hS_i l)
theorem h1_g : a_i (h1S h0) 127 = g0 := funext fun j => h1_i (by omega) (by omega)
theorem h1_g2 : a_i (h1S h0) 128 = g0 := by
  refine sw_eq.trans ?_
  funext j
  unfold CP
  rw [hS_i (by omega), hS_i (by omega), iv128]
  by_cases c : j < 20150
  · rw [if_pos c]; rfl
  · rw [if_neg c]; exact (iv127 (by omega)).symm
end FIRST2
