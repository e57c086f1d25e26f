/-! both sides are made: heaps as lists of cells -/
section CTOR
/-- a cell: kind and size, references, ints -/
abbrev CLs : Type := (Nat × Nat) × List (Nat × Nat) × List (Nat × Int32)
def cg (C : List CLs) (p : Nat) : CLs := C.getD p ((99, 0), [], [])
def cZ (C : List CLs) : Nat := (C.map (fun c => c.1.2)).sum
/-- own cells in a list, old cells as they were -/
def cHp (h0 : am_h) (C : List CLs) : am_h := ((C.length, a_z h0 + cZ C), fun p => if p < C.length then (cg C p).1 else a_t h0 p, fun p j => if p < C.length then ((cg C p).2.2.lookup j).getD 0 else a_i h0 p j, fun p j => if p < C.length then 0 else a_l h0 p j, fun p j => if p < C.length then (cg C p).2.1.lookup j else a_r h0 p j)
def nwC (t z : Nat) : CLs := ((t, z), [], [])
def adR (o : CLs) (k v : Nat) : CLs := (o.1, (k, v) :: o.2.1, o.2.2)
def adI (o : CLs) (k : Nat) (v : Int32) : CLs := (o.1, o.2.1, (k, v) :: o.2.2)
variable {h0 : am_h} {C A B D : List CLs} {o x : CLs} {t z k v p d : Nat} {w : Int32}
theorem cg_l (h : p < C.length) : cg (C ++ D) p = cg C p := by
  unfold cg
  rw [List.getD_eq_getElem?_getD, List.getD_eq_getElem?_getD, List.getElem?_append_left h]
theorem cg_r : cg (C ++ D) (C.length + p) = cg D p := by
  unfold cg
  rw [List.getD_eq_getElem?_getD, List.getD_eq_getElem?_getD, List.getElem?_append_right (by omega), Nat.add_sub_cancel_left]
theorem cH_n : a_n (cHp h0 C) = C.length := rfl
theorem cH_z : a_z (cHp h0 C) = a_z h0 + cZ C := rfl
theorem cZ_a : cZ (C ++ D) = cZ C + cZ D := by
  unfold cZ
  rw [List.map_append, List.sum_append]
theorem cH_nw : s_nw (cHp h0 C) t z = cHp h0 (C ++ [nwC t z]) := by
  have el : (C ++ [nwC t z]).length = C.length + 1 := by rw [List.length_append]; rfl
  have eq : ∀ q, q < C.length + 1 → ¬ q < C.length → cg (C ++ [nwC t z]) q = nwC t z := fun q h1 h2 => by
    have : q = C.length + 0 := by omega
    rw [this, cg_r]; rfl
  refine hext (Prod.ext el.symm (by show a_z h0 + cZ C + z = a_z h0 + cZ _; rw [cZ_a]; show _ = a_z h0 + (cZ C + (z + 0)); omega)) (funext fun q => ?_) (fun q j => ?_) (fun q j => ?_) (fun q j => ?_)
  · show (if q = C.length then (t, z) else if q < C.length then (cg C q).1 else a_t h0 q) = if q < (C ++ [nwC t z]).length then (cg (C ++ [nwC t z]) q).1 else a_t h0 q
    rw [el]
    by_cases c : q < C.length
    · rw [if_neg (by omega), if_pos c, if_pos (by omega), cg_l c]
    · by_cases c2 : q = C.length
      · rw [if_pos c2, if_pos (by omega), eq q (by omega) c]; rfl
      · rw [if_neg c2, if_neg c, if_neg (by omega)]
  · show (if q = C.length then 0 else if q < C.length then ((cg C q).2.2.lookup j).getD 0 else a_i h0 q j) = if q < (C ++ [nwC t z]).length then ((cg (C ++ [nwC t z]) q).2.2.lookup j).getD 0 else a_i h0 q j
    rw [el]
    by_cases c : q < C.length
    · rw [if_neg (by omega), if_pos c, if_pos (by omega), cg_l c]
    · by_cases c2 : q = C.length
      · rw [if_pos c2, if_pos (by omega), eq q (by omega) c]; rfl
      · rw [if_neg c2, if_neg c, if_neg (by omega)]
  · show (if q = C.length then 0 else if q < C.length then 0 else a_l h0 q j) = if q < (C ++ [nwC t z]).length then 0 else a_l h0 q j
    rw [el]
    by_cases c : q < C.length
    · rw [if_neg (by omega), if_pos c, if_pos (by omega)]
    · by_cases c2 : q = C.length
      · rw [if_pos c2, if_pos (by omega)]
      · rw [if_neg c2, if_neg c, if_neg (by omega)]
  · show (if q = C.length then none else if q < C.length then (cg C q).2.1.lookup j else a_r h0 q j) = if q < (C ++ [nwC t z]).length then (cg (C ++ [nwC t z]) q).2.1.lookup j else a_r h0 q j
    rw [el]
    by_cases c : q < C.length
    · rw [if_neg (by omega), if_pos c, if_pos (by omega), cg_l c]
    · by_cases c2 : q = C.length
      · rw [if_pos c2, if_pos (by omega), eq q (by omega) c]; rfl
      · rw [if_neg c2, if_neg c, if_neg (by omega)]
theorem cg_m {q : Nat} : cg (C ++ x :: D) q = if q = C.length then x else cg (C ++ o :: D) q := by
  by_cases c : q = C.length
  · rw [if_pos c, c]
    have := cg_r (C := C) (D := x :: D) (p := 0)
    rw [Nat.add_zero] at this
    rw [this]; rfl
  · rw [if_neg c]
    by_cases c2 : q < C.length
    · rw [cg_l c2, cg_l c2]
    · obtain ⟨k, rfl⟩ : ∃ k, q = C.length + (k + 1) := ⟨q - C.length - 1, by omega⟩
      rw [cg_r, cg_r]; rfl
theorem ln_m : (C ++ x :: D).length = (C ++ o :: D).length := by
  rw [List.length_append, List.length_append]; rfl
theorem cZ_m (h : x.1 = o.1) : cZ (C ++ x :: D) = cZ (C ++ o :: D) := by
  rw [cZ_a, cZ_a]
  show _ + (x.1.2 + _) = _ + (o.1.2 + _)
  rw [h]
theorem cH_sr (hp : p = C.length) : s_r (cHp h0 (C ++ o :: D)) p k (some v) = cHp h0 (C ++ adR o k v :: D) := by
  subst hp
  have lt : C.length < (C ++ o :: D).length := by rw [List.length_append, List.length_cons]; omega
  have co : cg (C ++ o :: D) C.length = o := by
    have := cg_r (C := C) (D := o :: D) (p := 0)
    rw [Nat.add_zero] at this
    rw [this]; rfl
  refine hext (Prod.ext (ln_m (x := adR o k v)).symm (by show a_z h0 + _ = a_z h0 + _; rw [cZ_m (x := adR o k v) (o := o) rfl])) (funext fun q => ?_) (fun q j => ?_) (fun q j => ?_) (fun q j => ?_)
  · show (if q < (C ++ o :: D).length then (cg (C ++ o :: D) q).1 else a_t h0 q) = if q < (C ++ adR o k v :: D).length then (cg (C ++ adR o k v :: D) q).1 else a_t h0 q
    rw [ln_m (x := adR o k v) (o := o), cg_m (x := adR o k v) (o := o)]
    by_cases c : q = C.length
    · rw [if_pos c, c, co]; rfl
    · rw [if_neg c]
  · show (if q < (C ++ o :: D).length then ((cg (C ++ o :: D) q).2.2.lookup j).getD 0 else a_i h0 q j) = if q < (C ++ adR o k v :: D).length then ((cg (C ++ adR o k v :: D) q).2.2.lookup j).getD 0 else a_i h0 q j
    rw [ln_m (x := adR o k v) (o := o), cg_m (x := adR o k v) (o := o)]
    by_cases c : q = C.length
    · rw [if_pos c, c, co]; rfl
    · rw [if_neg c]
  · show (if q < (C ++ o :: D).length then 0 else a_l h0 q j) = if q < (C ++ adR o k v :: D).length then 0 else a_l h0 q j
    rw [ln_m (x := adR o k v) (o := o)]
  · show (if q = C.length ∧ j = k then some v else if q < (C ++ o :: D).length then (cg (C ++ o :: D) q).2.1.lookup j else a_r h0 q j) = if q < (C ++ adR o k v :: D).length then (cg (C ++ adR o k v :: D) q).2.1.lookup j else a_r h0 q j
    rw [ln_m (x := adR o k v) (o := o), cg_m (x := adR o k v) (o := o)]
    by_cases c : q = C.length
    · rw [if_pos c (c := q = C.length), c, if_pos lt, if_pos lt, co]
      show _ = List.lookup j ((k, v) :: o.2.1)
      rw [List.lookup_cons]
      by_cases cj : j = k
      · rw [if_pos ⟨rfl, cj⟩, cj]; simp
      · rw [if_neg (fun z => cj z.2)]
        have : (j == k) = false := by simpa using cj
        rw [this]
    · rw [if_neg c, if_neg (fun z => c z.1)]
theorem cH_si (hp : p = C.length) : s_i (cHp h0 (C ++ o :: D)) p k w = cHp h0 (C ++ adI o k w :: D) := by
  subst hp
  have lt : C.length < (C ++ o :: D).length := by rw [List.length_append, List.length_cons]; omega
  have co : cg (C ++ o :: D) C.length = o := by
    have := cg_r (C := C) (D := o :: D) (p := 0)
    rw [Nat.add_zero] at this
    rw [this]; rfl
  refine hext (Prod.ext (ln_m (x := adI o k w)).symm (by show a_z h0 + _ = a_z h0 + _; rw [cZ_m (x := adI o k w) (o := o) rfl])) (funext fun q => ?_) (fun q j => ?_) (fun q j => ?_) (fun q j => ?_)
  · show (if q < (C ++ o :: D).length then (cg (C ++ o :: D) q).1 else a_t h0 q) = if q < (C ++ adI o k w :: D).length then (cg (C ++ adI o k w :: D) q).1 else a_t h0 q
    rw [ln_m (x := adI o k w) (o := o), cg_m (x := adI o k w) (o := o)]
    by_cases c : q = C.length
    · rw [if_pos c, c, co]; rfl
    · rw [if_neg c]
  · show (if q = C.length ∧ j = k then w else if q < (C ++ o :: D).length then ((cg (C ++ o :: D) q).2.2.lookup j).getD 0 else a_i h0 q j) = if q < (C ++ adI o k w :: D).length then ((cg (C ++ adI o k w :: D) q).2.2.lookup j).getD 0 else a_i h0 q j
    rw [ln_m (x := adI o k w) (o := o), cg_m (x := adI o k w) (o := o)]
    by_cases c : q = C.length
    · rw [if_pos c (c := q = C.length), c, if_pos lt, if_pos lt, co]
      show _ = (List.lookup j ((k, w) :: o.2.2)).getD 0
      rw [List.lookup_cons]
      by_cases cj : j = k
      · rw [if_pos ⟨rfl, cj⟩, cj]; simp
      · rw [if_neg (fun z => cj z.2)]
        have : (j == k) = false := by simpa using cj
        rw [this]
    · rw [if_neg c, if_neg (fun z => c z.1)]
  · show (if q < (C ++ o :: D).length then 0 else a_l h0 q j) = if q < (C ++ adI o k w :: D).length then 0 else a_l h0 q j
    rw [ln_m (x := adI o k w) (o := o)]
  · show (if q < (C ++ o :: D).length then (cg (C ++ o :: D) q).2.1.lookup j else a_r h0 q j) = if q < (C ++ adI o k w :: D).length then (cg (C ++ adI o k w :: D) q).2.1.lookup j else a_r h0 q j
    rw [ln_m (x := adI o k w) (o := o), cg_m (x := adI o k w) (o := o)]
    by_cases c : q = C.length
    · rw [if_pos c, c, co]; rfl
    · rw [if_neg c]
theorem cH_t (hp : p = C.length) : a_t (cHp h0 (C ++ o :: D)) p = o.1 := by
  subst hp
  have lt : C.length < (C ++ o :: D).length := by rw [List.length_append, List.length_cons]; omega
  have co : cg (C ++ o :: D) C.length = o := by
    have := cg_r (C := C) (D := o :: D) (p := 0)
    rw [Nat.add_zero] at this
    rw [this]; rfl
  show (if C.length < (C ++ o :: D).length then (cg (C ++ o :: D) C.length).1 else _) = _
  rw [if_pos lt, co]
theorem cH_r (hp : p = C.length) : a_r (cHp h0 (C ++ o :: D)) p k = o.2.1.lookup k := by
  subst hp
  have lt : C.length < (C ++ o :: D).length := by rw [List.length_append, List.length_cons]; omega
  have co : cg (C ++ o :: D) C.length = o := by
    have := cg_r (C := C) (D := o :: D) (p := 0)
    rw [Nat.add_zero] at this
    rw [this]; rfl
  show (if C.length < (C ++ o :: D).length then (cg (C ++ o :: D) C.length).2.1.lookup k else _) = _
  rw [if_pos lt, co]
theorem adR_1 : (adR o k v).1 = o.1 := rfl
theorem adI_1 : (adI o k w).1 = o.1 := rfl
theorem nwC_1 : (nwC t z).1 = (t, z) := rfl
end CTOR
