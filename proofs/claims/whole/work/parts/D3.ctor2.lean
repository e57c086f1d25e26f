/-! the constructors, one by one -/
section CTOR2
def cG (h0 : am_h) (C : List CLs) (o : CLs) (A : List CLs) : am_h := cHp h0 (C ++ o :: A)
def apc (A B : List CLs) : List CLs := A ++ B
variable {h0 : am_h} {C A B D : List CLs} {o x : CLs} {t z k v p d : Nat} {w : Int32}
theorem apl : (apc A B).length = A.length + B.length := List.length_append
theorem cG_nw : s_nw (cG h0 C o A) t z = cG h0 C o (apc A [nwC t z]) := by
  unfold cG apc
  rw [cH_nw, List.append_assoc, List.cons_append]
theorem cG_sr : s_r (cG h0 C o A) C.length k (some v) = cG h0 C (adR o k v) A := cH_sr rfl
theorem cG_si : s_i (cG h0 C o A) C.length k w = cG h0 C (adI o k w) A := cH_si rfl
theorem cG_t : a_t (cG h0 C o A) C.length = o.1 := cH_t rfl
theorem cG_n : a_n (cG h0 C o A) = C.length + (A.length + 1) := by
  unfold cG
  rw [cH_n, List.length_append, List.length_cons]
theorem cG_in : cG h0 C o (apc A [x]) = cG h0 (C ++ o :: A) x [] := by
  unfold cG apc
  rw [List.append_assoc, List.cons_append]
theorem cG_ot {T : List CLs} : cHp h0 ((C ++ o :: A) ++ T) = cG h0 C o (apc A T) := by
  unfold cG apc
  rw [List.append_assoc, List.cons_append]
/-- a cell of the list is changed -/
def md (f : CLs → CLs) : List CLs → Nat → List CLs
  | [], _ => []
  | x :: A, 0 => f x :: A
  | x :: A, i + 1 => x :: md f A i
def insR (A : List CLs) (i j v : Nat) : List CLs := md (fun x => adR x j v) A i
def insI (A : List CLs) (i j : Nat) (w : Int32) : List CLs := md (fun x => adI x j w) A i
def ty (A : List CLs) (i : Nat) : Nat × Nat := (cg A i).1
theorem md_at {f : CLs → CLs} : md f (A ++ x :: B) A.length = A ++ f x :: B := by
  induction A with
  | nil => rfl
  | cons y A ih => show y :: md f (A ++ x :: B) A.length = _; rw [ih]; rfl
theorem md_len {f : CLs → CLs} {i : Nat} : (md f A i).length = A.length := by
  induction A generalizing i with
  | nil => rfl
  | cons y A ih => cases i with
    | zero => rfl
    | succ i => show (md f A i).length + 1 = _; rw [ih]; rfl
theorem insR_l {i j v : Nat} : (insR A i j v).length = A.length := md_len
theorem insI_l {i j : Nat} : (insI A i j w).length = A.length := md_len
theorem spl {A : List CLs} {i : Nat} (l : i < A.length) : ∃ A1 y A2, A = A1 ++ y :: A2 ∧ A1.length = i := by
  refine ⟨A.take i, A[i], A.drop (i + 1), ?_, ?_⟩
  · rw [← List.drop_eq_getElem_cons l, List.take_append_drop]
  · rw [List.length_take]; omega
theorem cG_mr {i q : Nat} (e : q = C.length + (i + 1)) (l : i < A.length) : s_r (cG h0 C o A) q k (some v) = cG h0 C o (insR A i k v) := by
  obtain ⟨A1, y, A2, rfl, rfl⟩ := spl l
  unfold insR
  rw [md_at]
  unfold cG
  have a1 : C ++ o :: (A1 ++ y :: A2) = (C ++ o :: A1) ++ y :: A2 := by rw [List.append_assoc, List.cons_append]
  have a2 : C ++ o :: (A1 ++ adR y k v :: A2) = (C ++ o :: A1) ++ adR y k v :: A2 := by rw [List.append_assoc, List.cons_append]
  rw [a1, a2]
  exact cH_sr (by rw [List.length_append, List.length_cons]; exact e)
theorem cG_mi {i q : Nat} (e : q = C.length + (i + 1)) (l : i < A.length) : s_i (cG h0 C o A) q k w = cG h0 C o (insI A i k w) := by
  obtain ⟨A1, y, A2, rfl, rfl⟩ := spl l
  unfold insI
  rw [md_at]
  unfold cG
  have a1 : C ++ o :: (A1 ++ y :: A2) = (C ++ o :: A1) ++ y :: A2 := by rw [List.append_assoc, List.cons_append]
  have a2 : C ++ o :: (A1 ++ adI y k w :: A2) = (C ++ o :: A1) ++ adI y k w :: A2 := by rw [List.append_assoc, List.cons_append]
  rw [a1, a2]
  exact cH_si (by rw [List.length_append, List.length_cons]; exact e)
theorem cG_mt {i q : Nat} (e : q = C.length + (i + 1)) (l : i < A.length) : a_t (cG h0 C o A) q = ty A i := by
  obtain ⟨A1, y, A2, rfl, rfl⟩ := spl l
  unfold cG ty
  have a1 : C ++ o :: (A1 ++ y :: A2) = (C ++ o :: A1) ++ y :: A2 := by rw [List.append_assoc, List.cons_append]
  have a3 := cg_r (C := A1) (D := y :: A2) (p := 0)
  rw [Nat.add_zero] at a3
  rw [a1, cH_t (by rw [List.length_append, List.length_cons]; exact e), a3]
  rfl
theorem ty_ap {i : Nat} : ty (apc A B) i = if i < A.length then ty A i else ty B (i - A.length) := by
  unfold ty apc
  by_cases c : i < A.length
  · rw [if_pos c, cg_l c]
  · rw [if_neg c]
    have := cg_r (C := A) (D := B) (p := i - A.length)
    rw [show A.length + (i - A.length) = i by omega] at this
    rw [this]
theorem ty_md {f : CLs → CLs} (hf : ∀ x, (f x).1 = x.1) {i i' : Nat} : ty (md f A i') i = ty A i := by
  induction A generalizing i i' with
  | nil => rfl
  | cons y A ih => cases i' with
    | zero => cases i with
      | zero => exact hf y
      | succ i => rfl
    | succ i' => cases i with
      | zero => rfl
      | succ i => exact ih
theorem ty_R {i i' j v : Nat} : ty (insR A i' j v) i = ty A i := ty_md (f := fun x => adR x j v) fun _ => rfl
theorem ty_I {i i' j : Nat} : ty (insI A i' j w) i = ty A i := ty_md (f := fun x => adI x j w) fun _ => rfl
theorem ty_1 : ty [nwC t z] 0 = (t, z) := rfl
theorem cG_r : a_r (cG h0 C o A) C.length k = o.2.1.lookup k := cH_r rfl
theorem lk_R {j : Nat} : (adR o k v).2.1.lookup j = if j = k then some v else o.2.1.lookup j := by
  show List.lookup j ((k, v) :: o.2.1) = _
  rw [List.lookup_cons]
  by_cases c : j = k
  · rw [if_pos c, c]; simp
  · rw [if_neg c]
    have : (j == k) = false := by simpa using c
    rw [this]
theorem lk_I : (adI o k w).2.1 = o.2.1 := rfl
theorem lk_0 {j : Nat} : (nwC t z).2.1.lookup j = none := rfl
theorem lnG : (C ++ o :: A).length = C.length + (A.length + 1) := by rw [List.length_append, List.length_cons]


def tTold (p : Nat) : List CLs := adR (adR (adR (adR (nwC 10 5) 0 (p + 1)) 1 (p + 2)) 2 (p + 3)) 3 (p + 4) :: apc (apc (apc (apc [] [nwC 20 4]) [nwC 20 4]) [nwC 20 4]) [nwC 20 4]
theorem ln_tTold : (tTold p).length = 5 := by simp [tTold, apl, insR_l, insI_l]
set_option maxRecDepth 20000 in
set_option maxHeartbeats 4000000 in
theorem kq_X10_init {Q : Option Value → am_h → Prop} (lt : C.length < 800000) : Cal d mX10_init [.ref C.length] (cG h0 C (nwC 10 5) []) Q = Q none (cHp h0 (C ++ tTold C.length)) := by
  have e : cHp h0 (C ++ tTold C.length) = cG h0 C (adR (adR (adR (adR (nwC 10 5) 0 (C.length + 1)) 1 (C.length + 2)) 2 (C.length + 3)) 3 (C.length + 4)) (apc (apc (apc (apc [] [nwC 20 4]) [nwC 20 4]) [nwC 20 4]) [nwC 20 4]) := rfl
  have mx : ∀ k, k ≤ 200 → C.length + k < am_MX := fun k c => by unfold am_MX; omega
  rw [e]
  unfold Cal
  rw [l_X10_init]
  simp only [am_en, am_ag, ct_i, ct_r, ct_l, List.length_cons, List.length_nil, List.replicate]
  simp [w_aload_n0 (M := mX10_init) dX10_init_0, w_oi (M := mX10_init) dX10_init_1 lk_10_3, w_aload_n0 (M := mX10_init) dX10_init_4, w_iconst (M := mX10_init) (v := 4) dX10_init_5 rfl, w_newa (M := mX10_init) (t := 20) dX10_init_6 rfl, w_putA (M := mX10_init) dX10_init_8 f_10_9 rfl (Or.inr ⟨rfl, rfl⟩), w_aload_n0 (M := mX10_init) dX10_init_11, w_iconst (M := mX10_init) (v := 4) dX10_init_12 rfl, w_newa (M := mX10_init) (t := 20) dX10_init_13 rfl, w_putA (M := mX10_init) dX10_init_15 f_10_15 rfl (Or.inr ⟨rfl, rfl⟩), w_aload_n0 (M := mX10_init) dX10_init_18, w_iconst (M := mX10_init) (v := 4) dX10_init_19 rfl, w_newa (M := mX10_init) (t := 20) dX10_init_20 rfl, w_putA (M := mX10_init) dX10_init_22 f_10_18 rfl (Or.inr ⟨rfl, rfl⟩), w_aload_n0 (M := mX10_init) dX10_init_25, w_iconst (M := mX10_init) (v := 4) dX10_init_26 rfl, w_newa (M := mX10_init) (t := 20) dX10_init_27 rfl, w_putA (M := mX10_init) dX10_init_29 f_10_21 rfl (Or.inr ⟨rfl, rfl⟩), w_vret (M := mX10_init) dX10_init_32 rfl, Kn_v_, Kn_n_, kl_i_, kl_a_, kl_l_, kl_n_, s1_0_, s2_0_, s1_1, s1_2, s1_3, s1_4, s1_5, s1_6, s1_7, s1_8, s1_9, s1_10, s1_11, s1_12, s1_13, s1_14, s2_1, s2_2, s2_3, s2_4, s2_5, s2_6, s2_7, s2_8, s2_9, s2_10, s2_11, s2_12, s2_13, s2_14, List.map_nil, List.map_cons, List.sum_nil, List.sum_cons, ct_i_, ct_r_, ct_l_, t_si_, t_sl_, t_sr_, n_si_, n_sl_, n_sr_, i_si_, i_sl_, i_sr_, l_si_, l_sl_, l_sr_, r_si_, r_sl_, r_sr_, vr_s_, vr_n_, nz_0_, nz_1_, cG_nw, cG_sr, cG_si, cG_t, cG_n, apl, adR_1, adI_1, nwC_1, mx, show am_sz 11 = 8 from rfl, show am_sz 8 = 14 from rfl, show am_sz 10 = 5 from rfl, show am_sz 5 = 9 from rfl, show am_sz 3 = 14 from rfl, show am_sz 2 = 8 from rfl, show am_sz 0 = 4 from rfl, show am_sz 1 = 3 from rfl, show am_sz 7 = 14 from rfl, show am_sz 4 = 4 from rfl, show am_sz 9 = 9 from rfl, show am_sz 12 = 78 from rfl, show am_ak 3 = 23 from rfl, show am_ak 5 = 24 from rfl, show am_ak 9 = 25 from rfl]
theorem cc_X10 {Q : Option Value → am_h → Prop} (lt : C.length < 799000) (ep : p = C.length + (A.length + 1)) (hA : A.length ≤ 200) : Cal d mX10_init [.ref p] (cG h0 C o (apc A [nwC 10 5])) Q = Q none (cG h0 C o (apc A (tTold p))) := by
  have el := lnG (C := C) (o := o) (A := A)
  rw [cG_in, ← cG_ot, ep, ← el]
  exact kq_X10_init (by omega)
def tEnd (p : Nat) : List CLs := adI (adI (adI (adI (nwC 3 14) 5 (-1)) 6 (-1)) 7 (-1)) 12 (-1) :: []
theorem ln_tEnd : (tEnd p).length = 1 := by simp [tEnd, apl, insR_l, insI_l]
set_option maxRecDepth 20000 in
set_option maxHeartbeats 4000000 in
theorem kq_X3_init {Q : Option Value → am_h → Prop} (lt : C.length < 800000) : Cal d mX3_init [.ref C.length] (cG h0 C (nwC 3 14) []) Q = Q none (cHp h0 (C ++ tEnd C.length)) := by
  have e : cHp h0 (C ++ tEnd C.length) = cG h0 C (adI (adI (adI (adI (nwC 3 14) 5 (-1)) 6 (-1)) 7 (-1)) 12 (-1)) ([]) := rfl
  have mx : ∀ k, k ≤ 200 → C.length + k < am_MX := fun k c => by unfold am_MX; omega
  rw [e]
  unfold Cal
  rw [l_X3_init]
  simp only [am_en, am_ag, ct_i, ct_r, ct_l, List.length_cons, List.length_nil, List.replicate]
  simp [w_aload_n0 (M := mX3_init) dX3_init_0, w_oi (M := mX3_init) dX3_init_1 lk_3_3, w_aload_n0 (M := mX3_init) dX3_init_4, w_iconst (M := mX3_init) (v := (-1)) dX3_init_5 rfl, w_putI (M := mX3_init) dX3_init_6 f_3_9 rfl (Or.inl rfl), w_aload_n0 (M := mX3_init) dX3_init_9, w_iconst (M := mX3_init) (v := (-1)) dX3_init_10 rfl, w_putI (M := mX3_init) dX3_init_11 f_3_15 rfl (Or.inl rfl), w_aload_n0 (M := mX3_init) dX3_init_14, w_iconst (M := mX3_init) (v := (-1)) dX3_init_15 rfl, w_putI (M := mX3_init) dX3_init_16 f_3_18 rfl (Or.inl rfl), w_aload_n0 (M := mX3_init) dX3_init_19, w_iconst (M := mX3_init) (v := (-1)) dX3_init_20 rfl, w_putI (M := mX3_init) dX3_init_21 f_3_21 rfl (Or.inl rfl), w_vret (M := mX3_init) dX3_init_24 rfl, Kn_v_, Kn_n_, kl_i_, kl_a_, kl_l_, kl_n_, s1_0_, s2_0_, s1_1, s1_2, s1_3, s1_4, s1_5, s1_6, s1_7, s1_8, s1_9, s1_10, s1_11, s1_12, s1_13, s1_14, s2_1, s2_2, s2_3, s2_4, s2_5, s2_6, s2_7, s2_8, s2_9, s2_10, s2_11, s2_12, s2_13, s2_14, List.map_nil, List.map_cons, List.sum_nil, List.sum_cons, ct_i_, ct_r_, ct_l_, t_si_, t_sl_, t_sr_, n_si_, n_sl_, n_sr_, i_si_, i_sl_, i_sr_, l_si_, l_sl_, l_sr_, r_si_, r_sl_, r_sr_, vr_s_, vr_n_, nz_0_, nz_1_, cG_nw, cG_sr, cG_si, cG_t, cG_n, apl, adR_1, adI_1, nwC_1, mx, show am_sz 11 = 8 from rfl, show am_sz 8 = 14 from rfl, show am_sz 10 = 5 from rfl, show am_sz 5 = 9 from rfl, show am_sz 3 = 14 from rfl, show am_sz 2 = 8 from rfl, show am_sz 0 = 4 from rfl, show am_sz 1 = 3 from rfl, show am_sz 7 = 14 from rfl, show am_sz 4 = 4 from rfl, show am_sz 9 = 9 from rfl, show am_sz 12 = 78 from rfl, show am_ak 3 = 23 from rfl, show am_ak 5 = 24 from rfl, show am_ak 9 = 25 from rfl]
theorem cc_X3 {Q : Option Value → am_h → Prop} (lt : C.length < 799000) (ep : p = C.length + (A.length + 1)) (hA : A.length ≤ 200) : Cal d mX3_init [.ref p] (cG h0 C o (apc A [nwC 3 14])) Q = Q none (cG h0 C o (apc A (tEnd p))) := by
  have el := lnG (C := C) (o := o) (A := A)
  rw [cG_in, ← cG_ot, ep, ← el]
  exact kq_X3_init (by omega)
def tLine (p : Nat) : List CLs := adR (adR (adR (adR (adI (nwC 5 9) 2 13) 5 (p + 1)) 6 (p + 2)) 7 (p + 3)) 8 (p + 4) :: insR (apc (insR (apc (insR (apc (insR (apc (apc (apc (apc (apc [] [nwC 20 16]) [nwC 20 16]) [nwC 20 16]) [nwC 23 4]) (tEnd (p + 5))) 3 0 (p + 5)) (tEnd (p + 6))) 3 1 (p + 6)) (tEnd (p + 7))) 3 2 (p + 7)) (tEnd (p + 8))) 3 3 (p + 8)
theorem ln_tLine : (tLine p).length = 9 := by simp [tLine, apl, insR_l, insI_l, ln_tEnd]
set_option maxRecDepth 20000 in
set_option maxHeartbeats 4000000 in
theorem kq_X5_init {Q : Option Value → am_h → Prop} (lt : C.length < 790000) : Cal (d + 1) mX5_init [.ref C.length] (cG h0 C (nwC 5 9) []) Q = Q none (cHp h0 (C ++ tLine C.length)) := by
  have e : cHp h0 (C ++ tLine C.length) = cG h0 C (adR (adR (adR (adR (adI (nwC 5 9) 2 13) 5 (C.length + 1)) 6 (C.length + 2)) 7 (C.length + 3)) 8 (C.length + 4)) (insR (apc (insR (apc (insR (apc (insR (apc (apc (apc (apc (apc [] [nwC 20 16]) [nwC 20 16]) [nwC 20 16]) [nwC 23 4]) (tEnd (C.length + 5))) 3 0 (C.length + 5)) (tEnd (C.length + 6))) 3 1 (C.length + 6)) (tEnd (C.length + 7))) 3 2 (C.length + 7)) (tEnd (C.length + 8))) 3 3 (C.length + 8)) := rfl
  have mx : ∀ k, k ≤ 200 → C.length + k < am_MX := fun k c => by unfold am_MX; omega
  rw [e]
  unfold Cal
  rw [l_X5_init]
  simp only [am_en, am_ag, ct_i, ct_r, ct_l, List.length_cons, List.length_nil, List.replicate]
  simp [w_aload_n0 (M := mX5_init) dX5_init_0, w_oi (M := mX5_init) dX5_init_1 lk_5_3, w_aload_n0 (M := mX5_init) dX5_init_4, w_bipush (M := mX5_init) (v := 13) dX5_init_5 rfl, w_putI (M := mX5_init) dX5_init_7 f_5_9 rfl (Or.inl rfl), w_aload_n0 (M := mX5_init) dX5_init_10, w_bipush (M := mX5_init) (v := 16) dX5_init_11 rfl, w_newa (M := mX5_init) (t := 20) dX5_init_13 rfl, w_putA (M := mX5_init) dX5_init_15 f_5_15 rfl (Or.inr ⟨rfl, rfl⟩), w_aload_n0 (M := mX5_init) dX5_init_18, w_bipush (M := mX5_init) (v := 16) dX5_init_19 rfl, w_newa (M := mX5_init) (t := 20) dX5_init_21 rfl, w_putA (M := mX5_init) dX5_init_23 f_5_19 rfl (Or.inr ⟨rfl, rfl⟩), w_aload_n0 (M := mX5_init) dX5_init_26, w_bipush (M := mX5_init) (v := 16) dX5_init_27 rfl, w_newa (M := mX5_init) (t := 20) dX5_init_29 rfl, w_putA (M := mX5_init) dX5_init_31 f_5_22 rfl (Or.inr ⟨rfl, rfl⟩), w_aload_n0 (M := mX5_init) dX5_init_34, w_iconst (M := mX5_init) (v := 4) dX5_init_35 rfl, w_anew (M := mX5_init) dX5_init_36 cl_5_25 (by decide), w_putA (M := mX5_init) dX5_init_39 f_5_27 rfl (Or.inr ⟨rfl, rfl⟩), w_iconst (M := mX5_init) (v := 0) dX5_init_42 rfl, w_istore_n (M := mX5_init) (i := 1) dX5_init_43 rfl (by decide), w_iload_n1 (M := mX5_init) dX5_init_44, w_iconst (M := mX5_init) (v := 4) dX5_init_45 rfl, w_ic_ge (M := mX5_init) (tgt := 68) dX5_init_46 (by decide), w_aload_n0 (M := mX5_init) dX5_init_49, w_getA (M := mX5_init) dX5_init_50 f_5_27 rfl (by decide) (by decide), w_iload_n1 (M := mX5_init) dX5_init_53, w_new (M := mX5_init) dX5_init_54 cl_5_25 (by decide), w_dup_int (M := mX5_init) dX5_init_57, w_dup_ref (M := mX5_init) dX5_init_57, c_5_31 (M := mX5_init) dX5_init_58 rfl, w_aastore (M := mX5_init) dX5_init_61, w_iinc1 (M := mX5_init) (v := 1) dX5_init_62 rfl (by decide), w_goto (M := mX5_init) (tgt := 44) dX5_init_65 (by decide), w_vret (M := mX5_init) dX5_init_68 rfl, Kn_v_, Kn_n_, kl_i_, kl_a_, kl_l_, kl_n_, s1_0_, s2_0_, s1_1, s1_2, s1_3, s1_4, s1_5, s1_6, s1_7, s1_8, s1_9, s1_10, s1_11, s1_12, s1_13, s1_14, s2_1, s2_2, s2_3, s2_4, s2_5, s2_6, s2_7, s2_8, s2_9, s2_10, s2_11, s2_12, s2_13, s2_14, List.map_nil, List.map_cons, List.sum_nil, List.sum_cons, ct_i_, ct_r_, ct_l_, t_si_, t_sl_, t_sr_, n_si_, n_sl_, n_sr_, i_si_, i_sl_, i_sr_, l_si_, l_sl_, l_sr_, r_si_, r_sl_, r_sr_, vr_s_, vr_n_, nz_0_, nz_1_, cG_nw, cG_sr, cG_si, cG_t, cG_n, apl, adR_1, adI_1, nwC_1, mx, show am_sz 11 = 8 from rfl, show am_sz 8 = 14 from rfl, show am_sz 10 = 5 from rfl, show am_sz 5 = 9 from rfl, show am_sz 3 = 14 from rfl, show am_sz 2 = 8 from rfl, show am_sz 0 = 4 from rfl, show am_sz 1 = 3 from rfl, show am_sz 7 = 14 from rfl, show am_sz 4 = 4 from rfl, show am_sz 9 = 9 from rfl, show am_sz 12 = 78 from rfl, show am_ak 3 = 23 from rfl, show am_ak 5 = 24 from rfl, show am_ak 9 = 25 from rfl, cc_X3 (d := d) (h0 := h0) (C := C) (by omega), ln_tEnd, cG_r, lk_R, lk_I, lk_0, ty_ap, ty_R, ty_I, ty_1, insR_l, insI_l, cG_mr (i := 3) (q := C.length + 4) rfl, cG_mi (i := 3) (q := C.length + 4) rfl, cG_mt (i := 3) (q := C.length + 4) rfl, cG_mt (i := 4) (q := C.length + 5) rfl, cG_mt (i := 5) (q := C.length + 6) rfl, cG_mt (i := 6) (q := C.length + 7) rfl, cG_mt (i := 7) (q := C.length + 8) rfl, show ∀ p, ty (tEnd p) 0 = (3, 14) from fun _ => rfl, show am_el 23 = 3 from rfl, show am_in1 (0 : Int32) 4 = True from eq_true (by unfold am_in1; decide), show am_in1 (1 : Int32) 4 = True from eq_true (by unfold am_in1; decide), show am_in1 (2 : Int32) 4 = True from eq_true (by unfold am_in1; decide), show am_in1 (3 : Int32) 4 = True from eq_true (by unfold am_in1; decide)]
theorem cc_X5 {Q : Option Value → am_h → Prop} (lt : C.length < 789000) (ep : p = C.length + (A.length + 1)) (hA : A.length ≤ 200) : Cal (d + 1) mX5_init [.ref p] (cG h0 C o (apc A [nwC 5 9])) Q = Q none (cG h0 C o (apc A (tLine p))) := by
  have el := lnG (C := C) (o := o) (A := A)
  rw [cG_in, ← cG_ot, ep, ← el]
  exact kq_X5_init (by omega)
def tBook_90 (p : Nat) : List CLs := adR (adR (adR (adR (adR (adR (adR (adR (nwC 2 8) 0 (p + 1)) 1 (p + 2)) 2 (p + 3)) 3 (p + 4)) 4 (p + 5)) 5 (p + 6)) 6 (p + 7)) 7 (p + 8) :: apc (apc (apc (apc (apc (apc (apc (apc [] [nwC 20 90]) [nwC 20 90]) [nwC 20 90]) [nwC 20 90]) [nwC 20 90]) [nwC 20 40]) [nwC 20 40]) [nwC 20 40]
theorem ln_tBook_90 : (tBook_90 p).length = 9 := by simp [tBook_90, apl, insR_l, insI_l]
set_option maxRecDepth 20000 in
set_option maxHeartbeats 4000000 in
theorem kq_X2_init_90 {Q : Option Value → am_h → Prop} (lt : C.length < 800000) : Cal d mX2_init [.ref C.length, .int 90, .int 40] (cG h0 C (nwC 2 8) []) Q = Q none (cHp h0 (C ++ tBook_90 C.length)) := by
  have e : cHp h0 (C ++ tBook_90 C.length) = cG h0 C (adR (adR (adR (adR (adR (adR (adR (adR (nwC 2 8) 0 (C.length + 1)) 1 (C.length + 2)) 2 (C.length + 3)) 3 (C.length + 4)) 4 (C.length + 5)) 5 (C.length + 6)) 6 (C.length + 7)) 7 (C.length + 8)) (apc (apc (apc (apc (apc (apc (apc (apc [] [nwC 20 90]) [nwC 20 90]) [nwC 20 90]) [nwC 20 90]) [nwC 20 90]) [nwC 20 40]) [nwC 20 40]) [nwC 20 40]) := rfl
  have mx : ∀ k, k ≤ 200 → C.length + k < am_MX := fun k c => by unfold am_MX; omega
  rw [e]
  unfold Cal
  rw [l_X2_init]
  simp only [am_en, am_ag, ct_i, ct_r, ct_l, List.length_cons, List.length_nil, List.replicate]
  simp [w_aload_n0 (M := mX2_init) dX2_init_0, w_oi (M := mX2_init) dX2_init_1 lk_2_3, w_aload_n0 (M := mX2_init) dX2_init_4, w_iload_n1 (M := mX2_init) dX2_init_5, w_newa (M := mX2_init) (t := 20) dX2_init_6 rfl, w_putA (M := mX2_init) dX2_init_8 f_2_9 rfl (Or.inr ⟨rfl, rfl⟩), w_aload_n0 (M := mX2_init) dX2_init_11, w_iload_n1 (M := mX2_init) dX2_init_12, w_newa (M := mX2_init) (t := 20) dX2_init_13 rfl, w_putA (M := mX2_init) dX2_init_15 f_2_15 rfl (Or.inr ⟨rfl, rfl⟩), w_aload_n0 (M := mX2_init) dX2_init_18, w_iload_n1 (M := mX2_init) dX2_init_19, w_newa (M := mX2_init) (t := 20) dX2_init_20 rfl, w_putA (M := mX2_init) dX2_init_22 f_2_18 rfl (Or.inr ⟨rfl, rfl⟩), w_aload_n0 (M := mX2_init) dX2_init_25, w_iload_n1 (M := mX2_init) dX2_init_26, w_newa (M := mX2_init) (t := 20) dX2_init_27 rfl, w_putA (M := mX2_init) dX2_init_29 f_2_21 rfl (Or.inr ⟨rfl, rfl⟩), w_aload_n0 (M := mX2_init) dX2_init_32, w_iload_n1 (M := mX2_init) dX2_init_33, w_newa (M := mX2_init) (t := 20) dX2_init_34 rfl, w_putA (M := mX2_init) dX2_init_36 f_2_24 rfl (Or.inr ⟨rfl, rfl⟩), w_aload_n0 (M := mX2_init) dX2_init_39, w_iload_n2 (M := mX2_init) dX2_init_40, w_newa (M := mX2_init) (t := 20) dX2_init_41 rfl, w_putA (M := mX2_init) dX2_init_43 f_2_27 rfl (Or.inr ⟨rfl, rfl⟩), w_aload_n0 (M := mX2_init) dX2_init_46, w_iload_n2 (M := mX2_init) dX2_init_47, w_newa (M := mX2_init) (t := 20) dX2_init_48 rfl, w_putA (M := mX2_init) dX2_init_50 f_2_30 rfl (Or.inr ⟨rfl, rfl⟩), w_aload_n0 (M := mX2_init) dX2_init_53, w_iload_n2 (M := mX2_init) dX2_init_54, w_newa (M := mX2_init) (t := 20) dX2_init_55 rfl, w_putA (M := mX2_init) dX2_init_57 f_2_33 rfl (Or.inr ⟨rfl, rfl⟩), w_vret (M := mX2_init) dX2_init_60 rfl, Kn_v_, Kn_n_, kl_i_, kl_a_, kl_l_, kl_n_, s1_0_, s2_0_, s1_1, s1_2, s1_3, s1_4, s1_5, s1_6, s1_7, s1_8, s1_9, s1_10, s1_11, s1_12, s1_13, s1_14, s2_1, s2_2, s2_3, s2_4, s2_5, s2_6, s2_7, s2_8, s2_9, s2_10, s2_11, s2_12, s2_13, s2_14, List.map_nil, List.map_cons, List.sum_nil, List.sum_cons, ct_i_, ct_r_, ct_l_, t_si_, t_sl_, t_sr_, n_si_, n_sl_, n_sr_, i_si_, i_sl_, i_sr_, l_si_, l_sl_, l_sr_, r_si_, r_sl_, r_sr_, vr_s_, vr_n_, nz_0_, nz_1_, cG_nw, cG_sr, cG_si, cG_t, cG_n, apl, adR_1, adI_1, nwC_1, mx, show am_sz 11 = 8 from rfl, show am_sz 8 = 14 from rfl, show am_sz 10 = 5 from rfl, show am_sz 5 = 9 from rfl, show am_sz 3 = 14 from rfl, show am_sz 2 = 8 from rfl, show am_sz 0 = 4 from rfl, show am_sz 1 = 3 from rfl, show am_sz 7 = 14 from rfl, show am_sz 4 = 4 from rfl, show am_sz 9 = 9 from rfl, show am_sz 12 = 78 from rfl, show am_ak 3 = 23 from rfl, show am_ak 5 = 24 from rfl, show am_ak 9 = 25 from rfl]
theorem cc_X2_90 {Q : Option Value → am_h → Prop} (lt : C.length < 799000) (ep : p = C.length + (A.length + 1)) (hA : A.length ≤ 200) : Cal d mX2_init [.ref p, .int 90, .int 40] (cG h0 C o (apc A [nwC 2 8])) Q = Q none (cG h0 C o (apc A (tBook_90 p))) := by
  have el := lnG (C := C) (o := o) (A := A)
  rw [cG_in, ← cG_ot, ep, ← el]
  exact kq_X2_init_90 (by omega)
def tBook_0 (p : Nat) : List CLs := adR (adR (adR (adR (adR (adR (adR (adR (nwC 2 8) 0 (p + 1)) 1 (p + 2)) 2 (p + 3)) 3 (p + 4)) 4 (p + 5)) 5 (p + 6)) 6 (p + 7)) 7 (p + 8) :: apc (apc (apc (apc (apc (apc (apc (apc [] [nwC 20 0]) [nwC 20 0]) [nwC 20 0]) [nwC 20 0]) [nwC 20 0]) [nwC 20 0]) [nwC 20 0]) [nwC 20 0]
theorem ln_tBook_0 : (tBook_0 p).length = 9 := by simp [tBook_0, apl, insR_l, insI_l]
set_option maxRecDepth 20000 in
set_option maxHeartbeats 4000000 in
theorem kq_X2_init_0 {Q : Option Value → am_h → Prop} (lt : C.length < 800000) : Cal d mX2_init [.ref C.length, .int 0, .int 0] (cG h0 C (nwC 2 8) []) Q = Q none (cHp h0 (C ++ tBook_0 C.length)) := by
  have e : cHp h0 (C ++ tBook_0 C.length) = cG h0 C (adR (adR (adR (adR (adR (adR (adR (adR (nwC 2 8) 0 (C.length + 1)) 1 (C.length + 2)) 2 (C.length + 3)) 3 (C.length + 4)) 4 (C.length + 5)) 5 (C.length + 6)) 6 (C.length + 7)) 7 (C.length + 8)) (apc (apc (apc (apc (apc (apc (apc (apc [] [nwC 20 0]) [nwC 20 0]) [nwC 20 0]) [nwC 20 0]) [nwC 20 0]) [nwC 20 0]) [nwC 20 0]) [nwC 20 0]) := rfl
  have mx : ∀ k, k ≤ 200 → C.length + k < am_MX := fun k c => by unfold am_MX; omega
  rw [e]
  unfold Cal
  rw [l_X2_init]
  simp only [am_en, am_ag, ct_i, ct_r, ct_l, List.length_cons, List.length_nil, List.replicate]
  simp [w_aload_n0 (M := mX2_init) dX2_init_0, w_oi (M := mX2_init) dX2_init_1 lk_2_3, w_aload_n0 (M := mX2_init) dX2_init_4, w_iload_n1 (M := mX2_init) dX2_init_5, w_newa (M := mX2_init) (t := 20) dX2_init_6 rfl, w_putA (M := mX2_init) dX2_init_8 f_2_9 rfl (Or.inr ⟨rfl, rfl⟩), w_aload_n0 (M := mX2_init) dX2_init_11, w_iload_n1 (M := mX2_init) dX2_init_12, w_newa (M := mX2_init) (t := 20) dX2_init_13 rfl, w_putA (M := mX2_init) dX2_init_15 f_2_15 rfl (Or.inr ⟨rfl, rfl⟩), w_aload_n0 (M := mX2_init) dX2_init_18, w_iload_n1 (M := mX2_init) dX2_init_19, w_newa (M := mX2_init) (t := 20) dX2_init_20 rfl, w_putA (M := mX2_init) dX2_init_22 f_2_18 rfl (Or.inr ⟨rfl, rfl⟩), w_aload_n0 (M := mX2_init) dX2_init_25, w_iload_n1 (M := mX2_init) dX2_init_26, w_newa (M := mX2_init) (t := 20) dX2_init_27 rfl, w_putA (M := mX2_init) dX2_init_29 f_2_21 rfl (Or.inr ⟨rfl, rfl⟩), w_aload_n0 (M := mX2_init) dX2_init_32, w_iload_n1 (M := mX2_init) dX2_init_33, w_newa (M := mX2_init) (t := 20) dX2_init_34 rfl, w_putA (M := mX2_init) dX2_init_36 f_2_24 rfl (Or.inr ⟨rfl, rfl⟩), w_aload_n0 (M := mX2_init) dX2_init_39, w_iload_n2 (M := mX2_init) dX2_init_40, w_newa (M := mX2_init) (t := 20) dX2_init_41 rfl, w_putA (M := mX2_init) dX2_init_43 f_2_27 rfl (Or.inr ⟨rfl, rfl⟩), w_aload_n0 (M := mX2_init) dX2_init_46, w_iload_n2 (M := mX2_init) dX2_init_47, w_newa (M := mX2_init) (t := 20) dX2_init_48 rfl, w_putA (M := mX2_init) dX2_init_50 f_2_30 rfl (Or.inr ⟨rfl, rfl⟩), w_aload_n0 (M := mX2_init) dX2_init_53, w_iload_n2 (M := mX2_init) dX2_init_54, w_newa (M := mX2_init) (t := 20) dX2_init_55 rfl, w_putA (M := mX2_init) dX2_init_57 f_2_33 rfl (Or.inr ⟨rfl, rfl⟩), w_vret (M := mX2_init) dX2_init_60 rfl, Kn_v_, Kn_n_, kl_i_, kl_a_, kl_l_, kl_n_, s1_0_, s2_0_, s1_1, s1_2, s1_3, s1_4, s1_5, s1_6, s1_7, s1_8, s1_9, s1_10, s1_11, s1_12, s1_13, s1_14, s2_1, s2_2, s2_3, s2_4, s2_5, s2_6, s2_7, s2_8, s2_9, s2_10, s2_11, s2_12, s2_13, s2_14, List.map_nil, List.map_cons, List.sum_nil, List.sum_cons, ct_i_, ct_r_, ct_l_, t_si_, t_sl_, t_sr_, n_si_, n_sl_, n_sr_, i_si_, i_sl_, i_sr_, l_si_, l_sl_, l_sr_, r_si_, r_sl_, r_sr_, vr_s_, vr_n_, nz_0_, nz_1_, cG_nw, cG_sr, cG_si, cG_t, cG_n, apl, adR_1, adI_1, nwC_1, mx, show am_sz 11 = 8 from rfl, show am_sz 8 = 14 from rfl, show am_sz 10 = 5 from rfl, show am_sz 5 = 9 from rfl, show am_sz 3 = 14 from rfl, show am_sz 2 = 8 from rfl, show am_sz 0 = 4 from rfl, show am_sz 1 = 3 from rfl, show am_sz 7 = 14 from rfl, show am_sz 4 = 4 from rfl, show am_sz 9 = 9 from rfl, show am_sz 12 = 78 from rfl, show am_ak 3 = 23 from rfl, show am_ak 5 = 24 from rfl, show am_ak 9 = 25 from rfl]
theorem cc_X2_0 {Q : Option Value → am_h → Prop} (lt : C.length < 799000) (ep : p = C.length + (A.length + 1)) (hA : A.length ≤ 200) : Cal d mX2_init [.ref p, .int 0, .int 0] (cG h0 C o (apc A [nwC 2 8])) Q = Q none (cG h0 C o (apc A (tBook_0 p))) := by
  have el := lnG (C := C) (o := o) (A := A)
  rw [cG_in, ← cG_ot, ep, ← el]
  exact kq_X2_init_0 (by omega)
def tAgr (p : Nat) : List CLs := adR (adR (adR (nwC 0 4) 0 (p + 1)) 1 (p + 2)) 2 (p + 3) :: apc (apc (apc [] [nwC 20 8]) [nwC 20 8]) [nwC 20 8]
theorem ln_tAgr : (tAgr p).length = 4 := by simp [tAgr, apl, insR_l, insI_l]
set_option maxRecDepth 20000 in
set_option maxHeartbeats 4000000 in
theorem kq_X0_init {Q : Option Value → am_h → Prop} (lt : C.length < 800000) : Cal d mX0_init [.ref C.length] (cG h0 C (nwC 0 4) []) Q = Q none (cHp h0 (C ++ tAgr C.length)) := by
  have e : cHp h0 (C ++ tAgr C.length) = cG h0 C (adR (adR (adR (nwC 0 4) 0 (C.length + 1)) 1 (C.length + 2)) 2 (C.length + 3)) (apc (apc (apc [] [nwC 20 8]) [nwC 20 8]) [nwC 20 8]) := rfl
  have mx : ∀ k, k ≤ 200 → C.length + k < am_MX := fun k c => by unfold am_MX; omega
  rw [e]
  unfold Cal
  rw [l_X0_init]
  simp only [am_en, am_ag, ct_i, ct_r, ct_l, List.length_cons, List.length_nil, List.replicate]
  simp [w_aload_n0 (M := mX0_init) dX0_init_0, w_oi (M := mX0_init) dX0_init_1 lk_0_3, w_aload_n0 (M := mX0_init) dX0_init_4, w_bipush (M := mX0_init) (v := 8) dX0_init_5 rfl, w_newa (M := mX0_init) (t := 20) dX0_init_7 rfl, w_putA (M := mX0_init) dX0_init_9 f_0_9 rfl (Or.inr ⟨rfl, rfl⟩), w_aload_n0 (M := mX0_init) dX0_init_12, w_bipush (M := mX0_init) (v := 8) dX0_init_13 rfl, w_newa (M := mX0_init) (t := 20) dX0_init_15 rfl, w_putA (M := mX0_init) dX0_init_17 f_0_15 rfl (Or.inr ⟨rfl, rfl⟩), w_aload_n0 (M := mX0_init) dX0_init_20, w_bipush (M := mX0_init) (v := 8) dX0_init_21 rfl, w_newa (M := mX0_init) (t := 20) dX0_init_23 rfl, w_putA (M := mX0_init) dX0_init_25 f_0_18 rfl (Or.inr ⟨rfl, rfl⟩), w_vret (M := mX0_init) dX0_init_28 rfl, Kn_v_, Kn_n_, kl_i_, kl_a_, kl_l_, kl_n_, s1_0_, s2_0_, s1_1, s1_2, s1_3, s1_4, s1_5, s1_6, s1_7, s1_8, s1_9, s1_10, s1_11, s1_12, s1_13, s1_14, s2_1, s2_2, s2_3, s2_4, s2_5, s2_6, s2_7, s2_8, s2_9, s2_10, s2_11, s2_12, s2_13, s2_14, List.map_nil, List.map_cons, List.sum_nil, List.sum_cons, ct_i_, ct_r_, ct_l_, t_si_, t_sl_, t_sr_, n_si_, n_sl_, n_sr_, i_si_, i_sl_, i_sr_, l_si_, l_sl_, l_sr_, r_si_, r_sl_, r_sr_, vr_s_, vr_n_, nz_0_, nz_1_, cG_nw, cG_sr, cG_si, cG_t, cG_n, apl, adR_1, adI_1, nwC_1, mx, show am_sz 11 = 8 from rfl, show am_sz 8 = 14 from rfl, show am_sz 10 = 5 from rfl, show am_sz 5 = 9 from rfl, show am_sz 3 = 14 from rfl, show am_sz 2 = 8 from rfl, show am_sz 0 = 4 from rfl, show am_sz 1 = 3 from rfl, show am_sz 7 = 14 from rfl, show am_sz 4 = 4 from rfl, show am_sz 9 = 9 from rfl, show am_sz 12 = 78 from rfl, show am_ak 3 = 23 from rfl, show am_ak 5 = 24 from rfl, show am_ak 9 = 25 from rfl]
theorem cc_X0 {Q : Option Value → am_h → Prop} (lt : C.length < 799000) (ep : p = C.length + (A.length + 1)) (hA : A.length ≤ 200) : Cal d mX0_init [.ref p] (cG h0 C o (apc A [nwC 0 4])) Q = Q none (cG h0 C o (apc A (tAgr p))) := by
  have el := lnG (C := C) (o := o) (A := A)
  rw [cG_in, ← cG_ot, ep, ← el]
  exact kq_X0_init (by omega)
def tAns (p : Nat) : List CLs := adR (adR (nwC 1 3) 0 (p + 1)) 1 (p + 2) :: apc (apc [] [nwC 20 8]) [nwC 20 8]
theorem ln_tAns : (tAns p).length = 3 := by simp [tAns, apl, insR_l, insI_l]
set_option maxRecDepth 20000 in
set_option maxHeartbeats 4000000 in
theorem kq_X1_init {Q : Option Value → am_h → Prop} (lt : C.length < 800000) : Cal d mX1_init [.ref C.length] (cG h0 C (nwC 1 3) []) Q = Q none (cHp h0 (C ++ tAns C.length)) := by
  have e : cHp h0 (C ++ tAns C.length) = cG h0 C (adR (adR (nwC 1 3) 0 (C.length + 1)) 1 (C.length + 2)) (apc (apc [] [nwC 20 8]) [nwC 20 8]) := rfl
  have mx : ∀ k, k ≤ 200 → C.length + k < am_MX := fun k c => by unfold am_MX; omega
  rw [e]
  unfold Cal
  rw [l_X1_init]
  simp only [am_en, am_ag, ct_i, ct_r, ct_l, List.length_cons, List.length_nil, List.replicate]
  simp [w_aload_n0 (M := mX1_init) dX1_init_0, w_oi (M := mX1_init) dX1_init_1 lk_1_3, w_aload_n0 (M := mX1_init) dX1_init_4, w_bipush (M := mX1_init) (v := 8) dX1_init_5 rfl, w_newa (M := mX1_init) (t := 20) dX1_init_7 rfl, w_putA (M := mX1_init) dX1_init_9 f_1_9 rfl (Or.inr ⟨rfl, rfl⟩), w_aload_n0 (M := mX1_init) dX1_init_12, w_bipush (M := mX1_init) (v := 8) dX1_init_13 rfl, w_newa (M := mX1_init) (t := 20) dX1_init_15 rfl, w_putA (M := mX1_init) dX1_init_17 f_1_15 rfl (Or.inr ⟨rfl, rfl⟩), w_vret (M := mX1_init) dX1_init_20 rfl, Kn_v_, Kn_n_, kl_i_, kl_a_, kl_l_, kl_n_, s1_0_, s2_0_, s1_1, s1_2, s1_3, s1_4, s1_5, s1_6, s1_7, s1_8, s1_9, s1_10, s1_11, s1_12, s1_13, s1_14, s2_1, s2_2, s2_3, s2_4, s2_5, s2_6, s2_7, s2_8, s2_9, s2_10, s2_11, s2_12, s2_13, s2_14, List.map_nil, List.map_cons, List.sum_nil, List.sum_cons, ct_i_, ct_r_, ct_l_, t_si_, t_sl_, t_sr_, n_si_, n_sl_, n_sr_, i_si_, i_sl_, i_sr_, l_si_, l_sl_, l_sr_, r_si_, r_sl_, r_sr_, vr_s_, vr_n_, nz_0_, nz_1_, cG_nw, cG_sr, cG_si, cG_t, cG_n, apl, adR_1, adI_1, nwC_1, mx, show am_sz 11 = 8 from rfl, show am_sz 8 = 14 from rfl, show am_sz 10 = 5 from rfl, show am_sz 5 = 9 from rfl, show am_sz 3 = 14 from rfl, show am_sz 2 = 8 from rfl, show am_sz 0 = 4 from rfl, show am_sz 1 = 3 from rfl, show am_sz 7 = 14 from rfl, show am_sz 4 = 4 from rfl, show am_sz 9 = 9 from rfl, show am_sz 12 = 78 from rfl, show am_ak 3 = 23 from rfl, show am_ak 5 = 24 from rfl, show am_ak 9 = 25 from rfl]
theorem cc_X1 {Q : Option Value → am_h → Prop} (lt : C.length < 799000) (ep : p = C.length + (A.length + 1)) (hA : A.length ≤ 200) : Cal d mX1_init [.ref p] (cG h0 C o (apc A [nwC 1 3])) Q = Q none (cG h0 C o (apc A (tAns p))) := by
  have el := lnG (C := C) (o := o) (A := A)
  rw [cG_in, ← cG_ot, ep, ← el]
  exact kq_X1_init (by omega)
def tState (p : Nat) : List CLs := adR (adR (adR (adI (adR (adR (adR (adR (nwC 8 14) 0 (p + 1)) 1 (p + 6)) 2 (p + 15)) 3 (p + 24)) 7 (-1)) 8 (p + 25)) 12 (p + 26)) 13 (p + 30) :: apc (apc (apc (apc (apc (apc (apc ([]) (tTold (p + 1))) (tLine (p + 6))) (tBook_90 (p + 15))) [nwC 24 30]) [nwC 20 3]) (tAgr (p + 26))) (tAns (p + 30))
theorem ln_tState : (tState p).length = 33 := by simp [tState, apl, insR_l, insI_l, ln_tAgr, ln_tAns, ln_tBook_90, ln_tLine, ln_tTold]
set_option maxRecDepth 20000 in
set_option maxHeartbeats 4000000 in
theorem kq_X8_init {Q : Option Value → am_h → Prop} (lt : C.length < 780000) : Cal (d + 2) mX8_init [.ref C.length] (cG h0 C (nwC 8 14) []) Q = Q none (cHp h0 (C ++ tState C.length)) := by
  have e : cHp h0 (C ++ tState C.length) = cG h0 C (adR (adR (adR (adI (adR (adR (adR (adR (nwC 8 14) 0 (C.length + 1)) 1 (C.length + 6)) 2 (C.length + 15)) 3 (C.length + 24)) 7 (-1)) 8 (C.length + 25)) 12 (C.length + 26)) 13 (C.length + 30)) (apc (apc (apc (apc (apc (apc (apc ([]) (tTold (C.length + 1))) (tLine (C.length + 6))) (tBook_90 (C.length + 15))) [nwC 24 30]) [nwC 20 3]) (tAgr (C.length + 26))) (tAns (C.length + 30))) := rfl
  have mx : ∀ k, k ≤ 200 → C.length + k < am_MX := fun k c => by unfold am_MX; omega
  rw [e]
  unfold Cal
  rw [l_X8_init]
  simp only [am_en, am_ag, ct_i, ct_r, ct_l, List.length_cons, List.length_nil, List.replicate]
  simp [w_aload_n0 (M := mX8_init) dX8_init_0, w_oi (M := mX8_init) dX8_init_1 lk_8_3, w_aload_n0 (M := mX8_init) dX8_init_4, w_new (M := mX8_init) dX8_init_5 cl_8_9 (by decide), w_dup_int (M := mX8_init) dX8_init_8, w_dup_ref (M := mX8_init) dX8_init_8, c_8_11 (M := mX8_init) dX8_init_9 rfl, w_putO (M := mX8_init) dX8_init_12 f_8_12 rfl (Or.inr ⟨rfl, rfl⟩), w_putON (M := mX8_init) dX8_init_12 f_8_12 rfl (Or.inr ⟨rfl, rfl⟩), w_aload_n0 (M := mX8_init) dX8_init_15, w_new (M := mX8_init) dX8_init_16 cl_8_18 (by decide), w_dup_int (M := mX8_init) dX8_init_19, w_dup_ref (M := mX8_init) dX8_init_19, c_8_20 (M := mX8_init) dX8_init_20 rfl, w_putO (M := mX8_init) dX8_init_23 f_8_21 rfl (Or.inr ⟨rfl, rfl⟩), w_putON (M := mX8_init) dX8_init_23 f_8_21 rfl (Or.inr ⟨rfl, rfl⟩), w_aload_n0 (M := mX8_init) dX8_init_26, w_new (M := mX8_init) dX8_init_27 cl_8_25 (by decide), w_dup_int (M := mX8_init) dX8_init_30, w_dup_ref (M := mX8_init) dX8_init_30, w_bipush (M := mX8_init) (v := 90) dX8_init_31 rfl, w_bipush (M := mX8_init) (v := 40) dX8_init_33 rfl, c_8_27 (M := mX8_init) dX8_init_35 rfl, w_putO (M := mX8_init) dX8_init_38 f_8_30 rfl (Or.inr ⟨rfl, rfl⟩), w_putON (M := mX8_init) dX8_init_38 f_8_30 rfl (Or.inr ⟨rfl, rfl⟩), w_aload_n0 (M := mX8_init) dX8_init_41, w_bipush (M := mX8_init) (v := 30) dX8_init_42 rfl, w_anew (M := mX8_init) dX8_init_44 cl_8_18 (by decide), w_putA (M := mX8_init) dX8_init_47 f_8_34 rfl (Or.inr ⟨rfl, rfl⟩), w_aload_n0 (M := mX8_init) dX8_init_50, w_iconst (M := mX8_init) (v := (-1)) dX8_init_51 rfl, w_putI (M := mX8_init) dX8_init_52 f_8_38 rfl (Or.inl rfl), w_aload_n0 (M := mX8_init) dX8_init_55, w_iconst (M := mX8_init) (v := 3) dX8_init_56 rfl, w_newa (M := mX8_init) (t := 20) dX8_init_57 rfl, w_putA (M := mX8_init) dX8_init_59 f_8_42 rfl (Or.inr ⟨rfl, rfl⟩), w_aload_n0 (M := mX8_init) dX8_init_62, w_new (M := mX8_init) dX8_init_63 cl_8_46 (by decide), w_dup_int (M := mX8_init) dX8_init_66, w_dup_ref (M := mX8_init) dX8_init_66, c_8_48 (M := mX8_init) dX8_init_67 rfl, w_putO (M := mX8_init) dX8_init_70 f_8_49 rfl (Or.inr ⟨rfl, rfl⟩), w_putON (M := mX8_init) dX8_init_70 f_8_49 rfl (Or.inr ⟨rfl, rfl⟩), w_aload_n0 (M := mX8_init) dX8_init_73, w_new (M := mX8_init) dX8_init_74 cl_8_53 (by decide), w_dup_int (M := mX8_init) dX8_init_77, w_dup_ref (M := mX8_init) dX8_init_77, c_8_55 (M := mX8_init) dX8_init_78 rfl, w_putO (M := mX8_init) dX8_init_81 f_8_56 rfl (Or.inr ⟨rfl, rfl⟩), w_putON (M := mX8_init) dX8_init_81 f_8_56 rfl (Or.inr ⟨rfl, rfl⟩), w_vret (M := mX8_init) dX8_init_84 rfl, Kn_v_, Kn_n_, kl_i_, kl_a_, kl_l_, kl_n_, s1_0_, s2_0_, s1_1, s1_2, s1_3, s1_4, s1_5, s1_6, s1_7, s1_8, s1_9, s1_10, s1_11, s1_12, s1_13, s1_14, s2_1, s2_2, s2_3, s2_4, s2_5, s2_6, s2_7, s2_8, s2_9, s2_10, s2_11, s2_12, s2_13, s2_14, List.map_nil, List.map_cons, List.sum_nil, List.sum_cons, ct_i_, ct_r_, ct_l_, t_si_, t_sl_, t_sr_, n_si_, n_sl_, n_sr_, i_si_, i_sl_, i_sr_, l_si_, l_sl_, l_sr_, r_si_, r_sl_, r_sr_, vr_s_, vr_n_, nz_0_, nz_1_, cG_nw, cG_sr, cG_si, cG_t, cG_n, apl, adR_1, adI_1, nwC_1, mx, show am_sz 11 = 8 from rfl, show am_sz 8 = 14 from rfl, show am_sz 10 = 5 from rfl, show am_sz 5 = 9 from rfl, show am_sz 3 = 14 from rfl, show am_sz 2 = 8 from rfl, show am_sz 0 = 4 from rfl, show am_sz 1 = 3 from rfl, show am_sz 7 = 14 from rfl, show am_sz 4 = 4 from rfl, show am_sz 9 = 9 from rfl, show am_sz 12 = 78 from rfl, show am_ak 3 = 23 from rfl, show am_ak 5 = 24 from rfl, show am_ak 9 = 25 from rfl, cc_X0 (d := d + 1) (h0 := h0) (C := C) (by omega), ln_tAgr, cc_X1 (d := d + 1) (h0 := h0) (C := C) (by omega), ln_tAns, cc_X2_90 (d := d + 1) (h0 := h0) (C := C) (by omega), ln_tBook_90, cc_X5 (d := d) (h0 := h0) (C := C) (by omega), ln_tLine, cc_X10 (d := d + 1) (h0 := h0) (C := C) (by omega), ln_tTold]
theorem cc_X8 {Q : Option Value → am_h → Prop} (lt : C.length < 779000) (ep : p = C.length + (A.length + 1)) (hA : A.length ≤ 200) : Cal (d + 2) mX8_init [.ref p] (cG h0 C o (apc A [nwC 8 14])) Q = Q none (cG h0 C o (apc A (tState p))) := by
  have el := lnG (C := C) (o := o) (A := A)
  rw [cG_in, ← cG_ot, ep, ← el]
  exact kq_X8_init (by omega)
def tRead (p : Nat) : List CLs := adR (adR (adR (adI (adI (adR (nwC 7 14) 0 (p + 1)) 2 (-1)) 3 (-1)) 6 (p + 2)) 7 (p + 3)) 8 (p + 4) :: apc (apc (apc (apc [] [nwC 20 300]) [nwC 20 301]) [nwC 20 301]) [nwC 20 301]
theorem ln_tRead : (tRead p).length = 5 := by simp [tRead, apl, insR_l, insI_l]
set_option maxRecDepth 20000 in
set_option maxHeartbeats 4000000 in
theorem kq_X7_init {Q : Option Value → am_h → Prop} (lt : C.length < 800000) : Cal d mX7_init [.ref C.length] (cG h0 C (nwC 7 14) []) Q = Q none (cHp h0 (C ++ tRead C.length)) := by
  have e : cHp h0 (C ++ tRead C.length) = cG h0 C (adR (adR (adR (adI (adI (adR (nwC 7 14) 0 (C.length + 1)) 2 (-1)) 3 (-1)) 6 (C.length + 2)) 7 (C.length + 3)) 8 (C.length + 4)) (apc (apc (apc (apc [] [nwC 20 300]) [nwC 20 301]) [nwC 20 301]) [nwC 20 301]) := rfl
  have mx : ∀ k, k ≤ 200 → C.length + k < am_MX := fun k c => by unfold am_MX; omega
  rw [e]
  unfold Cal
  rw [l_X7_init]
  simp only [am_en, am_ag, ct_i, ct_r, ct_l, List.length_cons, List.length_nil, List.replicate]
  simp [w_aload_n0 (M := mX7_init) dX7_init_0, w_oi (M := mX7_init) dX7_init_1 lk_7_3, w_aload_n0 (M := mX7_init) dX7_init_4, w_sipush (M := mX7_init) (v := 300) dX7_init_5 rfl, w_newa (M := mX7_init) (t := 20) dX7_init_8 rfl, w_putA (M := mX7_init) dX7_init_10 f_7_9 rfl (Or.inr ⟨rfl, rfl⟩), w_aload_n0 (M := mX7_init) dX7_init_13, w_iconst (M := mX7_init) (v := (-1)) dX7_init_14 rfl, w_putI (M := mX7_init) dX7_init_15 f_7_15 rfl (Or.inl rfl), w_aload_n0 (M := mX7_init) dX7_init_18, w_iconst (M := mX7_init) (v := (-1)) dX7_init_19 rfl, w_putI (M := mX7_init) dX7_init_20 f_7_19 rfl (Or.inl rfl), w_aload_n0 (M := mX7_init) dX7_init_23, w_sipush (M := mX7_init) (v := 301) dX7_init_24 rfl, w_newa (M := mX7_init) (t := 20) dX7_init_27 rfl, w_putA (M := mX7_init) dX7_init_29 f_7_22 rfl (Or.inr ⟨rfl, rfl⟩), w_aload_n0 (M := mX7_init) dX7_init_32, w_sipush (M := mX7_init) (v := 301) dX7_init_33 rfl, w_newa (M := mX7_init) (t := 20) dX7_init_36 rfl, w_putA (M := mX7_init) dX7_init_38 f_7_25 rfl (Or.inr ⟨rfl, rfl⟩), w_aload_n0 (M := mX7_init) dX7_init_41, w_sipush (M := mX7_init) (v := 301) dX7_init_42 rfl, w_newa (M := mX7_init) (t := 20) dX7_init_45 rfl, w_putA (M := mX7_init) dX7_init_47 f_7_28 rfl (Or.inr ⟨rfl, rfl⟩), w_vret (M := mX7_init) dX7_init_50 rfl, Kn_v_, Kn_n_, kl_i_, kl_a_, kl_l_, kl_n_, s1_0_, s2_0_, s1_1, s1_2, s1_3, s1_4, s1_5, s1_6, s1_7, s1_8, s1_9, s1_10, s1_11, s1_12, s1_13, s1_14, s2_1, s2_2, s2_3, s2_4, s2_5, s2_6, s2_7, s2_8, s2_9, s2_10, s2_11, s2_12, s2_13, s2_14, List.map_nil, List.map_cons, List.sum_nil, List.sum_cons, ct_i_, ct_r_, ct_l_, t_si_, t_sl_, t_sr_, n_si_, n_sl_, n_sr_, i_si_, i_sl_, i_sr_, l_si_, l_sl_, l_sr_, r_si_, r_sl_, r_sr_, vr_s_, vr_n_, nz_0_, nz_1_, cG_nw, cG_sr, cG_si, cG_t, cG_n, apl, adR_1, adI_1, nwC_1, mx, show am_sz 11 = 8 from rfl, show am_sz 8 = 14 from rfl, show am_sz 10 = 5 from rfl, show am_sz 5 = 9 from rfl, show am_sz 3 = 14 from rfl, show am_sz 2 = 8 from rfl, show am_sz 0 = 4 from rfl, show am_sz 1 = 3 from rfl, show am_sz 7 = 14 from rfl, show am_sz 4 = 4 from rfl, show am_sz 9 = 9 from rfl, show am_sz 12 = 78 from rfl, show am_ak 3 = 23 from rfl, show am_ak 5 = 24 from rfl, show am_ak 9 = 25 from rfl]
theorem cc_X7 {Q : Option Value → am_h → Prop} (lt : C.length < 799000) (ep : p = C.length + (A.length + 1)) (hA : A.length ≤ 200) : Cal d mX7_init [.ref p] (cG h0 C o (apc A [nwC 7 14])) Q = Q none (cG h0 C o (apc A (tRead p))) := by
  have el := lnG (C := C) (o := o) (A := A)
  rw [cG_in, ← cG_ot, ep, ← el]
  exact kq_X7_init (by omega)
def tLaws (p : Nat) : List CLs := adR (adR (nwC 4 4) 1 (p + 1)) 2 (p + 2) :: apc (apc [] [nwC 20 11]) [nwC 20 64]
theorem ln_tLaws : (tLaws p).length = 3 := by simp [tLaws, apl, insR_l, insI_l]
set_option maxRecDepth 20000 in
set_option maxHeartbeats 4000000 in
theorem kq_X4_init {Q : Option Value → am_h → Prop} (lt : C.length < 800000) : Cal d mX4_init [.ref C.length] (cG h0 C (nwC 4 4) []) Q = Q none (cHp h0 (C ++ tLaws C.length)) := by
  have e : cHp h0 (C ++ tLaws C.length) = cG h0 C (adR (adR (nwC 4 4) 1 (C.length + 1)) 2 (C.length + 2)) (apc (apc [] [nwC 20 11]) [nwC 20 64]) := rfl
  have mx : ∀ k, k ≤ 200 → C.length + k < am_MX := fun k c => by unfold am_MX; omega
  rw [e]
  unfold Cal
  rw [l_X4_init]
  simp only [am_en, am_ag, ct_i, ct_r, ct_l, List.length_cons, List.length_nil, List.replicate]
  simp [w_aload_n0 (M := mX4_init) dX4_init_0, w_oi (M := mX4_init) dX4_init_1 lk_4_3, w_aload_n0 (M := mX4_init) dX4_init_4, w_bipush (M := mX4_init) (v := 11) dX4_init_5 rfl, w_newa (M := mX4_init) (t := 20) dX4_init_7 rfl, w_putA (M := mX4_init) dX4_init_9 f_4_11 rfl (Or.inr ⟨rfl, rfl⟩), w_aload_n0 (M := mX4_init) dX4_init_12, w_bipush (M := mX4_init) (v := 64) dX4_init_13 rfl, w_newa (M := mX4_init) (t := 20) dX4_init_15 rfl, w_putA (M := mX4_init) dX4_init_17 f_4_15 rfl (Or.inr ⟨rfl, rfl⟩), w_vret (M := mX4_init) dX4_init_20 rfl, Kn_v_, Kn_n_, kl_i_, kl_a_, kl_l_, kl_n_, s1_0_, s2_0_, s1_1, s1_2, s1_3, s1_4, s1_5, s1_6, s1_7, s1_8, s1_9, s1_10, s1_11, s1_12, s1_13, s1_14, s2_1, s2_2, s2_3, s2_4, s2_5, s2_6, s2_7, s2_8, s2_9, s2_10, s2_11, s2_12, s2_13, s2_14, List.map_nil, List.map_cons, List.sum_nil, List.sum_cons, ct_i_, ct_r_, ct_l_, t_si_, t_sl_, t_sr_, n_si_, n_sl_, n_sr_, i_si_, i_sl_, i_sr_, l_si_, l_sl_, l_sr_, r_si_, r_sl_, r_sr_, vr_s_, vr_n_, nz_0_, nz_1_, cG_nw, cG_sr, cG_si, cG_t, cG_n, apl, adR_1, adI_1, nwC_1, mx, show am_sz 11 = 8 from rfl, show am_sz 8 = 14 from rfl, show am_sz 10 = 5 from rfl, show am_sz 5 = 9 from rfl, show am_sz 3 = 14 from rfl, show am_sz 2 = 8 from rfl, show am_sz 0 = 4 from rfl, show am_sz 1 = 3 from rfl, show am_sz 7 = 14 from rfl, show am_sz 4 = 4 from rfl, show am_sz 9 = 9 from rfl, show am_sz 12 = 78 from rfl, show am_ak 3 = 23 from rfl, show am_ak 5 = 24 from rfl, show am_ak 9 = 25 from rfl]
theorem cc_X4 {Q : Option Value → am_h → Prop} (lt : C.length < 799000) (ep : p = C.length + (A.length + 1)) (hA : A.length ≤ 200) : Cal d mX4_init [.ref p] (cG h0 C o (apc A [nwC 4 4])) Q = Q none (cG h0 C o (apc A (tLaws p))) := by
  have el := lnG (C := C) (o := o) (A := A)
  rw [cG_in, ← cG_ot, ep, ← el]
  exact kq_X4_init (by omega)
def tText (p : Nat) : List CLs := adR (adR (adR (adR (adR (adR (adR (nwC 9 9) 0 (p + 1)) 1 (p + 2)) 2 (p + 3)) 3 (p + 4)) 5 (p + 5)) 6 (p + 6)) 7 (p + 7) :: apc (apc (apc (apc (apc (apc (apc [] [nwC 20 24]) [nwC 20 24]) [nwC 20 24]) [nwC 20 24]) [nwC 20 5]) [nwC 20 5]) [nwC 20 300]
theorem ln_tText : (tText p).length = 8 := by simp [tText, apl, insR_l, insI_l]
set_option maxRecDepth 20000 in
set_option maxHeartbeats 4000000 in
theorem kq_X9_init {Q : Option Value → am_h → Prop} (lt : C.length < 800000) : Cal d mX9_init [.ref C.length] (cG h0 C (nwC 9 9) []) Q = Q none (cHp h0 (C ++ tText C.length)) := by
  have e : cHp h0 (C ++ tText C.length) = cG h0 C (adR (adR (adR (adR (adR (adR (adR (nwC 9 9) 0 (C.length + 1)) 1 (C.length + 2)) 2 (C.length + 3)) 3 (C.length + 4)) 5 (C.length + 5)) 6 (C.length + 6)) 7 (C.length + 7)) (apc (apc (apc (apc (apc (apc (apc [] [nwC 20 24]) [nwC 20 24]) [nwC 20 24]) [nwC 20 24]) [nwC 20 5]) [nwC 20 5]) [nwC 20 300]) := rfl
  have mx : ∀ k, k ≤ 200 → C.length + k < am_MX := fun k c => by unfold am_MX; omega
  rw [e]
  unfold Cal
  rw [l_X9_init]
  simp only [am_en, am_ag, ct_i, ct_r, ct_l, List.length_cons, List.length_nil, List.replicate]
  simp [w_aload_n0 (M := mX9_init) dX9_init_0, w_oi (M := mX9_init) dX9_init_1 lk_9_3, w_aload_n0 (M := mX9_init) dX9_init_4, w_bipush (M := mX9_init) (v := 24) dX9_init_5 rfl, w_newa (M := mX9_init) (t := 20) dX9_init_7 rfl, w_putA (M := mX9_init) dX9_init_9 f_9_9 rfl (Or.inr ⟨rfl, rfl⟩), w_aload_n0 (M := mX9_init) dX9_init_12, w_bipush (M := mX9_init) (v := 24) dX9_init_13 rfl, w_newa (M := mX9_init) (t := 20) dX9_init_15 rfl, w_putA (M := mX9_init) dX9_init_17 f_9_15 rfl (Or.inr ⟨rfl, rfl⟩), w_aload_n0 (M := mX9_init) dX9_init_20, w_bipush (M := mX9_init) (v := 24) dX9_init_21 rfl, w_newa (M := mX9_init) (t := 20) dX9_init_23 rfl, w_putA (M := mX9_init) dX9_init_25 f_9_18 rfl (Or.inr ⟨rfl, rfl⟩), w_aload_n0 (M := mX9_init) dX9_init_28, w_bipush (M := mX9_init) (v := 24) dX9_init_29 rfl, w_newa (M := mX9_init) (t := 20) dX9_init_31 rfl, w_putA (M := mX9_init) dX9_init_33 f_9_21 rfl (Or.inr ⟨rfl, rfl⟩), w_aload_n0 (M := mX9_init) dX9_init_36, w_iconst (M := mX9_init) (v := 5) dX9_init_37 rfl, w_newa (M := mX9_init) (t := 20) dX9_init_38 rfl, w_putA (M := mX9_init) dX9_init_40 f_9_26 rfl (Or.inr ⟨rfl, rfl⟩), w_aload_n0 (M := mX9_init) dX9_init_43, w_iconst (M := mX9_init) (v := 5) dX9_init_44 rfl, w_newa (M := mX9_init) (t := 20) dX9_init_45 rfl, w_putA (M := mX9_init) dX9_init_47 f_9_29 rfl (Or.inr ⟨rfl, rfl⟩), w_aload_n0 (M := mX9_init) dX9_init_50, w_sipush (M := mX9_init) (v := 300) dX9_init_51 rfl, w_newa (M := mX9_init) (t := 20) dX9_init_54 rfl, w_putA (M := mX9_init) dX9_init_56 f_9_32 rfl (Or.inr ⟨rfl, rfl⟩), w_vret (M := mX9_init) dX9_init_59 rfl, Kn_v_, Kn_n_, kl_i_, kl_a_, kl_l_, kl_n_, s1_0_, s2_0_, s1_1, s1_2, s1_3, s1_4, s1_5, s1_6, s1_7, s1_8, s1_9, s1_10, s1_11, s1_12, s1_13, s1_14, s2_1, s2_2, s2_3, s2_4, s2_5, s2_6, s2_7, s2_8, s2_9, s2_10, s2_11, s2_12, s2_13, s2_14, List.map_nil, List.map_cons, List.sum_nil, List.sum_cons, ct_i_, ct_r_, ct_l_, t_si_, t_sl_, t_sr_, n_si_, n_sl_, n_sr_, i_si_, i_sl_, i_sr_, l_si_, l_sl_, l_sr_, r_si_, r_sl_, r_sr_, vr_s_, vr_n_, nz_0_, nz_1_, cG_nw, cG_sr, cG_si, cG_t, cG_n, apl, adR_1, adI_1, nwC_1, mx, show am_sz 11 = 8 from rfl, show am_sz 8 = 14 from rfl, show am_sz 10 = 5 from rfl, show am_sz 5 = 9 from rfl, show am_sz 3 = 14 from rfl, show am_sz 2 = 8 from rfl, show am_sz 0 = 4 from rfl, show am_sz 1 = 3 from rfl, show am_sz 7 = 14 from rfl, show am_sz 4 = 4 from rfl, show am_sz 9 = 9 from rfl, show am_sz 12 = 78 from rfl, show am_ak 3 = 23 from rfl, show am_ak 5 = 24 from rfl, show am_ak 9 = 25 from rfl]
theorem cc_X9 {Q : Option Value → am_h → Prop} (lt : C.length < 799000) (ep : p = C.length + (A.length + 1)) (hA : A.length ≤ 200) : Cal d mX9_init [.ref p] (cG h0 C o (apc A [nwC 9 9])) Q = Q none (cG h0 C o (apc A (tText p))) := by
  have el := lnG (C := C) (o := o) (A := A)
  rw [cG_in, ← cG_ot, ep, ← el]
  exact kq_X9_init (by omega)
def tMain (p : Nat) : List CLs := adR (adR (adR (adR (adR (adR (adR (nwC 11 8) 0 (p + 1)) 1 (p + 34)) 2 (p + 67)) 3 (p + 76)) 4 (p + 85)) 5 (p + 86)) 6 (p + 91) :: insR (apc (insR (apc (insR (apc (insR (apc (apc (apc (apc (apc (apc (apc (apc ([]) (tState (p + 1))) (tState (p + 34))) (tLine (p + 67))) (tBook_0 (p + 76))) [nwC 25 4]) (tRead (p + 86))) (tLaws (p + 91))) (tText (p + 94))) 84 0 (p + 94)) (tText (p + 102))) 84 1 (p + 102)) (tText (p + 110))) 84 2 (p + 110)) (tText (p + 118))) 84 3 (p + 118)
theorem ln_tMain : (tMain p).length = 126 := by simp [tMain, apl, insR_l, insI_l, ln_tBook_0, ln_tLaws, ln_tLine, ln_tRead, ln_tState, ln_tText]
set_option maxRecDepth 20000 in
set_option maxHeartbeats 4000000 in
theorem kq_X11_init {Q : Option Value → am_h → Prop} (lt : C.length < 770000) : Cal (d + 3) mX11_init [.ref C.length] (cG h0 C (nwC 11 8) []) Q = Q none (cHp h0 (C ++ tMain C.length)) := by
  have e : cHp h0 (C ++ tMain C.length) = cG h0 C (adR (adR (adR (adR (adR (adR (adR (nwC 11 8) 0 (C.length + 1)) 1 (C.length + 34)) 2 (C.length + 67)) 3 (C.length + 76)) 4 (C.length + 85)) 5 (C.length + 86)) 6 (C.length + 91)) (insR (apc (insR (apc (insR (apc (insR (apc (apc (apc (apc (apc (apc (apc (apc ([]) (tState (C.length + 1))) (tState (C.length + 34))) (tLine (C.length + 67))) (tBook_0 (C.length + 76))) [nwC 25 4]) (tRead (C.length + 86))) (tLaws (C.length + 91))) (tText (C.length + 94))) 84 0 (C.length + 94)) (tText (C.length + 102))) 84 1 (C.length + 102)) (tText (C.length + 110))) 84 2 (C.length + 110)) (tText (C.length + 118))) 84 3 (C.length + 118)) := rfl
  have mx : ∀ k, k ≤ 200 → C.length + k < am_MX := fun k c => by unfold am_MX; omega
  rw [e]
  unfold Cal
  rw [l_X11_init]
  simp only [am_en, am_ag, ct_i, ct_r, ct_l, List.length_cons, List.length_nil, List.replicate]
  simp [w_aload_n0 (M := mX11_init) dX11_init_0, w_oi (M := mX11_init) dX11_init_1 lk_11_1, w_aload_n0 (M := mX11_init) dX11_init_4, w_new (M := mX11_init) dX11_init_5 cl_11_7 (by decide), w_dup_int (M := mX11_init) dX11_init_8, w_dup_ref (M := mX11_init) dX11_init_8, c_11_9 (M := mX11_init) dX11_init_9 rfl, w_putO (M := mX11_init) dX11_init_12 f_11_10 rfl (Or.inr ⟨rfl, rfl⟩), w_putON (M := mX11_init) dX11_init_12 f_11_10 rfl (Or.inr ⟨rfl, rfl⟩), w_aload_n0 (M := mX11_init) dX11_init_15, w_new (M := mX11_init) dX11_init_16 cl_11_7 (by decide), w_dup_int (M := mX11_init) dX11_init_19, w_dup_ref (M := mX11_init) dX11_init_19, c_11_9 (M := mX11_init) dX11_init_20 rfl, w_putO (M := mX11_init) dX11_init_23 f_11_16 rfl (Or.inr ⟨rfl, rfl⟩), w_putON (M := mX11_init) dX11_init_23 f_11_16 rfl (Or.inr ⟨rfl, rfl⟩), w_aload_n0 (M := mX11_init) dX11_init_26, w_new (M := mX11_init) dX11_init_27 cl_11_19 (by decide), w_dup_int (M := mX11_init) dX11_init_30, w_dup_ref (M := mX11_init) dX11_init_30, c_11_21 (M := mX11_init) dX11_init_31 rfl, w_putO (M := mX11_init) dX11_init_34 f_11_22 rfl (Or.inr ⟨rfl, rfl⟩), w_putON (M := mX11_init) dX11_init_34 f_11_22 rfl (Or.inr ⟨rfl, rfl⟩), w_aload_n0 (M := mX11_init) dX11_init_37, w_new (M := mX11_init) dX11_init_38 cl_11_26 (by decide), w_dup_int (M := mX11_init) dX11_init_41, w_dup_ref (M := mX11_init) dX11_init_41, w_iconst (M := mX11_init) (v := 0) dX11_init_42 rfl, w_iconst (M := mX11_init) (v := 0) dX11_init_43 rfl, c_11_28 (M := mX11_init) dX11_init_44 rfl, w_putO (M := mX11_init) dX11_init_47 f_11_31 rfl (Or.inr ⟨rfl, rfl⟩), w_putON (M := mX11_init) dX11_init_47 f_11_31 rfl (Or.inr ⟨rfl, rfl⟩), w_aload_n0 (M := mX11_init) dX11_init_50, w_iconst (M := mX11_init) (v := 4) dX11_init_51 rfl, w_anew (M := mX11_init) dX11_init_52 cl_11_35 (by decide), w_putA (M := mX11_init) dX11_init_55 f_11_37 rfl (Or.inr ⟨rfl, rfl⟩), w_aload_n0 (M := mX11_init) dX11_init_58, w_new (M := mX11_init) dX11_init_59 cl_11_41 (by decide), w_dup_int (M := mX11_init) dX11_init_62, w_dup_ref (M := mX11_init) dX11_init_62, c_11_43 (M := mX11_init) dX11_init_63 rfl, w_putO (M := mX11_init) dX11_init_66 f_11_44 rfl (Or.inr ⟨rfl, rfl⟩), w_putON (M := mX11_init) dX11_init_66 f_11_44 rfl (Or.inr ⟨rfl, rfl⟩), w_aload_n0 (M := mX11_init) dX11_init_69, w_new (M := mX11_init) dX11_init_70 cl_11_48 (by decide), w_dup_int (M := mX11_init) dX11_init_73, w_dup_ref (M := mX11_init) dX11_init_73, c_11_50 (M := mX11_init) dX11_init_74 rfl, w_putO (M := mX11_init) dX11_init_77 f_11_51 rfl (Or.inr ⟨rfl, rfl⟩), w_putON (M := mX11_init) dX11_init_77 f_11_51 rfl (Or.inr ⟨rfl, rfl⟩), w_iconst (M := mX11_init) (v := 0) dX11_init_80 rfl, w_istore_n (M := mX11_init) (i := 1) dX11_init_81 rfl (by decide), w_iload_n1 (M := mX11_init) dX11_init_82, w_iconst (M := mX11_init) (v := 4) dX11_init_83 rfl, w_ic_ge (M := mX11_init) (tgt := 106) dX11_init_84 (by decide), w_aload_n0 (M := mX11_init) dX11_init_87, w_getA (M := mX11_init) dX11_init_88 f_11_37 rfl (by decide) (by decide), w_iload_n1 (M := mX11_init) dX11_init_91, w_new (M := mX11_init) dX11_init_92 cl_11_35 (by decide), w_dup_int (M := mX11_init) dX11_init_95, w_dup_ref (M := mX11_init) dX11_init_95, c_11_55 (M := mX11_init) dX11_init_96 rfl, w_aastore (M := mX11_init) dX11_init_99, w_iinc1 (M := mX11_init) (v := 1) dX11_init_100 rfl (by decide), w_goto (M := mX11_init) (tgt := 82) dX11_init_103 (by decide), w_vret (M := mX11_init) dX11_init_106 rfl, Kn_v_, Kn_n_, kl_i_, kl_a_, kl_l_, kl_n_, s1_0_, s2_0_, s1_1, s1_2, s1_3, s1_4, s1_5, s1_6, s1_7, s1_8, s1_9, s1_10, s1_11, s1_12, s1_13, s1_14, s2_1, s2_2, s2_3, s2_4, s2_5, s2_6, s2_7, s2_8, s2_9, s2_10, s2_11, s2_12, s2_13, s2_14, List.map_nil, List.map_cons, List.sum_nil, List.sum_cons, ct_i_, ct_r_, ct_l_, t_si_, t_sl_, t_sr_, n_si_, n_sl_, n_sr_, i_si_, i_sl_, i_sr_, l_si_, l_sl_, l_sr_, r_si_, r_sl_, r_sr_, vr_s_, vr_n_, nz_0_, nz_1_, cG_nw, cG_sr, cG_si, cG_t, cG_n, apl, adR_1, adI_1, nwC_1, mx, show am_sz 11 = 8 from rfl, show am_sz 8 = 14 from rfl, show am_sz 10 = 5 from rfl, show am_sz 5 = 9 from rfl, show am_sz 3 = 14 from rfl, show am_sz 2 = 8 from rfl, show am_sz 0 = 4 from rfl, show am_sz 1 = 3 from rfl, show am_sz 7 = 14 from rfl, show am_sz 4 = 4 from rfl, show am_sz 9 = 9 from rfl, show am_sz 12 = 78 from rfl, show am_ak 3 = 23 from rfl, show am_ak 5 = 24 from rfl, show am_ak 9 = 25 from rfl, cc_X2_0 (d := d + 2) (h0 := h0) (C := C) (by omega), ln_tBook_0, cc_X4 (d := d + 2) (h0 := h0) (C := C) (by omega), ln_tLaws, cc_X5 (d := d + 1) (h0 := h0) (C := C) (by omega), ln_tLine, cc_X7 (d := d + 2) (h0 := h0) (C := C) (by omega), ln_tRead, cc_X8 (d := d) (h0 := h0) (C := C) (by omega), ln_tState, cc_X9 (d := d + 2) (h0 := h0) (C := C) (by omega), ln_tText, cG_r, lk_R, lk_I, lk_0, ty_ap, ty_R, ty_I, ty_1, insR_l, insI_l, cG_mr (i := 84) (q := C.length + 85) rfl, cG_mi (i := 84) (q := C.length + 85) rfl, cG_mt (i := 84) (q := C.length + 85) rfl, cG_mt (i := 93) (q := C.length + 94) rfl, cG_mt (i := 101) (q := C.length + 102) rfl, cG_mt (i := 109) (q := C.length + 110) rfl, cG_mt (i := 117) (q := C.length + 118) rfl, show ∀ p, ty (tText p) 0 = (9, 9) from fun _ => rfl, show am_el 25 = 9 from rfl, show am_in1 (0 : Int32) 4 = True from eq_true (by unfold am_in1; decide), show am_in1 (1 : Int32) 4 = True from eq_true (by unfold am_in1; decide), show am_in1 (2 : Int32) 4 = True from eq_true (by unfold am_in1; decide), show am_in1 (3 : Int32) 4 = True from eq_true (by unfold am_in1; decide)]
theorem cc_X11 {Q : Option Value → am_h → Prop} (lt : C.length < 769000) (ep : p = C.length + (A.length + 1)) (hA : A.length ≤ 200) : Cal (d + 3) mX11_init [.ref p] (cG h0 C o (apc A [nwC 11 8])) Q = Q none (cG h0 C o (apc A (tMain p))) := by
  have el := lnG (C := C) (o := o) (A := A)
  rw [cG_in, ← cG_ot, ep, ← el]
  exact kq_X11_init (by omega)
def tRef (p : Nat) : List CLs := adR (adR (adR (adR (adR (adR (adR (adR (adR (adR (adR (adR (adR (adR (adR (adR (adR (adR (adR (adR (adR (adR (adR (adR (adR (adR (adR (adR (adR (adR (adR (adR (adR (adR (adR (adR (adR (adR (adR (adR (adR (adR (adR (adR (adR (adR (adR (adI (adI (adR (adR (adR (nwC 12 78) 0 (p + 1)) 1 (p + 2)) 2 (p + 3)) 4 (-1)) 5 (-1)) 6 (p + 4)) 7 (p + 5)) 8 (p + 6)) 9 (p + 7)) 10 (p + 8)) 11 (p + 9)) 12 (p + 10)) 13 (p + 11)) 23 (p + 12)) 24 (p + 13)) 26 (p + 14)) 27 (p + 15)) 29 (p + 16)) 32 (p + 17)) 33 (p + 18)) 34 (p + 19)) 35 (p + 20)) 36 (p + 21)) 38 (p + 22)) 39 (p + 23)) 40 (p + 24)) 41 (p + 25)) 50 (p + 26)) 51 (p + 27)) 52 (p + 28)) 53 (p + 29)) 54 (p + 30)) 55 (p + 31)) 56 (p + 32)) 57 (p + 33)) 58 (p + 34)) 59 (p + 35)) 60 (p + 36)) 61 (p + 37)) 62 (p + 38)) 63 (p + 39)) 64 (p + 40)) 65 (p + 41)) 68 (p + 42)) 70 (p + 43)) 71 (p + 44)) 72 (p + 45)) 73 (p + 46)) 74 (p + 47)) 75 (p + 48)) 76 (p + 49)) 77 (p + 50) :: insI (insI (insI (insI (insI (insI (insI (insI (insI (insI (apc (apc (apc (apc (apc (apc (apc (apc (apc (apc (apc (apc (apc (apc (apc (apc (apc (apc (apc (apc (apc (apc (apc (apc (apc (apc (apc (apc (apc (apc (apc (apc (apc (apc (apc (apc (apc (apc (apc (apc (apc (apc (apc (apc (apc (apc (apc (apc (apc (apc [] [nwC 20 20150]) [nwC 20 20150]) [nwC 21 300]) [nwC 20 4]) [nwC 20 96]) [nwC 20 96]) [nwC 20 96]) [nwC 20 96]) [nwC 20 96]) [nwC 20 1600]) [nwC 20 1600]) [nwC 20 40]) [nwC 20 41]) [nwC 20 80]) [nwC 20 80]) [nwC 20 41]) [nwC 20 24]) [nwC 20 24]) [nwC 20 24]) [nwC 20 24]) [nwC 20 24]) [nwC 20 400]) [nwC 20 400]) [nwC 20 11]) [nwC 22 200]) [nwC 20 4]) [nwC 20 4]) [nwC 20 4]) [nwC 20 4]) [nwC 20 4]) [nwC 20 4]) [nwC 20 4]) [nwC 20 4]) [nwC 20 4]) [nwC 20 4]) [nwC 20 4]) [nwC 20 4]) [nwC 20 4]) [nwC 20 16]) [nwC 20 64]) [nwC 20 2]) [nwC 20 2200]) [nwC 20 2200]) [nwC 20 2200]) [nwC 20 2200]) [nwC 20 2]) [nwC 20 2]) [nwC 20 2]) [nwC 20 2]) [nwC 20 600]) 0 2 (-1)) 0 92 (13)) 0 109 (-1)) 0 113 (-1)) 0 110 (-1)) 0 114 (-1)) 0 111 (-1)) 0 115 (-1)) 0 112 (-1)) 0 116 (-1)
theorem ln_tRef : (tRef p).length = 51 := by simp [tRef, apl, insR_l, insI_l]
end CTOR2
