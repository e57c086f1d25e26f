/-! a word of the tape against the words of the table -/
section WORDC
variable {d c k n : Nat} {h : am_h} {Q : Option Value → am_h → Prop} {t : Nat → Nat}
def wN (j : Nat) : Nat := (wbs.getD j 0).toNatClampNeg
def gN (j : Nat) : Nat := (sbs.getD j 0).toNatClampNeg
theorem wN_e : ∀ j, j < 154 → wbs.getD j 0 = nI (wN j) ∧ wN j < 128 := by decide +kernel
theorem gN_e : ∀ j, j < 11 → sbs.getD j 0 = nI (gN j) ∧ gN j < 128 := by decide +kernel
/-- the two texts of the tables -/
def txC (h : am_h) : Prop := (a_t h 1000003 = (42, 0) ∧ a_t h 1000004 = (41, 154) ∧ ∀ j, a_i h 1000004 j = wbs.getD j 0) ∧ a_t h 1000005 = (42, 0) ∧ a_t h 1000006 = (41, 11) ∧ ∀ j, a_i h 1000006 j = sbs.getD j 0
theorem txC.of {L : Nat} {xs : Nat → Int32} {fo : Option Nat} (o : oldP (hW L xs fo) h) : txC h := by
  have kd := fun q => (hW_k (L := L) (xs := xs) (fo := fo) (q := q)).2.2.2.1
  have g : ∀ q, 1000000 ≤ q → a_t h q = a_t (hW L xs fo) q ∧ ∀ j, a_i h q j = a_i (hW L xs fo) q j := fun q l => ⟨(o q l (kd q)).1, fun j => ((o q l (kd q)).2 j).1⟩
  exact ⟨⟨(g _ (by omega)).1, (g _ (by omega)).1, (g _ (by omega)).2⟩, (g _ (by omega)).1, (g _ (by omega)).1, (g _ (by omega)).2⟩
theorem w_len (x : txC h) : Cal (d + 1) mJ0_length_8abf5 [.ref 1000003] h Q = Q (some (.int 154)) h := q_J0_length (n := 154) (by rw [x.1.1]) x.1.2.1 (by omega)
theorem w_at (x : txC h) {j : Nat} (hj : j < 154) : Cal (d + 4) mJ0_charAt_5068e [.ref 1000003, .int (nI j)] h Q = Q (some (.int (nI (wN j)))) h := q_J0_charAt (n := 154) (by rw [x.1.1]) x.1.2.1 (by omega) hj ((x.1.2.2 j).trans (wN_e j hj).1) (wN_e j hj).2
/-- letter by letter -/
def spw (t : Nat → Nat) (l fr : Nat) : Nat → Nat → Bool
  | 0, _ => true
  | k + 1, i => if t i = wN (l + i - fr) then spw t l fr k (i + 1) else false
def spt (t : Nat → Nat) (l fr to : Nat) : Bool := if l + to - fr < 154 ∧ wN (l + to - fr) = 32 then spw t l fr (to - fr) fr else false
theorem nI_eqP {a b : Nat} (ha : a < 100000) (hb : b < 100000) : (nI a = nI b) = (a = b) := by
  by_cases z : a = b
  · rw [z]; simp
  · refine (eq_false fun e => z ?_).trans (eq_false z).symm
    rw [← nI_c (a := a) (by omega), ← nI_c (a := b) (by omega), e]
theorem spl_ (T : tpC h t n) (x : txC h) (l fr to : Nat) (hto : to ≤ n) (hl : l + to - fr < 154) (z : Int32) : ∀ (k i : Nat), i + k = to → fr ≤ i → WP (d + 5) mX7_isSpeltAt 34 [some (.ref 86), some (.int (nI l)), some (.int (nI fr)), some (.int (nI to)), some (.int z), some (.int (nI i))] [] h Q = Q (some (.int (if spw t l fr k i = true then 1 else 0))) h := by
  obtain ⟨hC, e1, hn, ht⟩ := T
  intro k
  induction k with
  | zero =>
    intro i e hf
    have c2 : (nI to ≤ nI i) = True := by rw [nI_cle (by omega) (by omega)]; exact eq_true (by omega)
    have c1 : (nI i < nI to) = False := nI_ltF (by omega) (by omega)
    simp [w_iload5 (M := mX7_isSpeltAt) dX7_isSpeltAt_34, w_iload_n3 (M := mX7_isSpeltAt) dX7_isSpeltAt_36, w_ic_ge (M := mX7_isSpeltAt) (tgt := 69) dX7_isSpeltAt_37 (by decide), w_iconst (M := mX7_isSpeltAt) (v := 1) dX7_isSpeltAt_69 rfl, w_ireturn (M := mX7_isSpeltAt) dX7_isSpeltAt_70 rfl, Kn_v_, Kn_n_, kl_i_, kl_a_, kl_l_, kl_n_, s1_0_, s2_0_, s1_1, s1_2, s1_3, s1_4, s1_5, s1_6, s1_7, s1_8, s1_9, s1_10, s1_11, s1_12, s1_13, s1_14, s2_1, s2_2, s2_3, s2_4, s2_5, s2_6, s2_7, s2_8, s2_9, s2_10, s2_11, s2_12, s2_13, s2_14, List.map_nil, List.map_cons, List.sum_nil, List.sum_cons, ct_i_, ct_r_, ct_l_, t_si_, t_sl_, t_sr_, n_si_, n_sl_, n_sr_, i_si_, i_sl_, i_sr_, l_si_, l_sl_, l_sr_, r_si_, r_sl_, r_sr_, vr_s_, vr_n_, nz_0_, nz_1_, c1, c2, spw]
  | succ k ih =>
    intro i e hf
    obtain ⟨t1, t2⟩ := ht i (by omega)
    have c1 : (nI i < nI to) = True := nI_ltT (by omega) (by omega)
    have c2 : (nI to ≤ nI i) = False := by rw [nI_cle (by omega) (by omega)]; exact eq_false (by omega)
    have x1 : am_in1 (nI i) 300 = True := by rw [in1_n (by omega)]; exact eq_true (by omega)
    have x2 := nI_c (a := i) (by omega)
    have x3 : nI i + 1 = nI (i + 1) := nI_a (b := 1)
    have m1 : nI l + nI i - nI fr = nI (l + i - fr) := by rw [nI_a, nI_sb (by omega)]
    have ca : ∀ Q, Cal (d + 4) mJ0_charAt_5068e [.ref 1000003, .int (nI (l + i - fr))] h Q = Q (some (.int (nI (wN (l + i - fr))))) h := fun Q => w_at x (by omega)
    have lw := (wN_e (l + i - fr) (by omega)).2
    have ke : (nI (t i) = nI (wN (l + i - fr))) = (t i = wN (l + i - fr)) := nI_eqP (by omega) (by omega)
    by_cases g : t i = wN (l + i - fr)
    · have s1 : WP (d + 5) mX7_isSpeltAt 34 [some (.ref 86), some (.int (nI l)), some (.int (nI fr)), some (.int (nI to)), some (.int z), some (.int (nI i))] [] h Q = WP (d + 5) mX7_isSpeltAt 63 [some (.ref 86), some (.int (nI l)), some (.int (nI fr)), some (.int (nI to)), some (.int z), some (.int (nI i))] [] h Q := by
        simp [w_iload5 (M := mX7_isSpeltAt) dX7_isSpeltAt_34, w_iload_n3 (M := mX7_isSpeltAt) dX7_isSpeltAt_36, w_ic_ge (M := mX7_isSpeltAt) (tgt := 69) dX7_isSpeltAt_37 (by decide), w_aload_n0 (M := mX7_isSpeltAt) dX7_isSpeltAt_40, w_getA (M := mX7_isSpeltAt) dX7_isSpeltAt_41 f_7_9 rfl (by decide) (by decide), w_iload5 (M := mX7_isSpeltAt) dX7_isSpeltAt_44, w_iaload (M := mX7_isSpeltAt) dX7_isSpeltAt_46, w_ldcs (M := mX7_isSpeltAt) (q := 1000003) dX7_isSpeltAt_47 rfl rfl, w_iload_n1 (M := mX7_isSpeltAt) dX7_isSpeltAt_49, w_iload5 (M := mX7_isSpeltAt) dX7_isSpeltAt_50, w_iadd (M := mX7_isSpeltAt) dX7_isSpeltAt_52, w_iload_n2 (M := mX7_isSpeltAt) dX7_isSpeltAt_53, w_isub (M := mX7_isSpeltAt) dX7_isSpeltAt_54, c_7_98 (M := mX7_isSpeltAt) dX7_isSpeltAt_55 rfl, w_ic_eq (M := mX7_isSpeltAt) (tgt := 63) dX7_isSpeltAt_58 (by decide), Kn_v_, Kn_n_, kl_i_, kl_a_, kl_l_, kl_n_, s1_0_, s2_0_, s1_1, s1_2, s1_3, s1_4, s1_5, s1_6, s1_7, s1_8, s1_9, s1_10, s1_11, s1_12, s1_13, s1_14, s2_1, s2_2, s2_3, s2_4, s2_5, s2_6, s2_7, s2_8, s2_9, s2_10, s2_11, s2_12, s2_13, s2_14, List.map_nil, List.map_cons, List.sum_nil, List.sum_cons, ct_i_, ct_r_, ct_l_, t_si_, t_sl_, t_sr_, n_si_, n_sl_, n_sr_, i_si_, i_sl_, i_sr_, l_si_, l_sl_, l_sr_, r_si_, r_sl_, r_sr_, vr_s_, vr_n_, nz_0_, nz_1_, hC.e, c1, c2, x1, x2, t1, m1, ca, x.1.1, g]
      have s2 : WP (d + 5) mX7_isSpeltAt 63 [some (.ref 86), some (.int (nI l)), some (.int (nI fr)), some (.int (nI to)), some (.int z), some (.int (nI i))] [] h Q = WP (d + 5) mX7_isSpeltAt 34 [some (.ref 86), some (.int (nI l)), some (.int (nI fr)), some (.int (nI to)), some (.int z), some (.int (nI (i + 1)))] [] h Q := by
        simp [w_iinc5 (M := mX7_isSpeltAt) (v := 1) dX7_isSpeltAt_63 rfl (by decide), w_goto (M := mX7_isSpeltAt) (tgt := 34) dX7_isSpeltAt_66 (by decide), Kn_v_, Kn_n_, kl_i_, kl_a_, kl_l_, kl_n_, s1_0_, s2_0_, s1_1, s1_2, s1_3, s1_4, s1_5, s1_6, s1_7, s1_8, s1_9, s1_10, s1_11, s1_12, s1_13, s1_14, s2_1, s2_2, s2_3, s2_4, s2_5, s2_6, s2_7, s2_8, s2_9, s2_10, s2_11, s2_12, s2_13, s2_14, List.map_nil, List.map_cons, List.sum_nil, List.sum_cons, ct_i_, ct_r_, ct_l_, t_si_, t_sl_, t_sr_, n_si_, n_sl_, n_sr_, i_si_, i_sl_, i_sr_, l_si_, l_sl_, l_sr_, r_si_, r_sl_, r_sr_, vr_s_, vr_n_, nz_0_, nz_1_, x3]
      rw [s1, s2, ih (i + 1) (by omega) (by omega)]
      have es : spw t l fr (k + 1) i = spw t l fr k (i + 1) := by
        show (if _ then _ else _) = _
        rw [if_pos g]
      rw [es]
    · have es : spw t l fr (k + 1) i = false := by
        show (if _ then _ else _) = _
        rw [if_neg g]
      rw [es]
      have g3 : (nI (t i) = nI (wN (l + i - fr))) = False := by rw [ke]; exact eq_false g
      simp [w_iload5 (M := mX7_isSpeltAt) dX7_isSpeltAt_34, w_iload_n3 (M := mX7_isSpeltAt) dX7_isSpeltAt_36, w_ic_ge (M := mX7_isSpeltAt) (tgt := 69) dX7_isSpeltAt_37 (by decide), w_aload_n0 (M := mX7_isSpeltAt) dX7_isSpeltAt_40, w_getA (M := mX7_isSpeltAt) dX7_isSpeltAt_41 f_7_9 rfl (by decide) (by decide), w_iload5 (M := mX7_isSpeltAt) dX7_isSpeltAt_44, w_iaload (M := mX7_isSpeltAt) dX7_isSpeltAt_46, w_ldcs (M := mX7_isSpeltAt) (q := 1000003) dX7_isSpeltAt_47 rfl rfl, w_iload_n1 (M := mX7_isSpeltAt) dX7_isSpeltAt_49, w_iload5 (M := mX7_isSpeltAt) dX7_isSpeltAt_50, w_iadd (M := mX7_isSpeltAt) dX7_isSpeltAt_52, w_iload_n2 (M := mX7_isSpeltAt) dX7_isSpeltAt_53, w_isub (M := mX7_isSpeltAt) dX7_isSpeltAt_54, c_7_98 (M := mX7_isSpeltAt) dX7_isSpeltAt_55 rfl, w_ic_eq (M := mX7_isSpeltAt) (tgt := 63) dX7_isSpeltAt_58 (by decide), w_iconst (M := mX7_isSpeltAt) (v := 0) dX7_isSpeltAt_61 rfl, w_ireturn (M := mX7_isSpeltAt) dX7_isSpeltAt_62 rfl, Kn_v_, Kn_n_, kl_i_, kl_a_, kl_l_, kl_n_, s1_0_, s2_0_, s1_1, s1_2, s1_3, s1_4, s1_5, s1_6, s1_7, s1_8, s1_9, s1_10, s1_11, s1_12, s1_13, s1_14, s2_1, s2_2, s2_3, s2_4, s2_5, s2_6, s2_7, s2_8, s2_9, s2_10, s2_11, s2_12, s2_13, s2_14, List.map_nil, List.map_cons, List.sum_nil, List.sum_cons, ct_i_, ct_r_, ct_l_, t_si_, t_sl_, t_sr_, n_si_, n_sl_, n_sr_, i_si_, i_sl_, i_sr_, l_si_, l_sl_, l_sr_, r_si_, r_sl_, r_sr_, vr_s_, vr_n_, nz_0_, nz_1_, hC.e, c1, c2, x1, x2, t1, m1, ca, x.1.1, g3]
theorem q_X7_isSpeltAt (T : tpC h t n) (x : txC h) {l fr to : Nat} (hto : to ≤ n) (hf : fr ≤ to) (hl : l ≤ 154) : Cal (d + 5) mX7_isSpeltAt [.ref 86, .int (nI l), .int (nI fr), .int (nI to)] h Q = Q (some (.int (if spt t l fr to = true then 1 else 0))) h := by
  have hn := T.2.2.1
  have m1 : nI l + nI to - nI fr = nI (l + to - fr) := by rw [nI_a, nI_sb (by omega)]
  have ln : ∀ Q, Cal (d + 4) mJ0_length_8abf5 [.ref 1000003] h Q = Q (some (.int 154)) h := fun Q => w_len (d := d + 3) x
  unfold Cal
  simp only [am_en, am_ag, ct_i, ct_r, ct_l, List.length_cons, List.length_nil, List.replicate, show m_l mX7_isSpeltAt = 6 from rfl]
  by_cases c1 : l + to - fr < 154
  · have y1 : (nI (l + to - fr) < 154) = True := by rw [show (154 : Int32) = nI 154 from rfl]; exact nI_ltT c1 (by omega)
    have y2 : (154 ≤ nI (l + to - fr)) = False := by rw [show (154 : Int32) = nI 154 from rfl, nI_cle (by omega) (by omega)]; exact eq_false (by omega)
    have ca : ∀ Q, Cal (d + 4) mJ0_charAt_5068e [.ref 1000003, .int (nI (l + to - fr))] h Q = Q (some (.int (nI (wN (l + to - fr))))) h := fun Q => w_at x c1
    have lw := (wN_e (l + to - fr) c1).2
    have ke : (nI (wN (l + to - fr)) = 32) = (wN (l + to - fr) = 32) := nI_eqP (b := 32) (by omega) (by omega)
    by_cases c2 : wN (l + to - fr) = 32
    · have lp := spl_ (d := d) (Q := Q) T x l fr to hto c1 (nI (l + to - fr)) (to - fr) fr (by omega) (Nat.le_refl _)
      have es : spt t l fr to = spw t l fr (to - fr) fr := by unfold spt; rw [if_pos ⟨c1, c2⟩]
      rw [es, ← lp]
      have ke2 : (nI (wN (l + to - fr)) = 32) = True := by rw [ke]; exact eq_true c2
      simp [w_iload_n1 (M := mX7_isSpeltAt) dX7_isSpeltAt_0, w_iload_n3 (M := mX7_isSpeltAt) dX7_isSpeltAt_1, w_iadd (M := mX7_isSpeltAt) dX7_isSpeltAt_2, w_iload_n2 (M := mX7_isSpeltAt) dX7_isSpeltAt_3, w_isub (M := mX7_isSpeltAt) dX7_isSpeltAt_4, w_istore (M := mX7_isSpeltAt) dX7_isSpeltAt_5 (by decide), w_iload4 (M := mX7_isSpeltAt) dX7_isSpeltAt_7, w_ldcs (M := mX7_isSpeltAt) (q := 1000003) dX7_isSpeltAt_9 rfl rfl, c_7_93 (M := mX7_isSpeltAt) dX7_isSpeltAt_11 rfl, w_ic_ge (M := mX7_isSpeltAt) (tgt := 29) dX7_isSpeltAt_14 (by decide), w_ldcs (M := mX7_isSpeltAt) (q := 1000003) dX7_isSpeltAt_17 rfl rfl, w_iload4 (M := mX7_isSpeltAt) dX7_isSpeltAt_19, c_7_98 (M := mX7_isSpeltAt) dX7_isSpeltAt_21 rfl, w_bipush (M := mX7_isSpeltAt) (v := 32) dX7_isSpeltAt_24 rfl, w_ic_eq (M := mX7_isSpeltAt) (tgt := 31) dX7_isSpeltAt_26 (by decide), w_iconst (M := mX7_isSpeltAt) (v := 0) dX7_isSpeltAt_29 rfl, w_ireturn (M := mX7_isSpeltAt) dX7_isSpeltAt_30 rfl, w_iload_n2 (M := mX7_isSpeltAt) dX7_isSpeltAt_31, w_istore (M := mX7_isSpeltAt) dX7_isSpeltAt_32 (by decide), Kn_v_, Kn_n_, kl_i_, kl_a_, kl_l_, kl_n_, s1_0_, s2_0_, s1_1, s1_2, s1_3, s1_4, s1_5, s1_6, s1_7, s1_8, s1_9, s1_10, s1_11, s1_12, s1_13, s1_14, s2_1, s2_2, s2_3, s2_4, s2_5, s2_6, s2_7, s2_8, s2_9, s2_10, s2_11, s2_12, s2_13, s2_14, List.map_nil, List.map_cons, List.sum_nil, List.sum_cons, ct_i_, ct_r_, ct_l_, t_si_, t_sl_, t_sr_, n_si_, n_sl_, n_sr_, i_si_, i_sl_, i_sr_, l_si_, l_sl_, l_sr_, r_si_, r_sl_, r_sr_, vr_s_, vr_n_, nz_0_, nz_1_, m1, ln, y1, y2, ca, x.1.1, ke2]
    · have es : spt t l fr to = false := by unfold spt; rw [if_neg (fun z => c2 z.2)]
      rw [es]
      have ke2 : (nI (wN (l + to - fr)) = 32) = False := by rw [ke]; exact eq_false c2
      simp [w_iload_n1 (M := mX7_isSpeltAt) dX7_isSpeltAt_0, w_iload_n3 (M := mX7_isSpeltAt) dX7_isSpeltAt_1, w_iadd (M := mX7_isSpeltAt) dX7_isSpeltAt_2, w_iload_n2 (M := mX7_isSpeltAt) dX7_isSpeltAt_3, w_isub (M := mX7_isSpeltAt) dX7_isSpeltAt_4, w_istore (M := mX7_isSpeltAt) dX7_isSpeltAt_5 (by decide), w_iload4 (M := mX7_isSpeltAt) dX7_isSpeltAt_7, w_ldcs (M := mX7_isSpeltAt) (q := 1000003) dX7_isSpeltAt_9 rfl rfl, c_7_93 (M := mX7_isSpeltAt) dX7_isSpeltAt_11 rfl, w_ic_ge (M := mX7_isSpeltAt) (tgt := 29) dX7_isSpeltAt_14 (by decide), w_ldcs (M := mX7_isSpeltAt) (q := 1000003) dX7_isSpeltAt_17 rfl rfl, w_iload4 (M := mX7_isSpeltAt) dX7_isSpeltAt_19, c_7_98 (M := mX7_isSpeltAt) dX7_isSpeltAt_21 rfl, w_bipush (M := mX7_isSpeltAt) (v := 32) dX7_isSpeltAt_24 rfl, w_ic_eq (M := mX7_isSpeltAt) (tgt := 31) dX7_isSpeltAt_26 (by decide), w_iconst (M := mX7_isSpeltAt) (v := 0) dX7_isSpeltAt_29 rfl, w_ireturn (M := mX7_isSpeltAt) dX7_isSpeltAt_30 rfl, w_iload_n2 (M := mX7_isSpeltAt) dX7_isSpeltAt_31, w_istore (M := mX7_isSpeltAt) dX7_isSpeltAt_32 (by decide), Kn_v_, Kn_n_, kl_i_, kl_a_, kl_l_, kl_n_, s1_0_, s2_0_, s1_1, s1_2, s1_3, s1_4, s1_5, s1_6, s1_7, s1_8, s1_9, s1_10, s1_11, s1_12, s1_13, s1_14, s2_1, s2_2, s2_3, s2_4, s2_5, s2_6, s2_7, s2_8, s2_9, s2_10, s2_11, s2_12, s2_13, s2_14, List.map_nil, List.map_cons, List.sum_nil, List.sum_cons, ct_i_, ct_r_, ct_l_, t_si_, t_sl_, t_sr_, n_si_, n_sl_, n_sr_, i_si_, i_sl_, i_sr_, l_si_, l_sl_, l_sr_, r_si_, r_sl_, r_sr_, vr_s_, vr_n_, nz_0_, nz_1_, m1, ln, y1, y2, ca, x.1.1, ke2]
  · have y1 : (nI (l + to - fr) < 154) = False := by rw [show (154 : Int32) = nI 154 from rfl]; exact nI_ltF (by omega) (by omega)
    have y2 : (154 ≤ nI (l + to - fr)) = True := by rw [show (154 : Int32) = nI 154 from rfl, nI_cle (by omega) (by omega)]; exact eq_true (by omega)
    have es : spt t l fr to = false := by unfold spt; rw [if_neg (fun z => c1 z.1)]
    rw [es]
    simp [w_iload_n1 (M := mX7_isSpeltAt) dX7_isSpeltAt_0, w_iload_n3 (M := mX7_isSpeltAt) dX7_isSpeltAt_1, w_iadd (M := mX7_isSpeltAt) dX7_isSpeltAt_2, w_iload_n2 (M := mX7_isSpeltAt) dX7_isSpeltAt_3, w_isub (M := mX7_isSpeltAt) dX7_isSpeltAt_4, w_istore (M := mX7_isSpeltAt) dX7_isSpeltAt_5 (by decide), w_iload4 (M := mX7_isSpeltAt) dX7_isSpeltAt_7, w_ldcs (M := mX7_isSpeltAt) (q := 1000003) dX7_isSpeltAt_9 rfl rfl, c_7_93 (M := mX7_isSpeltAt) dX7_isSpeltAt_11 rfl, w_ic_ge (M := mX7_isSpeltAt) (tgt := 29) dX7_isSpeltAt_14 (by decide), w_ldcs (M := mX7_isSpeltAt) (q := 1000003) dX7_isSpeltAt_17 rfl rfl, w_iload4 (M := mX7_isSpeltAt) dX7_isSpeltAt_19, c_7_98 (M := mX7_isSpeltAt) dX7_isSpeltAt_21 rfl, w_bipush (M := mX7_isSpeltAt) (v := 32) dX7_isSpeltAt_24 rfl, w_ic_eq (M := mX7_isSpeltAt) (tgt := 31) dX7_isSpeltAt_26 (by decide), w_iconst (M := mX7_isSpeltAt) (v := 0) dX7_isSpeltAt_29 rfl, w_ireturn (M := mX7_isSpeltAt) dX7_isSpeltAt_30 rfl, w_iload_n2 (M := mX7_isSpeltAt) dX7_isSpeltAt_31, w_istore (M := mX7_isSpeltAt) dX7_isSpeltAt_32 (by decide), Kn_v_, Kn_n_, kl_i_, kl_a_, kl_l_, kl_n_, s1_0_, s2_0_, s1_1, s1_2, s1_3, s1_4, s1_5, s1_6, s1_7, s1_8, s1_9, s1_10, s1_11, s1_12, s1_13, s1_14, s2_1, s2_2, s2_3, s2_4, s2_5, s2_6, s2_7, s2_8, s2_9, s2_10, s2_11, s2_12, s2_13, s2_14, List.map_nil, List.map_cons, List.sum_nil, List.sum_cons, ct_i_, ct_r_, ct_l_, t_si_, t_sl_, t_sr_, n_si_, n_sl_, n_sr_, i_si_, i_sl_, i_sr_, l_si_, l_sl_, l_sr_, r_si_, r_sl_, r_sr_, vr_s_, vr_n_, nz_0_, nz_1_, m1, ln, y1, y2, x.1.1]
end WORDC
