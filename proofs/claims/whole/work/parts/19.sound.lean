/-! the theorem: a run of the small machine is a run of the machine -/
section SOUND
variable {l : Launch} {M : am_m} {pc n : Nat} {L L2 : am_L} {S S2 : List Value} {h h2 : am_h} {pc2 : Nat}
theorem am_mM {e : (Nat × Nat) × (am_m × Nat)} (he : e ∈ am_mT) : (e.2.2 = 7 → m_y e.2.1 = Lib.Math.max.name) ∧ (e.2.2 = 8 → m_y e.2.1 = Lib.Math.min.name) ∧ (e.2.2 = 9 → m_y e.2.1 = Lib.MathLoose.max_long.x) ∧ (e.2.2 = 10 → m_y e.2.1 = Lib.MathLoose.min_long.x) := by
  have z := List.all_eq_true.mp am_mMC e he
  simp only [Bool.and_eq_true, Bool.or_eq_true, Bool.not_eq_true', decide_eq_false_iff_not, decide_eq_true_eq] at z
  obtain ⟨⟨⟨z1, z2⟩, z3⟩, z4⟩ := z
  exact ⟨fun q => z1.resolve_left (fun w => w q), fun q => z2.resolve_left (fun w => w q), fun q => z3.resolve_left (fun w => w q), fun q => z4.resolve_left (fun w => w q)⟩
theorem st_static {x : Nat} (hd : decode (m_c M) pc = .ok (.invokestatic x, n)) (e : am_I M (.invokestatic x) n pc L S h = some (.inl (pc2, L2, S2, h2))) : am_P l M pc L S h pc2 L2 S2 h2 := by
  simp only [am_I] at e
  split at e
  · rename_i M1 hf
    split at e
    · rename_i y x S'
      obtain ⟨⟨rfl, hcat⟩, e1⟩ := ck_s e
      obtain ⟨rfl, rfl, rfl, rfl⟩ := nx_s e1
      obtain ⟨i, hi⟩ := am_mTOK _ (lookup_mem hf)
      have hnm : m_y M1 = Lib.Math.max.name := (am_mM (lookup_mem hf)).1 rfl
      simp [am_mTB] at hi
      obtain ⟨⟨⟨i1, i2⟩, i3⟩, -⟩ := hi
      rw [hnm] at i1 i2 i3
      intro hw
      refine ⟨hw, am_M.rf, ?_⟩
      intro p e R s m args below meth c G ca b ad H locs ls cells slots d Q X Y hL hc hs kk
      have kk := kk H locs ls Y hL
      simp only [Nat.sub_self, Nat.add_zero] at kk hc hs
      have hts := X.2.2.2.2.2.1
      have h1 := X.2.2.2.2.2.2.2.2.2.2.1
      have h9 := X.2.2.2.2.2.2.2.2.2.2.2
      exact va_mmax X.1 X.2.1 (by rw [X.2.2.2.1, hL.1]) X.2.2.2.2.1 (hts _ (am_at1_in i1)) (hts _ (am_at1_in i3)) (hts _ (am_at1_in i2)) (hts _ cw_mx) (by omega) (by rw [cV_sum]; omega) hc hs hd kk
    · cases e
  · rename_i M1 hf
    split at e
    · rename_i y x S'
      obtain ⟨⟨rfl, hcat⟩, e1⟩ := ck_s e
      obtain ⟨rfl, rfl, rfl, rfl⟩ := nx_s e1
      obtain ⟨i, hi⟩ := am_mTOK _ (lookup_mem hf)
      have hnm : m_y M1 = Lib.Math.min.name := (am_mM (lookup_mem hf)).2.1 rfl
      simp [am_mTB] at hi
      obtain ⟨⟨⟨i1, i2⟩, i3⟩, -⟩ := hi
      rw [hnm] at i1 i2 i3
      intro hw
      refine ⟨hw, am_M.rf, ?_⟩
      intro p e R s m args below meth c G ca b ad H locs ls cells slots d Q X Y hL hc hs kk
      have kk := kk H locs ls Y hL
      simp only [Nat.sub_self, Nat.add_zero] at kk hc hs
      have hts := X.2.2.2.2.2.1
      have h1 := X.2.2.2.2.2.2.2.2.2.2.1
      have h9 := X.2.2.2.2.2.2.2.2.2.2.2
      exact va_mmin X.1 X.2.1 (by rw [X.2.2.2.1, hL.1]) X.2.2.2.2.1 (hts _ (am_at1_in i1)) (hts _ (am_at1_in i3)) (hts _ (am_at1_in i2)) (hts _ cw_mn) (by omega) (by rw [cV_sum]; omega) hc hs hd kk
    · cases e
  · rename_i M1 hf
    split at e
    · rename_i y x S'
      obtain ⟨⟨rfl, hcat⟩, e1⟩ := ck_s e
      obtain ⟨rfl, rfl, rfl, rfl⟩ := nx_s e1
      obtain ⟨i, hi⟩ := am_mTOK _ (lookup_mem hf)
      have hnm : m_y M1 = Lib.MathLoose.max_long.x := (am_mM (lookup_mem hf)).2.2.1 rfl
      simp [am_mTB] at hi
      obtain ⟨⟨⟨i1, i2⟩, i3⟩, -⟩ := hi
      rw [hnm] at i1 i2 i3
      intro hw
      refine ⟨hw, am_M.rf, ?_⟩
      intro p e R s m args below meth c G ca b ad H locs ls cells slots d Q X Y hL hc hs kk
      have kk := kk H locs ls Y hL
      simp only [Nat.sub_self, Nat.add_zero] at kk hc hs
      have hts := X.2.2.2.2.2.1
      have h1 := X.2.2.2.2.2.2.2.2.2.2.1
      have h9 := X.2.2.2.2.2.2.2.2.2.2.2
      exact va_mmax_long X.1 X.2.1 (by rw [X.2.2.2.1, hL.1]) X.2.2.2.2.1 (hts _ (am_at1_in i1)) (hts _ (am_at1_in i3)) (hts _ (am_at1_in i2)) (hts _ cw_mxl) (by omega) (by rw [cV_sum]; omega) hc hs hd kk
    · cases e
  · rename_i M1 hf
    split at e
    · rename_i y x S'
      obtain ⟨⟨rfl, hcat⟩, e1⟩ := ck_s e
      obtain ⟨rfl, rfl, rfl, rfl⟩ := nx_s e1
      obtain ⟨i, hi⟩ := am_mTOK _ (lookup_mem hf)
      have hnm : m_y M1 = Lib.MathLoose.min_long.x := (am_mM (lookup_mem hf)).2.2.2 rfl
      simp [am_mTB] at hi
      obtain ⟨⟨⟨i1, i2⟩, i3⟩, -⟩ := hi
      rw [hnm] at i1 i2 i3
      intro hw
      refine ⟨hw, am_M.rf, ?_⟩
      intro p e R s m args below meth c G ca b ad H locs ls cells slots d Q X Y hL hc hs kk
      have kk := kk H locs ls Y hL
      simp only [Nat.sub_self, Nat.add_zero] at kk hc hs
      have hts := X.2.2.2.2.2.1
      have h1 := X.2.2.2.2.2.2.2.2.2.2.1
      have h9 := X.2.2.2.2.2.2.2.2.2.2.2
      exact va_mmin_long X.1 X.2.1 (by rw [X.2.2.2.1, hL.1]) X.2.2.2.2.1 (hts _ (am_at1_in i1)) (hts _ (am_at1_in i3)) (hts _ (am_at1_in i2)) (hts _ cw_mnl) (by omega) (by rw [cV_sum]; omega) hc hs hd kk
    · cases e
  · split at e
    · obtain ⟨_, e1⟩ := ck_s e; cases e1
    · cases e
  · cases e
/-- the step that is shown in the last part: rows of rows -/
def am_MN (l : Launch) : Prop := ∀ (M : am_m) (pc n : Nat) (L L2 : am_L) (S S2 : List Value) (h h2 : am_h) (pc2 x dm : Nat), decode (m_c M) pc = .ok (.multianewarray x dm, n) → am_I M (.multianewarray x dm) n pc L S h = some (.inl (pc2, L2, S2, h2)) → am_P l M pc L S h pc2 L2 S2 h2
theorem am_step (hmn : am_MN l) (e : act M pc L S h = some (.inl (pc2, L2, S2, h2))) : am_P l M pc L S h pc2 L2 S2 h2 := by
  unfold act at e
  split at e
  · rename_i i n hd
    cases i with
    | iconst => exact st_iconst hd e
    | bipush => exact st_bipush hd e
    | sipush => exact st_sipush hd e
    | lconst => exact st_lconst hd e
    | aconst_null => exact st_null hd e
    | ldc => exact st_ldc hd e
    | ldc_w => exact st_ldcw hd e
    | ldc2_w => exact st_ldc2 hd e
    | tableswitch => exact st_tsw hd e
    | lookupswitch => exact st_lsw hd e
    | arraylength => exact st_alen hd e
    | invokespecial => exact st_special hd e
    | invokestatic => exact st_static hd e
    | iload => exact st_iload hd e
    | iload_n => exact st_iload_n hd e
    | lload => exact st_lload hd e
    | lload_n => exact st_lload_n hd e
    | aload => exact st_aload hd e
    | aload_n => exact st_aload_n hd e
    | istore => exact st_istore hd e
    | istore_n => exact st_istore_n hd e
    | lstore => exact st_lstore hd e
    | lstore_n => exact st_lstore_n hd e
    | astore => exact st_astore hd e
    | astore_n => exact st_astore_n hd e
    | iinc => exact st_iinc hd e
    | iadd => exact st_iadd hd e
    | isub => exact st_isub hd e
    | imul => exact st_imul hd e
    | iand => exact st_iand hd e
    | ior => exact st_ior hd e
    | ixor => exact st_ixor hd e
    | ishl => exact st_ishl hd e
    | ishr => exact st_ishr hd e
    | iushr => exact st_iushr hd e
    | ladd => exact st_ladd hd e
    | lsub => exact st_lsub hd e
    | lmul => exact st_lmul hd e
    | land => exact st_land hd e
    | lor => exact st_lor hd e
    | lushr => exact st_lushr hd e
    | lshl => exact st_lshl hd e
    | ineg => exact st_ineg hd e
    | i2l => exact st_i2l hd e
    | i2b => exact st_i2b hd e
    | i2c => exact st_i2c hd e
    | lneg => exact st_lneg hd e
    | l2i => exact st_l2i hd e
    | idiv => exact st_idiv hd e
    | irem => exact st_irem hd e
    | ldiv => exact st_ldiv hd e
    | lcmp => exact st_lcmp hd e
    | dup => exact st_dup hd e
    | pop => exact st_pop hd e
    | dup2 => exact st_dup2 hd e
    | goto => exact st_goto hd e
    | ifnull => exact st_ifnull hd e
    | ifnonnull => exact st_ifnonnull hd e
    | getfield => exact st_getfield hd e
    | putfield => exact st_putfield hd e
    | getstatic => exact st_getstatic hd e
    | iaload => exact st_iaload hd e
    | baload => exact st_baload hd e
    | laload => exact st_laload hd e
    | aaload => exact st_aaload hd e
    | iastore => exact st_iastore hd e
    | bastore => exact st_bastore hd e
    | lastore => exact st_lastore hd e
    | aastore => exact st_aastore hd e
    | newarray => exact st_newarray hd e
    | anewarray => exact st_anewarray hd e
    | new => exact st_new hd e
    | multianewarray => exact hmn _ _ _ _ _ _ _ _ _ _ _ _ hd e
    | ifCond c off =>
      cases c with
      | eq => exact st_if_eq hd e
      | ne => exact st_if_ne hd e
      | lt => exact st_if_lt hd e
      | ge => exact st_if_ge hd e
      | gt => exact st_if_gt hd e
      | le => exact st_if_le hd e
    | if_icmp c off =>
      cases c with
      | eq => exact st_icmp_eq hd e
      | ne => exact st_icmp_ne hd e
      | lt => exact st_icmp_lt hd e
      | ge => exact st_icmp_ge hd e
      | gt => exact st_icmp_gt hd e
      | le => exact st_icmp_le hd e
    | invokevirtual =>
      simp only [am_I] at e
      split at e
      · split at e
        · obtain ⟨_, e1⟩ := ck_s e; cases e1
        · cases e
      · cases e
    | ireturn =>
      simp only [am_I] at e
      split at e
      · split at e
        · obtain ⟨_, e1⟩ := ck_s e; cases e1
        · cases e
      · cases e
    | lreturn =>
      simp only [am_I] at e
      split at e
      · obtain ⟨_, e1⟩ := ck_s e; cases e1
      · cases e
    | return_ =>
      simp only [am_I] at e
      split at e
      · obtain ⟨_, e1⟩ := ck_s e; cases e1
      · cases e
    | areturn =>
      simp only [am_I] at e
      split at e
      · split at e
        · obtain ⟨_, e1⟩ := ck_s e; cases e1
        · cases e
      · cases e
    | _ => cases e
  · cases e
theorem am_noR {z : am_o} {pc1 : Nat} {L1 : am_L} {S1 : List Value} {h1 : am_h} {c : Prop} [Decidable c] {v : Option Value ⊕ (am_m × List Value × List Value)} (e : ck c (nx pc1 L1 S1 h1) = some (.inr v)) : False := by
  obtain ⟨_, e1⟩ := ck_s e
  cases e1
theorem am_ret {d : Nat} {v : Option Value} (e : act M pc L S h = some (.inr (.inl v))) : am_Z l d M pc L S h v h := by
  unfold act at e
  split at e
  · rename_i i n hd
    intro hw
    refine ⟨hw, am_M.rf, ?_⟩
    intro p e' R s m args below meth c G ca b ad H locs ls cells slots X Y hL hc hs
    simp only [Nat.sub_self, Nat.add_zero] at hc hs ⊢
    have hfin : ∀ t : State, t.heap = H → s.WarmedH t.vm → am_Q G ca b ad v h args s (.returned (v.map (cV ad))) t := fun t ht _ => ⟨rfl, by rw [ht]; exact Y.2.2, Y.2.1.F ht⟩
    have hloc : ∀ q ∈ locs, am_A b q.base := Y.2.1.2.2
    have hlk := X.2.2.2.2.2.2.1
    cases i with
    | ireturn =>
      simp only [am_I] at e
      split at e
      · split at e
        · rename_i ty hr
          obtain ⟨⟨rfl, hn⟩, e1⟩ := ck_s e
          unfold rt at e1
          cases e1
          exact W.zret X.1 X.2.1 (by rw [X.2.2.1, hr]) hn hfin hloc hd hlk
        · cases e
      · cases e
    | lreturn =>
      simp only [am_I] at e
      split at e
      · obtain ⟨⟨rfl, hr⟩, e1⟩ := ck_s e
        unfold rt at e1
        cases e1
        exact W.lret X.1 X.2.1 (by rw [X.2.2.1, hr]) hfin hloc hd hlk
      · cases e
    | areturn =>
      simp only [am_I] at e
      split at e
      · split at e
        · rename_i C hr
          obtain ⟨rfl, e1⟩ := ck_s e
          unfold rt at e1
          cases e1
          exact W.aret X.1 X.2.1 (by rw [X.2.2.1, hr]) (Or.inl ⟨C, rfl⟩) (Or.inr ⟨_, rfl⟩) hfin hloc hd hlk
        · cases e
      · cases e
    | return_ =>
      simp only [am_I] at e
      split at e
      · obtain ⟨⟨rfl, hr⟩, e1⟩ := ck_s e
        unfold rt at e1
        cases e1
        exact W.vret X.1 X.2.1 (by rw [X.2.2.1, hr]) hfin hloc hd hlk
      · cases e
    | _ =>
      exfalso
      revert e
      simp only [am_I, ck, nx, am_b1, am_b2, am_b3, am_u1, am_u2, am_li, am_ll, am_la, am_si, am_sl, am_sa, am_go]
      repeat' (first | split | (intro e; cases e; done))
  · cases e
theorem am_call {M2 : am_m} {as : List Value} (e : act M pc L S h = some (.inr (.inr (M2, as, S2)))) : am_C l M pc S h M2 as S2 := by
  unfold act at e
  split at e
  · rename_i i n hd
    cases i with
    | invokevirtual => exact cl_virtual hd e
    | invokestatic => exact cl_static hd e
    | invokespecial => exact cl_special hd e
    | _ =>
      exfalso
      revert e
      simp only [am_I, ck, nx, rt, am_b1, am_b2, am_b3, am_u1, am_u2, am_li, am_ll, am_la, am_si, am_sl, am_sa, am_go]
      repeat' (first | split | (intro e; cases e; done))
  · cases e
theorem am_sound (hmn : am_MN l) {d : Nat} {M : am_m} {pc : Nat} {L : am_L} {S : List Value} {h : am_h} {r : Option Value} {f : am_h} (k : am_E d M pc L S h r f) : am_Z l d M pc L S h r f := by
  refine k (am_Z l) ?_
  intro d M pc L S h r f q
  unfold am_S at q
  split at q
  · rename_i pc' L' S' h' e
    have st := am_step (l := l) hmn e
    intro hw
    obtain ⟨w1, m1, k1⟩ := st hw
    obtain ⟨w2, m2, k2⟩ := q w1
    refine ⟨w2, m1.tr m2, ?_⟩
    intro p e R s m args below meth c G ca b ad H locs ls cells slots X Y hL hc hs
    have a1 := m1.1
    have a2 := m2.1
    have b1 := m1.2.1
    have b2 := m2.2.1
    refine k1 p e R s m args below meth c G ca b ad H locs ls cells slots d _ X Y hL (by omega) (by omega) (fun H' locs' ls' Y' hL' => ?_)
    have z := k2 p e R s m args below meth c G ca b ad H' locs' ls' (cells + (a_n h' - a_n h)) (slots + (a_z h' - a_z h)) X Y' hL' (by omega) (by omega)
    rw [show cells + (a_n h' - a_n h) + (a_n f - a_n h') = cells + (a_n f - a_n h) by omega, show slots + (a_z h' - a_z h) + (a_z f - a_z h') = slots + (a_z f - a_z h) by omega] at z
    exact z
  · rename_i v e
    obtain ⟨rfl, rfl⟩ := q
    exact am_ret e
  · rename_i M2 as S' e
    obtain ⟨d', r1, h1, rfl, q1, q2⟩ := q
    obtain ⟨⟨c1, c2, c3⟩, kc⟩ := am_call (l := l) e
    intro hw
    obtain ⟨w1, m1, -⟩ := q1 hw
    obtain ⟨w2, m2, k2⟩ := q2 w1
    refine ⟨w2, m1.tr m2, ?_⟩
    intro p e R s m args below meth c G ca b ad H locs ls cells slots X Y hL hc hs
    have a1 := m1.1
    have a2 := m2.1
    have b1 := m1.2.1
    have b2 := m2.2.1
    have run := kc p e R s m args below meth c G ca b ad H locs ls cells slots d' (a_n h1 - a_n h) (a_z h1 - a_z h) r1 h1 hw X Y hL.1 (by omega) (by omega) (am_Met q1 hw c1 c2 c3 G ca b ad)
    intro T hT XS
    obtain ⟨v, st0, t, T', Lc, h0, X', hLc, e1, e2, ⟨hv, hR1, hz, hk⟩, st⟩ := run T hT XS
    rw [h0] at hz hk
    have hv' : v = r1.map (cV ad) := by cases hv; rfl
    subst hv'
    have Y' : am_Y s G ca b ad h1 T'.heap (locs ++ Lc) := by
      refine ⟨Y.1.to m1.2.2, ⟨Nat.le_trans Y.2.1.1 (by rw [e1]; exact hz), fun q hq hA => ?_, fun q hq => ?_⟩, by rw [e1]; exact hR1⟩
      · rw [e1, hk q (Nat.lt_of_lt_of_le hq Y.2.1.1) hA]
        exact Y.2.1.2.1 q hq hA
      · rcases List.mem_append.mp hq with w | w
        · exact Y.2.1.2.2 q w
        · exact hLc q w
    have z := k2 p e R s m args below meth c G ca b ad T'.heap (locs ++ Lc) ls (cells + (a_n h1 - a_n h)) (slots + (a_z h1 - a_z h)) X Y' hL (by omega) (by omega)
    rw [show cells + (a_n h1 - a_n h) + (a_n f - a_n h1) = cells + (a_n f - a_n h) by omega, show slots + (a_z h1 - a_z h) + (a_z f - a_z h1) = slots + (a_z f - a_z h) by omega] at z
    obtain ⟨t2, y1, y2⟩ := z T' rfl X'
    refine ⟨t2, st t2 ?_, y2⟩
    have es : (r1.map (cV ad)).toList ++ S'.map (cV ad) = (am_ps r1 S').map (cV ad) := by cases r1 <;> rfl
    rw [es]
    exact y1
  · exact q.elim
end SOUND
