section STP
variable {l : Launch} {M : am_m} {pc n : Nat} {L L2 : am_L} {S S2 : List Value} {h h2 : am_h} {pc2 : Nat}
theorem st_iconst {k : Int} (hd : decode (m_c M) pc = .ok (.iconst k, n)) (e : am_I M (.iconst k) n pc L S h = some (.inl (pc2, L2, S2, h2))) : am_P l M pc L S h pc2 L2 S2 h2 := by
  obtain ⟨rfl, e1⟩ := ck_s e
  obtain ⟨rfl, rfl, rfl, rfl⟩ := nx_s e1
  refine am_P.pure (fun p e R s m args below meth c G ca b ad H locs ls cells slots d Q hw X Y hL kk => ?_)
  exact lv_iconst X.1 X.2.1 hd rfl kk
theorem st_bipush {k : Int} (hd : decode (m_c M) pc = .ok (.bipush k, n)) (e : am_I M (.bipush k) n pc L S h = some (.inl (pc2, L2, S2, h2))) : am_P l M pc L S h pc2 L2 S2 h2 := by
  obtain ⟨rfl, e1⟩ := ck_s e
  obtain ⟨rfl, rfl, rfl, rfl⟩ := nx_s e1
  refine am_P.pure (fun p e R s m args below meth c G ca b ad H locs ls cells slots d Q hw X Y hL kk => ?_)
  exact lv_bipush X.1 X.2.1 hd rfl kk
theorem st_sipush {k : Int} (hd : decode (m_c M) pc = .ok (.sipush k, n)) (e : am_I M (.sipush k) n pc L S h = some (.inl (pc2, L2, S2, h2))) : am_P l M pc L S h pc2 L2 S2 h2 := by
  obtain ⟨rfl, e1⟩ := ck_s e
  obtain ⟨rfl, rfl, rfl, rfl⟩ := nx_s e1
  refine am_P.pure (fun p e R s m args below meth c G ca b ad H locs ls cells slots d Q hw X Y hL kk => ?_)
  exact lv_sipush X.1 X.2.1 hd rfl kk
theorem st_lconst {k : Fin 2} (hd : decode (m_c M) pc = .ok (.lconst k, n)) (e : am_I M (.lconst k) n pc L S h = some (.inl (pc2, L2, S2, h2))) : am_P l M pc L S h pc2 L2 S2 h2 := by
  obtain ⟨rfl, e1⟩ := ck_s e
  obtain ⟨rfl, rfl, rfl, rfl⟩ := nx_s e1
  refine am_P.pure (fun p e R s m args below meth c G ca b ad H locs ls cells slots d Q hw X Y hL kk => ?_)
  exact lv_lconst X.1 X.2.1 hd rfl kk
theorem st_null (hd : decode (m_c M) pc = .ok (.aconst_null, n)) (e : am_I M (.aconst_null) n pc L S h = some (.inl (pc2, L2, S2, h2))) : am_P l M pc L S h pc2 L2 S2 h2 := by
  obtain ⟨rfl, e1⟩ := ck_s e
  obtain ⟨rfl, rfl, rfl, rfl⟩ := nx_s e1
  refine am_P.pure (fun p e R s m args below meth c G ca b ad H locs ls cells slots d Q hw X Y hL kk => ?_)
  exact lv_null X.1 X.2.1 hd kk
theorem st_iadd (hd : decode (m_c M) pc = .ok (.iadd, n)) (e : am_I M (.iadd) n pc L S h = some (.inl (pc2, L2, S2, h2))) : am_P l M pc L S h pc2 L2 S2 h2 := by
  obtain ⟨rfl, e1⟩ := ck_s e
  obtain ⟨x, y, S0, rfl, e11⟩ := b1_s e1
  cases e11
  refine am_P.pure (fun p e R s m args below meth c G ca b ad H locs ls cells slots d Q hw X Y hL kk => ?_)
  exact lv_iadd X.1 X.2.1 hd kk
theorem st_isub (hd : decode (m_c M) pc = .ok (.isub, n)) (e : am_I M (.isub) n pc L S h = some (.inl (pc2, L2, S2, h2))) : am_P l M pc L S h pc2 L2 S2 h2 := by
  obtain ⟨rfl, e1⟩ := ck_s e
  obtain ⟨x, y, S0, rfl, e11⟩ := b1_s e1
  cases e11
  refine am_P.pure (fun p e R s m args below meth c G ca b ad H locs ls cells slots d Q hw X Y hL kk => ?_)
  exact lv_isub X.1 X.2.1 hd kk
theorem st_imul (hd : decode (m_c M) pc = .ok (.imul, n)) (e : am_I M (.imul) n pc L S h = some (.inl (pc2, L2, S2, h2))) : am_P l M pc L S h pc2 L2 S2 h2 := by
  obtain ⟨rfl, e1⟩ := ck_s e
  obtain ⟨x, y, S0, rfl, e11⟩ := b1_s e1
  cases e11
  refine am_P.pure (fun p e R s m args below meth c G ca b ad H locs ls cells slots d Q hw X Y hL kk => ?_)
  exact lv_imul X.1 X.2.1 hd kk
theorem st_iand (hd : decode (m_c M) pc = .ok (.iand, n)) (e : am_I M (.iand) n pc L S h = some (.inl (pc2, L2, S2, h2))) : am_P l M pc L S h pc2 L2 S2 h2 := by
  obtain ⟨rfl, e1⟩ := ck_s e
  obtain ⟨x, y, S0, rfl, e11⟩ := b1_s e1
  cases e11
  refine am_P.pure (fun p e R s m args below meth c G ca b ad H locs ls cells slots d Q hw X Y hL kk => ?_)
  exact lv_iand X.1 X.2.1 hd kk
theorem st_ior (hd : decode (m_c M) pc = .ok (.ior, n)) (e : am_I M (.ior) n pc L S h = some (.inl (pc2, L2, S2, h2))) : am_P l M pc L S h pc2 L2 S2 h2 := by
  obtain ⟨rfl, e1⟩ := ck_s e
  obtain ⟨x, y, S0, rfl, e11⟩ := b1_s e1
  cases e11
  refine am_P.pure (fun p e R s m args below meth c G ca b ad H locs ls cells slots d Q hw X Y hL kk => ?_)
  exact lv_ior X.1 X.2.1 hd kk
theorem st_ixor (hd : decode (m_c M) pc = .ok (.ixor, n)) (e : am_I M (.ixor) n pc L S h = some (.inl (pc2, L2, S2, h2))) : am_P l M pc L S h pc2 L2 S2 h2 := by
  obtain ⟨rfl, e1⟩ := ck_s e
  obtain ⟨x, y, S0, rfl, e11⟩ := b1_s e1
  cases e11
  refine am_P.pure (fun p e R s m args below meth c G ca b ad H locs ls cells slots d Q hw X Y hL kk => ?_)
  exact lv_ixor X.1 X.2.1 hd kk
theorem st_ishl (hd : decode (m_c M) pc = .ok (.ishl, n)) (e : am_I M (.ishl) n pc L S h = some (.inl (pc2, L2, S2, h2))) : am_P l M pc L S h pc2 L2 S2 h2 := by
  obtain ⟨rfl, e1⟩ := ck_s e
  obtain ⟨x, y, S0, rfl, e11⟩ := b1_s e1
  cases e11
  refine am_P.pure (fun p e R s m args below meth c G ca b ad H locs ls cells slots d Q hw X Y hL kk => ?_)
  exact lv_ishl X.1 X.2.1 hd kk
theorem st_ishr (hd : decode (m_c M) pc = .ok (.ishr, n)) (e : am_I M (.ishr) n pc L S h = some (.inl (pc2, L2, S2, h2))) : am_P l M pc L S h pc2 L2 S2 h2 := by
  obtain ⟨rfl, e1⟩ := ck_s e
  obtain ⟨x, y, S0, rfl, e11⟩ := b1_s e1
  cases e11
  refine am_P.pure (fun p e R s m args below meth c G ca b ad H locs ls cells slots d Q hw X Y hL kk => ?_)
  exact lv_ishr X.1 X.2.1 hd kk
theorem st_iushr (hd : decode (m_c M) pc = .ok (.iushr, n)) (e : am_I M (.iushr) n pc L S h = some (.inl (pc2, L2, S2, h2))) : am_P l M pc L S h pc2 L2 S2 h2 := by
  obtain ⟨rfl, e1⟩ := ck_s e
  obtain ⟨x, y, S0, rfl, e11⟩ := b1_s e1
  cases e11
  refine am_P.pure (fun p e R s m args below meth c G ca b ad H locs ls cells slots d Q hw X Y hL kk => ?_)
  exact lv_iushr X.1 X.2.1 hd rfl kk
theorem st_ladd (hd : decode (m_c M) pc = .ok (.ladd, n)) (e : am_I M (.ladd) n pc L S h = some (.inl (pc2, L2, S2, h2))) : am_P l M pc L S h pc2 L2 S2 h2 := by
  obtain ⟨rfl, e1⟩ := ck_s e
  obtain ⟨x, y, S0, rfl, e11⟩ := b2_s e1
  cases e11
  refine am_P.pure (fun p e R s m args below meth c G ca b ad H locs ls cells slots d Q hw X Y hL kk => ?_)
  exact lv_ladd X.1 X.2.1 hd kk
theorem st_lsub (hd : decode (m_c M) pc = .ok (.lsub, n)) (e : am_I M (.lsub) n pc L S h = some (.inl (pc2, L2, S2, h2))) : am_P l M pc L S h pc2 L2 S2 h2 := by
  obtain ⟨rfl, e1⟩ := ck_s e
  obtain ⟨x, y, S0, rfl, e11⟩ := b2_s e1
  cases e11
  refine am_P.pure (fun p e R s m args below meth c G ca b ad H locs ls cells slots d Q hw X Y hL kk => ?_)
  exact lv_lsub X.1 X.2.1 hd kk
theorem st_lmul (hd : decode (m_c M) pc = .ok (.lmul, n)) (e : am_I M (.lmul) n pc L S h = some (.inl (pc2, L2, S2, h2))) : am_P l M pc L S h pc2 L2 S2 h2 := by
  obtain ⟨rfl, e1⟩ := ck_s e
  obtain ⟨x, y, S0, rfl, e11⟩ := b2_s e1
  cases e11
  refine am_P.pure (fun p e R s m args below meth c G ca b ad H locs ls cells slots d Q hw X Y hL kk => ?_)
  exact lv_lmul X.1 X.2.1 hd kk
theorem st_land (hd : decode (m_c M) pc = .ok (.land, n)) (e : am_I M (.land) n pc L S h = some (.inl (pc2, L2, S2, h2))) : am_P l M pc L S h pc2 L2 S2 h2 := by
  obtain ⟨rfl, e1⟩ := ck_s e
  obtain ⟨x, y, S0, rfl, e11⟩ := b2_s e1
  cases e11
  refine am_P.pure (fun p e R s m args below meth c G ca b ad H locs ls cells slots d Q hw X Y hL kk => ?_)
  exact lv_land X.1 X.2.1 hd kk
theorem st_lor (hd : decode (m_c M) pc = .ok (.lor, n)) (e : am_I M (.lor) n pc L S h = some (.inl (pc2, L2, S2, h2))) : am_P l M pc L S h pc2 L2 S2 h2 := by
  obtain ⟨rfl, e1⟩ := ck_s e
  obtain ⟨x, y, S0, rfl, e11⟩ := b2_s e1
  cases e11
  refine am_P.pure (fun p e R s m args below meth c G ca b ad H locs ls cells slots d Q hw X Y hL kk => ?_)
  exact lv_lor X.1 X.2.1 hd kk
theorem st_lushr (hd : decode (m_c M) pc = .ok (.lushr, n)) (e : am_I M (.lushr) n pc L S h = some (.inl (pc2, L2, S2, h2))) : am_P l M pc L S h pc2 L2 S2 h2 := by
  obtain ⟨rfl, e1⟩ := ck_s e
  obtain ⟨x, y, S0, rfl, e11⟩ := b3_s e1
  cases e11
  refine am_P.pure (fun p e R s m args below meth c G ca b ad H locs ls cells slots d Q hw X Y hL kk => ?_)
  exact lv_lushr X.1 X.2.1 hd rfl kk
theorem st_lshl (hd : decode (m_c M) pc = .ok (.lshl, n)) (e : am_I M (.lshl) n pc L S h = some (.inl (pc2, L2, S2, h2))) : am_P l M pc L S h pc2 L2 S2 h2 := by
  obtain ⟨rfl, e1⟩ := ck_s e
  obtain ⟨x, y, S0, rfl, e11⟩ := b3_s e1
  cases e11
  refine am_P.pure (fun p e R s m args below meth c G ca b ad H locs ls cells slots d Q hw X Y hL kk => ?_)
  exact lv_lshl X.1 X.2.1 hd rfl kk
theorem st_ineg (hd : decode (m_c M) pc = .ok (.ineg, n)) (e : am_I M (.ineg) n pc L S h = some (.inl (pc2, L2, S2, h2))) : am_P l M pc L S h pc2 L2 S2 h2 := by
  obtain ⟨rfl, e1⟩ := ck_s e
  obtain ⟨x, S0, rfl, e11⟩ := u1_s e1
  cases e11
  refine am_P.pure (fun p e R s m args below meth c G ca b ad H locs ls cells slots d Q hw X Y hL kk => ?_)
  exact lv_ineg X.1 X.2.1 hd kk
theorem st_i2l (hd : decode (m_c M) pc = .ok (.i2l, n)) (e : am_I M (.i2l) n pc L S h = some (.inl (pc2, L2, S2, h2))) : am_P l M pc L S h pc2 L2 S2 h2 := by
  obtain ⟨rfl, e1⟩ := ck_s e
  obtain ⟨x, S0, rfl, e11⟩ := u1_s e1
  cases e11
  refine am_P.pure (fun p e R s m args below meth c G ca b ad H locs ls cells slots d Q hw X Y hL kk => ?_)
  exact lv_i2l X.1 X.2.1 hd rfl kk
theorem st_i2b (hd : decode (m_c M) pc = .ok (.i2b, n)) (e : am_I M (.i2b) n pc L S h = some (.inl (pc2, L2, S2, h2))) : am_P l M pc L S h pc2 L2 S2 h2 := by
  obtain ⟨rfl, e1⟩ := ck_s e
  obtain ⟨x, S0, rfl, e11⟩ := u1_s e1
  cases e11
  refine am_P.pure (fun p e R s m args below meth c G ca b ad H locs ls cells slots d Q hw X Y hL kk => ?_)
  exact lv_i2b X.1 X.2.1 hd rfl kk
theorem st_i2c (hd : decode (m_c M) pc = .ok (.i2c, n)) (e : am_I M (.i2c) n pc L S h = some (.inl (pc2, L2, S2, h2))) : am_P l M pc L S h pc2 L2 S2 h2 := by
  obtain ⟨rfl, e1⟩ := ck_s e
  obtain ⟨x, S0, rfl, e11⟩ := u1_s e1
  cases e11
  refine am_P.pure (fun p e R s m args below meth c G ca b ad H locs ls cells slots d Q hw X Y hL kk => ?_)
  exact lv_i2c X.1 X.2.1 hd rfl kk
theorem st_lneg (hd : decode (m_c M) pc = .ok (.lneg, n)) (e : am_I M (.lneg) n pc L S h = some (.inl (pc2, L2, S2, h2))) : am_P l M pc L S h pc2 L2 S2 h2 := by
  obtain ⟨rfl, e1⟩ := ck_s e
  obtain ⟨x, S0, rfl, e11⟩ := u2_s e1
  cases e11
  refine am_P.pure (fun p e R s m args below meth c G ca b ad H locs ls cells slots d Q hw X Y hL kk => ?_)
  exact lv_lneg X.1 X.2.1 hd kk
theorem st_l2i (hd : decode (m_c M) pc = .ok (.l2i, n)) (e : am_I M (.l2i) n pc L S h = some (.inl (pc2, L2, S2, h2))) : am_P l M pc L S h pc2 L2 S2 h2 := by
  obtain ⟨rfl, e1⟩ := ck_s e
  obtain ⟨x, S0, rfl, e11⟩ := u2_s e1
  cases e11
  refine am_P.pure (fun p e R s m args below meth c G ca b ad H locs ls cells slots d Q hw X Y hL kk => ?_)
  exact lv_l2i X.1 X.2.1 hd rfl kk
theorem st_idiv (hd : decode (m_c M) pc = .ok (.idiv, n)) (e : am_I M (.idiv) n pc L S h = some (.inl (pc2, L2, S2, h2))) : am_P l M pc L S h pc2 L2 S2 h2 := by
  simp only [am_I] at e
  split at e
  · obtain ⟨⟨rfl, hn⟩, e1⟩ := ck_s e
    obtain ⟨rfl, rfl, rfl, rfl⟩ := nx_s e1
    refine am_P.pure (fun p e R s m args below meth c G ca b ad H locs ls cells slots d Q hw X Y hL kk => ?_)
    exact lv_idiv X.1 X.2.1 hd hn kk
  · cases e
theorem st_irem (hd : decode (m_c M) pc = .ok (.irem, n)) (e : am_I M (.irem) n pc L S h = some (.inl (pc2, L2, S2, h2))) : am_P l M pc L S h pc2 L2 S2 h2 := by
  simp only [am_I] at e
  split at e
  · obtain ⟨⟨rfl, hn⟩, e1⟩ := ck_s e
    obtain ⟨rfl, rfl, rfl, rfl⟩ := nx_s e1
    refine am_P.pure (fun p e R s m args below meth c G ca b ad H locs ls cells slots d Q hw X Y hL kk => ?_)
    exact lv_irem X.1 X.2.1 hd hn kk
  · cases e
theorem st_ldiv (hd : decode (m_c M) pc = .ok (.ldiv, n)) (e : am_I M (.ldiv) n pc L S h = some (.inl (pc2, L2, S2, h2))) : am_P l M pc L S h pc2 L2 S2 h2 := by
  simp only [am_I] at e
  split at e
  · obtain ⟨⟨rfl, hn⟩, e1⟩ := ck_s e
    obtain ⟨rfl, rfl, rfl, rfl⟩ := nx_s e1
    refine am_P.pure (fun p e R s m args below meth c G ca b ad H locs ls cells slots d Q hw X Y hL kk => ?_)
    exact lv_ldiv X.1 X.2.1 hd hn kk
  · cases e
theorem st_lcmp (hd : decode (m_c M) pc = .ok (.lcmp, n)) (e : am_I M (.lcmp) n pc L S h = some (.inl (pc2, L2, S2, h2))) : am_P l M pc L S h pc2 L2 S2 h2 := by
  simp only [am_I] at e
  split at e
  · obtain ⟨rfl, e1⟩ := ck_s e
    obtain ⟨rfl, rfl, rfl, rfl⟩ := nx_s e1
    refine am_P.pure (fun p e R s m args below meth c G ca b ad H locs ls cells slots d Q hw X Y hL kk => ?_)
    exact W.lcmp X.1 X.2.1 hd kk
  · cases e
theorem st_dup (hd : decode (m_c M) pc = .ok (.dup, n)) (e : am_I M (.dup) n pc L S h = some (.inl (pc2, L2, S2, h2))) : am_P l M pc L S h pc2 L2 S2 h2 := by
  simp only [am_I] at e
  split at e
  · obtain ⟨⟨rfl, hn⟩, e1⟩ := ck_s e
    obtain ⟨rfl, rfl, rfl, rfl⟩ := nx_s e1
    refine am_P.pure (fun p e R s m args below meth c G ca b ad H locs ls cells slots d Q hw X Y hL kk => ?_)
    exact lv_dup X.1 X.2.1 hd (by rw [cV_cat]; exact hn) kk
  · cases e
theorem st_pop (hd : decode (m_c M) pc = .ok (.pop, n)) (e : am_I M (.pop) n pc L S h = some (.inl (pc2, L2, S2, h2))) : am_P l M pc L S h pc2 L2 S2 h2 := by
  simp only [am_I] at e
  split at e
  · obtain ⟨⟨rfl, hn⟩, e1⟩ := ck_s e
    obtain ⟨rfl, rfl, rfl, rfl⟩ := nx_s e1
    refine am_P.pure (fun p e R s m args below meth c G ca b ad H locs ls cells slots d Q hw X Y hL kk => ?_)
    exact lv_pop X.1 X.2.1 hd (by rw [cV_cat]; exact hn) kk
  · cases e
theorem st_dup2 (hd : decode (m_c M) pc = .ok (.dup2, n)) (e : am_I M (.dup2) n pc L S h = some (.inl (pc2, L2, S2, h2))) : am_P l M pc L S h pc2 L2 S2 h2 := by
  simp only [am_I] at e
  split at e
  · obtain ⟨⟨rfl, hn, hn2⟩, e1⟩ := ck_s e
    obtain ⟨rfl, rfl, rfl, rfl⟩ := nx_s e1
    refine am_P.pure (fun p e R s m args below meth c G ca b ad H locs ls cells slots d Q hw X Y hL kk => ?_)
    exact lv_dup2_11 X.1 X.2.1 hd (by rw [cV_cat]; exact hn) (by rw [cV_cat]; exact hn2) kk
  · cases e
theorem st_goto {off : Int} (hd : decode (m_c M) pc = .ok (.goto off, n)) (e : am_I M (.goto off) n pc L S h = some (.inl (pc2, L2, S2, h2))) : am_P l M pc L S h pc2 L2 S2 h2 := by
  obtain ⟨rfl, e1⟩ := ck_s e
  obtain ⟨tgt, ht, e11⟩ := go_s e1
  cases e11
  refine am_P.pure (fun p e R s m args below meth c G ca b ad H locs ls cells slots d Q hw X Y hL kk => ?_)
  exact lv_goto X.1 X.2.1 hd ht kk
theorem st_if_eq {off : Int} (hd : decode (m_c M) pc = .ok (.ifCond .eq off, n)) (e : am_I M (.ifCond .eq off) n pc L S h = some (.inl (pc2, L2, S2, h2))) : am_P l M pc L S h pc2 L2 S2 h2 := by
  simp only [am_I] at e
  split at e
  · split at e
    · rename_i hc
      simp only [am_cm, decide_eq_true_eq] at hc
      obtain ⟨rfl, e1⟩ := ck_s e
      obtain ⟨tgt, ht, e2⟩ := go_s e1
      cases e2
      refine am_P.pure (fun p e R s m args below meth c G ca b ad H locs ls cells slots d Q hw X Y hL kk => ?_)
      exact lv_if_eq X.1 X.2.1 hd ht (fun _ => kk) (fun q => absurd hc q)
    · rename_i hc
      simp only [am_cm, decide_eq_true_eq] at hc
      obtain ⟨⟨rfl, h0⟩, e1⟩ := ck_s e
      obtain ⟨rfl, rfl, rfl, rfl⟩ := nx_s e1
      refine am_P.pure (fun p e R s m args below meth c G ca b ad H locs ls cells slots d Q hw X Y hL kk => ?_)
      exact lv_if_eq (tgt := ((pc : Int) + off).toNat) X.1 X.2.1 hd (by omega) (fun q => absurd q hc) (fun _ => kk)
  · cases e
theorem st_if_ne {off : Int} (hd : decode (m_c M) pc = .ok (.ifCond .ne off, n)) (e : am_I M (.ifCond .ne off) n pc L S h = some (.inl (pc2, L2, S2, h2))) : am_P l M pc L S h pc2 L2 S2 h2 := by
  simp only [am_I] at e
  split at e
  · split at e
    · rename_i hc
      simp only [am_cm, decide_eq_true_eq] at hc
      obtain ⟨rfl, e1⟩ := ck_s e
      obtain ⟨tgt, ht, e2⟩ := go_s e1
      cases e2
      refine am_P.pure (fun p e R s m args below meth c G ca b ad H locs ls cells slots d Q hw X Y hL kk => ?_)
      exact lv_if_ne X.1 X.2.1 hd ht (fun _ => kk) (fun q => absurd q hc)
    · rename_i hc
      simp only [am_cm, decide_eq_true_eq] at hc
      obtain ⟨⟨rfl, h0⟩, e1⟩ := ck_s e
      obtain ⟨rfl, rfl, rfl, rfl⟩ := nx_s e1
      refine am_P.pure (fun p e R s m args below meth c G ca b ad H locs ls cells slots d Q hw X Y hL kk => ?_)
      exact lv_if_ne (tgt := ((pc : Int) + off).toNat) X.1 X.2.1 hd (by omega) (fun q => absurd q hc) (fun _ => kk)
  · cases e
theorem st_if_lt {off : Int} (hd : decode (m_c M) pc = .ok (.ifCond .lt off, n)) (e : am_I M (.ifCond .lt off) n pc L S h = some (.inl (pc2, L2, S2, h2))) : am_P l M pc L S h pc2 L2 S2 h2 := by
  simp only [am_I] at e
  split at e
  · split at e
    · rename_i hc
      simp only [am_cm, decide_eq_true_eq] at hc
      obtain ⟨rfl, e1⟩ := ck_s e
      obtain ⟨tgt, ht, e2⟩ := go_s e1
      cases e2
      refine am_P.pure (fun p e R s m args below meth c G ca b ad H locs ls cells slots d Q hw X Y hL kk => ?_)
      exact lv_if_lt X.1 X.2.1 hd ht (fun _ => kk) (fun q => absurd hc q)
    · rename_i hc
      simp only [am_cm, decide_eq_true_eq] at hc
      obtain ⟨⟨rfl, h0⟩, e1⟩ := ck_s e
      obtain ⟨rfl, rfl, rfl, rfl⟩ := nx_s e1
      refine am_P.pure (fun p e R s m args below meth c G ca b ad H locs ls cells slots d Q hw X Y hL kk => ?_)
      exact lv_if_lt (tgt := ((pc : Int) + off).toNat) X.1 X.2.1 hd (by omega) (fun q => absurd q hc) (fun _ => kk)
  · cases e
theorem st_if_ge {off : Int} (hd : decode (m_c M) pc = .ok (.ifCond .ge off, n)) (e : am_I M (.ifCond .ge off) n pc L S h = some (.inl (pc2, L2, S2, h2))) : am_P l M pc L S h pc2 L2 S2 h2 := by
  simp only [am_I] at e
  split at e
  · split at e
    · rename_i hc
      simp only [am_cm, decide_eq_true_eq] at hc
      obtain ⟨rfl, e1⟩ := ck_s e
      obtain ⟨tgt, ht, e2⟩ := go_s e1
      cases e2
      refine am_P.pure (fun p e R s m args below meth c G ca b ad H locs ls cells slots d Q hw X Y hL kk => ?_)
      exact lv_if_ge X.1 X.2.1 hd ht (fun _ => kk) (fun q => absurd hc q)
    · rename_i hc
      simp only [am_cm, decide_eq_true_eq] at hc
      obtain ⟨⟨rfl, h0⟩, e1⟩ := ck_s e
      obtain ⟨rfl, rfl, rfl, rfl⟩ := nx_s e1
      refine am_P.pure (fun p e R s m args below meth c G ca b ad H locs ls cells slots d Q hw X Y hL kk => ?_)
      exact lv_if_ge (tgt := ((pc : Int) + off).toNat) X.1 X.2.1 hd (by omega) (fun q => absurd q hc) (fun _ => kk)
  · cases e
theorem st_if_gt {off : Int} (hd : decode (m_c M) pc = .ok (.ifCond .gt off, n)) (e : am_I M (.ifCond .gt off) n pc L S h = some (.inl (pc2, L2, S2, h2))) : am_P l M pc L S h pc2 L2 S2 h2 := by
  simp only [am_I] at e
  split at e
  · split at e
    · rename_i hc
      simp only [am_cm, decide_eq_true_eq] at hc
      obtain ⟨rfl, e1⟩ := ck_s e
      obtain ⟨tgt, ht, e2⟩ := go_s e1
      cases e2
      refine am_P.pure (fun p e R s m args below meth c G ca b ad H locs ls cells slots d Q hw X Y hL kk => ?_)
      exact lv_if_gt X.1 X.2.1 hd ht (fun _ => kk) (fun q => absurd hc q)
    · rename_i hc
      simp only [am_cm, decide_eq_true_eq] at hc
      obtain ⟨⟨rfl, h0⟩, e1⟩ := ck_s e
      obtain ⟨rfl, rfl, rfl, rfl⟩ := nx_s e1
      refine am_P.pure (fun p e R s m args below meth c G ca b ad H locs ls cells slots d Q hw X Y hL kk => ?_)
      exact lv_if_gt (tgt := ((pc : Int) + off).toNat) X.1 X.2.1 hd (by omega) (fun q => absurd q hc) (fun _ => kk)
  · cases e
theorem st_if_le {off : Int} (hd : decode (m_c M) pc = .ok (.ifCond .le off, n)) (e : am_I M (.ifCond .le off) n pc L S h = some (.inl (pc2, L2, S2, h2))) : am_P l M pc L S h pc2 L2 S2 h2 := by
  simp only [am_I] at e
  split at e
  · split at e
    · rename_i hc
      simp only [am_cm, decide_eq_true_eq] at hc
      obtain ⟨rfl, e1⟩ := ck_s e
      obtain ⟨tgt, ht, e2⟩ := go_s e1
      cases e2
      refine am_P.pure (fun p e R s m args below meth c G ca b ad H locs ls cells slots d Q hw X Y hL kk => ?_)
      exact lv_if_le X.1 X.2.1 hd ht (fun _ => kk) (fun q => absurd hc q)
    · rename_i hc
      simp only [am_cm, decide_eq_true_eq] at hc
      obtain ⟨⟨rfl, h0⟩, e1⟩ := ck_s e
      obtain ⟨rfl, rfl, rfl, rfl⟩ := nx_s e1
      refine am_P.pure (fun p e R s m args below meth c G ca b ad H locs ls cells slots d Q hw X Y hL kk => ?_)
      exact lv_if_le (tgt := ((pc : Int) + off).toNat) X.1 X.2.1 hd (by omega) (fun q => absurd q hc) (fun _ => kk)
  · cases e
theorem st_icmp_eq {off : Int} (hd : decode (m_c M) pc = .ok (.if_icmp .eq off, n)) (e : am_I M (.if_icmp .eq off) n pc L S h = some (.inl (pc2, L2, S2, h2))) : am_P l M pc L S h pc2 L2 S2 h2 := by
  simp only [am_I] at e
  split at e
  · split at e
    · rename_i hc
      simp only [am_cm, decide_eq_true_eq] at hc
      obtain ⟨rfl, e1⟩ := ck_s e
      obtain ⟨tgt, ht, e2⟩ := go_s e1
      cases e2
      refine am_P.pure (fun p e R s m args below meth c G ca b ad H locs ls cells slots d Q hw X Y hL kk => ?_)
      exact lv_icmp_eq X.1 X.2.1 hd ht (fun _ => kk) (fun q => absurd hc q)
    · rename_i hc
      simp only [am_cm, decide_eq_true_eq] at hc
      obtain ⟨⟨rfl, h0⟩, e1⟩ := ck_s e
      obtain ⟨rfl, rfl, rfl, rfl⟩ := nx_s e1
      refine am_P.pure (fun p e R s m args below meth c G ca b ad H locs ls cells slots d Q hw X Y hL kk => ?_)
      exact lv_icmp_eq (tgt := ((pc : Int) + off).toNat) X.1 X.2.1 hd (by omega) (fun q => absurd q hc) (fun _ => kk)
  · cases e
theorem st_icmp_ne {off : Int} (hd : decode (m_c M) pc = .ok (.if_icmp .ne off, n)) (e : am_I M (.if_icmp .ne off) n pc L S h = some (.inl (pc2, L2, S2, h2))) : am_P l M pc L S h pc2 L2 S2 h2 := by
  simp only [am_I] at e
  split at e
  · split at e
    · rename_i hc
      simp only [am_cm, decide_eq_true_eq] at hc
      obtain ⟨rfl, e1⟩ := ck_s e
      obtain ⟨tgt, ht, e2⟩ := go_s e1
      cases e2
      refine am_P.pure (fun p e R s m args below meth c G ca b ad H locs ls cells slots d Q hw X Y hL kk => ?_)
      exact lv_icmp_ne X.1 X.2.1 hd ht (fun _ => kk) (fun q => absurd q hc)
    · rename_i hc
      simp only [am_cm, decide_eq_true_eq] at hc
      obtain ⟨⟨rfl, h0⟩, e1⟩ := ck_s e
      obtain ⟨rfl, rfl, rfl, rfl⟩ := nx_s e1
      refine am_P.pure (fun p e R s m args below meth c G ca b ad H locs ls cells slots d Q hw X Y hL kk => ?_)
      exact lv_icmp_ne (tgt := ((pc : Int) + off).toNat) X.1 X.2.1 hd (by omega) (fun q => absurd q hc) (fun _ => kk)
  · cases e
theorem st_icmp_lt {off : Int} (hd : decode (m_c M) pc = .ok (.if_icmp .lt off, n)) (e : am_I M (.if_icmp .lt off) n pc L S h = some (.inl (pc2, L2, S2, h2))) : am_P l M pc L S h pc2 L2 S2 h2 := by
  simp only [am_I] at e
  split at e
  · split at e
    · rename_i hc
      simp only [am_cm, decide_eq_true_eq] at hc
      obtain ⟨rfl, e1⟩ := ck_s e
      obtain ⟨tgt, ht, e2⟩ := go_s e1
      cases e2
      refine am_P.pure (fun p e R s m args below meth c G ca b ad H locs ls cells slots d Q hw X Y hL kk => ?_)
      exact lv_icmp_lt X.1 X.2.1 hd ht (fun _ => kk) (fun q => absurd hc q)
    · rename_i hc
      simp only [am_cm, decide_eq_true_eq] at hc
      obtain ⟨⟨rfl, h0⟩, e1⟩ := ck_s e
      obtain ⟨rfl, rfl, rfl, rfl⟩ := nx_s e1
      refine am_P.pure (fun p e R s m args below meth c G ca b ad H locs ls cells slots d Q hw X Y hL kk => ?_)
      exact lv_icmp_lt (tgt := ((pc : Int) + off).toNat) X.1 X.2.1 hd (by omega) (fun q => absurd q hc) (fun _ => kk)
  · cases e
theorem st_icmp_ge {off : Int} (hd : decode (m_c M) pc = .ok (.if_icmp .ge off, n)) (e : am_I M (.if_icmp .ge off) n pc L S h = some (.inl (pc2, L2, S2, h2))) : am_P l M pc L S h pc2 L2 S2 h2 := by
  simp only [am_I] at e
  split at e
  · split at e
    · rename_i hc
      simp only [am_cm, decide_eq_true_eq] at hc
      obtain ⟨rfl, e1⟩ := ck_s e
      obtain ⟨tgt, ht, e2⟩ := go_s e1
      cases e2
      refine am_P.pure (fun p e R s m args below meth c G ca b ad H locs ls cells slots d Q hw X Y hL kk => ?_)
      exact lv_icmp_ge X.1 X.2.1 hd ht (fun _ => kk) (fun q => absurd hc q)
    · rename_i hc
      simp only [am_cm, decide_eq_true_eq] at hc
      obtain ⟨⟨rfl, h0⟩, e1⟩ := ck_s e
      obtain ⟨rfl, rfl, rfl, rfl⟩ := nx_s e1
      refine am_P.pure (fun p e R s m args below meth c G ca b ad H locs ls cells slots d Q hw X Y hL kk => ?_)
      exact lv_icmp_ge (tgt := ((pc : Int) + off).toNat) X.1 X.2.1 hd (by omega) (fun q => absurd q hc) (fun _ => kk)
  · cases e
theorem st_icmp_gt {off : Int} (hd : decode (m_c M) pc = .ok (.if_icmp .gt off, n)) (e : am_I M (.if_icmp .gt off) n pc L S h = some (.inl (pc2, L2, S2, h2))) : am_P l M pc L S h pc2 L2 S2 h2 := by
  simp only [am_I] at e
  split at e
  · split at e
    · rename_i hc
      simp only [am_cm, decide_eq_true_eq] at hc
      obtain ⟨rfl, e1⟩ := ck_s e
      obtain ⟨tgt, ht, e2⟩ := go_s e1
      cases e2
      refine am_P.pure (fun p e R s m args below meth c G ca b ad H locs ls cells slots d Q hw X Y hL kk => ?_)
      exact lv_icmp_gt X.1 X.2.1 hd ht (fun _ => kk) (fun q => absurd hc q)
    · rename_i hc
      simp only [am_cm, decide_eq_true_eq] at hc
      obtain ⟨⟨rfl, h0⟩, e1⟩ := ck_s e
      obtain ⟨rfl, rfl, rfl, rfl⟩ := nx_s e1
      refine am_P.pure (fun p e R s m args below meth c G ca b ad H locs ls cells slots d Q hw X Y hL kk => ?_)
      exact lv_icmp_gt (tgt := ((pc : Int) + off).toNat) X.1 X.2.1 hd (by omega) (fun q => absurd q hc) (fun _ => kk)
  · cases e
theorem st_icmp_le {off : Int} (hd : decode (m_c M) pc = .ok (.if_icmp .le off, n)) (e : am_I M (.if_icmp .le off) n pc L S h = some (.inl (pc2, L2, S2, h2))) : am_P l M pc L S h pc2 L2 S2 h2 := by
  simp only [am_I] at e
  split at e
  · split at e
    · rename_i hc
      simp only [am_cm, decide_eq_true_eq] at hc
      obtain ⟨rfl, e1⟩ := ck_s e
      obtain ⟨tgt, ht, e2⟩ := go_s e1
      cases e2
      refine am_P.pure (fun p e R s m args below meth c G ca b ad H locs ls cells slots d Q hw X Y hL kk => ?_)
      exact lv_icmp_le X.1 X.2.1 hd ht (fun _ => kk) (fun q => absurd hc q)
    · rename_i hc
      simp only [am_cm, decide_eq_true_eq] at hc
      obtain ⟨⟨rfl, h0⟩, e1⟩ := ck_s e
      obtain ⟨rfl, rfl, rfl, rfl⟩ := nx_s e1
      refine am_P.pure (fun p e R s m args below meth c G ca b ad H locs ls cells slots d Q hw X Y hL kk => ?_)
      exact lv_icmp_le (tgt := ((pc : Int) + off).toNat) X.1 X.2.1 hd (by omega) (fun q => absurd q hc) (fun _ => kk)
  · cases e
theorem li_s {i k : Nat} {z : (Nat × am_L × List Value × am_h) ⊕ (Option Value ⊕ (am_m × List Value × List Value))} (e : am_li i k pc L S h = some z) : ∃ x : Int32, am_ld L i = some (.int x) ∧ z = .inl (pc + k, L, .int x :: S, h) := by
  unfold am_li nx at e
  split at e
  · rename_i q; exact ⟨_, q, (Option.some.inj e).symm⟩
  · cases e
theorem ll_s {i k : Nat} {z : (Nat × am_L × List Value × am_h) ⊕ (Option Value ⊕ (am_m × List Value × List Value))} (e : am_ll i k pc L S h = some z) : ∃ x : Int64, am_ld L i = some (.long x) ∧ z = .inl (pc + k, L, .long x :: S, h) := by
  unfold am_ll nx at e
  split at e
  · rename_i q; exact ⟨_, q, (Option.some.inj e).symm⟩
  · cases e
theorem la_s {i k : Nat} {z : (Nat × am_L × List Value × am_h) ⊕ (Option Value ⊕ (am_m × List Value × List Value))} (e : am_la i k pc L S h = some z) : ∃ x : Nat, am_ld L i = some (.ref x) ∧ z = .inl (pc + k, L, .ref x :: S, h) := by
  unfold am_la nx at e
  split at e
  · rename_i q; exact ⟨_, q, (Option.some.inj e).symm⟩
  · cases e
theorem si_s {i k k2 : Nat} {z : (Nat × am_L × List Value × am_h) ⊕ (Option Value ⊕ (am_m × List Value × List Value))} (e : am_si i k k2 pc L S h = some z) : ∃ (x : Int32) (S0 : List Value), S = .int x :: S0 ∧ i < k2 ∧ z = .inl (pc + k, am_s1 L i (.int x), S0, h) := by
  unfold am_si at e
  split at e
  · obtain ⟨hc, e⟩ := ck_s e
    unfold nx at e
    exact ⟨_, _, rfl, hc, (Option.some.inj e).symm⟩
  · cases e
theorem sl_s {i k k2 : Nat} {z : (Nat × am_L × List Value × am_h) ⊕ (Option Value ⊕ (am_m × List Value × List Value))} (e : am_sl i k k2 pc L S h = some z) : ∃ (x : Int64) (S0 : List Value), S = .long x :: S0 ∧ i + 1 < k2 ∧ z = .inl (pc + k, am_s2 L i (.long x), S0, h) := by
  unfold am_sl at e
  split at e
  · obtain ⟨hc, e⟩ := ck_s e
    unfold nx at e
    exact ⟨_, _, rfl, hc, (Option.some.inj e).symm⟩
  · cases e
theorem sa_s {i k k2 : Nat} {z : (Nat × am_L × List Value × am_h) ⊕ (Option Value ⊕ (am_m × List Value × List Value))} (e : am_sa i k k2 pc L S h = some z) : ∃ (x : Nat) (S0 : List Value), S = .ref x :: S0 ∧ i < k2 ∧ z = .inl (pc + k, am_s1 L i (.ref x), S0, h) := by
  unfold am_sa at e
  split at e
  · obtain ⟨hc, e⟩ := ck_s e
    unfold nx at e
    exact ⟨_, _, rfl, hc, (Option.some.inj e).symm⟩
  · cases e
theorem st_iload {k : Nat} (hd : decode (m_c M) pc = .ok (.iload k, n)) (e : am_I M (.iload k) n pc L S h = some (.inl (pc2, L2, S2, h2))) : am_P l M pc L S h pc2 L2 S2 h2 := by
  obtain ⟨rfl, e1⟩ := ck_s e
  obtain ⟨x, hv, e11⟩ := li_s e1
  cases e11
  refine am_P.pure (fun p e R s m args below meth c G ca b ad H locs ls cells slots d Q hw X Y hL kk => ?_)
  exact lv_iload X.1 X.2.1 hd (hL.2.2 _ _ hv) kk
theorem st_iload_n {k : Fin 4} (hd : decode (m_c M) pc = .ok (.iload_n k, n)) (e : am_I M (.iload_n k) n pc L S h = some (.inl (pc2, L2, S2, h2))) : am_P l M pc L S h pc2 L2 S2 h2 := by
  obtain ⟨rfl, e1⟩ := ck_s e
  obtain ⟨x, hv, e11⟩ := li_s e1
  cases e11
  refine am_P.pure (fun p e R s m args below meth c G ca b ad H locs ls cells slots d Q hw X Y hL kk => ?_)
  exact lv_iload_n X.1 X.2.1 hd rfl (hL.2.2 _ _ hv) kk
theorem st_lload {k : Nat} (hd : decode (m_c M) pc = .ok (.lload k, n)) (e : am_I M (.lload k) n pc L S h = some (.inl (pc2, L2, S2, h2))) : am_P l M pc L S h pc2 L2 S2 h2 := by
  obtain ⟨rfl, e1⟩ := ck_s e
  obtain ⟨x, hv, e11⟩ := ll_s e1
  cases e11
  refine am_P.pure (fun p e R s m args below meth c G ca b ad H locs ls cells slots d Q hw X Y hL kk => ?_)
  exact lv_lload X.1 X.2.1 hd (hL.2.2 _ _ hv) kk
theorem st_lload_n {k : Fin 4} (hd : decode (m_c M) pc = .ok (.lload_n k, n)) (e : am_I M (.lload_n k) n pc L S h = some (.inl (pc2, L2, S2, h2))) : am_P l M pc L S h pc2 L2 S2 h2 := by
  obtain ⟨rfl, e1⟩ := ck_s e
  obtain ⟨x, hv, e11⟩ := ll_s e1
  cases e11
  refine am_P.pure (fun p e R s m args below meth c G ca b ad H locs ls cells slots d Q hw X Y hL kk => ?_)
  exact lv_lload_n X.1 X.2.1 hd rfl (hL.2.2 _ _ hv) kk
theorem st_aload {k : Nat} (hd : decode (m_c M) pc = .ok (.aload k, n)) (e : am_I M (.aload k) n pc L S h = some (.inl (pc2, L2, S2, h2))) : am_P l M pc L S h pc2 L2 S2 h2 := by
  obtain ⟨rfl, e1⟩ := ck_s e
  obtain ⟨x, hv, e11⟩ := la_s e1
  cases e11
  refine am_P.pure (fun p e R s m args below meth c G ca b ad H locs ls cells slots d Q hw X Y hL kk => ?_)
  exact lv_aload X.1 X.2.1 hd (hL.2.2 _ _ hv) kk
theorem st_aload_n {k : Fin 4} (hd : decode (m_c M) pc = .ok (.aload_n k, n)) (e : am_I M (.aload_n k) n pc L S h = some (.inl (pc2, L2, S2, h2))) : am_P l M pc L S h pc2 L2 S2 h2 := by
  obtain ⟨rfl, e1⟩ := ck_s e
  obtain ⟨x, hv, e11⟩ := la_s e1
  cases e11
  refine am_P.pure (fun p e R s m args below meth c G ca b ad H locs ls cells slots d Q hw X Y hL kk => ?_)
  exact lv_aload_n X.1 X.2.1 hd rfl (hL.2.2 _ _ hv) kk
theorem st_istore {k : Nat} (hd : decode (m_c M) pc = .ok (.istore k, n)) (e : am_I M (.istore k) n pc L S h = some (.inl (pc2, L2, S2, h2))) : am_P l M pc L S h pc2 L2 S2 h2 := by
  obtain ⟨rfl, e1⟩ := ck_s e
  obtain ⟨x, S0, rfl, hi, e11⟩ := si_s e1
  cases e11
  refine am_P.loc (fun p e R s m args below meth c ad H locs ls cells slots Q hx hb hL kk => ?_)
  exact lv_istore hx hb hd hL.has hi rfl (fun ls' h' => kk ls' (am_LR.s1 h'))
theorem st_istore_n {k : Fin 4} (hd : decode (m_c M) pc = .ok (.istore_n k, n)) (e : am_I M (.istore_n k) n pc L S h = some (.inl (pc2, L2, S2, h2))) : am_P l M pc L S h pc2 L2 S2 h2 := by
  obtain ⟨rfl, e1⟩ := ck_s e
  obtain ⟨x, S0, rfl, hi, e11⟩ := si_s e1
  cases e11
  refine am_P.loc (fun p e R s m args below meth c ad H locs ls cells slots Q hx hb hL kk => ?_)
  exact lv_istore_n hx hb hd rfl hL.has hi rfl (fun ls' h' => kk ls' (am_LR.s1 h'))
theorem st_lstore {k : Nat} (hd : decode (m_c M) pc = .ok (.lstore k, n)) (e : am_I M (.lstore k) n pc L S h = some (.inl (pc2, L2, S2, h2))) : am_P l M pc L S h pc2 L2 S2 h2 := by
  obtain ⟨rfl, e1⟩ := ck_s e
  obtain ⟨x, S0, rfl, hi, e11⟩ := sl_s e1
  cases e11
  refine am_P.loc (fun p e R s m args below meth c ad H locs ls cells slots Q hx hb hL kk => ?_)
  exact lv_lstore hx hb hd hL.has hi rfl (fun ls' h' => kk ls' (am_LR.s2 h'))
theorem st_lstore_n {k : Fin 4} (hd : decode (m_c M) pc = .ok (.lstore_n k, n)) (e : am_I M (.lstore_n k) n pc L S h = some (.inl (pc2, L2, S2, h2))) : am_P l M pc L S h pc2 L2 S2 h2 := by
  obtain ⟨rfl, e1⟩ := ck_s e
  obtain ⟨x, S0, rfl, hi, e11⟩ := sl_s e1
  cases e11
  refine am_P.loc (fun p e R s m args below meth c ad H locs ls cells slots Q hx hb hL kk => ?_)
  exact lv_lstore_n hx hb hd rfl hL.has hi rfl (fun ls' h' => kk ls' (am_LR.s2 h'))
theorem st_astore {k : Nat} (hd : decode (m_c M) pc = .ok (.astore k, n)) (e : am_I M (.astore k) n pc L S h = some (.inl (pc2, L2, S2, h2))) : am_P l M pc L S h pc2 L2 S2 h2 := by
  obtain ⟨rfl, e1⟩ := ck_s e
  obtain ⟨x, S0, rfl, hi, e11⟩ := sa_s e1
  cases e11
  refine am_P.loc (fun p e R s m args below meth c ad H locs ls cells slots Q hx hb hL kk => ?_)
  exact lv_astore hx hb hd hL.has hi rfl (fun ls' h' => kk ls' (am_LR.s1 h'))
theorem st_astore_n {k : Fin 4} (hd : decode (m_c M) pc = .ok (.astore_n k, n)) (e : am_I M (.astore_n k) n pc L S h = some (.inl (pc2, L2, S2, h2))) : am_P l M pc L S h pc2 L2 S2 h2 := by
  obtain ⟨rfl, e1⟩ := ck_s e
  obtain ⟨x, S0, rfl, hi, e11⟩ := sa_s e1
  cases e11
  refine am_P.loc (fun p e R s m args below meth c ad H locs ls cells slots Q hx hb hL kk => ?_)
  exact lv_astore_n hx hb hd rfl hL.has hi rfl (fun ls' h' => kk ls' (am_LR.s1 h'))
theorem st_iinc {k : Nat} {v : Int} (hd : decode (m_c M) pc = .ok (.iinc k v, n)) (e : am_I M (.iinc k v) n pc L S h = some (.inl (pc2, L2, S2, h2))) : am_P l M pc L S h pc2 L2 S2 h2 := by
  simp only [am_I] at e
  split at e
  · rename_i x hv
    obtain ⟨⟨rfl, hi⟩, e1⟩ := ck_s e
    obtain ⟨rfl, rfl, rfl, rfl⟩ := nx_s e1
    refine am_P.loc (fun p e R s m args below meth c ad H locs ls cells slots Q hx hb hL kk => ?_)
    obtain ⟨j, hj⟩ := List.mem_iff_getElem?.mp (am_lv_in (ad := ad) hv)
    exact lv_iinc hx hb hd hL.has hj rfl hi rfl (fun ls' h' => kk ls' (am_LR.s1 h'))
  · cases e
theorem st_ifnull {off : Int} (hd : decode (m_c M) pc = .ok (.ifnull off, n)) (e : am_I M (.ifnull off) n pc L S h = some (.inl (pc2, L2, S2, h2))) : am_P l M pc L S h pc2 L2 S2 h2 := by
  simp only [am_I] at e
  split at e
  · obtain ⟨rfl, e1⟩ := ck_s e
    obtain ⟨tgt, ht, e11⟩ := go_s e1
    cases e11
    refine am_P.pure (fun p e R s m args below meth c G ca b ad H locs ls cells slots d Q hw X Y hL kk => ?_)
    exact lv_ifnullN X.1 X.2.1 hd ht kk
  · obtain ⟨rfl, e1⟩ := ck_s e
    obtain ⟨rfl, rfl, rfl, rfl⟩ := nx_s e1
    refine am_P.pure (fun p e R s m args below meth c G ca b ad H locs ls cells slots d Q hw X Y hL kk => ?_)
    exact lv_ifnull X.1 X.2.1 hd kk
  · cases e
theorem st_ifnonnull {off : Int} (hd : decode (m_c M) pc = .ok (.ifnonnull off, n)) (e : am_I M (.ifnonnull off) n pc L S h = some (.inl (pc2, L2, S2, h2))) : am_P l M pc L S h pc2 L2 S2 h2 := by
  simp only [am_I] at e
  split at e
  · obtain ⟨rfl, e1⟩ := ck_s e
    obtain ⟨tgt, ht, e11⟩ := go_s e1
    cases e11
    refine am_P.pure (fun p e R s m args below meth c G ca b ad H locs ls cells slots d Q hw X Y hL kk => ?_)
    exact lv_ifnonnull X.1 X.2.1 hd ht kk
  · obtain ⟨rfl, e1⟩ := ck_s e
    obtain ⟨rfl, rfl, rfl, rfl⟩ := nx_s e1
    refine am_P.pure (fun p e R s m args below meth c G ca b ad H locs ls cells slots d Q hw X Y hL kk => ?_)
    exact lv_ifnonnullN X.1 X.2.1 hd kk
  · cases e
theorem st_tsw {df lo hi : Int} {offs : Array Int} (hd : decode (m_c M) pc = .ok (.tableswitch df lo hi offs, n)) (e : am_I M (.tableswitch df lo hi offs) n pc L S h = some (.inl (pc2, L2, S2, h2))) : am_P l M pc L S h pc2 L2 S2 h2 := by
  simp only [am_I] at e
  split at e
  · split at e
    · rename_i hc
      obtain ⟨tgt, ht, e1⟩ := go_s e
      cases e1
      refine am_P.pure (fun p e R s m args below meth c G ca b ad H locs ls cells slots d Q hw X Y hL kk => ?_)
      exact lv_tableOut X.1 X.2.1 hd hc ht kk
    · rename_i hc
      split at e
      · rename_i off ho
        obtain ⟨tgt, ht, e1⟩ := go_s e
        cases e1
        refine am_P.pure (fun p e R s m args below meth c G ca b ad H locs ls cells slots d Q hw X Y hL kk => ?_)
        exact lv_tableIn X.1 X.2.1 hd (fun q => hc (Or.inl q)) (fun q => hc (Or.inr q)) ho ht kk
      · cases e
  · cases e
theorem st_lsw {df : Int} {ps : Array (Int × Int)} (hd : decode (m_c M) pc = .ok (.lookupswitch df ps, n)) (e : am_I M (.lookupswitch df ps) n pc L S h = some (.inl (pc2, L2, S2, h2))) : am_P l M pc L S h pc2 L2 S2 h2 := by
  simp only [am_I] at e
  split at e
  · obtain ⟨hp, e1⟩ := ck_s e
    obtain ⟨tgt, ht, e11⟩ := go_s e1
    cases e11
    refine am_P.pure (fun p e R s m args below meth c G ca b ad H locs ls cells slots d Q hw X Y hL kk => ?_)
    exact lv_lookup X.1 X.2.1 hd hp rfl ht kk
  · cases e
theorem st_ldc {x : Nat} (hd : decode (m_c M) pc = .ok (.ldc x, n)) (e : am_I M (.ldc x) n pc L S h = some (.inl (pc2, L2, S2, h2))) : am_P l M pc L S h pc2 L2 S2 h2 := by
  simp only [am_I] at e
  split at e
  · rename_i v _ hk
    obtain ⟨rfl, e1⟩ := ck_s e
    obtain ⟨rfl, rfl, rfl, rfl⟩ := nx_s e1
    obtain ⟨i, hi⟩ := am_kTOK _ (lookup_mem hk)
    refine am_P.pure (fun p e R s m args below meth c G ca b ad H locs ls cells slots d Q hw X Y hL kk => ?_)
    exact lv_ldc X.1 X.2.1 X.2.2.2.2.1 (X.2.2.2.2.2.1 _ (am_at1_in hi)) hd kk
  · rename_i q _ hs
    obtain ⟨rfl, e1⟩ := ck_s e
    obtain ⟨rfl, rfl, rfl, rfl⟩ := nx_s e1
    have hm := lookup_mem hs
    simp only [am_sT, List.mem_cons, Prod.mk.injEq, List.not_mem_nil, or_false] at hm
    refine am_P.pure (fun p e R s m args below meth c G ca b ad H locs ls cells slots d Q hw X Y hL kk => ?_)
    have hown := X.2.2.2.2.1
    rcases hm with ⟨⟨ho, hx⟩, hq⟩ | ⟨⟨ho, hx⟩, hq⟩
    · subst hx; subst hq; rw [ho] at hown
      exact va_ldcS X.1 X.2.1 hown X.2.2.2.2.2.2.2.2.1.2.2.2.1 hd kk
    · subst hx; subst hq; rw [ho] at hown
      exact va_ldcS X.1 X.2.1 hown X.2.2.2.2.2.2.2.2.1.2.2.2.2 hd kk
  · cases e
theorem st_ldcw {x : Nat} (hd : decode (m_c M) pc = .ok (.ldc_w x, n)) (e : am_I M (.ldc_w x) n pc L S h = some (.inl (pc2, L2, S2, h2))) : am_P l M pc L S h pc2 L2 S2 h2 := by
  simp only [am_I] at e
  split at e
  · rename_i v hk
    obtain ⟨rfl, e1⟩ := ck_s e
    obtain ⟨rfl, rfl, rfl, rfl⟩ := nx_s e1
    obtain ⟨i, hi⟩ := am_kTOK _ (lookup_mem hk)
    refine am_P.pure (fun p e R s m args below meth c G ca b ad H locs ls cells slots d Q hw X Y hL kk => ?_)
    exact lv_ldcw X.1 X.2.1 X.2.2.2.2.1 (X.2.2.2.2.2.1 _ (am_at1_in hi)) hd kk
  · cases e
theorem st_ldc2 {x : Nat} (hd : decode (m_c M) pc = .ok (.ldc2_w x, n)) (e : am_I M (.ldc2_w x) n pc L S h = some (.inl (pc2, L2, S2, h2))) : am_P l M pc L S h pc2 L2 S2 h2 := by
  simp only [am_I] at e
  split at e
  · rename_i v hk
    obtain ⟨rfl, e1⟩ := ck_s e
    obtain ⟨rfl, rfl, rfl, rfl⟩ := nx_s e1
    obtain ⟨i, hi⟩ := am_lTOK _ (lookup_mem hk)
    refine am_P.pure (fun p e R s m args below meth c G ca b ad H locs ls cells slots d Q hw X Y hL kk => ?_)
    exact lv_ldc2 X.1 X.2.1 X.2.2.2.2.1 (X.2.2.2.2.2.1 _ (am_at1_in hi)) hd kk
  · cases e
end STP
