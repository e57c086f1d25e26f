section WPS
variable {d : Nat} {M : am_m} {pc : Nat} {L : am_L} {S : List Value} {h : am_h} {Q : Option Value → am_h → Prop}
theorem wp_cn {c : Prop} [Decidable c] {pc2 : Nat} {L2 : am_L} {S2 : List Value} {h2 : am_h} (e : act M pc L S h = ck c (nx pc2 L2 S2 h2)) : WP d M pc L S h Q = (c ∧ WP d M pc2 L2 S2 h2 Q) := wp_ck e (fun e => wp_nx e)
theorem wp_cr {c : Prop} [Decidable c] {v : Option Value} (e : act M pc L S h = ck c (rt v)) : WP d M pc L S h Q = (c ∧ Q v h) := wp_ck e (fun e => wp_rt e)
theorem wp_cc {c : Prop} [Decidable c] {M2 : am_m} {as S2 : List Value} (e : act M pc L S h = ck c (some (.inr (.inr (M2, as, S2))))) : WP (d + 1) M pc L S h Q = (c ∧ Cal d M2 as h (Kn (d + 1) M (pc + 3) L S2 Q)) := wp_ck e (fun e => wp_cl e)
theorem w_iconst {k : Int} {v : Int32} (hd : decode (m_c M) pc = .ok (.iconst k, 1)) (hv : Int32.ofInt k = v) : WP d M pc L S h Q = WP d M (pc + 1) L (.int v :: S) h Q := by
  rw [← hv]; exact wp_nx (by rw [ac_of hd]; rfl)
theorem w_bipush {k : Int} {v : Int32} (hd : decode (m_c M) pc = .ok (.bipush k, 2)) (hv : (Int8.ofInt k).toInt32 = v) : WP d M pc L S h Q = WP d M (pc + 2) L (.int v :: S) h Q := by
  rw [← hv]; exact wp_nx (by rw [ac_of hd]; rfl)
theorem w_sipush {k : Int} {v : Int32} (hd : decode (m_c M) pc = .ok (.sipush k, 3)) (hv : (Int16.ofInt k).toInt32 = v) : WP d M pc L S h Q = WP d M (pc + 3) L (.int v :: S) h Q := by
  rw [← hv]; exact wp_nx (by rw [ac_of hd]; rfl)
theorem w_lconst {k : Fin 2} {v : Int64} (hd : decode (m_c M) pc = .ok (.lconst k, 1)) (hv : Int64.ofNat k = v) : WP d M pc L S h Q = WP d M (pc + 1) L (.long v :: S) h Q := by
  rw [← hv]; exact wp_nx (by rw [ac_of hd]; rfl)
theorem w_null (hd : decode (m_c M) pc = .ok (.aconst_null, 1)) : WP d M pc L S h Q = WP d M (pc + 1) L (.null :: S) h Q := by
  exact wp_nx (by rw [ac_of hd]; rfl)
theorem w_ldc {x : Nat} {v : Int32} (hd : decode (m_c M) pc = .ok (.ldc x, 2)) (hk : am_kT.lookup (m_o M, x) = some v) : WP d M pc L S h Q = WP d M (pc + 2) L (.int v :: S) h Q := by
  exact wp_nx (by rw [ac_of hd]; simp only [am_I, hk]; rfl)
theorem w_ldcs {x q : Nat} (hd : decode (m_c M) pc = .ok (.ldc x, 2)) (hk : am_kT.lookup (m_o M, x) = none) (hs : am_sT.lookup (m_o M, x) = some q) : WP d M pc L S h Q = WP d M (pc + 2) L (.ref q :: S) h Q := by
  exact wp_nx (by rw [ac_of hd]; simp only [am_I, hk, hs]; rfl)
theorem w_ldcw {x : Nat} {v : Int32} (hd : decode (m_c M) pc = .ok (.ldc_w x, 3)) (hk : am_kT.lookup (m_o M, x) = some v) : WP d M pc L S h Q = WP d M (pc + 3) L (.int v :: S) h Q := by
  exact wp_nx (by rw [ac_of hd]; simp only [am_I, hk]; rfl)
theorem w_ldc2 {x : Nat} {v : Int64} (hd : decode (m_c M) pc = .ok (.ldc2_w x, 3)) (hk : am_lT.lookup (m_o M, x) = some v) : WP d M pc L S h Q = WP d M (pc + 3) L (.long v :: S) h Q := by
  exact wp_nx (by rw [ac_of hd]; simp only [am_I, hk]; rfl)
theorem w_iload0 {x : Int32} (hd : decode (m_c M) pc = .ok (.iload 0, 2)) : WP d M pc (some (.int x) :: L) S h Q = WP d M (pc + 2) (some (.int x) :: L) (.int x :: S) h Q := by
  exact wp_nx (by rw [ac_of hd]; rfl)
theorem w_iload_n0 {x : Int32} (hd : decode (m_c M) pc = .ok (.iload_n 0, 1)) : WP d M pc (some (.int x) :: L) S h Q = WP d M (pc + 1) (some (.int x) :: L) (.int x :: S) h Q := by
  exact wp_nx (by rw [ac_of hd]; rfl)
theorem w_iload1 {a0 : Option Value} {x : Int32} (hd : decode (m_c M) pc = .ok (.iload 1, 2)) : WP d M pc (a0 :: some (.int x) :: L) S h Q = WP d M (pc + 2) (a0 :: some (.int x) :: L) (.int x :: S) h Q := by
  exact wp_nx (by rw [ac_of hd]; rfl)
theorem w_iload_n1 {a0 : Option Value} {x : Int32} (hd : decode (m_c M) pc = .ok (.iload_n 1, 1)) : WP d M pc (a0 :: some (.int x) :: L) S h Q = WP d M (pc + 1) (a0 :: some (.int x) :: L) (.int x :: S) h Q := by
  exact wp_nx (by rw [ac_of hd]; rfl)
theorem w_iload2 {a0 a1 : Option Value} {x : Int32} (hd : decode (m_c M) pc = .ok (.iload 2, 2)) : WP d M pc (a0 :: a1 :: some (.int x) :: L) S h Q = WP d M (pc + 2) (a0 :: a1 :: some (.int x) :: L) (.int x :: S) h Q := by
  exact wp_nx (by rw [ac_of hd]; rfl)
theorem w_iload_n2 {a0 a1 : Option Value} {x : Int32} (hd : decode (m_c M) pc = .ok (.iload_n 2, 1)) : WP d M pc (a0 :: a1 :: some (.int x) :: L) S h Q = WP d M (pc + 1) (a0 :: a1 :: some (.int x) :: L) (.int x :: S) h Q := by
  exact wp_nx (by rw [ac_of hd]; rfl)
theorem w_iload3 {a0 a1 a2 : Option Value} {x : Int32} (hd : decode (m_c M) pc = .ok (.iload 3, 2)) : WP d M pc (a0 :: a1 :: a2 :: some (.int x) :: L) S h Q = WP d M (pc + 2) (a0 :: a1 :: a2 :: some (.int x) :: L) (.int x :: S) h Q := by
  exact wp_nx (by rw [ac_of hd]; rfl)
theorem w_iload_n3 {a0 a1 a2 : Option Value} {x : Int32} (hd : decode (m_c M) pc = .ok (.iload_n 3, 1)) : WP d M pc (a0 :: a1 :: a2 :: some (.int x) :: L) S h Q = WP d M (pc + 1) (a0 :: a1 :: a2 :: some (.int x) :: L) (.int x :: S) h Q := by
  exact wp_nx (by rw [ac_of hd]; rfl)
theorem w_iload4 {a0 a1 a2 a3 : Option Value} {x : Int32} (hd : decode (m_c M) pc = .ok (.iload 4, 2)) : WP d M pc (a0 :: a1 :: a2 :: a3 :: some (.int x) :: L) S h Q = WP d M (pc + 2) (a0 :: a1 :: a2 :: a3 :: some (.int x) :: L) (.int x :: S) h Q := by
  exact wp_nx (by rw [ac_of hd]; rfl)
theorem w_iload5 {a0 a1 a2 a3 a4 : Option Value} {x : Int32} (hd : decode (m_c M) pc = .ok (.iload 5, 2)) : WP d M pc (a0 :: a1 :: a2 :: a3 :: a4 :: some (.int x) :: L) S h Q = WP d M (pc + 2) (a0 :: a1 :: a2 :: a3 :: a4 :: some (.int x) :: L) (.int x :: S) h Q := by
  exact wp_nx (by rw [ac_of hd]; rfl)
theorem w_iload6 {a0 a1 a2 a3 a4 a5 : Option Value} {x : Int32} (hd : decode (m_c M) pc = .ok (.iload 6, 2)) : WP d M pc (a0 :: a1 :: a2 :: a3 :: a4 :: a5 :: some (.int x) :: L) S h Q = WP d M (pc + 2) (a0 :: a1 :: a2 :: a3 :: a4 :: a5 :: some (.int x) :: L) (.int x :: S) h Q := by
  exact wp_nx (by rw [ac_of hd]; rfl)
theorem w_iload7 {a0 a1 a2 a3 a4 a5 a6 : Option Value} {x : Int32} (hd : decode (m_c M) pc = .ok (.iload 7, 2)) : WP d M pc (a0 :: a1 :: a2 :: a3 :: a4 :: a5 :: a6 :: some (.int x) :: L) S h Q = WP d M (pc + 2) (a0 :: a1 :: a2 :: a3 :: a4 :: a5 :: a6 :: some (.int x) :: L) (.int x :: S) h Q := by
  exact wp_nx (by rw [ac_of hd]; rfl)
theorem w_iload8 {a0 a1 a2 a3 a4 a5 a6 a7 : Option Value} {x : Int32} (hd : decode (m_c M) pc = .ok (.iload 8, 2)) : WP d M pc (a0 :: a1 :: a2 :: a3 :: a4 :: a5 :: a6 :: a7 :: some (.int x) :: L) S h Q = WP d M (pc + 2) (a0 :: a1 :: a2 :: a3 :: a4 :: a5 :: a6 :: a7 :: some (.int x) :: L) (.int x :: S) h Q := by
  exact wp_nx (by rw [ac_of hd]; rfl)
theorem w_iload9 {a0 a1 a2 a3 a4 a5 a6 a7 a8 : Option Value} {x : Int32} (hd : decode (m_c M) pc = .ok (.iload 9, 2)) : WP d M pc (a0 :: a1 :: a2 :: a3 :: a4 :: a5 :: a6 :: a7 :: a8 :: some (.int x) :: L) S h Q = WP d M (pc + 2) (a0 :: a1 :: a2 :: a3 :: a4 :: a5 :: a6 :: a7 :: a8 :: some (.int x) :: L) (.int x :: S) h Q := by
  exact wp_nx (by rw [ac_of hd]; rfl)
theorem w_iload10 {a0 a1 a2 a3 a4 a5 a6 a7 a8 a9 : Option Value} {x : Int32} (hd : decode (m_c M) pc = .ok (.iload 10, 2)) : WP d M pc (a0 :: a1 :: a2 :: a3 :: a4 :: a5 :: a6 :: a7 :: a8 :: a9 :: some (.int x) :: L) S h Q = WP d M (pc + 2) (a0 :: a1 :: a2 :: a3 :: a4 :: a5 :: a6 :: a7 :: a8 :: a9 :: some (.int x) :: L) (.int x :: S) h Q := by
  exact wp_nx (by rw [ac_of hd]; rfl)
theorem w_iload11 {a0 a1 a2 a3 a4 a5 a6 a7 a8 a9 a10 : Option Value} {x : Int32} (hd : decode (m_c M) pc = .ok (.iload 11, 2)) : WP d M pc (a0 :: a1 :: a2 :: a3 :: a4 :: a5 :: a6 :: a7 :: a8 :: a9 :: a10 :: some (.int x) :: L) S h Q = WP d M (pc + 2) (a0 :: a1 :: a2 :: a3 :: a4 :: a5 :: a6 :: a7 :: a8 :: a9 :: a10 :: some (.int x) :: L) (.int x :: S) h Q := by
  exact wp_nx (by rw [ac_of hd]; rfl)
theorem w_iload12 {a0 a1 a2 a3 a4 a5 a6 a7 a8 a9 a10 a11 : Option Value} {x : Int32} (hd : decode (m_c M) pc = .ok (.iload 12, 2)) : WP d M pc (a0 :: a1 :: a2 :: a3 :: a4 :: a5 :: a6 :: a7 :: a8 :: a9 :: a10 :: a11 :: some (.int x) :: L) S h Q = WP d M (pc + 2) (a0 :: a1 :: a2 :: a3 :: a4 :: a5 :: a6 :: a7 :: a8 :: a9 :: a10 :: a11 :: some (.int x) :: L) (.int x :: S) h Q := by
  exact wp_nx (by rw [ac_of hd]; rfl)
theorem w_iload13 {a0 a1 a2 a3 a4 a5 a6 a7 a8 a9 a10 a11 a12 : Option Value} {x : Int32} (hd : decode (m_c M) pc = .ok (.iload 13, 2)) : WP d M pc (a0 :: a1 :: a2 :: a3 :: a4 :: a5 :: a6 :: a7 :: a8 :: a9 :: a10 :: a11 :: a12 :: some (.int x) :: L) S h Q = WP d M (pc + 2) (a0 :: a1 :: a2 :: a3 :: a4 :: a5 :: a6 :: a7 :: a8 :: a9 :: a10 :: a11 :: a12 :: some (.int x) :: L) (.int x :: S) h Q := by
  exact wp_nx (by rw [ac_of hd]; rfl)
theorem w_iload14 {a0 a1 a2 a3 a4 a5 a6 a7 a8 a9 a10 a11 a12 a13 : Option Value} {x : Int32} (hd : decode (m_c M) pc = .ok (.iload 14, 2)) : WP d M pc (a0 :: a1 :: a2 :: a3 :: a4 :: a5 :: a6 :: a7 :: a8 :: a9 :: a10 :: a11 :: a12 :: a13 :: some (.int x) :: L) S h Q = WP d M (pc + 2) (a0 :: a1 :: a2 :: a3 :: a4 :: a5 :: a6 :: a7 :: a8 :: a9 :: a10 :: a11 :: a12 :: a13 :: some (.int x) :: L) (.int x :: S) h Q := by
  exact wp_nx (by rw [ac_of hd]; rfl)
theorem w_lload0 {x : Int64} (hd : decode (m_c M) pc = .ok (.lload 0, 2)) : WP d M pc (some (.long x) :: L) S h Q = WP d M (pc + 2) (some (.long x) :: L) (.long x :: S) h Q := by
  exact wp_nx (by rw [ac_of hd]; rfl)
theorem w_lload_n0 {x : Int64} (hd : decode (m_c M) pc = .ok (.lload_n 0, 1)) : WP d M pc (some (.long x) :: L) S h Q = WP d M (pc + 1) (some (.long x) :: L) (.long x :: S) h Q := by
  exact wp_nx (by rw [ac_of hd]; rfl)
theorem w_lload1 {a0 : Option Value} {x : Int64} (hd : decode (m_c M) pc = .ok (.lload 1, 2)) : WP d M pc (a0 :: some (.long x) :: L) S h Q = WP d M (pc + 2) (a0 :: some (.long x) :: L) (.long x :: S) h Q := by
  exact wp_nx (by rw [ac_of hd]; rfl)
theorem w_lload_n1 {a0 : Option Value} {x : Int64} (hd : decode (m_c M) pc = .ok (.lload_n 1, 1)) : WP d M pc (a0 :: some (.long x) :: L) S h Q = WP d M (pc + 1) (a0 :: some (.long x) :: L) (.long x :: S) h Q := by
  exact wp_nx (by rw [ac_of hd]; rfl)
theorem w_lload2 {a0 a1 : Option Value} {x : Int64} (hd : decode (m_c M) pc = .ok (.lload 2, 2)) : WP d M pc (a0 :: a1 :: some (.long x) :: L) S h Q = WP d M (pc + 2) (a0 :: a1 :: some (.long x) :: L) (.long x :: S) h Q := by
  exact wp_nx (by rw [ac_of hd]; rfl)
theorem w_lload_n2 {a0 a1 : Option Value} {x : Int64} (hd : decode (m_c M) pc = .ok (.lload_n 2, 1)) : WP d M pc (a0 :: a1 :: some (.long x) :: L) S h Q = WP d M (pc + 1) (a0 :: a1 :: some (.long x) :: L) (.long x :: S) h Q := by
  exact wp_nx (by rw [ac_of hd]; rfl)
theorem w_lload3 {a0 a1 a2 : Option Value} {x : Int64} (hd : decode (m_c M) pc = .ok (.lload 3, 2)) : WP d M pc (a0 :: a1 :: a2 :: some (.long x) :: L) S h Q = WP d M (pc + 2) (a0 :: a1 :: a2 :: some (.long x) :: L) (.long x :: S) h Q := by
  exact wp_nx (by rw [ac_of hd]; rfl)
theorem w_lload_n3 {a0 a1 a2 : Option Value} {x : Int64} (hd : decode (m_c M) pc = .ok (.lload_n 3, 1)) : WP d M pc (a0 :: a1 :: a2 :: some (.long x) :: L) S h Q = WP d M (pc + 1) (a0 :: a1 :: a2 :: some (.long x) :: L) (.long x :: S) h Q := by
  exact wp_nx (by rw [ac_of hd]; rfl)
theorem w_lload4 {a0 a1 a2 a3 : Option Value} {x : Int64} (hd : decode (m_c M) pc = .ok (.lload 4, 2)) : WP d M pc (a0 :: a1 :: a2 :: a3 :: some (.long x) :: L) S h Q = WP d M (pc + 2) (a0 :: a1 :: a2 :: a3 :: some (.long x) :: L) (.long x :: S) h Q := by
  exact wp_nx (by rw [ac_of hd]; rfl)
theorem w_lload5 {a0 a1 a2 a3 a4 : Option Value} {x : Int64} (hd : decode (m_c M) pc = .ok (.lload 5, 2)) : WP d M pc (a0 :: a1 :: a2 :: a3 :: a4 :: some (.long x) :: L) S h Q = WP d M (pc + 2) (a0 :: a1 :: a2 :: a3 :: a4 :: some (.long x) :: L) (.long x :: S) h Q := by
  exact wp_nx (by rw [ac_of hd]; rfl)
theorem w_lload6 {a0 a1 a2 a3 a4 a5 : Option Value} {x : Int64} (hd : decode (m_c M) pc = .ok (.lload 6, 2)) : WP d M pc (a0 :: a1 :: a2 :: a3 :: a4 :: a5 :: some (.long x) :: L) S h Q = WP d M (pc + 2) (a0 :: a1 :: a2 :: a3 :: a4 :: a5 :: some (.long x) :: L) (.long x :: S) h Q := by
  exact wp_nx (by rw [ac_of hd]; rfl)
theorem w_lload7 {a0 a1 a2 a3 a4 a5 a6 : Option Value} {x : Int64} (hd : decode (m_c M) pc = .ok (.lload 7, 2)) : WP d M pc (a0 :: a1 :: a2 :: a3 :: a4 :: a5 :: a6 :: some (.long x) :: L) S h Q = WP d M (pc + 2) (a0 :: a1 :: a2 :: a3 :: a4 :: a5 :: a6 :: some (.long x) :: L) (.long x :: S) h Q := by
  exact wp_nx (by rw [ac_of hd]; rfl)
theorem w_lload8 {a0 a1 a2 a3 a4 a5 a6 a7 : Option Value} {x : Int64} (hd : decode (m_c M) pc = .ok (.lload 8, 2)) : WP d M pc (a0 :: a1 :: a2 :: a3 :: a4 :: a5 :: a6 :: a7 :: some (.long x) :: L) S h Q = WP d M (pc + 2) (a0 :: a1 :: a2 :: a3 :: a4 :: a5 :: a6 :: a7 :: some (.long x) :: L) (.long x :: S) h Q := by
  exact wp_nx (by rw [ac_of hd]; rfl)
theorem w_lload9 {a0 a1 a2 a3 a4 a5 a6 a7 a8 : Option Value} {x : Int64} (hd : decode (m_c M) pc = .ok (.lload 9, 2)) : WP d M pc (a0 :: a1 :: a2 :: a3 :: a4 :: a5 :: a6 :: a7 :: a8 :: some (.long x) :: L) S h Q = WP d M (pc + 2) (a0 :: a1 :: a2 :: a3 :: a4 :: a5 :: a6 :: a7 :: a8 :: some (.long x) :: L) (.long x :: S) h Q := by
  exact wp_nx (by rw [ac_of hd]; rfl)
theorem w_lload10 {a0 a1 a2 a3 a4 a5 a6 a7 a8 a9 : Option Value} {x : Int64} (hd : decode (m_c M) pc = .ok (.lload 10, 2)) : WP d M pc (a0 :: a1 :: a2 :: a3 :: a4 :: a5 :: a6 :: a7 :: a8 :: a9 :: some (.long x) :: L) S h Q = WP d M (pc + 2) (a0 :: a1 :: a2 :: a3 :: a4 :: a5 :: a6 :: a7 :: a8 :: a9 :: some (.long x) :: L) (.long x :: S) h Q := by
  exact wp_nx (by rw [ac_of hd]; rfl)
theorem w_lload11 {a0 a1 a2 a3 a4 a5 a6 a7 a8 a9 a10 : Option Value} {x : Int64} (hd : decode (m_c M) pc = .ok (.lload 11, 2)) : WP d M pc (a0 :: a1 :: a2 :: a3 :: a4 :: a5 :: a6 :: a7 :: a8 :: a9 :: a10 :: some (.long x) :: L) S h Q = WP d M (pc + 2) (a0 :: a1 :: a2 :: a3 :: a4 :: a5 :: a6 :: a7 :: a8 :: a9 :: a10 :: some (.long x) :: L) (.long x :: S) h Q := by
  exact wp_nx (by rw [ac_of hd]; rfl)
theorem w_lload12 {a0 a1 a2 a3 a4 a5 a6 a7 a8 a9 a10 a11 : Option Value} {x : Int64} (hd : decode (m_c M) pc = .ok (.lload 12, 2)) : WP d M pc (a0 :: a1 :: a2 :: a3 :: a4 :: a5 :: a6 :: a7 :: a8 :: a9 :: a10 :: a11 :: some (.long x) :: L) S h Q = WP d M (pc + 2) (a0 :: a1 :: a2 :: a3 :: a4 :: a5 :: a6 :: a7 :: a8 :: a9 :: a10 :: a11 :: some (.long x) :: L) (.long x :: S) h Q := by
  exact wp_nx (by rw [ac_of hd]; rfl)
theorem w_lload13 {a0 a1 a2 a3 a4 a5 a6 a7 a8 a9 a10 a11 a12 : Option Value} {x : Int64} (hd : decode (m_c M) pc = .ok (.lload 13, 2)) : WP d M pc (a0 :: a1 :: a2 :: a3 :: a4 :: a5 :: a6 :: a7 :: a8 :: a9 :: a10 :: a11 :: a12 :: some (.long x) :: L) S h Q = WP d M (pc + 2) (a0 :: a1 :: a2 :: a3 :: a4 :: a5 :: a6 :: a7 :: a8 :: a9 :: a10 :: a11 :: a12 :: some (.long x) :: L) (.long x :: S) h Q := by
  exact wp_nx (by rw [ac_of hd]; rfl)
theorem w_lload14 {a0 a1 a2 a3 a4 a5 a6 a7 a8 a9 a10 a11 a12 a13 : Option Value} {x : Int64} (hd : decode (m_c M) pc = .ok (.lload 14, 2)) : WP d M pc (a0 :: a1 :: a2 :: a3 :: a4 :: a5 :: a6 :: a7 :: a8 :: a9 :: a10 :: a11 :: a12 :: a13 :: some (.long x) :: L) S h Q = WP d M (pc + 2) (a0 :: a1 :: a2 :: a3 :: a4 :: a5 :: a6 :: a7 :: a8 :: a9 :: a10 :: a11 :: a12 :: a13 :: some (.long x) :: L) (.long x :: S) h Q := by
  exact wp_nx (by rw [ac_of hd]; rfl)
theorem w_aload0 {x : Nat} (hd : decode (m_c M) pc = .ok (.aload 0, 2)) : WP d M pc (some (.ref x) :: L) S h Q = WP d M (pc + 2) (some (.ref x) :: L) (.ref x :: S) h Q := by
  exact wp_nx (by rw [ac_of hd]; rfl)
theorem w_aload_n0 {x : Nat} (hd : decode (m_c M) pc = .ok (.aload_n 0, 1)) : WP d M pc (some (.ref x) :: L) S h Q = WP d M (pc + 1) (some (.ref x) :: L) (.ref x :: S) h Q := by
  exact wp_nx (by rw [ac_of hd]; rfl)
theorem w_aload1 {a0 : Option Value} {x : Nat} (hd : decode (m_c M) pc = .ok (.aload 1, 2)) : WP d M pc (a0 :: some (.ref x) :: L) S h Q = WP d M (pc + 2) (a0 :: some (.ref x) :: L) (.ref x :: S) h Q := by
  exact wp_nx (by rw [ac_of hd]; rfl)
theorem w_aload_n1 {a0 : Option Value} {x : Nat} (hd : decode (m_c M) pc = .ok (.aload_n 1, 1)) : WP d M pc (a0 :: some (.ref x) :: L) S h Q = WP d M (pc + 1) (a0 :: some (.ref x) :: L) (.ref x :: S) h Q := by
  exact wp_nx (by rw [ac_of hd]; rfl)
theorem w_aload2 {a0 a1 : Option Value} {x : Nat} (hd : decode (m_c M) pc = .ok (.aload 2, 2)) : WP d M pc (a0 :: a1 :: some (.ref x) :: L) S h Q = WP d M (pc + 2) (a0 :: a1 :: some (.ref x) :: L) (.ref x :: S) h Q := by
  exact wp_nx (by rw [ac_of hd]; rfl)
theorem w_aload_n2 {a0 a1 : Option Value} {x : Nat} (hd : decode (m_c M) pc = .ok (.aload_n 2, 1)) : WP d M pc (a0 :: a1 :: some (.ref x) :: L) S h Q = WP d M (pc + 1) (a0 :: a1 :: some (.ref x) :: L) (.ref x :: S) h Q := by
  exact wp_nx (by rw [ac_of hd]; rfl)
theorem w_aload3 {a0 a1 a2 : Option Value} {x : Nat} (hd : decode (m_c M) pc = .ok (.aload 3, 2)) : WP d M pc (a0 :: a1 :: a2 :: some (.ref x) :: L) S h Q = WP d M (pc + 2) (a0 :: a1 :: a2 :: some (.ref x) :: L) (.ref x :: S) h Q := by
  exact wp_nx (by rw [ac_of hd]; rfl)
theorem w_aload_n3 {a0 a1 a2 : Option Value} {x : Nat} (hd : decode (m_c M) pc = .ok (.aload_n 3, 1)) : WP d M pc (a0 :: a1 :: a2 :: some (.ref x) :: L) S h Q = WP d M (pc + 1) (a0 :: a1 :: a2 :: some (.ref x) :: L) (.ref x :: S) h Q := by
  exact wp_nx (by rw [ac_of hd]; rfl)
theorem w_aload4 {a0 a1 a2 a3 : Option Value} {x : Nat} (hd : decode (m_c M) pc = .ok (.aload 4, 2)) : WP d M pc (a0 :: a1 :: a2 :: a3 :: some (.ref x) :: L) S h Q = WP d M (pc + 2) (a0 :: a1 :: a2 :: a3 :: some (.ref x) :: L) (.ref x :: S) h Q := by
  exact wp_nx (by rw [ac_of hd]; rfl)
theorem w_aload5 {a0 a1 a2 a3 a4 : Option Value} {x : Nat} (hd : decode (m_c M) pc = .ok (.aload 5, 2)) : WP d M pc (a0 :: a1 :: a2 :: a3 :: a4 :: some (.ref x) :: L) S h Q = WP d M (pc + 2) (a0 :: a1 :: a2 :: a3 :: a4 :: some (.ref x) :: L) (.ref x :: S) h Q := by
  exact wp_nx (by rw [ac_of hd]; rfl)
theorem w_aload6 {a0 a1 a2 a3 a4 a5 : Option Value} {x : Nat} (hd : decode (m_c M) pc = .ok (.aload 6, 2)) : WP d M pc (a0 :: a1 :: a2 :: a3 :: a4 :: a5 :: some (.ref x) :: L) S h Q = WP d M (pc + 2) (a0 :: a1 :: a2 :: a3 :: a4 :: a5 :: some (.ref x) :: L) (.ref x :: S) h Q := by
  exact wp_nx (by rw [ac_of hd]; rfl)
theorem w_aload7 {a0 a1 a2 a3 a4 a5 a6 : Option Value} {x : Nat} (hd : decode (m_c M) pc = .ok (.aload 7, 2)) : WP d M pc (a0 :: a1 :: a2 :: a3 :: a4 :: a5 :: a6 :: some (.ref x) :: L) S h Q = WP d M (pc + 2) (a0 :: a1 :: a2 :: a3 :: a4 :: a5 :: a6 :: some (.ref x) :: L) (.ref x :: S) h Q := by
  exact wp_nx (by rw [ac_of hd]; rfl)
theorem w_aload8 {a0 a1 a2 a3 a4 a5 a6 a7 : Option Value} {x : Nat} (hd : decode (m_c M) pc = .ok (.aload 8, 2)) : WP d M pc (a0 :: a1 :: a2 :: a3 :: a4 :: a5 :: a6 :: a7 :: some (.ref x) :: L) S h Q = WP d M (pc + 2) (a0 :: a1 :: a2 :: a3 :: a4 :: a5 :: a6 :: a7 :: some (.ref x) :: L) (.ref x :: S) h Q := by
  exact wp_nx (by rw [ac_of hd]; rfl)
theorem w_aload9 {a0 a1 a2 a3 a4 a5 a6 a7 a8 : Option Value} {x : Nat} (hd : decode (m_c M) pc = .ok (.aload 9, 2)) : WP d M pc (a0 :: a1 :: a2 :: a3 :: a4 :: a5 :: a6 :: a7 :: a8 :: some (.ref x) :: L) S h Q = WP d M (pc + 2) (a0 :: a1 :: a2 :: a3 :: a4 :: a5 :: a6 :: a7 :: a8 :: some (.ref x) :: L) (.ref x :: S) h Q := by
  exact wp_nx (by rw [ac_of hd]; rfl)
theorem w_aload10 {a0 a1 a2 a3 a4 a5 a6 a7 a8 a9 : Option Value} {x : Nat} (hd : decode (m_c M) pc = .ok (.aload 10, 2)) : WP d M pc (a0 :: a1 :: a2 :: a3 :: a4 :: a5 :: a6 :: a7 :: a8 :: a9 :: some (.ref x) :: L) S h Q = WP d M (pc + 2) (a0 :: a1 :: a2 :: a3 :: a4 :: a5 :: a6 :: a7 :: a8 :: a9 :: some (.ref x) :: L) (.ref x :: S) h Q := by
  exact wp_nx (by rw [ac_of hd]; rfl)
theorem w_aload11 {a0 a1 a2 a3 a4 a5 a6 a7 a8 a9 a10 : Option Value} {x : Nat} (hd : decode (m_c M) pc = .ok (.aload 11, 2)) : WP d M pc (a0 :: a1 :: a2 :: a3 :: a4 :: a5 :: a6 :: a7 :: a8 :: a9 :: a10 :: some (.ref x) :: L) S h Q = WP d M (pc + 2) (a0 :: a1 :: a2 :: a3 :: a4 :: a5 :: a6 :: a7 :: a8 :: a9 :: a10 :: some (.ref x) :: L) (.ref x :: S) h Q := by
  exact wp_nx (by rw [ac_of hd]; rfl)
theorem w_aload12 {a0 a1 a2 a3 a4 a5 a6 a7 a8 a9 a10 a11 : Option Value} {x : Nat} (hd : decode (m_c M) pc = .ok (.aload 12, 2)) : WP d M pc (a0 :: a1 :: a2 :: a3 :: a4 :: a5 :: a6 :: a7 :: a8 :: a9 :: a10 :: a11 :: some (.ref x) :: L) S h Q = WP d M (pc + 2) (a0 :: a1 :: a2 :: a3 :: a4 :: a5 :: a6 :: a7 :: a8 :: a9 :: a10 :: a11 :: some (.ref x) :: L) (.ref x :: S) h Q := by
  exact wp_nx (by rw [ac_of hd]; rfl)
theorem w_aload13 {a0 a1 a2 a3 a4 a5 a6 a7 a8 a9 a10 a11 a12 : Option Value} {x : Nat} (hd : decode (m_c M) pc = .ok (.aload 13, 2)) : WP d M pc (a0 :: a1 :: a2 :: a3 :: a4 :: a5 :: a6 :: a7 :: a8 :: a9 :: a10 :: a11 :: a12 :: some (.ref x) :: L) S h Q = WP d M (pc + 2) (a0 :: a1 :: a2 :: a3 :: a4 :: a5 :: a6 :: a7 :: a8 :: a9 :: a10 :: a11 :: a12 :: some (.ref x) :: L) (.ref x :: S) h Q := by
  exact wp_nx (by rw [ac_of hd]; rfl)
theorem w_aload14 {a0 a1 a2 a3 a4 a5 a6 a7 a8 a9 a10 a11 a12 a13 : Option Value} {x : Nat} (hd : decode (m_c M) pc = .ok (.aload 14, 2)) : WP d M pc (a0 :: a1 :: a2 :: a3 :: a4 :: a5 :: a6 :: a7 :: a8 :: a9 :: a10 :: a11 :: a12 :: a13 :: some (.ref x) :: L) S h Q = WP d M (pc + 2) (a0 :: a1 :: a2 :: a3 :: a4 :: a5 :: a6 :: a7 :: a8 :: a9 :: a10 :: a11 :: a12 :: a13 :: some (.ref x) :: L) (.ref x :: S) h Q := by
  exact wp_nx (by rw [ac_of hd]; rfl)
def kl (x : Option Value) : Option Value := match x with
  | some w => if w.category = 2 then none else some w
  | none => none
theorem kl_i {x : Int32} : kl (some (.int x)) = some (.int x) := rfl
theorem kl_a {x : Nat} : kl (some (.ref x)) = some (.ref x) := rfl
theorem kl_l {x : Int64} : kl (some (.long x)) = none := rfl
theorem kl_n : kl (none) = none := rfl
theorem am_k1 {a : Option Value} {L : am_L} : am_k (a :: L) 1 = kl a :: L := by
  unfold am_k am_ld kl; simp; cases a <;> simp; split <;> rfl
theorem s1_0 {a0 : Option Value} {v : Value} {L : am_L} : am_s1 (a0 :: L) 0 v = some v :: L := by
  rfl
theorem s2_0 {a0 : Option Value} {b : Option Value} {v : Value} {L : am_L} : am_s2 (a0 :: b :: L) 0 v = some v :: none :: L := by
  rfl
theorem s1_1 {a0 a1 : Option Value} {v : Value} {L : am_L} : am_s1 (a0 :: a1 :: L) 1 v = kl a0 :: some v :: L := by
  unfold am_s1 am_k am_ld kl; cases a0 <;> simp; split <;> rfl
theorem s2_1 {a0 a1 : Option Value} {b : Option Value} {v : Value} {L : am_L} : am_s2 (a0 :: a1 :: b :: L) 1 v = kl a0 :: some v :: none :: L := by
  unfold am_s2 am_k am_ld kl; cases a0 <;> simp; split <;> rfl
theorem s1_2 {a0 a1 a2 : Option Value} {v : Value} {L : am_L} : am_s1 (a0 :: a1 :: a2 :: L) 2 v = a0 :: kl a1 :: some v :: L := by
  unfold am_s1 am_k am_ld kl; cases a1 <;> simp; split <;> rfl
theorem s2_2 {a0 a1 a2 : Option Value} {b : Option Value} {v : Value} {L : am_L} : am_s2 (a0 :: a1 :: a2 :: b :: L) 2 v = a0 :: kl a1 :: some v :: none :: L := by
  unfold am_s2 am_k am_ld kl; cases a1 <;> simp; split <;> rfl
theorem s1_3 {a0 a1 a2 a3 : Option Value} {v : Value} {L : am_L} : am_s1 (a0 :: a1 :: a2 :: a3 :: L) 3 v = a0 :: a1 :: kl a2 :: some v :: L := by
  unfold am_s1 am_k am_ld kl; cases a2 <;> simp; split <;> rfl
theorem s2_3 {a0 a1 a2 a3 : Option Value} {b : Option Value} {v : Value} {L : am_L} : am_s2 (a0 :: a1 :: a2 :: a3 :: b :: L) 3 v = a0 :: a1 :: kl a2 :: some v :: none :: L := by
  unfold am_s2 am_k am_ld kl; cases a2 <;> simp; split <;> rfl
theorem s1_4 {a0 a1 a2 a3 a4 : Option Value} {v : Value} {L : am_L} : am_s1 (a0 :: a1 :: a2 :: a3 :: a4 :: L) 4 v = a0 :: a1 :: a2 :: kl a3 :: some v :: L := by
  unfold am_s1 am_k am_ld kl; cases a3 <;> simp; split <;> rfl
theorem s2_4 {a0 a1 a2 a3 a4 : Option Value} {b : Option Value} {v : Value} {L : am_L} : am_s2 (a0 :: a1 :: a2 :: a3 :: a4 :: b :: L) 4 v = a0 :: a1 :: a2 :: kl a3 :: some v :: none :: L := by
  unfold am_s2 am_k am_ld kl; cases a3 <;> simp; split <;> rfl
theorem s1_5 {a0 a1 a2 a3 a4 a5 : Option Value} {v : Value} {L : am_L} : am_s1 (a0 :: a1 :: a2 :: a3 :: a4 :: a5 :: L) 5 v = a0 :: a1 :: a2 :: a3 :: kl a4 :: some v :: L := by
  unfold am_s1 am_k am_ld kl; cases a4 <;> simp; split <;> rfl
theorem s2_5 {a0 a1 a2 a3 a4 a5 : Option Value} {b : Option Value} {v : Value} {L : am_L} : am_s2 (a0 :: a1 :: a2 :: a3 :: a4 :: a5 :: b :: L) 5 v = a0 :: a1 :: a2 :: a3 :: kl a4 :: some v :: none :: L := by
  unfold am_s2 am_k am_ld kl; cases a4 <;> simp; split <;> rfl
theorem s1_6 {a0 a1 a2 a3 a4 a5 a6 : Option Value} {v : Value} {L : am_L} : am_s1 (a0 :: a1 :: a2 :: a3 :: a4 :: a5 :: a6 :: L) 6 v = a0 :: a1 :: a2 :: a3 :: a4 :: kl a5 :: some v :: L := by
  unfold am_s1 am_k am_ld kl; cases a5 <;> simp; split <;> rfl
theorem s2_6 {a0 a1 a2 a3 a4 a5 a6 : Option Value} {b : Option Value} {v : Value} {L : am_L} : am_s2 (a0 :: a1 :: a2 :: a3 :: a4 :: a5 :: a6 :: b :: L) 6 v = a0 :: a1 :: a2 :: a3 :: a4 :: kl a5 :: some v :: none :: L := by
  unfold am_s2 am_k am_ld kl; cases a5 <;> simp; split <;> rfl
theorem s1_7 {a0 a1 a2 a3 a4 a5 a6 a7 : Option Value} {v : Value} {L : am_L} : am_s1 (a0 :: a1 :: a2 :: a3 :: a4 :: a5 :: a6 :: a7 :: L) 7 v = a0 :: a1 :: a2 :: a3 :: a4 :: a5 :: kl a6 :: some v :: L := by
  unfold am_s1 am_k am_ld kl; cases a6 <;> simp; split <;> rfl
theorem s2_7 {a0 a1 a2 a3 a4 a5 a6 a7 : Option Value} {b : Option Value} {v : Value} {L : am_L} : am_s2 (a0 :: a1 :: a2 :: a3 :: a4 :: a5 :: a6 :: a7 :: b :: L) 7 v = a0 :: a1 :: a2 :: a3 :: a4 :: a5 :: kl a6 :: some v :: none :: L := by
  unfold am_s2 am_k am_ld kl; cases a6 <;> simp; split <;> rfl
theorem s1_8 {a0 a1 a2 a3 a4 a5 a6 a7 a8 : Option Value} {v : Value} {L : am_L} : am_s1 (a0 :: a1 :: a2 :: a3 :: a4 :: a5 :: a6 :: a7 :: a8 :: L) 8 v = a0 :: a1 :: a2 :: a3 :: a4 :: a5 :: a6 :: kl a7 :: some v :: L := by
  unfold am_s1 am_k am_ld kl; cases a7 <;> simp; split <;> rfl
theorem s2_8 {a0 a1 a2 a3 a4 a5 a6 a7 a8 : Option Value} {b : Option Value} {v : Value} {L : am_L} : am_s2 (a0 :: a1 :: a2 :: a3 :: a4 :: a5 :: a6 :: a7 :: a8 :: b :: L) 8 v = a0 :: a1 :: a2 :: a3 :: a4 :: a5 :: a6 :: kl a7 :: some v :: none :: L := by
  unfold am_s2 am_k am_ld kl; cases a7 <;> simp; split <;> rfl
theorem s1_9 {a0 a1 a2 a3 a4 a5 a6 a7 a8 a9 : Option Value} {v : Value} {L : am_L} : am_s1 (a0 :: a1 :: a2 :: a3 :: a4 :: a5 :: a6 :: a7 :: a8 :: a9 :: L) 9 v = a0 :: a1 :: a2 :: a3 :: a4 :: a5 :: a6 :: a7 :: kl a8 :: some v :: L := by
  unfold am_s1 am_k am_ld kl; cases a8 <;> simp; split <;> rfl
theorem s2_9 {a0 a1 a2 a3 a4 a5 a6 a7 a8 a9 : Option Value} {b : Option Value} {v : Value} {L : am_L} : am_s2 (a0 :: a1 :: a2 :: a3 :: a4 :: a5 :: a6 :: a7 :: a8 :: a9 :: b :: L) 9 v = a0 :: a1 :: a2 :: a3 :: a4 :: a5 :: a6 :: a7 :: kl a8 :: some v :: none :: L := by
  unfold am_s2 am_k am_ld kl; cases a8 <;> simp; split <;> rfl
theorem s1_10 {a0 a1 a2 a3 a4 a5 a6 a7 a8 a9 a10 : Option Value} {v : Value} {L : am_L} : am_s1 (a0 :: a1 :: a2 :: a3 :: a4 :: a5 :: a6 :: a7 :: a8 :: a9 :: a10 :: L) 10 v = a0 :: a1 :: a2 :: a3 :: a4 :: a5 :: a6 :: a7 :: a8 :: kl a9 :: some v :: L := by
  unfold am_s1 am_k am_ld kl; cases a9 <;> simp; split <;> rfl
theorem s2_10 {a0 a1 a2 a3 a4 a5 a6 a7 a8 a9 a10 : Option Value} {b : Option Value} {v : Value} {L : am_L} : am_s2 (a0 :: a1 :: a2 :: a3 :: a4 :: a5 :: a6 :: a7 :: a8 :: a9 :: a10 :: b :: L) 10 v = a0 :: a1 :: a2 :: a3 :: a4 :: a5 :: a6 :: a7 :: a8 :: kl a9 :: some v :: none :: L := by
  unfold am_s2 am_k am_ld kl; cases a9 <;> simp; split <;> rfl
theorem s1_11 {a0 a1 a2 a3 a4 a5 a6 a7 a8 a9 a10 a11 : Option Value} {v : Value} {L : am_L} : am_s1 (a0 :: a1 :: a2 :: a3 :: a4 :: a5 :: a6 :: a7 :: a8 :: a9 :: a10 :: a11 :: L) 11 v = a0 :: a1 :: a2 :: a3 :: a4 :: a5 :: a6 :: a7 :: a8 :: a9 :: kl a10 :: some v :: L := by
  unfold am_s1 am_k am_ld kl; cases a10 <;> simp; split <;> rfl
theorem s2_11 {a0 a1 a2 a3 a4 a5 a6 a7 a8 a9 a10 a11 : Option Value} {b : Option Value} {v : Value} {L : am_L} : am_s2 (a0 :: a1 :: a2 :: a3 :: a4 :: a5 :: a6 :: a7 :: a8 :: a9 :: a10 :: a11 :: b :: L) 11 v = a0 :: a1 :: a2 :: a3 :: a4 :: a5 :: a6 :: a7 :: a8 :: a9 :: kl a10 :: some v :: none :: L := by
  unfold am_s2 am_k am_ld kl; cases a10 <;> simp; split <;> rfl
theorem s1_12 {a0 a1 a2 a3 a4 a5 a6 a7 a8 a9 a10 a11 a12 : Option Value} {v : Value} {L : am_L} : am_s1 (a0 :: a1 :: a2 :: a3 :: a4 :: a5 :: a6 :: a7 :: a8 :: a9 :: a10 :: a11 :: a12 :: L) 12 v = a0 :: a1 :: a2 :: a3 :: a4 :: a5 :: a6 :: a7 :: a8 :: a9 :: a10 :: kl a11 :: some v :: L := by
  unfold am_s1 am_k am_ld kl; cases a11 <;> simp; split <;> rfl
theorem s2_12 {a0 a1 a2 a3 a4 a5 a6 a7 a8 a9 a10 a11 a12 : Option Value} {b : Option Value} {v : Value} {L : am_L} : am_s2 (a0 :: a1 :: a2 :: a3 :: a4 :: a5 :: a6 :: a7 :: a8 :: a9 :: a10 :: a11 :: a12 :: b :: L) 12 v = a0 :: a1 :: a2 :: a3 :: a4 :: a5 :: a6 :: a7 :: a8 :: a9 :: a10 :: kl a11 :: some v :: none :: L := by
  unfold am_s2 am_k am_ld kl; cases a11 <;> simp; split <;> rfl
theorem s1_13 {a0 a1 a2 a3 a4 a5 a6 a7 a8 a9 a10 a11 a12 a13 : Option Value} {v : Value} {L : am_L} : am_s1 (a0 :: a1 :: a2 :: a3 :: a4 :: a5 :: a6 :: a7 :: a8 :: a9 :: a10 :: a11 :: a12 :: a13 :: L) 13 v = a0 :: a1 :: a2 :: a3 :: a4 :: a5 :: a6 :: a7 :: a8 :: a9 :: a10 :: a11 :: kl a12 :: some v :: L := by
  unfold am_s1 am_k am_ld kl; cases a12 <;> simp; split <;> rfl
theorem s2_13 {a0 a1 a2 a3 a4 a5 a6 a7 a8 a9 a10 a11 a12 a13 : Option Value} {b : Option Value} {v : Value} {L : am_L} : am_s2 (a0 :: a1 :: a2 :: a3 :: a4 :: a5 :: a6 :: a7 :: a8 :: a9 :: a10 :: a11 :: a12 :: a13 :: b :: L) 13 v = a0 :: a1 :: a2 :: a3 :: a4 :: a5 :: a6 :: a7 :: a8 :: a9 :: a10 :: a11 :: kl a12 :: some v :: none :: L := by
  unfold am_s2 am_k am_ld kl; cases a12 <;> simp; split <;> rfl
theorem s1_14 {a0 a1 a2 a3 a4 a5 a6 a7 a8 a9 a10 a11 a12 a13 a14 : Option Value} {v : Value} {L : am_L} : am_s1 (a0 :: a1 :: a2 :: a3 :: a4 :: a5 :: a6 :: a7 :: a8 :: a9 :: a10 :: a11 :: a12 :: a13 :: a14 :: L) 14 v = a0 :: a1 :: a2 :: a3 :: a4 :: a5 :: a6 :: a7 :: a8 :: a9 :: a10 :: a11 :: a12 :: kl a13 :: some v :: L := by
  unfold am_s1 am_k am_ld kl; cases a13 <;> simp; split <;> rfl
theorem s2_14 {a0 a1 a2 a3 a4 a5 a6 a7 a8 a9 a10 a11 a12 a13 a14 : Option Value} {b : Option Value} {v : Value} {L : am_L} : am_s2 (a0 :: a1 :: a2 :: a3 :: a4 :: a5 :: a6 :: a7 :: a8 :: a9 :: a10 :: a11 :: a12 :: a13 :: a14 :: b :: L) 14 v = a0 :: a1 :: a2 :: a3 :: a4 :: a5 :: a6 :: a7 :: a8 :: a9 :: a10 :: a11 :: a12 :: kl a13 :: some v :: none :: L := by
  unfold am_s2 am_k am_ld kl; cases a13 <;> simp; split <;> rfl
theorem w_istore {i : Nat} {x : Int32} (hd : decode (m_c M) pc = .ok (.istore i, 2)) (hi : i < m_l M) : WP d M pc L (.int x :: S) h Q = WP d M (pc + 2) (am_s1 L i (.int x)) S h Q := by
  exact wp_nx (by rw [ac_of hd]; simp only [am_I, am_si, ck, hi, if_true]; rfl)
theorem w_istore_n {k : Fin 4} {i : Nat} {x : Int32} (hd : decode (m_c M) pc = .ok (.istore_n k, 1)) (he : (k : Nat) = i) (hi : i < m_l M) : WP d M pc L (.int x :: S) h Q = WP d M (pc + 1) (am_s1 L i (.int x)) S h Q := by
  subst he; exact wp_nx (by rw [ac_of hd]; simp only [am_I, am_si, ck, hi, if_true]; rfl)
theorem w_lstore {i : Nat} {x : Int64} (hd : decode (m_c M) pc = .ok (.lstore i, 2)) (hi : i + 1 < m_l M) : WP d M pc L (.long x :: S) h Q = WP d M (pc + 2) (am_s2 L i (.long x)) S h Q := by
  exact wp_nx (by rw [ac_of hd]; simp only [am_I, am_sl, ck, hi, if_true]; rfl)
theorem w_lstore_n {k : Fin 4} {i : Nat} {x : Int64} (hd : decode (m_c M) pc = .ok (.lstore_n k, 1)) (he : (k : Nat) = i) (hi : i + 1 < m_l M) : WP d M pc L (.long x :: S) h Q = WP d M (pc + 1) (am_s2 L i (.long x)) S h Q := by
  subst he; exact wp_nx (by rw [ac_of hd]; simp only [am_I, am_sl, ck, hi, if_true]; rfl)
theorem w_astore {i : Nat} {x : Nat} (hd : decode (m_c M) pc = .ok (.astore i, 2)) (hi : i < m_l M) : WP d M pc L (.ref x :: S) h Q = WP d M (pc + 2) (am_s1 L i (.ref x)) S h Q := by
  exact wp_nx (by rw [ac_of hd]; simp only [am_I, am_sa, ck, hi, if_true]; rfl)
theorem w_astore_n {k : Fin 4} {i : Nat} {x : Nat} (hd : decode (m_c M) pc = .ok (.astore_n k, 1)) (he : (k : Nat) = i) (hi : i < m_l M) : WP d M pc L (.ref x :: S) h Q = WP d M (pc + 1) (am_s1 L i (.ref x)) S h Q := by
  subst he; exact wp_nx (by rw [ac_of hd]; simp only [am_I, am_sa, ck, hi, if_true]; rfl)
theorem w_iinc0 {x v : Int32} {k : Int} (hd : decode (m_c M) pc = .ok (.iinc 0 k, 3)) (hv : Int32.ofInt k = v) (hi : 0 < m_l M) : WP d M pc (some (.int x) :: L) S h Q = WP d M (pc + 3) (am_s1 (some (.int x) :: L) 0 (.int (x + v))) S h Q := by
  subst hv; exact wp_nx (by rw [ac_of hd]; simp only [am_I, am_ld, ck]; simp [hi]; rfl)
theorem w_iinc1 {a0 : Option Value} {x v : Int32} {k : Int} (hd : decode (m_c M) pc = .ok (.iinc 1 k, 3)) (hv : Int32.ofInt k = v) (hi : 1 < m_l M) : WP d M pc (a0 :: some (.int x) :: L) S h Q = WP d M (pc + 3) (am_s1 (a0 :: some (.int x) :: L) 1 (.int (x + v))) S h Q := by
  subst hv; exact wp_nx (by rw [ac_of hd]; simp only [am_I, am_ld, ck]; simp [hi]; rfl)
theorem w_iinc2 {a0 a1 : Option Value} {x v : Int32} {k : Int} (hd : decode (m_c M) pc = .ok (.iinc 2 k, 3)) (hv : Int32.ofInt k = v) (hi : 2 < m_l M) : WP d M pc (a0 :: a1 :: some (.int x) :: L) S h Q = WP d M (pc + 3) (am_s1 (a0 :: a1 :: some (.int x) :: L) 2 (.int (x + v))) S h Q := by
  subst hv; exact wp_nx (by rw [ac_of hd]; simp only [am_I, am_ld, ck]; simp [hi]; rfl)
theorem w_iinc3 {a0 a1 a2 : Option Value} {x v : Int32} {k : Int} (hd : decode (m_c M) pc = .ok (.iinc 3 k, 3)) (hv : Int32.ofInt k = v) (hi : 3 < m_l M) : WP d M pc (a0 :: a1 :: a2 :: some (.int x) :: L) S h Q = WP d M (pc + 3) (am_s1 (a0 :: a1 :: a2 :: some (.int x) :: L) 3 (.int (x + v))) S h Q := by
  subst hv; exact wp_nx (by rw [ac_of hd]; simp only [am_I, am_ld, ck]; simp [hi]; rfl)
theorem w_iinc4 {a0 a1 a2 a3 : Option Value} {x v : Int32} {k : Int} (hd : decode (m_c M) pc = .ok (.iinc 4 k, 3)) (hv : Int32.ofInt k = v) (hi : 4 < m_l M) : WP d M pc (a0 :: a1 :: a2 :: a3 :: some (.int x) :: L) S h Q = WP d M (pc + 3) (am_s1 (a0 :: a1 :: a2 :: a3 :: some (.int x) :: L) 4 (.int (x + v))) S h Q := by
  subst hv; exact wp_nx (by rw [ac_of hd]; simp only [am_I, am_ld, ck]; simp [hi]; rfl)
theorem w_iinc5 {a0 a1 a2 a3 a4 : Option Value} {x v : Int32} {k : Int} (hd : decode (m_c M) pc = .ok (.iinc 5 k, 3)) (hv : Int32.ofInt k = v) (hi : 5 < m_l M) : WP d M pc (a0 :: a1 :: a2 :: a3 :: a4 :: some (.int x) :: L) S h Q = WP d M (pc + 3) (am_s1 (a0 :: a1 :: a2 :: a3 :: a4 :: some (.int x) :: L) 5 (.int (x + v))) S h Q := by
  subst hv; exact wp_nx (by rw [ac_of hd]; simp only [am_I, am_ld, ck]; simp [hi]; rfl)
theorem w_iinc6 {a0 a1 a2 a3 a4 a5 : Option Value} {x v : Int32} {k : Int} (hd : decode (m_c M) pc = .ok (.iinc 6 k, 3)) (hv : Int32.ofInt k = v) (hi : 6 < m_l M) : WP d M pc (a0 :: a1 :: a2 :: a3 :: a4 :: a5 :: some (.int x) :: L) S h Q = WP d M (pc + 3) (am_s1 (a0 :: a1 :: a2 :: a3 :: a4 :: a5 :: some (.int x) :: L) 6 (.int (x + v))) S h Q := by
  subst hv; exact wp_nx (by rw [ac_of hd]; simp only [am_I, am_ld, ck]; simp [hi]; rfl)
theorem w_iinc7 {a0 a1 a2 a3 a4 a5 a6 : Option Value} {x v : Int32} {k : Int} (hd : decode (m_c M) pc = .ok (.iinc 7 k, 3)) (hv : Int32.ofInt k = v) (hi : 7 < m_l M) : WP d M pc (a0 :: a1 :: a2 :: a3 :: a4 :: a5 :: a6 :: some (.int x) :: L) S h Q = WP d M (pc + 3) (am_s1 (a0 :: a1 :: a2 :: a3 :: a4 :: a5 :: a6 :: some (.int x) :: L) 7 (.int (x + v))) S h Q := by
  subst hv; exact wp_nx (by rw [ac_of hd]; simp only [am_I, am_ld, ck]; simp [hi]; rfl)
theorem w_iinc8 {a0 a1 a2 a3 a4 a5 a6 a7 : Option Value} {x v : Int32} {k : Int} (hd : decode (m_c M) pc = .ok (.iinc 8 k, 3)) (hv : Int32.ofInt k = v) (hi : 8 < m_l M) : WP d M pc (a0 :: a1 :: a2 :: a3 :: a4 :: a5 :: a6 :: a7 :: some (.int x) :: L) S h Q = WP d M (pc + 3) (am_s1 (a0 :: a1 :: a2 :: a3 :: a4 :: a5 :: a6 :: a7 :: some (.int x) :: L) 8 (.int (x + v))) S h Q := by
  subst hv; exact wp_nx (by rw [ac_of hd]; simp only [am_I, am_ld, ck]; simp [hi]; rfl)
theorem w_iinc9 {a0 a1 a2 a3 a4 a5 a6 a7 a8 : Option Value} {x v : Int32} {k : Int} (hd : decode (m_c M) pc = .ok (.iinc 9 k, 3)) (hv : Int32.ofInt k = v) (hi : 9 < m_l M) : WP d M pc (a0 :: a1 :: a2 :: a3 :: a4 :: a5 :: a6 :: a7 :: a8 :: some (.int x) :: L) S h Q = WP d M (pc + 3) (am_s1 (a0 :: a1 :: a2 :: a3 :: a4 :: a5 :: a6 :: a7 :: a8 :: some (.int x) :: L) 9 (.int (x + v))) S h Q := by
  subst hv; exact wp_nx (by rw [ac_of hd]; simp only [am_I, am_ld, ck]; simp [hi]; rfl)
theorem w_iinc10 {a0 a1 a2 a3 a4 a5 a6 a7 a8 a9 : Option Value} {x v : Int32} {k : Int} (hd : decode (m_c M) pc = .ok (.iinc 10 k, 3)) (hv : Int32.ofInt k = v) (hi : 10 < m_l M) : WP d M pc (a0 :: a1 :: a2 :: a3 :: a4 :: a5 :: a6 :: a7 :: a8 :: a9 :: some (.int x) :: L) S h Q = WP d M (pc + 3) (am_s1 (a0 :: a1 :: a2 :: a3 :: a4 :: a5 :: a6 :: a7 :: a8 :: a9 :: some (.int x) :: L) 10 (.int (x + v))) S h Q := by
  subst hv; exact wp_nx (by rw [ac_of hd]; simp only [am_I, am_ld, ck]; simp [hi]; rfl)
theorem w_iinc11 {a0 a1 a2 a3 a4 a5 a6 a7 a8 a9 a10 : Option Value} {x v : Int32} {k : Int} (hd : decode (m_c M) pc = .ok (.iinc 11 k, 3)) (hv : Int32.ofInt k = v) (hi : 11 < m_l M) : WP d M pc (a0 :: a1 :: a2 :: a3 :: a4 :: a5 :: a6 :: a7 :: a8 :: a9 :: a10 :: some (.int x) :: L) S h Q = WP d M (pc + 3) (am_s1 (a0 :: a1 :: a2 :: a3 :: a4 :: a5 :: a6 :: a7 :: a8 :: a9 :: a10 :: some (.int x) :: L) 11 (.int (x + v))) S h Q := by
  subst hv; exact wp_nx (by rw [ac_of hd]; simp only [am_I, am_ld, ck]; simp [hi]; rfl)
theorem w_iinc12 {a0 a1 a2 a3 a4 a5 a6 a7 a8 a9 a10 a11 : Option Value} {x v : Int32} {k : Int} (hd : decode (m_c M) pc = .ok (.iinc 12 k, 3)) (hv : Int32.ofInt k = v) (hi : 12 < m_l M) : WP d M pc (a0 :: a1 :: a2 :: a3 :: a4 :: a5 :: a6 :: a7 :: a8 :: a9 :: a10 :: a11 :: some (.int x) :: L) S h Q = WP d M (pc + 3) (am_s1 (a0 :: a1 :: a2 :: a3 :: a4 :: a5 :: a6 :: a7 :: a8 :: a9 :: a10 :: a11 :: some (.int x) :: L) 12 (.int (x + v))) S h Q := by
  subst hv; exact wp_nx (by rw [ac_of hd]; simp only [am_I, am_ld, ck]; simp [hi]; rfl)
theorem w_iinc13 {a0 a1 a2 a3 a4 a5 a6 a7 a8 a9 a10 a11 a12 : Option Value} {x v : Int32} {k : Int} (hd : decode (m_c M) pc = .ok (.iinc 13 k, 3)) (hv : Int32.ofInt k = v) (hi : 13 < m_l M) : WP d M pc (a0 :: a1 :: a2 :: a3 :: a4 :: a5 :: a6 :: a7 :: a8 :: a9 :: a10 :: a11 :: a12 :: some (.int x) :: L) S h Q = WP d M (pc + 3) (am_s1 (a0 :: a1 :: a2 :: a3 :: a4 :: a5 :: a6 :: a7 :: a8 :: a9 :: a10 :: a11 :: a12 :: some (.int x) :: L) 13 (.int (x + v))) S h Q := by
  subst hv; exact wp_nx (by rw [ac_of hd]; simp only [am_I, am_ld, ck]; simp [hi]; rfl)
theorem w_iinc14 {a0 a1 a2 a3 a4 a5 a6 a7 a8 a9 a10 a11 a12 a13 : Option Value} {x v : Int32} {k : Int} (hd : decode (m_c M) pc = .ok (.iinc 14 k, 3)) (hv : Int32.ofInt k = v) (hi : 14 < m_l M) : WP d M pc (a0 :: a1 :: a2 :: a3 :: a4 :: a5 :: a6 :: a7 :: a8 :: a9 :: a10 :: a11 :: a12 :: a13 :: some (.int x) :: L) S h Q = WP d M (pc + 3) (am_s1 (a0 :: a1 :: a2 :: a3 :: a4 :: a5 :: a6 :: a7 :: a8 :: a9 :: a10 :: a11 :: a12 :: a13 :: some (.int x) :: L) 14 (.int (x + v))) S h Q := by
  subst hv; exact wp_nx (by rw [ac_of hd]; simp only [am_I, am_ld, ck]; simp [hi]; rfl)
theorem w_iadd {x y : Int32} (hd : decode (m_c M) pc = .ok (.iadd, 1)) : WP d M pc L (.int y :: .int x :: S) h Q = WP d M (pc + 1) L (.int (x + y) :: S) h Q := by
  exact wp_nx (by rw [ac_of hd]; rfl)
theorem w_isub {x y : Int32} (hd : decode (m_c M) pc = .ok (.isub, 1)) : WP d M pc L (.int y :: .int x :: S) h Q = WP d M (pc + 1) L (.int (x - y) :: S) h Q := by
  exact wp_nx (by rw [ac_of hd]; rfl)
theorem w_imul {x y : Int32} (hd : decode (m_c M) pc = .ok (.imul, 1)) : WP d M pc L (.int y :: .int x :: S) h Q = WP d M (pc + 1) L (.int (x * y) :: S) h Q := by
  exact wp_nx (by rw [ac_of hd]; rfl)
theorem w_iand {x y : Int32} (hd : decode (m_c M) pc = .ok (.iand, 1)) : WP d M pc L (.int y :: .int x :: S) h Q = WP d M (pc + 1) L (.int (x &&& y) :: S) h Q := by
  exact wp_nx (by rw [ac_of hd]; rfl)
theorem w_ior {x y : Int32} (hd : decode (m_c M) pc = .ok (.ior, 1)) : WP d M pc L (.int y :: .int x :: S) h Q = WP d M (pc + 1) L (.int (x ||| y) :: S) h Q := by
  exact wp_nx (by rw [ac_of hd]; rfl)
theorem w_ixor {x y : Int32} (hd : decode (m_c M) pc = .ok (.ixor, 1)) : WP d M pc L (.int y :: .int x :: S) h Q = WP d M (pc + 1) L (.int (x ^^^ y) :: S) h Q := by
  exact wp_nx (by rw [ac_of hd]; rfl)
theorem w_ishl {x y : Int32} (hd : decode (m_c M) pc = .ok (.ishl, 1)) : WP d M pc L (.int y :: .int x :: S) h Q = WP d M (pc + 1) L (.int (x <<< (y &&& 31)) :: S) h Q := by
  exact wp_nx (by rw [ac_of hd]; rfl)
theorem w_ishr {x y : Int32} (hd : decode (m_c M) pc = .ok (.ishr, 1)) : WP d M pc L (.int y :: .int x :: S) h Q = WP d M (pc + 1) L (.int (x >>> (y &&& 31)) :: S) h Q := by
  exact wp_nx (by rw [ac_of hd]; rfl)
theorem w_iushr {x y : Int32} (hd : decode (m_c M) pc = .ok (.iushr, 1)) : WP d M pc L (.int y :: .int x :: S) h Q = WP d M (pc + 1) L (.int ((x.toUInt32 >>> (y.toUInt32 &&& Int32.toUInt32 31)).toInt32) :: S) h Q := by
  exact wp_nx (by rw [ac_of hd]; rfl)
theorem w_ladd {x y : Int64} (hd : decode (m_c M) pc = .ok (.ladd, 1)) : WP d M pc L (.long y :: .long x :: S) h Q = WP d M (pc + 1) L (.long (x + y) :: S) h Q := by
  exact wp_nx (by rw [ac_of hd]; rfl)
theorem w_lsub {x y : Int64} (hd : decode (m_c M) pc = .ok (.lsub, 1)) : WP d M pc L (.long y :: .long x :: S) h Q = WP d M (pc + 1) L (.long (x - y) :: S) h Q := by
  exact wp_nx (by rw [ac_of hd]; rfl)
theorem w_lmul {x y : Int64} (hd : decode (m_c M) pc = .ok (.lmul, 1)) : WP d M pc L (.long y :: .long x :: S) h Q = WP d M (pc + 1) L (.long (x * y) :: S) h Q := by
  exact wp_nx (by rw [ac_of hd]; rfl)
theorem w_land {x y : Int64} (hd : decode (m_c M) pc = .ok (.land, 1)) : WP d M pc L (.long y :: .long x :: S) h Q = WP d M (pc + 1) L (.long (x &&& y) :: S) h Q := by
  exact wp_nx (by rw [ac_of hd]; rfl)
theorem w_lor {x y : Int64} (hd : decode (m_c M) pc = .ok (.lor, 1)) : WP d M pc L (.long y :: .long x :: S) h Q = WP d M (pc + 1) L (.long (x ||| y) :: S) h Q := by
  exact wp_nx (by rw [ac_of hd]; rfl)
theorem w_lushr {x : Int64} {y : Int32} (hd : decode (m_c M) pc = .ok (.lushr, 1)) : WP d M pc L (.int y :: .long x :: S) h Q = WP d M (pc + 1) L (.long ((x.toUInt64 >>> (y.toInt64.toUInt64 &&& Int64.toUInt64 63)).toInt64) :: S) h Q := by
  exact wp_nx (by rw [ac_of hd]; rfl)
theorem w_lshl {x : Int64} {y : Int32} (hd : decode (m_c M) pc = .ok (.lshl, 1)) : WP d M pc L (.int y :: .long x :: S) h Q = WP d M (pc + 1) L (.long (x <<< (y.toInt64 &&& 63)) :: S) h Q := by
  exact wp_nx (by rw [ac_of hd]; rfl)
theorem w_ineg {x : Int32} (hd : decode (m_c M) pc = .ok (.ineg, 1)) : WP d M pc L (.int x :: S) h Q = WP d M (pc + 1) L (.int (-x) :: S) h Q := by
  exact wp_nx (by rw [ac_of hd]; rfl)
theorem w_i2l {x : Int32} (hd : decode (m_c M) pc = .ok (.i2l, 1)) : WP d M pc L (.int x :: S) h Q = WP d M (pc + 1) L (.long x.toInt64 :: S) h Q := by
  exact wp_nx (by rw [ac_of hd]; rfl)
theorem w_i2b {x : Int32} (hd : decode (m_c M) pc = .ok (.i2b, 1)) : WP d M pc L (.int x :: S) h Q = WP d M (pc + 1) L (.int x.toInt8.toInt32 :: S) h Q := by
  exact wp_nx (by rw [ac_of hd]; rfl)
theorem w_i2c {x : Int32} (hd : decode (m_c M) pc = .ok (.i2c, 1)) : WP d M pc L (.int x :: S) h Q = WP d M (pc + 1) L (.int (x.toUInt32 % 65536).toInt32 :: S) h Q := by
  exact wp_nx (by rw [ac_of hd]; rfl)
theorem w_lneg {x : Int64} (hd : decode (m_c M) pc = .ok (.lneg, 1)) : WP d M pc L (.long x :: S) h Q = WP d M (pc + 1) L (.long (-x) :: S) h Q := by
  exact wp_nx (by rw [ac_of hd]; rfl)
theorem w_l2i {x : Int64} (hd : decode (m_c M) pc = .ok (.l2i, 1)) : WP d M pc L (.long x :: S) h Q = WP d M (pc + 1) L (.int x.toInt32 :: S) h Q := by
  exact wp_nx (by rw [ac_of hd]; rfl)
theorem w_idiv {x y : Int32} (hd : decode (m_c M) pc = .ok (.idiv, 1)) : WP d M pc L (.int y :: .int x :: S) h Q = (¬ y = 0 ∧ WP d M (pc + 1) L (.int (x / y) :: S) h Q) := by
  have e : act M pc L (.int y :: .int x :: S) h = ck (1 = 1 ∧ ¬ y = 0) (nx (pc + 1) L (.int (x / y) :: S) h) := by rw [ac_of hd]; simp only [am_I, ck, nx, rt]
  rw [wp_cn e]; simp [and_assoc]
theorem w_irem {x y : Int32} (hd : decode (m_c M) pc = .ok (.irem, 1)) : WP d M pc L (.int y :: .int x :: S) h Q = (¬ y = 0 ∧ WP d M (pc + 1) L (.int (x - x / y * y) :: S) h Q) := by
  have e : act M pc L (.int y :: .int x :: S) h = ck (1 = 1 ∧ ¬ y = 0) (nx (pc + 1) L (.int (x - x / y * y) :: S) h) := by rw [ac_of hd]; simp only [am_I, ck, nx, rt]
  rw [wp_cn e]; simp [and_assoc]
theorem w_ldiv {x y : Int64} (hd : decode (m_c M) pc = .ok (.ldiv, 1)) : WP d M pc L (.long y :: .long x :: S) h Q = (¬ y = 0 ∧ WP d M (pc + 1) L (.long (x / y) :: S) h Q) := by
  have e : act M pc L (.long y :: .long x :: S) h = ck (1 = 1 ∧ ¬ y = 0) (nx (pc + 1) L (.long (x / y) :: S) h) := by rw [ac_of hd]; simp only [am_I, ck, nx, rt]
  rw [wp_cn e]; simp [and_assoc]
theorem w_lcmp {x y : Int64} (hd : decode (m_c M) pc = .ok (.lcmp, 1)) : WP d M pc L (.long y :: .long x :: S) h Q = WP d M (pc + 1) L (.int (lg_cmp x y) :: S) h Q := by
  exact wp_nx (by rw [ac_of hd]; rfl)
theorem w_dup_int {x : Int32} (hd : decode (m_c M) pc = .ok (.dup, 1)) : WP d M pc L (.int x :: S) h Q = WP d M (pc + 1) L (.int x :: .int x :: S) h Q := by
  exact wp_nx (by rw [ac_of hd]; rfl)
theorem w_pop_int {x : Int32} (hd : decode (m_c M) pc = .ok (.pop, 1)) : WP d M pc L (.int x :: S) h Q = WP d M (pc + 1) L S h Q := by
  exact wp_nx (by rw [ac_of hd]; rfl)
theorem w_dup_ref {x : Nat} (hd : decode (m_c M) pc = .ok (.dup, 1)) : WP d M pc L (.ref x :: S) h Q = WP d M (pc + 1) L (.ref x :: .ref x :: S) h Q := by
  exact wp_nx (by rw [ac_of hd]; rfl)
theorem w_pop_ref {x : Nat} (hd : decode (m_c M) pc = .ok (.pop, 1)) : WP d M pc L (.ref x :: S) h Q = WP d M (pc + 1) L S h Q := by
  exact wp_nx (by rw [ac_of hd]; rfl)
theorem w_dup2 {x : Int32} {q : Nat} (hd : decode (m_c M) pc = .ok (.dup2, 1)) : WP d M pc L (.int x :: .ref q :: S) h Q = WP d M (pc + 1) L (.int x :: .ref q :: .int x :: .ref q :: S) h Q := by
  exact wp_nx (by rw [ac_of hd]; rfl)
theorem am_go_eq {off : Int} {tgt : Nat} (ht : (pc : Int) + off = (tgt : Int)) : am_go pc off L S h = nx tgt L S h := by
  unfold am_go ck; rw [ht]; simp
theorem w_goto {off : Int} {tgt : Nat} (hd : decode (m_c M) pc = .ok (.goto off, 3)) (ht : (pc : Int) + off = (tgt : Int)) : WP d M pc L S h Q = WP d M tgt L S h Q := by
  exact wp_nx (by rw [ac_of hd]; show ck (3 = 3) (am_go pc off L S h) = _; rw [am_go_eq ht]; rfl)
theorem w_if_eq {x : Int32} {off : Int} {tgt : Nat} (hd : decode (m_c M) pc = .ok (.ifCond .eq off, 3)) (ht : (pc : Int) + off = (tgt : Int)) : WP d M pc L (.int x :: S) h Q = if x = 0 then WP d M tgt L S h Q else WP d M (pc + 3) L S h Q := by
  by_cases hc : x = 0
  · rw [if_pos hc]; exact wp_nx (by rw [ac_of hd]; simp [am_I, am_cm, hc, ck, am_go_eq ht, nx, ht])
  · rw [if_neg hc]; exact wp_nx (by rw [ac_of hd]; simp [am_I, am_cm, hc, ck, am_go_eq ht, nx, ht])
theorem w_if_ne {x : Int32} {off : Int} {tgt : Nat} (hd : decode (m_c M) pc = .ok (.ifCond .ne off, 3)) (ht : (pc : Int) + off = (tgt : Int)) : WP d M pc L (.int x :: S) h Q = if x = 0 then WP d M (pc + 3) L S h Q else WP d M tgt L S h Q := by
  by_cases hc : x = 0
  · rw [if_pos hc]; exact wp_nx (by rw [ac_of hd]; simp [am_I, am_cm, hc, ck, am_go_eq ht, nx, ht])
  · rw [if_neg hc]; exact wp_nx (by rw [ac_of hd]; simp [am_I, am_cm, hc, ck, am_go_eq ht, nx, ht])
theorem w_if_lt {x : Int32} {off : Int} {tgt : Nat} (hd : decode (m_c M) pc = .ok (.ifCond .lt off, 3)) (ht : (pc : Int) + off = (tgt : Int)) : WP d M pc L (.int x :: S) h Q = if x < 0 then WP d M tgt L S h Q else WP d M (pc + 3) L S h Q := by
  by_cases hc : x < 0
  · rw [if_pos hc]; exact wp_nx (by rw [ac_of hd]; simp [am_I, am_cm, hc, ck, am_go_eq ht, nx, ht])
  · rw [if_neg hc]; exact wp_nx (by rw [ac_of hd]; simp [am_I, am_cm, hc, ck, am_go_eq ht, nx, ht])
theorem w_if_ge {x : Int32} {off : Int} {tgt : Nat} (hd : decode (m_c M) pc = .ok (.ifCond .ge off, 3)) (ht : (pc : Int) + off = (tgt : Int)) : WP d M pc L (.int x :: S) h Q = if x < 0 then WP d M (pc + 3) L S h Q else WP d M tgt L S h Q := by
  by_cases hc : x < 0
  · rw [if_pos hc]; exact wp_nx (by rw [ac_of hd]; simp [am_I, am_cm, hc, ck, am_go_eq ht, nx, ht, ← Int32.not_lt])
  · rw [if_neg hc]; exact wp_nx (by rw [ac_of hd]; simp [am_I, am_cm, hc, ck, am_go_eq ht, nx, ht, ← Int32.not_lt])
theorem w_if_gt {x : Int32} {off : Int} {tgt : Nat} (hd : decode (m_c M) pc = .ok (.ifCond .gt off, 3)) (ht : (pc : Int) + off = (tgt : Int)) : WP d M pc L (.int x :: S) h Q = if 0 < x then WP d M tgt L S h Q else WP d M (pc + 3) L S h Q := by
  by_cases hc : 0 < x
  · rw [if_pos hc]; exact wp_nx (by rw [ac_of hd]; simp [am_I, am_cm, hc, ck, am_go_eq ht, nx, ht])
  · rw [if_neg hc]; exact wp_nx (by rw [ac_of hd]; simp [am_I, am_cm, hc, ck, am_go_eq ht, nx, ht])
theorem w_if_le {x : Int32} {off : Int} {tgt : Nat} (hd : decode (m_c M) pc = .ok (.ifCond .le off, 3)) (ht : (pc : Int) + off = (tgt : Int)) : WP d M pc L (.int x :: S) h Q = if 0 < x then WP d M (pc + 3) L S h Q else WP d M tgt L S h Q := by
  by_cases hc : 0 < x
  · rw [if_pos hc]; exact wp_nx (by rw [ac_of hd]; simp [am_I, am_cm, hc, ck, am_go_eq ht, nx, ht, ← Int32.not_lt])
  · rw [if_neg hc]; exact wp_nx (by rw [ac_of hd]; simp [am_I, am_cm, hc, ck, am_go_eq ht, nx, ht, ← Int32.not_lt])
theorem w_ic_eq {x y : Int32} {off : Int} {tgt : Nat} (hd : decode (m_c M) pc = .ok (.if_icmp .eq off, 3)) (ht : (pc : Int) + off = (tgt : Int)) : WP d M pc L (.int y :: .int x :: S) h Q = if x = y then WP d M tgt L S h Q else WP d M (pc + 3) L S h Q := by
  by_cases hc : x = y
  · rw [if_pos hc]; exact wp_nx (by rw [ac_of hd]; simp [am_I, am_cm, hc, ck, am_go_eq ht, nx, ht])
  · rw [if_neg hc]; exact wp_nx (by rw [ac_of hd]; simp [am_I, am_cm, hc, ck, am_go_eq ht, nx, ht])
theorem w_ic_ne {x y : Int32} {off : Int} {tgt : Nat} (hd : decode (m_c M) pc = .ok (.if_icmp .ne off, 3)) (ht : (pc : Int) + off = (tgt : Int)) : WP d M pc L (.int y :: .int x :: S) h Q = if x = y then WP d M (pc + 3) L S h Q else WP d M tgt L S h Q := by
  by_cases hc : x = y
  · rw [if_pos hc]; exact wp_nx (by rw [ac_of hd]; simp [am_I, am_cm, hc, ck, am_go_eq ht, nx, ht])
  · rw [if_neg hc]; exact wp_nx (by rw [ac_of hd]; simp [am_I, am_cm, hc, ck, am_go_eq ht, nx, ht])
theorem w_ic_lt {x y : Int32} {off : Int} {tgt : Nat} (hd : decode (m_c M) pc = .ok (.if_icmp .lt off, 3)) (ht : (pc : Int) + off = (tgt : Int)) : WP d M pc L (.int y :: .int x :: S) h Q = if x < y then WP d M tgt L S h Q else WP d M (pc + 3) L S h Q := by
  by_cases hc : x < y
  · rw [if_pos hc]; exact wp_nx (by rw [ac_of hd]; simp [am_I, am_cm, hc, ck, am_go_eq ht, nx, ht])
  · rw [if_neg hc]; exact wp_nx (by rw [ac_of hd]; simp [am_I, am_cm, hc, ck, am_go_eq ht, nx, ht])
theorem w_ic_ge {x y : Int32} {off : Int} {tgt : Nat} (hd : decode (m_c M) pc = .ok (.if_icmp .ge off, 3)) (ht : (pc : Int) + off = (tgt : Int)) : WP d M pc L (.int y :: .int x :: S) h Q = if x < y then WP d M (pc + 3) L S h Q else WP d M tgt L S h Q := by
  by_cases hc : x < y
  · rw [if_pos hc]; exact wp_nx (by rw [ac_of hd]; simp [am_I, am_cm, hc, ck, am_go_eq ht, nx, ht, ← Int32.not_lt])
  · rw [if_neg hc]; exact wp_nx (by rw [ac_of hd]; simp [am_I, am_cm, hc, ck, am_go_eq ht, nx, ht, ← Int32.not_lt])
theorem w_ic_gt {x y : Int32} {off : Int} {tgt : Nat} (hd : decode (m_c M) pc = .ok (.if_icmp .gt off, 3)) (ht : (pc : Int) + off = (tgt : Int)) : WP d M pc L (.int y :: .int x :: S) h Q = if y < x then WP d M tgt L S h Q else WP d M (pc + 3) L S h Q := by
  by_cases hc : y < x
  · rw [if_pos hc]; exact wp_nx (by rw [ac_of hd]; simp [am_I, am_cm, hc, ck, am_go_eq ht, nx, ht])
  · rw [if_neg hc]; exact wp_nx (by rw [ac_of hd]; simp [am_I, am_cm, hc, ck, am_go_eq ht, nx, ht])
theorem w_ic_le {x y : Int32} {off : Int} {tgt : Nat} (hd : decode (m_c M) pc = .ok (.if_icmp .le off, 3)) (ht : (pc : Int) + off = (tgt : Int)) : WP d M pc L (.int y :: .int x :: S) h Q = if y < x then WP d M (pc + 3) L S h Q else WP d M tgt L S h Q := by
  by_cases hc : y < x
  · rw [if_pos hc]; exact wp_nx (by rw [ac_of hd]; simp [am_I, am_cm, hc, ck, am_go_eq ht, nx, ht, ← Int32.not_lt])
  · rw [if_neg hc]; exact wp_nx (by rw [ac_of hd]; simp [am_I, am_cm, hc, ck, am_go_eq ht, nx, ht, ← Int32.not_lt])
theorem w_ifnull_n {off : Int} {tgt : Nat} (hd : decode (m_c M) pc = .ok (.ifnull off, 3)) (ht : (pc : Int) + off = (tgt : Int)) : WP d M pc L (.null :: S) h Q = WP d M tgt L S h Q := by
  exact wp_nx (by rw [ac_of hd]; simp [am_I, ck, am_go_eq ht, nx])
theorem w_ifnull_r {off : Int} {tgt q : Nat} (hd : decode (m_c M) pc = .ok (.ifnull off, 3)) (_ : (pc : Int) + off = (tgt : Int)) : WP d M pc L (.ref q :: S) h Q = WP d M (pc + 3) L S h Q := by
  exact wp_nx (by rw [ac_of hd]; rfl)
theorem w_ifnonnull_r {off : Int} {tgt q : Nat} (hd : decode (m_c M) pc = .ok (.ifnonnull off, 3)) (ht : (pc : Int) + off = (tgt : Int)) : WP d M pc L (.ref q :: S) h Q = WP d M tgt L S h Q := by
  exact wp_nx (by rw [ac_of hd]; simp [am_I, ck, am_go_eq ht, nx])
theorem w_ifnonnull_n {off : Int} {tgt : Nat} (hd : decode (m_c M) pc = .ok (.ifnonnull off, 3)) (_ : (pc : Int) + off = (tgt : Int)) : WP d M pc L (.null :: S) h Q = WP d M (pc + 3) L S h Q := by
  exact wp_nx (by rw [ac_of hd]; rfl)
theorem w_tsw {x : Int32} {df lo hi : Int} {offs : Array Int} {n : Nat} (hd : decode (m_c M) pc = .ok (.tableswitch df lo hi offs, n)) (h0 : 0 ≤ (pc : Int) + df) (hs : hi - lo < offs.size) (h1 : ∀ o ∈ offs, 0 ≤ (pc : Int) + o) : WP d M pc L (.int x :: S) h Q = if x.toInt < lo ∨ hi < x.toInt then WP d M ((pc : Int) + df).toNat L S h Q else WP d M ((pc : Int) + offs[(x.toInt - lo).toNat]!).toNat L S h Q := by
  by_cases hc : x.toInt < lo ∨ hi < x.toInt
  · rw [if_pos hc]; exact wp_nx (by rw [ac_of hd]; simp [am_I, hc, am_go, ck, nx, h0])
  · rw [if_neg hc]
    have hz : (x.toInt - lo).toNat < offs.size := by omega
    have he : offs[(x.toInt - lo).toNat]? = some offs[(x.toInt - lo).toNat]! := by simp [hz]
    have hm : 0 ≤ (pc : Int) + offs[(x.toInt - lo).toNat]! := h1 _ (by rw [getElem!_pos offs _ hz]; exact Array.getElem_mem hz)
    exact wp_nx (by rw [ac_of hd]; simp only [am_I, hc, if_false, he, am_go, ck, hm, if_true, nx])
theorem w_lsw {x : Int32} {df : Int} {ps : Array (Int × Int)} {n : Nat} (hd : decode (m_c M) pc = .ok (.lookupswitch df ps, n)) (hs : (ps.toList.zip (ps.toList.drop 1)).all (fun (a, next) => a.1 < next.1) = true) : WP d M pc L (.int x :: S) h Q = (0 ≤ (pc : Int) + Op.lookupswitch.offset ps.toList df x.toInt ∧ WP d M ((pc : Int) + Op.lookupswitch.offset ps.toList df x.toInt).toNat L S h Q) := by
  exact (wp_ck (c := 0 ≤ (pc : Int) + Op.lookupswitch.offset ps.toList df x.toInt) (by rw [ac_of hd]; simp only [am_I, ck, hs, if_true]; rfl) (fun e => wp_nx e))
theorem w_getI {x p ci k : Nat} (hd : decode (m_c M) pc = .ok (.getfield x, 3)) (hf : am_fT.lookup (m_o M, x) = some (ci, k)) (ht : am_ty ci k = .int) (hc : ci ≤ 12) (hm : m_o M ≠ 20) : WP d M pc L (.ref p :: S) h Q = ((a_t h p).1 = ci ∧ WP d M (pc + 3) L (.int (a_i h p k) :: S) h Q) := by
  by_cases h42 : (a_t h p).1 = 42
  · rw [wp_no (by rw [ac_of hd]; simp only [am_I, h42, if_true]; simp [hm])]
    have : ¬ (42 = ci) := by omega
    simp [h42, this]
  · have e : act M pc L (.ref p :: S) h = ck (3 = 3 ∧ (a_t h p).1 = ci) (nx (pc + 3) L (.int (a_i h p k) :: S) h) := by rw [ac_of hd]; simp only [am_I, h42, if_false, hf, ht, ck, nx, am_fv]
    rw [wp_cn e]; simp
theorem w_getZ {x p ci k : Nat} (hd : decode (m_c M) pc = .ok (.getfield x, 3)) (hf : am_fT.lookup (m_o M, x) = some (ci, k)) (ht : am_ty ci k = .boolean) (hc : ci ≤ 12) (hm : m_o M ≠ 20) : WP d M pc L (.ref p :: S) h Q = ((a_t h p).1 = ci ∧ WP d M (pc + 3) L (.int (a_i h p k) :: S) h Q) := by
  by_cases h42 : (a_t h p).1 = 42
  · rw [wp_no (by rw [ac_of hd]; simp only [am_I, h42, if_true]; simp [hm])]
    have : ¬ (42 = ci) := by omega
    simp [h42, this]
  · have e : act M pc L (.ref p :: S) h = ck (3 = 3 ∧ (a_t h p).1 = ci) (nx (pc + 3) L (.int (a_i h p k) :: S) h) := by rw [ac_of hd]; simp only [am_I, h42, if_false, hf, ht, ck, nx, am_fv]
    rw [wp_cn e]; simp
theorem w_getL {x p ci k : Nat} (hd : decode (m_c M) pc = .ok (.getfield x, 3)) (hf : am_fT.lookup (m_o M, x) = some (ci, k)) (ht : am_ty ci k = .long) (hc : ci ≤ 12) (hm : m_o M ≠ 20) : WP d M pc L (.ref p :: S) h Q = ((a_t h p).1 = ci ∧ WP d M (pc + 3) L (.long (a_l h p k) :: S) h Q) := by
  by_cases h42 : (a_t h p).1 = 42
  · rw [wp_no (by rw [ac_of hd]; simp only [am_I, h42, if_true]; simp [hm])]
    have : ¬ (42 = ci) := by omega
    simp [h42, this]
  · have e : act M pc L (.ref p :: S) h = ck (3 = 3 ∧ (a_t h p).1 = ci) (nx (pc + 3) L (.long (a_l h p k) :: S) h) := by rw [ac_of hd]; simp only [am_I, h42, if_false, hf, ht, ck, nx, am_fv]
    rw [wp_cn e]; simp
theorem w_getO {x p ci k : Nat} {C : String} (hd : decode (m_c M) pc = .ok (.getfield x, 3)) (hf : am_fT.lookup (m_o M, x) = some (ci, k)) (ht : am_ty ci k = .object C) (hc : ci ≤ 12) (hm : m_o M ≠ 20) : WP d M pc L (.ref p :: S) h Q = ((a_t h p).1 = ci ∧ WP d M (pc + 3) L (va_rf (a_r h p k) :: S) h Q) := by
  by_cases h42 : (a_t h p).1 = 42
  · rw [wp_no (by rw [ac_of hd]; simp only [am_I, h42, if_true]; simp [hm])]
    have : ¬ (42 = ci) := by omega
    simp [h42, this]
  · have e : act M pc L (.ref p :: S) h = ck (3 = 3 ∧ (a_t h p).1 = ci) (nx (pc + 3) L (va_rf (a_r h p k) :: S) h) := by rw [ac_of hd]; simp only [am_I, h42, if_false, hf, ht, ck, nx, am_fv, Option.map_id, id]
    rw [wp_cn e]; simp
theorem w_getA {x p ci k : Nat} {C : FieldType} (hd : decode (m_c M) pc = .ok (.getfield x, 3)) (hf : am_fT.lookup (m_o M, x) = some (ci, k)) (ht : am_ty ci k = .array C) (hc : ci ≤ 12) (hm : m_o M ≠ 20) : WP d M pc L (.ref p :: S) h Q = ((a_t h p).1 = ci ∧ WP d M (pc + 3) L (va_rf (a_r h p k) :: S) h Q) := by
  by_cases h42 : (a_t h p).1 = 42
  · rw [wp_no (by rw [ac_of hd]; simp only [am_I, h42, if_true]; simp [hm])]
    have : ¬ (42 = ci) := by omega
    simp [h42, this]
  · have e : act M pc L (.ref p :: S) h = ck (3 = 3 ∧ (a_t h p).1 = ci) (nx (pc + 3) L (va_rf (a_r h p k) :: S) h) := by rw [ac_of hd]; simp only [am_I, h42, if_false, hf, ht, ck, nx, am_fv, Option.map_id, id]
    rw [wp_cn e]; simp
theorem w_putI {x p ci k : Nat} {v : Int32} (hd : decode (m_c M) pc = .ok (.putfield x, 3)) (hf : am_fT.lookup (m_o M, x) = some (ci, k)) (ht : am_ty ci k = .int) (hn : (am_tb ci k).2.2.2 = false ∨ ((m_y M).name = "<init>" ∧ m_o M = ci)) : WP d M pc L (.int v :: .ref p :: S) h Q = ((a_t h p).1 = ci ∧ WP d M (pc + 3) L S (s_i h p k v) Q) := by
  have e : act M pc L (.int v :: .ref p :: S) h = ck (3 = 3 ∧ (a_t h p).1 = ci ∧ ((am_tb ci k).2.2.2 = false ∨ ((m_y M).name = "<init>" ∧ m_o M = ci))) (nx (pc + 3) L S (s_i h p k v)) := by rw [ac_of hd]; simp only [am_I, ck, nx, rt, hf, ht, am_pv]
  rw [wp_cn e]; simp [and_assoc, hn]
theorem w_putL {x p ci k : Nat} {v : Int64} (hd : decode (m_c M) pc = .ok (.putfield x, 3)) (hf : am_fT.lookup (m_o M, x) = some (ci, k)) (ht : am_ty ci k = .long) (hn : (am_tb ci k).2.2.2 = false ∨ ((m_y M).name = "<init>" ∧ m_o M = ci)) : WP d M pc L (.long v :: .ref p :: S) h Q = ((a_t h p).1 = ci ∧ WP d M (pc + 3) L S (s_l h p k v) Q) := by
  have e : act M pc L (.long v :: .ref p :: S) h = ck (3 = 3 ∧ (a_t h p).1 = ci ∧ ((am_tb ci k).2.2.2 = false ∨ ((m_y M).name = "<init>" ∧ m_o M = ci))) (nx (pc + 3) L S (s_l h p k v)) := by rw [ac_of hd]; simp only [am_I, ck, nx, rt, hf, ht, am_pv]
  rw [wp_cn e]; simp [and_assoc, hn]
theorem w_putO {x p ci k : Nat} {v : Nat} {C : String} (hd : decode (m_c M) pc = .ok (.putfield x, 3)) (hf : am_fT.lookup (m_o M, x) = some (ci, k)) (ht : am_ty ci k = .object C) (hn : (am_tb ci k).2.2.2 = false ∨ ((m_y M).name = "<init>" ∧ m_o M = ci)) : WP d M pc L (.ref v :: .ref p :: S) h Q = ((a_t h p).1 = ci ∧ WP d M (pc + 3) L S (s_r h p k (some v)) Q) := by
  have e : act M pc L (.ref v :: .ref p :: S) h = ck (3 = 3 ∧ (a_t h p).1 = ci ∧ ((am_tb ci k).2.2.2 = false ∨ ((m_y M).name = "<init>" ∧ m_o M = ci))) (nx (pc + 3) L S (s_r h p k (some v))) := by rw [ac_of hd]; simp only [am_I, ck, nx, rt, hf, ht, am_pv]
  rw [wp_cn e]; simp [and_assoc, hn]
theorem w_putA {x p ci k : Nat} {v : Nat} {C : FieldType} (hd : decode (m_c M) pc = .ok (.putfield x, 3)) (hf : am_fT.lookup (m_o M, x) = some (ci, k)) (ht : am_ty ci k = .array C) (hn : (am_tb ci k).2.2.2 = false ∨ ((m_y M).name = "<init>" ∧ m_o M = ci)) : WP d M pc L (.ref v :: .ref p :: S) h Q = ((a_t h p).1 = ci ∧ WP d M (pc + 3) L S (s_r h p k (some v)) Q) := by
  have e : act M pc L (.ref v :: .ref p :: S) h = ck (3 = 3 ∧ (a_t h p).1 = ci ∧ ((am_tb ci k).2.2.2 = false ∨ ((m_y M).name = "<init>" ∧ m_o M = ci))) (nx (pc + 3) L S (s_r h p k (some v))) := by rw [ac_of hd]; simp only [am_I, ck, nx, rt, hf, ht, am_pv]
  rw [wp_cn e]; simp [and_assoc, hn]
theorem w_putON {x p ci k : Nat} {C : String} (hd : decode (m_c M) pc = .ok (.putfield x, 3)) (hf : am_fT.lookup (m_o M, x) = some (ci, k)) (ht : am_ty ci k = .object C) (hn : (am_tb ci k).2.2.2 = false ∨ ((m_y M).name = "<init>" ∧ m_o M = ci)) : WP d M pc L (.null :: .ref p :: S) h Q = ((a_t h p).1 = ci ∧ WP d M (pc + 3) L S (s_r h p k none) Q) := by
  have e : act M pc L (.null :: .ref p :: S) h = ck (3 = 3 ∧ (a_t h p).1 = ci ∧ ((am_tb ci k).2.2.2 = false ∨ ((m_y M).name = "<init>" ∧ m_o M = ci))) (nx (pc + 3) L S (s_r h p k none)) := by rw [ac_of hd]; simp only [am_I, ck, nx, rt, hf, ht, am_pv]
  rw [wp_cn e]; simp [and_assoc, hn]
theorem w_putZ {x p ci k : Nat} {v : Int32} (hd : decode (m_c M) pc = .ok (.putfield x, 3)) (hf : am_fT.lookup (m_o M, x) = some (ci, k)) (ht : am_ty ci k = .boolean) (hn : (am_tb ci k).2.2.2 = false ∨ ((m_y M).name = "<init>" ∧ m_o M = ci)) : WP d M pc L (.int v :: .ref p :: S) h Q = ((v = 0 ∨ v = 1) ∧ (a_t h p).1 = ci ∧ WP d M (pc + 3) L S (s_i h p k v) Q) := by
  by_cases hv : v = 0 ∨ v = 1
  · have e : act M pc L (.int v :: .ref p :: S) h = ck (3 = 3 ∧ (a_t h p).1 = ci ∧ ((am_tb ci k).2.2.2 = false ∨ ((m_y M).name = "<init>" ∧ m_o M = ci))) (nx (pc + 3) L S (s_i h p k v)) := by rw [ac_of hd]; simp only [am_I, hf, ht, am_pv, hv, if_true, ck, nx]
    rw [wp_cn e]; simp [hn, hv]
  · rw [wp_no (by rw [ac_of hd]; simp only [am_I, hf, ht, am_pv, hv, if_false])]
    simp [hv]
theorem w_gets {x : Nat} {v : Value} (hd : decode (m_c M) pc = .ok (.getstatic x, 3)) (hg : am_gv h (m_o M) x = some v) : WP d M pc L S h Q = WP d M (pc + 3) L (v :: S) h Q := by
  exact wp_nx (by rw [ac_of hd]; simp only [am_I, hg]; rfl)
theorem w_iaload {p : Nat} {i : Int32} (hd : decode (m_c M) pc = .ok (.iaload, 1)) : WP d M pc L (.int i :: .ref p :: S) h Q = (((a_t h p).1 = 20 ∨ (a_t h p).1 = 40) ∧ am_in1 i (a_t h p).2 ∧ WP d M (pc + 1) L (.int (a_i h p i.toNatClampNeg) :: S) h Q) := by
  have e : act M pc L (.int i :: .ref p :: S) h = ck (1 = 1 ∧ ((a_t h p).1 = 20 ∨ (a_t h p).1 = 40) ∧ ¬ (i < 0 ∨ (a_t h p).2 ≤ i.toNatClampNeg)) (nx (pc + 1) L (.int (a_i h p i.toNatClampNeg) :: S) h) := by rw [ac_of hd]; simp only [am_I, ck, nx, rt]
  rw [wp_cn e]; simp [and_assoc, am_in1]
theorem w_baload {p : Nat} {i : Int32} (hd : decode (m_c M) pc = .ok (.baload, 1)) : WP d M pc L (.int i :: .ref p :: S) h Q = (((a_t h p).1 = 21 ∨ (a_t h p).1 = 41) ∧ am_in1 i (a_t h p).2 ∧ WP d M (pc + 1) L (.int (a_i h p i.toNatClampNeg) :: S) h Q) := by
  have e : act M pc L (.int i :: .ref p :: S) h = ck (1 = 1 ∧ ((a_t h p).1 = 21 ∨ (a_t h p).1 = 41) ∧ ¬ (i < 0 ∨ (a_t h p).2 ≤ i.toNatClampNeg)) (nx (pc + 1) L (.int (a_i h p i.toNatClampNeg) :: S) h) := by rw [ac_of hd]; simp only [am_I, ck, nx, rt]
  rw [wp_cn e]; simp [and_assoc, am_in1]
theorem w_laload {p : Nat} {i : Int32} (hd : decode (m_c M) pc = .ok (.laload, 1)) : WP d M pc L (.int i :: .ref p :: S) h Q = (((a_t h p).1 = 22) ∧ am_in1 i (a_t h p).2 ∧ WP d M (pc + 1) L (.long (a_l h p i.toNatClampNeg) :: S) h Q) := by
  have e : act M pc L (.int i :: .ref p :: S) h = ck (1 = 1 ∧ ((a_t h p).1 = 22) ∧ ¬ (i < 0 ∨ (a_t h p).2 ≤ i.toNatClampNeg)) (nx (pc + 1) L (.long (a_l h p i.toNatClampNeg) :: S) h) := by rw [ac_of hd]; simp only [am_I, ck, nx, rt]
  rw [wp_cn e]; simp [and_assoc, am_in1]
theorem w_aaload {p : Nat} {i : Int32} (hd : decode (m_c M) pc = .ok (.aaload, 1)) : WP d M pc L (.int i :: .ref p :: S) h Q = ((23 ≤ (a_t h p).1 ∧ (a_t h p).1 ≤ 26) ∧ am_in1 i (a_t h p).2 ∧ WP d M (pc + 1) L (va_rf (a_r h p i.toNatClampNeg) :: S) h Q) := by
  have e : act M pc L (.int i :: .ref p :: S) h = ck (1 = 1 ∧ (23 ≤ (a_t h p).1 ∧ (a_t h p).1 ≤ 26) ∧ ¬ (i < 0 ∨ (a_t h p).2 ≤ i.toNatClampNeg)) (nx (pc + 1) L (va_rf (a_r h p i.toNatClampNeg) :: S) h) := by rw [ac_of hd]; simp only [am_I, ck, nx, rt]
  rw [wp_cn e]; simp [and_assoc, am_in1]
theorem w_iastore {p : Nat} {i : Int32} {v : Int32} (hd : decode (m_c M) pc = .ok (.iastore, 1)) : WP d M pc L (.int v :: .int i :: .ref p :: S) h Q = ((a_t h p).1 = 20 ∧ am_in1 i (a_t h p).2 ∧ WP d M (pc + 1) L S (s_i h p i.toNatClampNeg v) Q) := by
  have e : act M pc L (.int v :: .int i :: .ref p :: S) h = ck (1 = 1 ∧ (a_t h p).1 = 20 ∧ ¬ (i < 0 ∨ (a_t h p).2 ≤ i.toNatClampNeg)) (nx (pc + 1) L S (s_i h p i.toNatClampNeg v)) := by rw [ac_of hd]; simp only [am_I, ck, nx, rt]
  rw [wp_cn e]; simp [and_assoc, am_in1]
theorem w_bastore {p : Nat} {i : Int32} {v : Int32} (hd : decode (m_c M) pc = .ok (.bastore, 1)) : WP d M pc L (.int v :: .int i :: .ref p :: S) h Q = ((a_t h p).1 = 21 ∧ am_in1 i (a_t h p).2 ∧ WP d M (pc + 1) L S (s_i h p i.toNatClampNeg v.toInt8.toInt32) Q) := by
  have e : act M pc L (.int v :: .int i :: .ref p :: S) h = ck (1 = 1 ∧ (a_t h p).1 = 21 ∧ ¬ (i < 0 ∨ (a_t h p).2 ≤ i.toNatClampNeg)) (nx (pc + 1) L S (s_i h p i.toNatClampNeg v.toInt8.toInt32)) := by rw [ac_of hd]; simp only [am_I, ck, nx, rt]
  rw [wp_cn e]; simp [and_assoc, am_in1]
theorem w_lastore {p : Nat} {i : Int32} {v : Int64} (hd : decode (m_c M) pc = .ok (.lastore, 1)) : WP d M pc L (.long v :: .int i :: .ref p :: S) h Q = ((a_t h p).1 = 22 ∧ am_in1 i (a_t h p).2 ∧ WP d M (pc + 1) L S (s_l h p i.toNatClampNeg v) Q) := by
  have e : act M pc L (.long v :: .int i :: .ref p :: S) h = ck (1 = 1 ∧ (a_t h p).1 = 22 ∧ ¬ (i < 0 ∨ (a_t h p).2 ≤ i.toNatClampNeg)) (nx (pc + 1) L S (s_l h p i.toNatClampNeg v)) := by rw [ac_of hd]; simp only [am_I, ck, nx, rt]
  rw [wp_cn e]; simp [and_assoc, am_in1]
theorem w_aastore {p : Nat} {i : Int32} {v : Nat} (hd : decode (m_c M) pc = .ok (.aastore, 1)) : WP d M pc L (.ref v :: .int i :: .ref p :: S) h Q = ((23 ≤ (a_t h p).1 ∧ (a_t h p).1 ≤ 25) ∧ (a_t h v).1 = am_el (a_t h p).1 ∧ am_in1 i (a_t h p).2 ∧ WP d M (pc + 1) L S (s_r h p i.toNatClampNeg (some v)) Q) := by
  have e : act M pc L (.ref v :: .int i :: .ref p :: S) h = ck (1 = 1 ∧ (23 ≤ (a_t h p).1 ∧ (a_t h p).1 ≤ 25) ∧ (a_t h v).1 = am_el (a_t h p).1 ∧ ¬ (i < 0 ∨ (a_t h p).2 ≤ i.toNatClampNeg)) (nx (pc + 1) L S (s_r h p i.toNatClampNeg (some v))) := by rw [ac_of hd]; simp only [am_I, ck, nx, rt]
  rw [wp_cn e]; simp [and_assoc, am_in1]
theorem w_alen {p : Nat} (hd : decode (m_c M) pc = .ok (.arraylength, 1)) : WP d M pc L (.ref p :: S) h Q = (((20 ≤ (a_t h p).1 ∧ (a_t h p).1 ≤ 26) ∨ (a_t h p).1 = 40 ∨ (a_t h p).1 = 41) ∧ WP d M (pc + 1) L (.int (Int32.ofNat (a_t h p).2) :: S) h Q) := by
  have e : act M pc L (.ref p :: S) h = ck (1 = 1 ∧ ((20 ≤ (a_t h p).1 ∧ (a_t h p).1 ≤ 26) ∨ (a_t h p).1 = 40 ∨ (a_t h p).1 = 41)) (nx (pc + 1) L (.int (Int32.ofNat (a_t h p).2) :: S) h) := by rw [ac_of hd]; simp only [am_I, ck, nx, rt]
  rw [wp_cn e]; simp [and_assoc]
theorem w_newa {ty : ArrayType} {t : Nat} {x : Int32} (hd : decode (m_c M) pc = .ok (.newarray ty, 2)) (ht : am_at ty = some t) : WP d M pc L (.int x :: S) h Q = ((¬ x < 0 ∧ x.toNatClampNeg ≤ 60000 ∧ a_n h < am_MX) ∧ WP d M (pc + 2) L (.ref (a_n h) :: S) (s_nw h t x.toNatClampNeg) Q) := by
  have e : act M pc L (.int x :: S) h = ck (2 = 2 ∧ ¬ x < 0 ∧ x.toNatClampNeg ≤ 60000 ∧ a_n h < am_MX) (nx (pc + 2) L (.ref (a_n h) :: S) (s_nw h t x.toNatClampNeg)) := by rw [ac_of hd]; simp only [am_I, ck, nx, rt, ht]
  rw [wp_cn e]; simp [and_assoc]
theorem w_anew {x ci : Nat} {y : Int32} (hd : decode (m_c M) pc = .ok (.anewarray x, 3)) (hc : am_cT.lookup (m_o M, x) = some ci) (ha : am_ak ci ≠ 99) : WP d M pc L (.int y :: S) h Q = ((¬ y < 0 ∧ y.toNatClampNeg ≤ 60000 ∧ a_n h < am_MX) ∧ WP d M (pc + 3) L (.ref (a_n h) :: S) (s_nw h (am_ak ci) y.toNatClampNeg) Q) := by
  have e : act M pc L (.int y :: S) h = ck (3 = 3 ∧ am_ak ci ≠ 99 ∧ ¬ y < 0 ∧ y.toNatClampNeg ≤ 60000 ∧ a_n h < am_MX) (nx (pc + 3) L (.ref (a_n h) :: S) (s_nw h (am_ak ci) y.toNatClampNeg)) := by rw [ac_of hd]; simp only [am_I, ck, nx, rt, hc]
  rw [wp_cn e]; simp [and_assoc, ha]
theorem w_mnew {x : Nat} {k y : Int32} (hd : decode (m_c M) pc = .ok (.multianewarray x 2, 4)) (hc : am_cT.lookup (m_o M, x) = some 26) : WP d M pc L (.int k :: .int y :: S) h Q = ((¬ k < 0 ∧ ¬ y < 0 ∧ k.toNatClampNeg ≤ 60000 ∧ y.toNatClampNeg ≤ 600 ∧ a_n h < am_MX) ∧ WP d M (pc + 4) L (.ref (a_n h) :: S) (s_mn h y.toNatClampNeg k.toNatClampNeg) Q) := by
  have e : act M pc L (.int k :: .int y :: S) h = ck (4 = 4 ∧ 2 = 2 ∧ am_cT.lookup (m_o M, x) = some 26 ∧ ¬ k < 0 ∧ ¬ y < 0 ∧ k.toNatClampNeg ≤ 60000 ∧ y.toNatClampNeg ≤ 600 ∧ a_n h < am_MX) (nx (pc + 4) L (.ref (a_n h) :: S) (s_mn h y.toNatClampNeg k.toNatClampNeg)) := by rw [ac_of hd]; simp only [am_I, ck, nx, rt]
  rw [wp_cn e]; simp [and_assoc, hc]
theorem w_new {x ci : Nat} (hd : decode (m_c M) pc = .ok (.new x, 3)) (hc : am_cT.lookup (m_o M, x) = some ci) (hl : ci ≤ 12) : WP d M pc L S h Q = (a_n h < am_MX ∧ WP d M (pc + 3) L (.ref (a_n h) :: S) (s_nw h ci (am_sz ci)) Q) := by
  have e : act M pc L S h = ck (3 = 3 ∧ ci ≤ 12 ∧ a_n h < am_MX) (nx (pc + 3) L (.ref (a_n h) :: S) (s_nw h ci (am_sz ci))) := by rw [ac_of hd]; simp only [am_I, ck, nx, rt, hc]
  rw [wp_cn e]; simp [and_assoc, hl]
theorem w_ireturn {v : Int32} {ty : FieldType} (hd : decode (m_c M) pc = .ok (.ireturn, 1)) (hr : m_r M = some ty) : WP d M pc L [.int v] h Q = (narrow ty (.int v) = .int v ∧ Q (some (.int v)) h) := by
  have e : act M pc L [.int v] h = ck (1 = 1 ∧ narrow ty (.int v) = .int v) (rt (some (.int v))) := by rw [ac_of hd]; simp only [am_I, ck, nx, rt, hr]
  rw [wp_cr e]; simp [and_assoc]
theorem w_iret {v : Int32} (hd : decode (m_c M) pc = .ok (.ireturn, 1)) (hr : m_r M = some .int) : WP d M pc L [.int v] h Q = Q (some (.int v)) h := by
  have e : act M pc L [.int v] h = ck (1 = 1 ∧ narrow .int (.int v) = .int v) (rt (some (.int v))) := by rw [ac_of hd]; simp only [am_I, ck, nx, rt, hr]
  rw [wp_cr e]; simp [and_assoc, narrow]
theorem w_lret {v : Int64} (hd : decode (m_c M) pc = .ok (.lreturn, 1)) (hr : m_r M = some .long) : WP d M pc L [.long v] h Q = Q (some (.long v)) h := by
  have e : act M pc L [.long v] h = ck (1 = 1 ∧ m_r M = some .long) (rt (some (.long v))) := by rw [ac_of hd]; simp only [am_I, ck, nx, rt]
  rw [wp_cr e]; simp [and_assoc, hr]
theorem w_aret {v : Nat} {C : String} (hd : decode (m_c M) pc = .ok (.areturn, 1)) (hr : m_r M = some (.object C)) : WP d M pc L [.ref v] h Q = Q (some (.ref v)) h := by
  have e : act M pc L [.ref v] h = ck (1 = 1) (rt (some (.ref v))) := by rw [ac_of hd]; simp only [am_I, ck, nx, rt, hr]
  rw [wp_cr e]; simp [and_assoc]
theorem w_vret (hd : decode (m_c M) pc = .ok (.return_, 1)) (hr : m_r M = none) : WP d M pc L [] h Q = Q none h := by
  have e : act M pc L [] h = ck (1 = 1 ∧ m_r M = none) (rt none) := by rw [ac_of hd]; simp only [am_I, ck, nx, rt]
  rw [wp_cr e]; simp [and_assoc, hr]
theorem w_cv {x k : Nat} {M2 : am_m} {as : List Value} {p : Nat} (hd : decode (m_c M) pc = .ok (.invokevirtual x, 3)) (hm : am_mT.lookup (m_o M, x) = some (M2, k)) (hk : k = 0) {S0 : List Value} (hp : am_pop (m_n M2) S0 = some (as, .ref p :: S)) : WP (d + 1) M pc L S0 h Q = ((((a_t h p).1 = m_o M2 ∧ m_o M2 ≤ 12) ∨ ((a_t h p).1 = 42 ∧ m_o M2 = 20)) ∧ (am_ag (.ref p :: as)).length ≤ m_l M2 ∧ (S.map Value.category).sum ≤ 8 ∧ Cal d M2 (.ref p :: as) h (Kn (d + 1) M (pc + 3) L S Q)) := by
  subst hk
  have e : act M pc L S0 h = ck (3 = 3 ∧ (((a_t h p).1 = m_o M2 ∧ m_o M2 ≤ 12) ∨ ((a_t h p).1 = 42 ∧ m_o M2 = 20)) ∧ (am_ag (.ref p :: as)).length ≤ m_l M2 ∧ (S.map Value.category).sum ≤ 8) (some (.inr (.inr (M2, .ref p :: as, S)))) := by rw [ac_of hd]; simp only [am_I, ck, hm, hp]
  rw [wp_cc e]; simp [and_assoc]
theorem w_cs {x k : Nat} {M2 : am_m} {as : List Value} (hd : decode (m_c M) pc = .ok (.invokestatic x, 3)) (hm : am_mT.lookup (m_o M, x) = some (M2, k)) (hk : k = 1 ∨ k = 5) {S0 : List Value} (hp : am_pop (m_n M2) S0 = some (as, S)) : WP (d + 1) M pc L S0 h Q = ((am_ag (as)).length ≤ m_l M2 ∧ (S.map Value.category).sum ≤ 8 ∧ Cal d M2 (as) h (Kn (d + 1) M (pc + 3) L S Q)) := by
  rcases hk with rfl | rfl
  · have e : act M pc L S0 h = ck (3 = 3 ∧ (1 = 1 ∨ 1 = 5) ∧ (am_ag (as)).length ≤ m_l M2 ∧ (S.map Value.category).sum ≤ 8) (some (.inr (.inr (M2, as, S)))) := by rw [ac_of hd]; simp only [am_I, ck, hm, hp]
    rw [wp_cc e]; simp [and_assoc]
  · have e : act M pc L S0 h = ck (3 = 3 ∧ (5 = 1 ∨ 5 = 5) ∧ (am_ag (as)).length ≤ m_l M2 ∧ (S.map Value.category).sum ≤ 8) (some (.inr (.inr (M2, as, S)))) := by rw [ac_of hd]; simp only [am_I, ck, hm, hp]
    rw [wp_cc e]; simp [and_assoc]
theorem w_ci {x k : Nat} {M2 : am_m} {as : List Value} {p : Nat} (hd : decode (m_c M) pc = .ok (.invokespecial x, 3)) (hm : am_mT.lookup (m_o M, x) = some (M2, k)) (hk : k = 2 ∨ k = 6) {S0 : List Value} (hp : am_pop (m_n M2) S0 = some (as, .ref p :: S)) : WP (d + 1) M pc L S0 h Q = ((am_ag (.ref p :: as)).length ≤ m_l M2 ∧ (S.map Value.category).sum ≤ 8 ∧ Cal d M2 (.ref p :: as) h (Kn (d + 1) M (pc + 3) L S Q)) := by
  have h3 : k ≠ 3 := by omega
  have e : act M pc L S0 h = ck (3 = 3 ∧ (k = 2 ∨ k = 6) ∧ (am_ag (.ref p :: as)).length ≤ m_l M2 ∧ (S.map Value.category).sum ≤ 8) (some (.inr (.inr (M2, .ref p :: as, S)))) := by rw [ac_of hd]; simp only [am_I, ck, hm, hp, h3, if_false]
  rw [wp_cc e]; simp [and_assoc, hk]
theorem w_oi {x p : Nat} {M2 : am_m} (hd : decode (m_c M) pc = .ok (.invokespecial x, 3)) (hm : am_mT.lookup (m_o M, x) = some (M2, 3)) : WP d M pc L (.ref p :: S) h Q = ((S.map Value.category).sum ≤ 8 ∧ WP d M (pc + 3) L S h Q) := by
  have e : act M pc L (.ref p :: S) h = ck (3 = 3 ∧ (S.map Value.category).sum ≤ 8) (nx (pc + 3) L S h) := by rw [ac_of hd]; simp only [am_I, ck, nx, rt, hm, if_true]
  rw [wp_cn e]; simp [and_assoc]
theorem w_mx {x : Nat} {M2 : am_m} {a b : Int32} (hd : decode (m_c M) pc = .ok (.invokestatic x, 3)) (hm : am_mT.lookup (m_o M, x) = some (M2, 7)) : WP d M pc L (.int b :: .int a :: S) h Q = ((S.map Value.category).sum ≤ 8 ∧ WP d M (pc + 3) L (.int (if a < b then b else a) :: S) h Q) := by
  have e : act M pc L (.int b :: .int a :: S) h = ck (3 = 3 ∧ (S.map Value.category).sum ≤ 8) (nx (pc + 3) L (.int (if a < b then b else a) :: S) h) := by rw [ac_of hd]; simp only [am_I, ck, nx, rt, hm]
  rw [wp_cn e]; simp [and_assoc]
theorem w_mn {x : Nat} {M2 : am_m} {a b : Int32} (hd : decode (m_c M) pc = .ok (.invokestatic x, 3)) (hm : am_mT.lookup (m_o M, x) = some (M2, 8)) : WP d M pc L (.int b :: .int a :: S) h Q = ((S.map Value.category).sum ≤ 8 ∧ WP d M (pc + 3) L (.int (if b < a then b else a) :: S) h Q) := by
  have e : act M pc L (.int b :: .int a :: S) h = ck (3 = 3 ∧ (S.map Value.category).sum ≤ 8) (nx (pc + 3) L (.int (if b < a then b else a) :: S) h) := by rw [ac_of hd]; simp only [am_I, ck, nx, rt, hm]
  rw [wp_cn e]; simp [and_assoc]
theorem w_mxl {x : Nat} {M2 : am_m} {a b : Int64} (hd : decode (m_c M) pc = .ok (.invokestatic x, 3)) (hm : am_mT.lookup (m_o M, x) = some (M2, 9)) : WP d M pc L (.long b :: .long a :: S) h Q = ((S.map Value.category).sum ≤ 8 ∧ WP d M (pc + 3) L (.long (if b < a then a else b) :: S) h Q) := by
  have e : act M pc L (.long b :: .long a :: S) h = ck (3 = 3 ∧ (S.map Value.category).sum ≤ 8) (nx (pc + 3) L (.long (if b < a then a else b) :: S) h) := by rw [ac_of hd]; simp only [am_I, ck, nx, rt, hm]
  rw [wp_cn e]; simp [and_assoc]
theorem w_mnl {x : Nat} {M2 : am_m} {a b : Int64} (hd : decode (m_c M) pc = .ok (.invokestatic x, 3)) (hm : am_mT.lookup (m_o M, x) = some (M2, 10)) : WP d M pc L (.long b :: .long a :: S) h Q = ((S.map Value.category).sum ≤ 8 ∧ WP d M (pc + 3) L (.long (if b < a then b else a) :: S) h Q) := by
  have e : act M pc L (.long b :: .long a :: S) h = ck (3 = 3 ∧ (S.map Value.category).sum ≤ 8) (nx (pc + 3) L (.long (if b < a then b else a) :: S) h) := by rw [ac_of hd]; simp only [am_I, ck, nx, rt, hm]
  rw [wp_cn e]; simp [and_assoc]
end WPS
