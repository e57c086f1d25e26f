theorem ct_i {x : Int32} : (Value.int x).category = 1 := rfl
theorem ct_r {x : Nat} : (Value.ref x).category = 1 := rfl
theorem ct_l {x : Int64} : (Value.long x).category = 2 := rfl
theorem vr_s {x : Nat} : va_rf (some x) = .ref x := rfl
theorem vr_n : va_rf none = .null := rfl
theorem nz_0 : narrow .boolean (.int 0) = .int 0 := rfl
theorem nz_1 : narrow .boolean (.int 1) = .int 1 := rfl
/-! the same rows, as equations that are no mere unfolding (so that each step stands in the proof) -/
theorem t_si_ (h : am_h) (p k : Nat) (v : Int32) : a_t (s_i h p k v) = a_t h := Eq.trans rfl rfl
theorem t_sl_ (h : am_h) (p k : Nat) (v : Int64) : a_t (s_l h p k v) = a_t h := Eq.trans rfl rfl
theorem t_sr_ (h : am_h) (p k : Nat) (v : Option Nat) : a_t (s_r h p k v) = a_t h := Eq.trans rfl rfl
theorem n_si_ (h : am_h) (p k : Nat) (v : Int32) : a_n (s_i h p k v) = a_n h := Eq.trans rfl rfl
theorem n_sl_ (h : am_h) (p k : Nat) (v : Int64) : a_n (s_l h p k v) = a_n h := Eq.trans rfl rfl
theorem n_sr_ (h : am_h) (p k : Nat) (v : Option Nat) : a_n (s_r h p k v) = a_n h := Eq.trans rfl rfl
theorem i_si_ (h : am_h) (p k : Nat) (v : Int32) (q j : Nat) : a_i (s_i h p k v) q j = if q = p ∧ j = k then v else a_i h q j := Eq.trans rfl rfl
theorem i_sl_ (h : am_h) (p k : Nat) (v : Int64) : a_i (s_l h p k v) = a_i h := Eq.trans rfl rfl
theorem i_sr_ (h : am_h) (p k : Nat) (v : Option Nat) : a_i (s_r h p k v) = a_i h := Eq.trans rfl rfl
theorem l_si_ (h : am_h) (p k : Nat) (v : Int32) : a_l (s_i h p k v) = a_l h := Eq.trans rfl rfl
theorem l_sl_ (h : am_h) (p k : Nat) (v : Int64) (q j : Nat) : a_l (s_l h p k v) q j = if q = p ∧ j = k then v else a_l h q j := Eq.trans rfl rfl
theorem l_sr_ (h : am_h) (p k : Nat) (v : Option Nat) : a_l (s_r h p k v) = a_l h := Eq.trans rfl rfl
theorem r_si_ (h : am_h) (p k : Nat) (v : Int32) : a_r (s_i h p k v) = a_r h := Eq.trans rfl rfl
theorem r_sl_ (h : am_h) (p k : Nat) (v : Int64) : a_r (s_l h p k v) = a_r h := Eq.trans rfl rfl
theorem r_sr_ (h : am_h) (p k : Nat) (v : Option Nat) (q j : Nat) : a_r (s_r h p k v) q j = if q = p ∧ j = k then v else a_r h q j := Eq.trans rfl rfl
theorem Kn_v_ {d : Nat} {M : am_m} {pc : Nat} {L : am_L} {S : List Value} {Q : Option Value → am_h → Prop} {v : Value} {h : am_h} : Kn d M pc L S Q (some v) h = WP d M pc L (v :: S) h Q := Eq.trans rfl rfl
theorem Kn_n_ {d : Nat} {M : am_m} {pc : Nat} {L : am_L} {S : List Value} {Q : Option Value → am_h → Prop} {h : am_h} : Kn d M pc L S Q none h = WP d M pc L S h Q := Eq.trans rfl rfl
theorem kl_i_ {x : Int32} : kl (some (.int x)) = some (.int x) := Eq.trans rfl rfl
theorem kl_a_ {x : Nat} : kl (some (.ref x)) = some (.ref x) := Eq.trans rfl rfl
theorem kl_l_ {x : Int64} : kl (some (.long x)) = none := Eq.trans rfl rfl
theorem kl_n_ : kl (none) = none := Eq.trans rfl rfl
theorem ct_i_ {x : Int32} : (Value.int x).category = 1 := Eq.trans rfl rfl
theorem ct_r_ {x : Nat} : (Value.ref x).category = 1 := Eq.trans rfl rfl
theorem ct_l_ {x : Int64} : (Value.long x).category = 2 := Eq.trans rfl rfl
theorem vr_s_ {x : Nat} : va_rf (some x) = .ref x := Eq.trans rfl rfl
theorem vr_n_ : va_rf none = .null := Eq.trans rfl rfl
theorem nz_0_ : narrow .boolean (.int 0) = .int 0 := Eq.trans rfl rfl
theorem nz_1_ : narrow .boolean (.int 1) = .int 1 := Eq.trans rfl rfl
theorem s1_0_ {a0 : Option Value} {v : Value} {L : am_L} : am_s1 (a0 :: L) 0 v = some v :: L := Eq.trans rfl rfl
theorem s2_0_ {a0 : Option Value} {b : Option Value} {v : Value} {L : am_L} : am_s2 (a0 :: b :: L) 0 v = some v :: none :: L := Eq.trans rfl rfl
