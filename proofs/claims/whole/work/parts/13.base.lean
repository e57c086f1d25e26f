theorem ct_i {x : Int32} : (Value.int x).category = 1 := rfl
theorem ct_r {x : Nat} : (Value.ref x).category = 1 := rfl
theorem ct_l {x : Int64} : (Value.long x).category = 2 := rfl
theorem vr_s {x : Nat} : va_rf (some x) = .ref x := rfl
theorem vr_n : va_rf none = .null := rfl
theorem nz_0 : narrow .boolean (.int 0) = .int 0 := rfl
theorem nz_1 : narrow .boolean (.int 1) = .int 1 := rfl
