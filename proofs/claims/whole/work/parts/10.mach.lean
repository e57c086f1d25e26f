/-! THE SMALL MACHINE: a heap of numbered cells (how many, how many slots; each cell's kind and size; ints, longs, references), and what an instruction does to it -/
abbrev am_h : Type := (Nat × Nat) × (Nat → Nat × Nat) × (Nat → Nat → Int32) × (Nat → Nat → Int64) × (Nat → Nat → Option Nat)
def a_n (h : am_h) : Nat := h.1.1
def a_z (h : am_h) : Nat := h.1.2
def a_t (h : am_h) : Nat → Nat × Nat := h.2.1
def a_i (h : am_h) : Nat → Nat → Int32 := h.2.2.1
def a_l (h : am_h) : Nat → Nat → Int64 := h.2.2.2.1
def a_r (h : am_h) : Nat → Nat → Option Nat := h.2.2.2.2
def s_i (h : am_h) (p k : Nat) (v : Int32) : am_h := (h.1, h.2.1, fun q j => if q = p ∧ j = k then v else a_i h q j, h.2.2.2.1, h.2.2.2.2)
def s_l (h : am_h) (p k : Nat) (v : Int64) : am_h := (h.1, h.2.1, h.2.2.1, fun q j => if q = p ∧ j = k then v else a_l h q j, h.2.2.2.2)
def s_r (h : am_h) (p k : Nat) (v : Option Nat) : am_h := (h.1, h.2.1, h.2.2.1, h.2.2.2.1, fun q j => if q = p ∧ j = k then v else a_r h q j)
/-- a new cell of kind t with z slots -/
def s_nw (h : am_h) (t z : Nat) : am_h := ((a_n h + 1, a_z h + z), fun q => if q = a_n h then (t, z) else a_t h q, fun q j => if q = a_n h then 0 else a_i h q j, fun q j => if q = a_n h then 0 else a_l h q j, fun q j => if q = a_n h then none else a_r h q j)
/-- a new row of n new int rows of k -/
def s_mn (h : am_h) (n k : Nat) : am_h := ((a_n h + (1 + n), a_z h + (n + n * k)), fun q => if q = a_n h then (26, n) else if a_n h < q ∧ q < a_n h + (1 + n) then (20, k) else a_t h q, fun q j => if a_n h ≤ q ∧ q < a_n h + (1 + n) then 0 else a_i h q j, fun q j => if a_n h ≤ q ∧ q < a_n h + (1 + n) then 0 else a_l h q j, fun q j => if q = a_n h then (if j < n then some (a_n h + 1 + j) else none) else if a_n h < q ∧ q < a_n h + (1 + n) then none else a_r h q j)
theorem t_si (h : am_h) (p k : Nat) (v : Int32) : a_t (s_i h p k v) = a_t h := rfl
theorem t_sl (h : am_h) (p k : Nat) (v : Int64) : a_t (s_l h p k v) = a_t h := rfl
theorem t_sr (h : am_h) (p k : Nat) (v : Option Nat) : a_t (s_r h p k v) = a_t h := rfl
theorem n_si (h : am_h) (p k : Nat) (v : Int32) : a_n (s_i h p k v) = a_n h := rfl
theorem n_sl (h : am_h) (p k : Nat) (v : Int64) : a_n (s_l h p k v) = a_n h := rfl
theorem n_sr (h : am_h) (p k : Nat) (v : Option Nat) : a_n (s_r h p k v) = a_n h := rfl
theorem z_si (h : am_h) (p k : Nat) (v : Int32) : a_z (s_i h p k v) = a_z h := rfl
theorem z_sl (h : am_h) (p k : Nat) (v : Int64) : a_z (s_l h p k v) = a_z h := rfl
theorem z_sr (h : am_h) (p k : Nat) (v : Option Nat) : a_z (s_r h p k v) = a_z h := rfl
theorem i_si (h : am_h) (p k : Nat) (v : Int32) (q j : Nat) : a_i (s_i h p k v) q j = if q = p ∧ j = k then v else a_i h q j := rfl
theorem i_sl (h : am_h) (p k : Nat) (v : Int64) : a_i (s_l h p k v) = a_i h := rfl
theorem i_sr (h : am_h) (p k : Nat) (v : Option Nat) : a_i (s_r h p k v) = a_i h := rfl
theorem l_si (h : am_h) (p k : Nat) (v : Int32) : a_l (s_i h p k v) = a_l h := rfl
theorem l_sl (h : am_h) (p k : Nat) (v : Int64) (q j : Nat) : a_l (s_l h p k v) q j = if q = p ∧ j = k then v else a_l h q j := rfl
theorem l_sr (h : am_h) (p k : Nat) (v : Option Nat) : a_l (s_r h p k v) = a_l h := rfl
theorem r_si (h : am_h) (p k : Nat) (v : Int32) : a_r (s_i h p k v) = a_r h := rfl
theorem r_sl (h : am_h) (p k : Nat) (v : Int64) : a_r (s_l h p k v) = a_r h := rfl
theorem r_sr (h : am_h) (p k : Nat) (v : Option Nat) (q j : Nat) : a_r (s_r h p k v) q j = if q = p ∧ j = k then v else a_r h q j := rfl
abbrev am_L : Type := List (Option Value)
abbrev am_o : Type := Option ((Nat × am_L × List Value × am_h) ⊕ (Option Value ⊕ (am_m × List Value × List Value)))
def nx (pc : Nat) (L : am_L) (S : List Value) (h : am_h) : am_o := some (.inl (pc, L, S, h))
def rt (v : Option Value) : am_o := some (.inr (.inl v))
def ck (c : Prop) [Decidable c] (x : am_o) : am_o := if c then x else none
def am_ld (L : am_L) (i : Nat) : Option Value := (L[i]?).getD none
def am_k (L : am_L) (i : Nat) : am_L := match i with
  | 0 => L
  | j + 1 => match am_ld L j with
    | some w => if w.category = 2 then L.set j none else L
    | none => L
def am_s1 (L : am_L) (i : Nat) (v : Value) : am_L := (am_k L i).set i (some v)
def am_s2 (L : am_L) (i : Nat) (v : Value) : am_L := ((am_k L i).set i (some v)).set (i + 1) none
def am_ag (vs : List Value) : am_L := match vs with
  | [] => []
  | v :: vs => if v.category = 2 then some v :: none :: am_ag vs else some v :: am_ag vs
def am_en (n : Nat) (vs : List Value) : am_L := am_ag vs ++ List.replicate (n - (am_ag vs).length) none
def am_pop (n : Nat) (S : List Value) : Option (List Value × List Value) := match n with
  | 0 => some ([], S)
  | n + 1 => match S with
    | [] => none
    | v :: S => match am_pop n S with
      | some (as, S') => some (as ++ [v], S')
      | none => none
def am_ty (ci : Nat) : Nat → FieldType := match ci with
  | 0 => tyX0
  | 1 => tyX1
  | 2 => tyX2
  | 3 => tyX3
  | 4 => tyX4
  | 5 => tyX5
  | 6 => tyX6
  | 7 => tyX7
  | 8 => tyX8
  | 9 => tyX9
  | 10 => tyX10
  | 11 => tyX11
  | _ => tyX12
def am_tb (ci : Nat) : u_T := match ci with
  | 0 => TX0
  | 1 => TX1
  | 2 => TX2
  | 3 => TX3
  | 4 => TX4
  | 5 => TX5
  | 6 => TX6
  | 7 => TX7
  | 8 => TX8
  | 9 => TX9
  | 10 => TX10
  | 11 => TX11
  | _ => TX12
def am_sz (ci : Nat) : Nat := match ci with
  | 0 => 4
  | 1 => 3
  | 2 => 8
  | 3 => 14
  | 4 => 4
  | 5 => 9
  | 6 => 13
  | 7 => 14
  | 8 => 14
  | 9 => 9
  | 10 => 5
  | 11 => 8
  | _ => 78
/-- the value of a field of a type -/
def am_fv (ad : Nat → Nat) (h : am_h) (p k : Nat) (ty : FieldType) : Value := match ty with
  | .long => .long (a_l h p k)
  | .object _ => va_rf ((a_r h p k).map ad)
  | .array _ => va_rf ((a_r h p k).map ad)
  | _ => .int (a_i h p k)
/-- a value put into a field of a type -/
def am_pv (h : am_h) (p k : Nat) (ty : FieldType) (v : Value) : Option am_h := match ty, v with
  | .long, .long x => some (s_l h p k x)
  | .int, .int x => some (s_i h p k x)
  | .boolean, .int x => if x = 0 ∨ x = 1 then some (s_i h p k x) else none
  | .object _, .ref q => some (s_r h p k (some q))
  | .object _, .null => some (s_r h p k none)
  | .array _, .ref q => some (s_r h p k (some q))
  | .array _, .null => some (s_r h p k none)
  | _, _ => none
def am_OLD : Nat := 1000000
def am_MX : Nat := 900000
/-- statics: which value (the last: a reference or null, kept in the heap at 1000008) -/
def am_gv (h : am_h) (o i : Nat) : Option Value := match o, i with
  | 4, 110 => some (.ref 1000001)
  | 4, 113 => some (.ref 1000002)
  | 20, 38 => some (.int 1)
  | 20, 1053 => some (va_rf (a_r h 1000008 0))
  | _, _ => none
def am_sT : List ((Nat × Nat) × Nat) := [((7, 91), 1000003), ((7, 106), 1000005)]
/-- which kind of cell a row of a kind holds -/
def am_el (t : Nat) : Nat := match t with
  | 23 => 3
  | 24 => 5
  | 25 => 9
  | _ => 99
def am_ak (t : Nat) : Nat := match t with
  | 3 => 23
  | 5 => 24
  | 9 => 25
  | _ => 99
def am_at (t : ArrayType) : Option Nat := match t with
  | .int => some 20
  | .byte => some 21
  | .long => some 22
  | _ => none
def am_in1 (i : Int32) (n : Nat) : Prop := ¬ (i < 0 ∨ n ≤ i.toNatClampNeg)
def am_go (pc : Nat) (off : Int) (L : am_L) (S : List Value) (h : am_h) : am_o := ck (0 ≤ (pc : Int) + off) (nx ((pc : Int) + off).toNat L S h)
def am_b1 (f : Int32 → Int32 → Int32) (pc : Nat) (L : am_L) (S : List Value) (h : am_h) : am_o := match S with
  | .int y :: .int x :: S => nx (pc + 1) L (.int (f x y) :: S) h
  | _ => none
def am_b2 (f : Int64 → Int64 → Int64) (pc : Nat) (L : am_L) (S : List Value) (h : am_h) : am_o := match S with
  | .long y :: .long x :: S => nx (pc + 1) L (.long (f x y) :: S) h
  | _ => none
def am_b3 (f : Int64 → Int32 → Int64) (pc : Nat) (L : am_L) (S : List Value) (h : am_h) : am_o := match S with
  | .int y :: .long x :: S => nx (pc + 1) L (.long (f x y) :: S) h
  | _ => none
def am_u1 (f : Int32 → Value) (pc : Nat) (L : am_L) (S : List Value) (h : am_h) : am_o := match S with
  | .int x :: S => nx (pc + 1) L (f x :: S) h
  | _ => none
def am_u2 (f : Int64 → Value) (pc : Nat) (L : am_L) (S : List Value) (h : am_h) : am_o := match S with
  | .long x :: S => nx (pc + 1) L (f x :: S) h
  | _ => none
def am_li (i n : Nat) (pc : Nat) (L : am_L) (S : List Value) (h : am_h) : am_o := match am_ld L i with
  | some (.int x) => nx (pc + n) L (.int x :: S) h
  | _ => none
def am_ll (i n : Nat) (pc : Nat) (L : am_L) (S : List Value) (h : am_h) : am_o := match am_ld L i with
  | some (.long x) => nx (pc + n) L (.long x :: S) h
  | _ => none
def am_la (i n : Nat) (pc : Nat) (L : am_L) (S : List Value) (h : am_h) : am_o := match am_ld L i with
  | some (.ref x) => nx (pc + n) L (.ref x :: S) h
  | _ => none
def am_si (i n m : Nat) (pc : Nat) (L : am_L) (S : List Value) (h : am_h) : am_o := match S with
  | .int x :: S => ck (i < m) (nx (pc + n) (am_s1 L i (.int x)) S h)
  | _ => none
def am_sl (i n m : Nat) (pc : Nat) (L : am_L) (S : List Value) (h : am_h) : am_o := match S with
  | .long x :: S => ck (i + 1 < m) (nx (pc + n) (am_s2 L i (.long x)) S h)
  | _ => none
def am_sa (i n m : Nat) (pc : Nat) (L : am_L) (S : List Value) (h : am_h) : am_o := match S with
  | .ref x :: S => ck (i < m) (nx (pc + n) (am_s1 L i (.ref x)) S h)
  | _ => none
/-- the six comparisons -/
def am_cm (c : Jvm.ClassFile.Cond) (x y : Int32) : Bool := match c with
  | .eq => decide (x = y)
  | .ne => decide (x ≠ y)
  | .lt => decide (x < y)
  | .ge => decide (y ≤ x)
  | .gt => decide (y < x)
  | .le => decide (x ≤ y)
/-- what an instruction does -/
def am_I (M : am_m) (i : Instr) (n pc : Nat) (L : am_L) (S : List Value) (h : am_h) : am_o := match i with
  | .iconst k => ck (n = 1) (nx (pc + 1) L (.int (Int32.ofInt k) :: S) h)
  | .bipush k => ck (n = 2) (nx (pc + 2) L (.int (Int8.ofInt k).toInt32 :: S) h)
  | .sipush k => ck (n = 3) (nx (pc + 3) L (.int (Int16.ofInt k).toInt32 :: S) h)
  | .lconst k => ck (n = 1) (nx (pc + 1) L (.long (Int64.ofNat k) :: S) h)
  | .aconst_null => ck (n = 1) (nx (pc + 1) L (.null :: S) h)
  | .ldc x => match am_kT.lookup (m_o M, x), am_sT.lookup (m_o M, x) with
    | some v, _ => ck (n = 2) (nx (pc + 2) L (.int v :: S) h)
    | none, some q => ck (n = 2) (nx (pc + 2) L (.ref q :: S) h)
    | none, none => none
  | .ldc_w x => match am_kT.lookup (m_o M, x) with
    | some v => ck (n = 3) (nx (pc + 3) L (.int v :: S) h)
    | none => none
  | .ldc2_w x => match am_lT.lookup (m_o M, x) with
    | some v => ck (n = 3) (nx (pc + 3) L (.long v :: S) h)
    | none => none
  | .iload k => ck (n = 2) (am_li k 2 pc L S h)
  | .iload_n k => ck (n = 1) (am_li k 1 pc L S h)
  | .lload k => ck (n = 2) (am_ll k 2 pc L S h)
  | .lload_n k => ck (n = 1) (am_ll k 1 pc L S h)
  | .aload k => ck (n = 2) (am_la k 2 pc L S h)
  | .aload_n k => ck (n = 1) (am_la k 1 pc L S h)
  | .istore k => ck (n = 2) (am_si k 2 (m_l M) pc L S h)
  | .istore_n k => ck (n = 1) (am_si k 1 (m_l M) pc L S h)
  | .lstore k => ck (n = 2) (am_sl k 2 (m_l M) pc L S h)
  | .lstore_n k => ck (n = 1) (am_sl k 1 (m_l M) pc L S h)
  | .astore k => ck (n = 2) (am_sa k 2 (m_l M) pc L S h)
  | .astore_n k => ck (n = 1) (am_sa k 1 (m_l M) pc L S h)
  | .iinc k v => match am_ld L k with
    | some (.int x) => ck (n = 3 ∧ k < m_l M) (nx (pc + 3) (am_s1 L k (.int (x + Int32.ofInt v))) S h)
    | _ => none
  | .iadd => ck (n = 1) (am_b1 (fun x y => x + y) pc L S h)
  | .isub => ck (n = 1) (am_b1 (fun x y => x - y) pc L S h)
  | .imul => ck (n = 1) (am_b1 (fun x y => x * y) pc L S h)
  | .iand => ck (n = 1) (am_b1 (fun x y => x &&& y) pc L S h)
  | .ior => ck (n = 1) (am_b1 (fun x y => x ||| y) pc L S h)
  | .ixor => ck (n = 1) (am_b1 (fun x y => x ^^^ y) pc L S h)
  | .ishl => ck (n = 1) (am_b1 (fun x y => x <<< (y &&& 31)) pc L S h)
  | .ishr => ck (n = 1) (am_b1 (fun x y => x >>> (y &&& 31)) pc L S h)
  | .iushr => ck (n = 1) (am_b1 (fun x y => (x.toUInt32 >>> (y.toUInt32 &&& Int32.toUInt32 31)).toInt32) pc L S h)
  | .ladd => ck (n = 1) (am_b2 (fun x y => x + y) pc L S h)
  | .lsub => ck (n = 1) (am_b2 (fun x y => x - y) pc L S h)
  | .lmul => ck (n = 1) (am_b2 (fun x y => x * y) pc L S h)
  | .land => ck (n = 1) (am_b2 (fun x y => x &&& y) pc L S h)
  | .lor => ck (n = 1) (am_b2 (fun x y => x ||| y) pc L S h)
  | .lushr => ck (n = 1) (am_b3 (fun x y => (x.toUInt64 >>> (y.toInt64.toUInt64 &&& Int64.toUInt64 63)).toInt64) pc L S h)
  | .lshl => ck (n = 1) (am_b3 (fun x y => x <<< (y.toInt64 &&& 63)) pc L S h)
  | .ineg => ck (n = 1) (am_u1 (fun x => .int (-x)) pc L S h)
  | .i2l => ck (n = 1) (am_u1 (fun x => .long x.toInt64) pc L S h)
  | .i2b => ck (n = 1) (am_u1 (fun x => .int x.toInt8.toInt32) pc L S h)
  | .i2c => ck (n = 1) (am_u1 (fun x => .int (x.toUInt32 % 65536).toInt32) pc L S h)
  | .lneg => ck (n = 1) (am_u2 (fun x => .long (-x)) pc L S h)
  | .l2i => ck (n = 1) (am_u2 (fun x => .int x.toInt32) pc L S h)
  | .idiv => match S with
    | .int y :: .int x :: S => ck (n = 1 ∧ ¬ y = 0) (nx (pc + 1) L (.int (x / y) :: S) h)
    | _ => none
  | .irem => match S with
    | .int y :: .int x :: S => ck (n = 1 ∧ ¬ y = 0) (nx (pc + 1) L (.int (x - x / y * y) :: S) h)
    | _ => none
  | .ldiv => match S with
    | .long y :: .long x :: S => ck (n = 1 ∧ ¬ y = 0) (nx (pc + 1) L (.long (x / y) :: S) h)
    | _ => none
  | .lcmp => match S with
    | .long y :: .long x :: S => ck (n = 1) (nx (pc + 1) L (.int (lg_cmp x y) :: S) h)
    | _ => none
  | .dup => match S with
    | v :: S => ck (n = 1 ∧ v.category = 1) (nx (pc + 1) L (v :: v :: S) h)
    | _ => none
  | .pop => match S with
    | v :: S => ck (n = 1 ∧ v.category = 1) (nx (pc + 1) L S h)
    | _ => none
  | .dup2 => match S with
    | v :: w :: S => ck (n = 1 ∧ v.category = 1 ∧ w.category = 1) (nx (pc + 1) L (v :: w :: v :: w :: S) h)
    | _ => none
  | .goto off => ck (n = 3) (am_go pc off L S h)
  | .ifCond c off => match S with
    | .int x :: S => if am_cm c x 0 = true then ck (n = 3) (am_go pc off L S h) else ck (n = 3 ∧ 0 ≤ (pc : Int) + off) (nx (pc + 3) L S h)
    | _ => none
  | .if_icmp c off => match S with
    | .int y :: .int x :: S => if am_cm c x y = true then ck (n = 3) (am_go pc off L S h) else ck (n = 3 ∧ 0 ≤ (pc : Int) + off) (nx (pc + 3) L S h)
    | _ => none
  | .ifnull off => match S with
    | .null :: S => ck (n = 3) (am_go pc off L S h)
    | .ref _ :: S => ck (n = 3) (nx (pc + 3) L S h)
    | _ => none
  | .ifnonnull off => match S with
    | .ref _ :: S => ck (n = 3) (am_go pc off L S h)
    | .null :: S => ck (n = 3) (nx (pc + 3) L S h)
    | _ => none
  | .tableswitch d lo hi offs => match S with
    | .int x :: S => if x.toInt < lo ∨ hi < x.toInt then am_go pc d L S h else match offs[(x.toInt - lo).toNat]? with
      | some off => am_go pc off L S h
      | none => none
    | _ => none
  | .lookupswitch d ps => match S with
    | .int x :: S => ck ((ps.toList.zip (ps.toList.drop 1)).all (fun (a, next) => a.1 < next.1) = true) (am_go pc (Op.lookupswitch.offset ps.toList d x.toInt) L S h)
    | _ => none
  | .getfield x => match S with
    | .ref p :: S => if (a_t h p).1 = 42 then (if m_o M = 20 ∧ x = 9 then ck (n = 3) (nx (pc + 3) L (.ref (p + 1) :: S) h) else if m_o M = 20 ∧ x = 15 then ck (n = 3) (nx (pc + 3) L (.int 0 :: S) h) else none) else match am_fT.lookup (m_o M, x) with
      | some (ci, k) => ck (n = 3 ∧ (a_t h p).1 = ci) (nx (pc + 3) L (am_fv id h p k (am_ty ci k) :: S) h)
      | none => none
    | _ => none
  | .putfield x => match S with
    | v :: .ref p :: S => match am_fT.lookup (m_o M, x) with
      | some (ci, k) => match am_pv h p k (am_ty ci k) v with
        | some h' => ck (n = 3 ∧ (a_t h p).1 = ci ∧ ((am_tb ci k).2.2.2 = false ∨ ((m_y M).name = "<init>" ∧ m_o M = ci))) (nx (pc + 3) L S h')
        | none => none
      | none => none
    | _ => none
  | .getstatic x => match am_gv h (m_o M) x with
    | some v => ck (n = 3) (nx (pc + 3) L (v :: S) h)
    | none => none
  | .iaload => match S with
    | .int i :: .ref p :: S => ck (n = 1 ∧ ((a_t h p).1 = 20 ∨ (a_t h p).1 = 40) ∧ ¬ (i < 0 ∨ (a_t h p).2 ≤ i.toNatClampNeg)) (nx (pc + 1) L (.int (a_i h p i.toNatClampNeg) :: S) h)
    | _ => none
  | .baload => match S with
    | .int i :: .ref p :: S => ck (n = 1 ∧ ((a_t h p).1 = 21 ∨ (a_t h p).1 = 41) ∧ ¬ (i < 0 ∨ (a_t h p).2 ≤ i.toNatClampNeg)) (nx (pc + 1) L (.int (a_i h p i.toNatClampNeg) :: S) h)
    | _ => none
  | .laload => match S with
    | .int i :: .ref p :: S => ck (n = 1 ∧ (a_t h p).1 = 22 ∧ ¬ (i < 0 ∨ (a_t h p).2 ≤ i.toNatClampNeg)) (nx (pc + 1) L (.long (a_l h p i.toNatClampNeg) :: S) h)
    | _ => none
  | .aaload => match S with
    | .int i :: .ref p :: S => ck (n = 1 ∧ (23 ≤ (a_t h p).1 ∧ (a_t h p).1 ≤ 26) ∧ ¬ (i < 0 ∨ (a_t h p).2 ≤ i.toNatClampNeg)) (nx (pc + 1) L (va_rf (a_r h p i.toNatClampNeg) :: S) h)
    | _ => none
  | .iastore => match S with
    | .int x :: .int i :: .ref p :: S => ck (n = 1 ∧ (a_t h p).1 = 20 ∧ ¬ (i < 0 ∨ (a_t h p).2 ≤ i.toNatClampNeg)) (nx (pc + 1) L S (s_i h p i.toNatClampNeg x))
    | _ => none
  | .bastore => match S with
    | .int x :: .int i :: .ref p :: S => ck (n = 1 ∧ (a_t h p).1 = 21 ∧ ¬ (i < 0 ∨ (a_t h p).2 ≤ i.toNatClampNeg)) (nx (pc + 1) L S (s_i h p i.toNatClampNeg x.toInt8.toInt32))
    | _ => none
  | .lastore => match S with
    | .long x :: .int i :: .ref p :: S => ck (n = 1 ∧ (a_t h p).1 = 22 ∧ ¬ (i < 0 ∨ (a_t h p).2 ≤ i.toNatClampNeg)) (nx (pc + 1) L S (s_l h p i.toNatClampNeg x))
    | _ => none
  | .aastore => match S with
    | .ref q :: .int i :: .ref p :: S => ck (n = 1 ∧ (23 ≤ (a_t h p).1 ∧ (a_t h p).1 ≤ 25) ∧ (a_t h q).1 = am_el (a_t h p).1 ∧ ¬ (i < 0 ∨ (a_t h p).2 ≤ i.toNatClampNeg)) (nx (pc + 1) L S (s_r h p i.toNatClampNeg (some q)))
    | _ => none
  | .arraylength => match S with
    | .ref p :: S => ck (n = 1 ∧ ((20 ≤ (a_t h p).1 ∧ (a_t h p).1 ≤ 26) ∨ (a_t h p).1 = 40 ∨ (a_t h p).1 = 41)) (nx (pc + 1) L (.int (Int32.ofNat (a_t h p).2) :: S) h)
    | _ => none
  | .newarray ty => match S with
    | .int x :: S => match am_at ty with
      | some t => ck (n = 2 ∧ ¬ x < 0 ∧ x.toNatClampNeg ≤ 60000 ∧ a_n h < am_MX) (nx (pc + 2) L (.ref (a_n h) :: S) (s_nw h t x.toNatClampNeg))
      | none => none
    | _ => none
  | .anewarray x => match S with
    | .int y :: S => match am_cT.lookup (m_o M, x) with
      | some ci => ck (n = 3 ∧ am_ak ci ≠ 99 ∧ ¬ y < 0 ∧ y.toNatClampNeg ≤ 60000 ∧ a_n h < am_MX) (nx (pc + 3) L (.ref (a_n h) :: S) (s_nw h (am_ak ci) y.toNatClampNeg))
      | none => none
    | _ => none
  | .multianewarray x dm => match S with
    | .int k :: .int y :: S => ck (n = 4 ∧ dm = 2 ∧ am_cT.lookup (m_o M, x) = some 26 ∧ ¬ k < 0 ∧ ¬ y < 0 ∧ k.toNatClampNeg ≤ 60000 ∧ y.toNatClampNeg ≤ 600 ∧ a_n h < am_MX) (nx (pc + 4) L (.ref (a_n h) :: S) (s_mn h y.toNatClampNeg k.toNatClampNeg))
    | _ => none
  | .new x => match am_cT.lookup (m_o M, x) with
    | some ci => ck (n = 3 ∧ ci ≤ 12 ∧ a_n h < am_MX) (nx (pc + 3) L (.ref (a_n h) :: S) (s_nw h ci (am_sz ci)))
    | none => none
  | .invokevirtual x => match am_mT.lookup (m_o M, x) with
    | some (M', 0) => match am_pop (m_n M') S with
      | some (as, .ref p :: S') => ck (n = 3 ∧ (((a_t h p).1 = m_o M' ∧ m_o M' ≤ 12) ∨ ((a_t h p).1 = 42 ∧ m_o M' = 20)) ∧ (am_ag (.ref p :: as)).length ≤ m_l M' ∧ (S'.map Value.category).sum ≤ 8) (some (.inr (.inr (M', .ref p :: as, S'))))
      | _ => none
    | _ => none
  | .invokestatic x => match am_mT.lookup (m_o M, x) with
    | some (_, 7) => match S with
      | .int b :: .int a :: S' => ck (n = 3 ∧ (S'.map Value.category).sum ≤ 8) (nx (pc + 3) L (.int (if a < b then b else a) :: S') h)
      | _ => none
    | some (_, 8) => match S with
      | .int b :: .int a :: S' => ck (n = 3 ∧ (S'.map Value.category).sum ≤ 8) (nx (pc + 3) L (.int (if b < a then b else a) :: S') h)
      | _ => none
    | some (_, 9) => match S with
      | .long b :: .long a :: S' => ck (n = 3 ∧ (S'.map Value.category).sum ≤ 8) (nx (pc + 3) L (.long (if b < a then a else b) :: S') h)
      | _ => none
    | some (_, 10) => match S with
      | .long b :: .long a :: S' => ck (n = 3 ∧ (S'.map Value.category).sum ≤ 8) (nx (pc + 3) L (.long (if b < a then b else a) :: S') h)
      | _ => none
    | some (M', k) => match am_pop (m_n M') S with
      | some (as, S') => ck (n = 3 ∧ (k = 1 ∨ k = 5) ∧ (am_ag as).length ≤ m_l M' ∧ (S'.map Value.category).sum ≤ 8) (some (.inr (.inr (M', as, S'))))
      | none => none
    | none => none
  | .invokespecial x => match am_mT.lookup (m_o M, x) with
    | some (M', k) => if k = 3 then (match S with
        | .ref _ :: S' => ck (n = 3 ∧ (S'.map Value.category).sum ≤ 8) (nx (pc + 3) L S' h)
        | _ => none)
      else match am_pop (m_n M') S with
        | some (as, .ref p :: S') => ck (n = 3 ∧ (k = 2 ∨ k = 6) ∧ (am_ag (.ref p :: as)).length ≤ m_l M' ∧ (S'.map Value.category).sum ≤ 8) (some (.inr (.inr (M', .ref p :: as, S'))))
        | _ => none
    | none => none
  | .ireturn => match S with
    | [.int v] => match m_r M with
      | some ty => ck (n = 1 ∧ narrow ty (.int v) = .int v) (rt (some (.int v)))
      | none => none
    | _ => none
  | .lreturn => match S with
    | [.long v] => ck (n = 1 ∧ m_r M = some .long) (rt (some (.long v)))
    | _ => none
  | .areturn => match S with
    | [.ref p] => match m_r M with
      | some (.object _) => ck (n = 1) (rt (some (.ref p)))
      | _ => none
    | _ => none
  | .return_ => match S with
    | [] => ck (n = 1 ∧ m_r M = none) (rt none)
    | _ => none
  | _ => none
def act (M : am_m) (pc : Nat) (L : am_L) (S : List Value) (h : am_h) : am_o := match decode (m_c M) pc with
  | .ok (i, n) => am_I M i n pc L S h
  | _ => none
theorem ac_of {M : am_m} {pc : Nat} {i : Instr} {n : Nat} (hd : decode (m_c M) pc = .ok (i, n)) (L : am_L) (S : List Value) (h : am_h) : act M pc L S h = am_I M i n pc L S h := by unfold act; rw [hd]
abbrev am_T : Type := Nat → am_m → Nat → am_L → List Value → am_h → Option Value → am_h → Prop
def am_ps (v : Option Value) (S : List Value) : List Value := match v with
  | some v => v :: S
  | none => S
/-- one step of a run: the rest of a method from a place, with the method's answer and the heap at its end -/
def am_S (P : am_T) : am_T := fun d M pc L S h r f => match act M pc L S h with
  | some (.inl (pc', L', S', h')) => P d M pc' L' S' h' r f
  | some (.inr (.inl v)) => r = v ∧ f = h
  | some (.inr (.inr (M', as, S'))) => ∃ (d' : Nat) (r1 : Option Value) (h1 : am_h), d = d' + 1 ∧ P d' M' 0 (am_en (m_l M') as) [] h r1 h1 ∧ P d M (pc + 3) L (am_ps r1 S') h1 r f
  | none => False
/-- a run that comes to its end -/
def am_E : am_T := fun d M pc L S h r f => ∀ P : am_T, (∀ d M pc L S h r f, am_S P d M pc L S h r f → P d M pc L S h r f) → P d M pc L S h r f
theorem am_mono {P P' : am_T} (hP : ∀ d M pc L S h r f, P d M pc L S h r f → P' d M pc L S h r f) (d : Nat) (M : am_m) (pc : Nat) (L : am_L) (S : List Value) (h : am_h) (r : Option Value) (f : am_h) (k : am_S P d M pc L S h r f) : am_S P' d M pc L S h r f := by
  unfold am_S at k ⊢
  split at k
  · exact hP _ _ _ _ _ _ _ _ k
  · exact k
  · obtain ⟨d', r1, h1, e1, e2, e3⟩ := k
    exact ⟨d', r1, h1, e1, hP _ _ _ _ _ _ _ _ e2, hP _ _ _ _ _ _ _ _ e3⟩
  · exact k
theorem am_E.mk {d : Nat} {M : am_m} {pc : Nat} {L : am_L} {S : List Value} {h : am_h} {r : Option Value} {f : am_h} (k : am_S am_E d M pc L S h r f) : am_E d M pc L S h r f :=
  fun P hP => hP _ _ _ _ _ _ _ _ (am_mono (fun _ _ _ _ _ _ _ _ q => q P hP) _ _ _ _ _ _ _ _ k)
theorem am_E.un {d : Nat} {M : am_m} {pc : Nat} {L : am_L} {S : List Value} {h : am_h} {r : Option Value} {f : am_h} (k : am_E d M pc L S h r f) : am_S am_E d M pc L S h r f :=
  k (am_S am_E) (fun _ _ _ _ _ _ _ _ q => am_mono (fun _ _ _ _ _ _ _ _ z => am_E.mk z) _ _ _ _ _ _ _ _ q)
theorem am_E.det {d : Nat} {M : am_m} {pc : Nat} {L : am_L} {S : List Value} {h : am_h} {r r' : Option Value} {f f' : am_h} (k : am_E d M pc L S h r f) (k' : am_E d M pc L S h r' f') : r = r' ∧ f = f' := by
  refine (k (fun d M pc L S h r f => ∀ (r' : Option Value) (f' : am_h), am_E d M pc L S h r' f' → r = r' ∧ f = f') ?_) r' f' k'
  clear k k'
  intro d M pc L S h r f q r' f' k'
  have z := k'.un
  unfold am_S at q z
  split at q
  · rename_i e
    rw [e] at z
    exact q _ _ z
  · rename_i e
    rw [e] at z
    exact ⟨q.1.trans z.1.symm, q.2.trans z.2.symm⟩
  · rename_i e
    rw [e] at z
    obtain ⟨d', r1, h1, e1, e2, e3⟩ := q
    obtain ⟨d2, r2, h2, g1, g2, g3⟩ := z
    have : d' = d2 := by omega
    subst this
    obtain ⟨rfl, rfl⟩ := e2 _ _ g2
    exact e3 _ _ g3
  · exact q.elim
/-- a run from a place comes to an end with Q -/
def WP (d : Nat) (M : am_m) (pc : Nat) (L : am_L) (S : List Value) (h : am_h) (Q : Option Value → am_h → Prop) : Prop := ∃ (r : Option Value) (f : am_h), am_E d M pc L S h r f ∧ Q r f
/-- a call comes to an end with Q -/
def Cal (d : Nat) (M : am_m) (as : List Value) (h : am_h) (Q : Option Value → am_h → Prop) : Prop := WP d M 0 (am_en (m_l M) as) [] h Q
def Kn (d : Nat) (M : am_m) (pc : Nat) (L : am_L) (S : List Value) (Q : Option Value → am_h → Prop) : Option Value → am_h → Prop := fun r h => WP d M pc L (am_ps r S) h Q
theorem Kn_v {d : Nat} {M : am_m} {pc : Nat} {L : am_L} {S : List Value} {Q : Option Value → am_h → Prop} {v : Value} {h : am_h} : Kn d M pc L S Q (some v) h = WP d M pc L (v :: S) h Q := rfl
theorem Kn_n {d : Nat} {M : am_m} {pc : Nat} {L : am_L} {S : List Value} {Q : Option Value → am_h → Prop} {h : am_h} : Kn d M pc L S Q none h = WP d M pc L S h Q := rfl
theorem wp_nx {d : Nat} {M : am_m} {pc : Nat} {L : am_L} {S : List Value} {h : am_h} {Q : Option Value → am_h → Prop} {pc' : Nat} {L' : am_L} {S' : List Value} {h' : am_h} (e : act M pc L S h = some (.inl (pc', L', S', h'))) : WP d M pc L S h Q = WP d M pc' L' S' h' Q := by
  apply propext
  constructor
  · rintro ⟨r, f, k, q⟩
    have z := k.un
    unfold am_S at z
    rw [e] at z
    exact ⟨r, f, z, q⟩
  · rintro ⟨r, f, k, q⟩
    refine ⟨r, f, am_E.mk ?_, q⟩
    unfold am_S
    rw [e]
    exact k
theorem wp_rt {d : Nat} {M : am_m} {pc : Nat} {L : am_L} {S : List Value} {h : am_h} {Q : Option Value → am_h → Prop} {v : Option Value} (e : act M pc L S h = some (.inr (.inl v))) : WP d M pc L S h Q = Q v h := by
  apply propext
  constructor
  · rintro ⟨r, f, k, q⟩
    have z := k.un
    unfold am_S at z
    rw [e] at z
    obtain ⟨rfl, rfl⟩ := z
    exact q
  · intro q
    refine ⟨v, h, am_E.mk ?_, q⟩
    unfold am_S
    rw [e]
    exact ⟨rfl, rfl⟩
theorem wp_cl {d : Nat} {M : am_m} {pc : Nat} {L : am_L} {S : List Value} {h : am_h} {Q : Option Value → am_h → Prop} {M' : am_m} {as S' : List Value} (e : act M pc L S h = some (.inr (.inr (M', as, S')))) : WP (d + 1) M pc L S h Q = Cal d M' as h (Kn (d + 1) M (pc + 3) L S' Q) := by
  apply propext
  constructor
  · rintro ⟨r, f, k, q⟩
    have z := k.un
    unfold am_S at z
    rw [e] at z
    obtain ⟨d', r1, h1, e1, e2, e3⟩ := z
    have : d = d' := by omega
    subst this
    exact ⟨r1, h1, e2, r, f, e3, q⟩
  · rintro ⟨r1, h1, e2, r, f, e3, q⟩
    refine ⟨r, f, am_E.mk ?_, q⟩
    unfold am_S
    rw [e]
    exact ⟨d, r1, h1, rfl, e2, e3⟩
theorem wp_no {d : Nat} {M : am_m} {pc : Nat} {L : am_L} {S : List Value} {h : am_h} {Q : Option Value → am_h → Prop} (e : act M pc L S h = none) : WP d M pc L S h Q = False := by
  apply propext
  constructor
  · rintro ⟨r, f, k, q⟩
    have z := k.un
    unfold am_S at z
    rw [e] at z
    exact z
  · intro q; exact q.elim
theorem wp_ck {d : Nat} {M : am_m} {pc : Nat} {L : am_L} {S : List Value} {h : am_h} {Q : Option Value → am_h → Prop} {c : Prop} [Decidable c] {x : am_o} {X : Prop} (e : act M pc L S h = ck c x) (k : act M pc L S h = x → WP d M pc L S h Q = X) : WP d M pc L S h Q = (c ∧ X) := by
  by_cases hc : c
  · rw [k (by rw [e]; unfold ck; rw [if_pos hc])]
    simp [hc]
  · rw [wp_no (by rw [e]; unfold ck; rw [if_neg hc])]
    simp [hc]
/-- what a call that answers r and leaves h' does -/
theorem Cal.of {d : Nat} {M : am_m} {as : List Value} {h : am_h} {r : Option Value} {h' : am_h} (k : am_E d M 0 (am_en (m_l M) as) [] h r h') (Q : Option Value → am_h → Prop) : Cal d M as h Q = Q r h' := by
  apply propext
  constructor
  · rintro ⟨r2, f2, k2, q⟩
    obtain ⟨rfl, rfl⟩ := k.det k2
    exact q
  · intro q; exact ⟨r, h', k, q⟩
theorem Cal.E {d : Nat} {M : am_m} {as : List Value} {h : am_h} {r : Option Value} {h' : am_h} (k : Cal d M as h (fun r2 f2 => r2 = r ∧ f2 = h')) : am_E d M 0 (am_en (m_l M) as) [] h r h' := by
  obtain ⟨r2, f2, k2, rfl, rfl⟩ := k
  exact k2
