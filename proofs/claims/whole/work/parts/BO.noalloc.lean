/-! the reference's calls make no cells -/
section NOALLOC
def okA (h : am_h) (o : am_o) : Prop := ∀ pc' L' S' h', o = some (.inl (pc', L', S', h')) → a_n h' = a_n h
theorem okA_none {h : am_h} : okA h none := fun _ _ _ _ e => by cases e
theorem okA_rt {h : am_h} {v : Option Value} : okA h (rt v) := fun _ _ _ _ e => by cases e
theorem okA_cl {h : am_h} {x : am_m × List Value × List Value} : okA h (some (.inr (.inr x))) := fun _ _ _ _ e => by cases e
theorem okA_nx {h h' : am_h} {pc : Nat} {L : am_L} {S : List Value} (k : a_n h' = a_n h) : okA h (nx pc L S h') := fun _ _ _ _ e => by cases e; exact k
theorem okA_ck {h : am_h} {c : Prop} [Decidable c] {x : am_o} (k : c → okA h x) : okA h (ck c x) := by
  unfold ck
  split
  · rename_i z; exact k z
  · exact okA_none
theorem okA_go {h : am_h} {pc : Nat} {off : Int} {L : am_L} {S : List Value} : okA h (am_go pc off L S h) := okA_ck (fun _ => okA_nx rfl)
theorem okA_b1 {h : am_h} {f : Int32 → Int32 → Int32} {pc : Nat} {L : am_L} {S : List Value} : okA h (am_b1 f pc L S h) := by
  unfold am_b1; split
  · exact okA_nx rfl
  · exact okA_none
theorem okA_b2 {h : am_h} {f : Int64 → Int64 → Int64} {pc : Nat} {L : am_L} {S : List Value} : okA h (am_b2 f pc L S h) := by
  unfold am_b2; split
  · exact okA_nx rfl
  · exact okA_none
theorem okA_b3 {h : am_h} {f : Int64 → Int32 → Int64} {pc : Nat} {L : am_L} {S : List Value} : okA h (am_b3 f pc L S h) := by
  unfold am_b3; split
  · exact okA_nx rfl
  · exact okA_none
theorem okA_u1 {h : am_h} {f : Int32 → Value} {pc : Nat} {L : am_L} {S : List Value} : okA h (am_u1 f pc L S h) := by
  unfold am_u1; split
  · exact okA_nx rfl
  · exact okA_none
theorem okA_u2 {h : am_h} {f : Int64 → Value} {pc : Nat} {L : am_L} {S : List Value} : okA h (am_u2 f pc L S h) := by
  unfold am_u2; split
  · exact okA_nx rfl
  · exact okA_none
theorem okA_li {h : am_h} {i n pc : Nat} {L : am_L} {S : List Value} : okA h (am_li i n pc L S h) := by
  unfold am_li; split
  · exact okA_nx rfl
  · exact okA_none
theorem okA_ll {h : am_h} {i n pc : Nat} {L : am_L} {S : List Value} : okA h (am_ll i n pc L S h) := by
  unfold am_ll; split
  · exact okA_nx rfl
  · exact okA_none
theorem okA_la {h : am_h} {i n pc : Nat} {L : am_L} {S : List Value} : okA h (am_la i n pc L S h) := by
  unfold am_la; split
  · exact okA_nx rfl
  · exact okA_none
theorem okA_si {h : am_h} {i n m pc : Nat} {L : am_L} {S : List Value} : okA h (am_si i n m pc L S h) := by
  unfold am_si; split
  · exact okA_ck (fun _ => okA_nx rfl)
  · exact okA_none
theorem okA_sl {h : am_h} {i n m pc : Nat} {L : am_L} {S : List Value} : okA h (am_sl i n m pc L S h) := by
  unfold am_sl; split
  · exact okA_ck (fun _ => okA_nx rfl)
  · exact okA_none
theorem okA_sa {h : am_h} {i n m pc : Nat} {L : am_L} {S : List Value} : okA h (am_sa i n m pc L S h) := by
  unfold am_sa; split
  · exact okA_ck (fun _ => okA_nx rfl)
  · exact okA_none

theorem pv_n {h h' : am_h} {p k : Nat} {ty : FieldType} {v : Value} (e : am_pv h p k ty v = some h') : a_n h' = a_n h := by
  unfold am_pv at e
  split at e
  · cases e; rfl
  · cases e; rfl
  · split at e
    · cases e; rfl
    · cases e
  · cases e; rfl
  · cases e; rfl
  · cases e; rfl
  · cases e; rfl
  · cases e
def noNA (c : ByteArray) : Bool := (List.range c.size).all (fun pc => match decode c pc with
  | .ok (.newarray _, _) => false
  | _ => true)
theorem cT_12 : am_cT.all (fun e => !(e.1.1 == 12)) = true := by decide +kernel
set_option maxRecDepth 1000000 in
theorem mT_f : am_mT.filter (fun e => e.1.1 == 12) = [((12, 1), (mL_law, 3)), ((12, 169), (mX12_copies, 0)), ((12, 173), (mX12_in, 1)), ((12, 177), (mX12_refuses, 0)), ((12, 181), (mX12_refusesIt, 0)), ((12, 185), (mX12_isEnd, 0)), ((12, 188), (mX12_delayOf, 0)), ((12, 191), (mX12_keepsStep, 0)), ((12, 197), (mX12_put, 0)), ((12, 311), (mX12_next, 0)), ((12, 277), (mX12_isLetter, 1)), ((12, 282), (mX12_wordOf, 1)), ((12, 388), (mX12_asks, 0)), ((12, 328), (mX12_isWord, 0)), ((12, 331), (mX12_opensSign, 0)), ((12, 305), (mX12_errs, 0)), ((12, 308), (mX12_opensFrame, 0)), ((12, 391), (mX12_begins, 0)), ((12, 337), (mX12_nameNow, 0)), ((12, 321), (mX12_emits, 0)), ((12, 341), (mX12_oneIsOver, 0)), ((12, 354), (mX12_top, 0)), ((12, 347), (mX12_mayName, 1)), ((12, 351), (mX12_isSign, 0)), ((12, 394), (mX12_goesOn, 0)), ((12, 357), (mX12_waitsFor, 0)), ((12, 317), (mX12_rank, 1)), ((12, 325), (mX12_works, 0)), ((12, 360), (mX12_turnsTo, 0)), ((12, 363), (mX12_isAsking, 1)), ((12, 366), (mX12_askIsOver, 0)), ((12, 369), (mX12_clauseIsOver, 0)), ((12, 397), (mX12_asksOn, 0)), ((12, 400), (mX12_clause, 0)), ((12, 382), (mX12_wasTold, 0)), ((12, 385), (mX12_doing, 0)), ((12, 375), (mX12_number, 0)), ((12, 378), (mX12_numberBehind, 0)), ((12, 514), (mX12_laysNow, 0)), ((12, 442), (mX12_laysTurn, 0)), ((12, 415), (mX12_ofTurn, 0)), ((12, 445), (mX12_wasSpoken, 0)), ((12, 517), (mX12_tenthGoes, 0)), ((12, 502), (mX12_hearsAll, 0)), ((12, 499), (mX12_lowestOf, 1)), ((12, 505), (mX12_goesSpeaking, 0)), ((12, 484), (mX12_stopsOf, 0)), ((12, 448), (mX12_told, 0)), ((12, 468), (mX12_lawOf, 0)), ((12, 451), (mX12_ordersOf, 0)), ((12, 454), (mX12_names, 0)), ((12, 457), (mX12_saysOf, 0)), ((12, 411), (mX12_worked, 1)), ((12, 407), (mX12_bound, 1)), ((12, 461), (mX12_held, 1)), ((12, 487), (mX12_endsTurn, 0)), ((12, 490), (mX12_saysNow, 0)), ((12, 508), (mX12_goesSilent, 0)), ((12, 493), (mX12_findsPatience, 0)), ((12, 475), (mX12_draw, 0)), ((12, 496), (mX12_beginsTurn, 0)), ((12, 478), (mX12_longOf, 0)), ((12, 511), (mX12_talliesAll, 0)), ((12, 520), (mX12_keepsNow, 0)), ((12, 523), (mX12_turnGoingOn, 0)), ((12, 526), (mX12_heardOut, 0)), ((12, 529), (mX12_speak, 0)), ((12, 532), (mX12_hush, 0)), ((12, 535), (mX12_yes, 0)), ((12, 538), (mX12_go, 0)), ((12, 541), (mX12_delay, 0)), ((12, 544), (mX12_rule, 0)), ((12, 547), (mX12_countOf, 0)), ((12, 553), (mX12_takenAt, 0)), ((12, 550), (mX12_heardThen, 0)), ((12, 559), (mX12_endedBy, 0)), ((12, 562), (mX12_inLowest, 1)), ((12, 556), (mX12_common, 1)), ((12, 566), (mX12_beganAt, 0)), ((12, 569), (mX12_heardBegin, 0)), ((12, 572), (mX12_hasBegun, 0)), ((12, 575), (mX12_seems, 0)), ((12, 579), (mX12_turnAt, 0)), ((12, 582), (mX12_laysRule, 0)), ((12, 585), (mX12_penceOf, 0)), ((12, 595), (mX12_isLine, 1)), ((12, 598), (mX12_comesOf, 0)), ((12, 588), (mX12_laysFresh, 0)), ((12, 592), (mX12_cameThrough, 0)), ((12, 602), (mX12_comeApart, 1))] := rfl
theorem lk_key {α β : Type} [BEq α] [LawfulBEq α] {l : List (α × β)} {a : α} {b : β} (k : l.lookup a = some b) : (a, b) ∈ l := by
  induction l with
  | nil => cases k
  | cons x l ih =>
    obtain ⟨x1, x2⟩ := x
    rw [List.lookup_cons] at k
    split at k
    · rename_i z
      cases k
      rw [eq_of_beq z]
      exact List.mem_cons_self
    · exact List.mem_cons_of_mem _ (ih k)
theorem cT_no {x ci : Nat} : ¬ am_cT.lookup (12, x) = some ci := fun e => by
  have := List.all_eq_true.mp cT_12 _ (lk_key e)
  simp at this
/-- a method of the reference, not its constructor -/
def refM (M : am_m) : Prop := m_o M = 12 ∧ noNA (m_c M) = true
theorem dec_out {c : ByteArray} {pc : Nat} (k : ¬ pc < c.size) {i : Instr} {n : Nat} : ¬ decode c pc = .ok (i, n) := by
  have h1 : (Jvm.ClassFile.Reader.u1 : Jvm.ClassFile.Decoder Nat) c pc = Except.error (Jvm.ClassFile.HasTruncated.truncated pc) := by
    unfold Jvm.ClassFile.Reader.u1
    show (dite (pc < c.size) (fun h => (do set (pc + 1); pure c[pc].toNat : Jvm.ClassFile.Decoder Nat)) (fun _ => throw (Jvm.ClassFile.HasTruncated.truncated pc))) c pc = _
    rw [dif_neg k]
    rfl
  have h2 : (Jvm.ClassFile.Decoder.instr pc) c pc = Except.error (Jvm.ClassFile.HasTruncated.truncated pc) := by
    unfold Jvm.ClassFile.Decoder.instr
    show Except.bind ((Jvm.ClassFile.Reader.u1 : Jvm.ClassFile.Decoder Nat) c pc) _ = _
    rw [h1]
    rfl
  intro e
  unfold decode at e
  have e' : Except.bind ((Jvm.ClassFile.Decoder.instr pc) c pc) _ = _ := e
  rw [h2] at e'
  cases e'
theorem na_no {c : ByteArray} (k : noNA c = true) {pc n : Nat} {ty : ArrayType} : ¬ decode c pc = .ok (.newarray ty, n) := fun e => by
  by_cases z : pc < c.size
  · have := List.all_eq_true.mp k pc (List.mem_range.mpr z)
    rw [e] at this
    cases this
  · exact dec_out z e
set_option maxHeartbeats 4000000 in
theorem I_na {M : am_m} {i : Instr} {n pc : Nat} {L : am_L} {S : List Value} {h : am_h} (hM : m_o M = 12) (hi : ∀ ty, ¬ i = .newarray ty) : okA h (am_I M i n pc L S h) := by
  cases i
  case putfield x =>
    simp only [am_I]
    split
    · split
      · split
        · rename_i e2
          exact okA_ck (fun c => okA_nx (pv_n e2))
        · exact okA_none
      · exact okA_none
    · exact okA_none
  case iastore =>
    simp only [am_I]
    split
    · exact okA_ck (fun c => okA_nx rfl)
    · exact okA_none
  case bastore =>
    simp only [am_I]
    split
    · exact okA_ck (fun c => okA_nx rfl)
    · exact okA_none
  case lastore =>
    simp only [am_I]
    split
    · exact okA_ck (fun c => okA_nx rfl)
    · exact okA_none
  case aastore =>
    simp only [am_I]
    split
    · exact okA_ck (fun c => okA_nx rfl)
    · exact okA_none
  case newarray ty => exact absurd rfl (hi ty)
  case anewarray =>
    simp only [am_I]
    split
    · split
      · rename_i e
        rw [hM] at e
        exact absurd e cT_no
      · exact okA_none
    · exact okA_none
  case multianewarray =>
    simp only [am_I]
    split
    · exact okA_ck (fun c => absurd (hM ▸ c.2.2.1) cT_no)
    · exact okA_none
  case new =>
    simp only [am_I]
    split
    · rename_i e
      rw [hM] at e
      exact absurd e cT_no
    · exact okA_none
  all_goals first
    | exact okA_none
    | (simp only [am_I]; repeat' (first | exact okA_none | exact okA_rt | exact okA_cl | exact okA_nx rfl | exact okA_go | exact okA_b1 | exact okA_b2 | exact okA_b3 | exact okA_u1 | exact okA_u2 | exact okA_li | exact okA_ll | exact okA_la | exact okA_si | exact okA_sl | exact okA_sa | (refine okA_ck (fun _ => ?_)) | split))

end NOALLOC
