/-! SOUNDNESS, the words: a run of the small machine is a run of the machine -/
def cV (ad : Nat → Nat) (v : Value) : Value := match v with
  | .ref p => .ref (ad p)
  | v => v
theorem cV_i {ad : Nat → Nat} {x : Int32} : cV ad (.int x) = .int x := rfl
theorem cV_l {ad : Nat → Nat} {x : Int64} : cV ad (.long x) = .long x := rfl
theorem cV_r {ad : Nat → Nat} {x : Nat} : cV ad (.ref x) = .ref (ad x) := rfl
theorem cV_n {ad : Nat → Nat} : cV ad .null = .null := rfl
theorem cV_rf {ad : Nat → Nat} {o : Option Nat} : cV ad (va_rf o) = va_rf (o.map ad) := by cases o <;> rfl
theorem cV_cat {ad : Nat → Nat} {v : Value} : (cV ad v).category = v.category := by cases v <;> rfl
theorem cV_sum {ad : Nat → Nat} {S : List Value} : ((S.map (cV ad)).map fun v => v.category).sum = (S.map Value.category).sum := by
  induction S with
  | nil => rfl
  | cons v S ih => simp only [List.map_cons, List.sum_cons, cV_cat, ih]
theorem cV_fv {ad : Nat → Nat} {h : am_h} {p k : Nat} {ty : FieldType} : cV ad (am_fv id h p k ty) = am_fv ad h p k ty := by
  unfold am_fv
  cases ty <;> first | rfl | (simp only [Option.map_id, id, cV_rf])
/-- what the cell at a place is -/
def am_ce (ad : Nat → Nat) (ca : Nat → ClassId) (h : am_h) (p : Nat) : va_E :=
  if (a_t h p).1 < 20 then .inr ((a_t h p).1, (List.range (a_t h p).2).map (fun k => am_fv ad h p k (am_ty (a_t h p).1 k)))
  else if (a_t h p).1 < 22 then .inl (ca (a_t h p).1, (a_t h p).2, .inl (a_i h p))
  else if (a_t h p).1 = 22 then .inl (ca 22, (a_t h p).2, .inr (.inl (a_l h p)))
  else .inl (ca (a_t h p).1, (a_t h p).2, .inr (.inr (.inr (.inr (fun j => (a_r h p j).map ad)))))
def am_tys (ca : Nat → ClassId) : List (ClassId × FieldType) := [(ca 20, .int), (ca 21, .byte), (ca 22, .long), (ca 23, .object RX3), (ca 24, .object RX5), (ca 25, .object RX9), (ca 26, .array .int)]
def am_A (b : Nat) : Nat → Prop := fun q => b ≤ q
/-- kinds and sizes are as they should be; own places lie ahead of 1000000 -/
def am_wf (h : am_h) : Prop := a_n h ≤ 950000 ∧ (∀ p, p < a_n h → ((a_t h p).1 ≤ 12 ∧ (a_t h p).2 = am_sz (a_t h p).1) ∨ (20 ≤ (a_t h p).1 ∧ (a_t h p).1 ≤ 26)) ∧ ∀ p, (a_t h p).1 < 90 → ((a_t h p).1 < 40 ∧ p < a_n h) ∨ (40 ≤ (a_t h p).1 ∧ 1000000 ≤ p)
/-- what a run keeps: cells only come, old places stay -/
def am_M (h f : am_h) : Prop := a_n h ≤ a_n f ∧ a_z h ≤ a_z f ∧ ∀ p, 1000000 ≤ p → a_t f p = a_t h p ∧ a_i f p = a_i h p ∧ a_r f p = a_r h p
theorem am_M.rf {h : am_h} : am_M h h := ⟨Nat.le_refl _, Nat.le_refl _, fun _ _ => ⟨rfl, rfl, rfl⟩⟩
theorem am_M.tr {h f g : am_h} (a : am_M h f) (b : am_M f g) : am_M h g := ⟨Nat.le_trans a.1 b.1, Nat.le_trans a.2.1 b.2.1, fun p hp => ⟨(b.2.2 p hp).1.trans (a.2.2 p hp).1, (b.2.2 p hp).2.1.trans (a.2.2 p hp).2.1, (b.2.2 p hp).2.2.trans (a.2.2 p hp).2.2⟩⟩
/-- what the tables of a state say, and stays so -/
def am_K (G : va_G) (ca : Nat → ClassId) (ad : Nat → Nat) (U : State) : Prop := va_K G vwCl (am_tys ca) U ∧ (∀ w ∈ lw_tbl, w.onTables = true → (∃ o i y q, w = Cond.methodLinkNest o i y q) → va_Nw w U) ∧ (va_AO RX3 U ∧ va_AO RX5 U ∧ va_AO RX9 U ∧ (Cond.arrayOver (.array .int)).before #[] U = true) ∧ (vk_R RX7 91 " wait stops long cold haste speak hush yes go delay rule for to by if then else end or and not who ends ruled turns cut waits spread stop length gap into " (ad 1000003) U ∧ vk_R RX7 106 "<>=#+-*/();" (ad 1000005) U)
/-- the old cells: int rows, byte rows, texts, statics -/
def am_O (b : Nat) (ad : Nat → Nat) (h : am_h) (U : State) (H : Heap) : Prop :=
  (∀ p, 1000000 ≤ p → (a_t h p).1 = 40 → va_T .int (ad p) (a_t h p).2 (fun j => .int (a_i h p j)) (am_A b) U H) ∧
  (∀ p, 1000000 ≤ p → (a_t h p).1 = 41 → va_T .byte (ad p) (a_t h p).2 (fun j => .int (a_i h p j)) (am_A b) U H) ∧
  (∀ p, 1000000 ≤ p → (a_t h p).1 = 42 → va_O RJ0 (ad p) (am_A b) U H ∧ va_OF RJ0 "coder" "B" (.int 0) (ad p) (am_A b) U H ∧ va_OF RJ0 "value" "[B" (.ref (ad (p + 1))) (ad p) (am_A b) U H) ∧
  (va_Z RX4 "LEAST_OF_LAW" "[I" (.ref (ad 1000001)) (am_A b) U H ∧ va_Z RX4 "MOST_OF_LAW" "[I" (.ref (ad 1000002)) (am_A b) U H ∧ va_Z RJ0 "COMPACT_STRINGS" "Z" (.int 1) (am_A b) U H ∧ va_Z RJ3 "SIOOBE_FORMATTER" "Ljava/util/function/BiFunction;" (va_rf ((a_r h 1000008 0).map ad)) (am_A b) U H)
/-- the heap holds the cells -/
def am_R (G : va_G) (ca : Nat → ClassId) (b : Nat) (ad : Nat → Nat) (h : am_h) (H : Heap) : Prop := H.size = b + a_n h ∧ (∀ p, p < 1000000 → ad p = b + p) ∧ ∀ p, p < a_n h → va_at G vwCl (ad p, am_ce ad ca h p) H
/-- the locals hold what is known of them -/
def am_LR (ad : Nat → Nat) (L : am_L) (ls : Array Slot) (n : Nat) : Prop := ls.size = n ∧ lv_wf ls ∧ ∀ (i : Nat) (v : Value), am_ld L i = some v → ls[i]? = some (.val (cV ad v))
/-- how a method ends -/
def am_Q (G : va_G) (ca : Nat → ClassId) (b : Nat) (ad : Nat → Nat) (r : Option Value) (f : am_h) : Array Value → State → Outcome → State → Prop := fun _ st o t => o = .returned (r.map (cV ad)) ∧ am_R G ca b ad f t.heap ∧ va_F (am_A b) st t
section SND
variable {p : Program} {l : Launch} {e : Env} {R : Room} {s : State} {m : MethodId} {args : Array Value} {below : List Frame} {meth : Method} {c : Code} {H : Heap} {locs : List Loc} {cells slots : Nat} {Q : State → Prop} {ls : Array Slot}
/-- a frame of a method M, d calls deep at most -/
def am_X (p : Program) (R : Room) (s : State) (m : MethodId) (args : Array Value) (meth : Method) (c : Code) (G : va_G) (ca : Nat → ClassId) (b : Nat) (ad : Nat → Nat) (M : am_m) (d : Nat) : Prop :=
  p.tables.exec = Jvm.exec ∧ c.code = m_c M ∧ meth.sig.returnType = m_r M ∧ c.maxLocals = m_l M ∧ s.vm.findClass (am_on (m_o M)) = some m.cls ∧ (∀ w ∈ am_W, w.before args s = true) ∧ meth.locks = false ∧ meth.name = (m_y M).name ∧ am_K G ca ad s ∧ b ≤ s.heap.size ∧ d + 1 ≤ R.frames ∧ 100 * (d + 1) ≤ R.locals
/-- the world of a frame -/
def am_Y (s : State) (G : va_G) (ca : Nat → ClassId) (b : Nat) (ad : Nat → Nat) (h : am_h) (H : Heap) (locs : List Loc) : Prop := am_O b ad h s s.heap ∧ va_S (am_A b) s.heap H locs ∧ am_R G ca b ad h H
/-- what is shown of a run -/
def am_Z (l : Launch) : am_T := fun d M pc L S h r f => am_wf h → am_wf f ∧ am_M h f ∧ ∀ (p : Program) (e : Env) (R : Room) (s : State) (m : MethodId) (args : Array Value) (below : List Frame) (meth : Method) (c : Code) (G : va_G) (ca : Nat → ClassId) (b : Nat) (ad : Nat → Nat) (H : Heap) (locs : List Loc) (ls : Array Slot) (cells slots : Nat),
  am_X p R s m args meth c G ca b ad M d → am_Y s G ca b ad h H locs → am_LR ad L ls (m_l M) → cells + (a_n f - a_n h) ≤ R.cells → slots + (a_z f - a_z h) ≤ R.slots →
  W p l e R s m args below meth c H locs cells slots (MQ below (am_Q G ca b ad r f) args s (cells + (a_n f - a_n h)) (slots + (a_z f - a_z h)) (am_A b)) (F0 m pc ls (S.map (cV ad)))
/-- what is shown of a step -/
def am_P (l : Launch) (M : am_m) (pc : Nat) (L : am_L) (S : List Value) (h : am_h) (pc' : Nat) (L' : am_L) (S' : List Value) (h' : am_h) : Prop := am_wf h → am_wf h' ∧ am_M h h' ∧ ∀ (p : Program) (e : Env) (R : Room) (s : State) (m : MethodId) (args : Array Value) (below : List Frame) (meth : Method) (c : Code) (G : va_G) (ca : Nat → ClassId) (b : Nat) (ad : Nat → Nat) (H : Heap) (locs : List Loc) (ls : Array Slot) (cells slots d : Nat) (Q : State → Prop),
  am_X p R s m args meth c G ca b ad M d → am_Y s G ca b ad h H locs → am_LR ad L ls (m_l M) → cells + (a_n h' - a_n h) ≤ R.cells → slots + (a_z h' - a_z h) ≤ R.slots →
  (∀ (H' : Heap) (locs' : List Loc) (ls' : Array Slot), am_Y s G ca b ad h' H' locs' → am_LR ad L' ls' (m_l M) → W p l e R s m args below meth c H' locs' (cells + (a_n h' - a_n h)) (slots + (a_z h' - a_z h)) Q (F0 m pc' ls' (S'.map (cV ad)))) →
  W p l e R s m args below meth c H locs cells slots Q (F0 m pc ls (S.map (cV ad)))
/-- a step that changes neither heap nor locals -/
theorem am_P.pure {M : am_m} {pc : Nat} {L : am_L} {S : List Value} {h : am_h} {pc' : Nat} {S' : List Value}
    (k : ∀ (p : Program) (e : Env) (R : Room) (s : State) (m : MethodId) (args : Array Value) (below : List Frame) (meth : Method) (c : Code) (G : va_G) (ca : Nat → ClassId) (b : Nat) (ad : Nat → Nat) (H : Heap) (locs : List Loc) (ls : Array Slot) (cells slots d : Nat) (Q : State → Prop), am_wf h → am_X p R s m args meth c G ca b ad M d → am_Y s G ca b ad h H locs → am_LR ad L ls (m_l M) → W p l e R s m args below meth c H locs cells slots Q (F0 m pc' ls (S'.map (cV ad))) → W p l e R s m args below meth c H locs cells slots Q (F0 m pc ls (S.map (cV ad)))) : am_P l M pc L S h pc' L S' h := by
  intro hw
  refine ⟨hw, am_M.rf, ?_⟩
  intro p e R s m args below meth c G ca b ad H locs ls cells slots d Q X Y hL _ _ kk
  have := kk H locs ls Y hL
  simp only [Nat.sub_self, Nat.add_zero] at this
  exact k p e R s m args below meth c G ca b ad H locs ls cells slots d Q hw X Y hL this
/-- a step that changes the locals alone -/
theorem am_P.loc {M : am_m} {pc : Nat} {L L' : am_L} {S : List Value} {h : am_h} {pc' : Nat} {S' : List Value}
    (k : ∀ (p : Program) (e : Env) (R : Room) (s : State) (m : MethodId) (args : Array Value) (below : List Frame) (meth : Method) (c : Code) (ad : Nat → Nat) (H : Heap) (locs : List Loc) (ls : Array Slot) (cells slots : Nat) (Q : State → Prop), p.tables.exec = Jvm.exec → c.code = m_c M → am_LR ad L ls (m_l M) → (∀ ls', am_LR ad L' ls' (m_l M) → W p l e R s m args below meth c H locs cells slots Q (F0 m pc' ls' (S'.map (cV ad)))) → W p l e R s m args below meth c H locs cells slots Q (F0 m pc ls (S.map (cV ad)))) : am_P l M pc L S h pc' L' S' h := by
  intro hw
  refine ⟨hw, am_M.rf, ?_⟩
  intro p e R s m args below meth c G ca b ad H locs ls cells slots d Q X Y hL _ _ kk
  refine k p e R s m args below meth c ad H locs ls cells slots Q X.1 X.2.1 hL (fun ls' h' => ?_)
  have := kk H locs ls' Y h'
  simp only [Nat.sub_self, Nat.add_zero] at this
  exact this
theorem ck_s {c : Prop} [Decidable c] {x : am_o} {y : (Nat × am_L × List Value × am_h) ⊕ (Option Value ⊕ (am_m × List Value × List Value))} (h : ck c x = some y) : c ∧ x = some y := by
  unfold ck at h
  split at h
  · exact ⟨by assumption, h⟩
  · cases h
theorem nx_s {pc : Nat} {L : am_L} {S : List Value} {h : am_h} {pc' : Nat} {L' : am_L} {S' : List Value} {h' : am_h} (e : nx pc L S h = some (.inl (pc', L', S', h'))) : pc' = pc ∧ L' = L ∧ S' = S ∧ h' = h := by
  unfold nx at e
  simp only [Option.some.injEq, Sum.inl.injEq, Prod.mk.injEq] at e
  exact ⟨e.1.symm, e.2.1.symm, e.2.2.1.symm, e.2.2.2.symm⟩
/-- one that leads on, as a table of instructions' rows -/
theorem b1_s {f : Int32 → Int32 → Int32} {pc : Nat} {L : am_L} {S : List Value} {h : am_h} {z : (Nat × am_L × List Value × am_h) ⊕ (Option Value ⊕ (am_m × List Value × List Value))} (e : am_b1 f pc L S h = some z) : ∃ x y S0, S = .int y :: .int x :: S0 ∧ z = .inl (pc + 1, L, .int (f x y) :: S0, h) := by
  unfold am_b1 nx at e
  split at e
  · exact ⟨_, _, _, rfl, (Option.some.inj e).symm⟩
  · cases e
theorem b2_s {f : Int64 → Int64 → Int64} {pc : Nat} {L : am_L} {S : List Value} {h : am_h} {z : (Nat × am_L × List Value × am_h) ⊕ (Option Value ⊕ (am_m × List Value × List Value))} (e : am_b2 f pc L S h = some z) : ∃ x y S0, S = .long y :: .long x :: S0 ∧ z = .inl (pc + 1, L, .long (f x y) :: S0, h) := by
  unfold am_b2 nx at e
  split at e
  · exact ⟨_, _, _, rfl, (Option.some.inj e).symm⟩
  · cases e
theorem b3_s {f : Int64 → Int32 → Int64} {pc : Nat} {L : am_L} {S : List Value} {h : am_h} {z : (Nat × am_L × List Value × am_h) ⊕ (Option Value ⊕ (am_m × List Value × List Value))} (e : am_b3 f pc L S h = some z) : ∃ x y S0, S = .int y :: .long x :: S0 ∧ z = .inl (pc + 1, L, .long (f x y) :: S0, h) := by
  unfold am_b3 nx at e
  split at e
  · exact ⟨_, _, _, rfl, (Option.some.inj e).symm⟩
  · cases e
theorem u1_s {f : Int32 → Value} {pc : Nat} {L : am_L} {S : List Value} {h : am_h} {z : (Nat × am_L × List Value × am_h) ⊕ (Option Value ⊕ (am_m × List Value × List Value))} (e : am_u1 f pc L S h = some z) : ∃ x S0, S = .int x :: S0 ∧ z = .inl (pc + 1, L, f x :: S0, h) := by
  unfold am_u1 nx at e
  split at e
  · exact ⟨_, _, rfl, (Option.some.inj e).symm⟩
  · cases e
theorem u2_s {f : Int64 → Value} {pc : Nat} {L : am_L} {S : List Value} {h : am_h} {z : (Nat × am_L × List Value × am_h) ⊕ (Option Value ⊕ (am_m × List Value × List Value))} (e : am_u2 f pc L S h = some z) : ∃ x S0, S = .long x :: S0 ∧ z = .inl (pc + 1, L, f x :: S0, h) := by
  unfold am_u2 nx at e
  split at e
  · exact ⟨_, _, rfl, (Option.some.inj e).symm⟩
  · cases e
theorem go_s {pc : Nat} {off : Int} {L : am_L} {S : List Value} {h : am_h} {z : (Nat × am_L × List Value × am_h) ⊕ (Option Value ⊕ (am_m × List Value × List Value))} (e : am_go pc off L S h = some z) : ∃ tgt : Nat, (pc : Int) + off = (tgt : Int) ∧ z = .inl (tgt, L, S, h) := by
  obtain ⟨h0, e⟩ := ck_s e
  refine ⟨((pc : Int) + off).toNat, by omega, ?_⟩
  unfold nx at e
  exact (Option.some.inj e).symm
end SND
