/-! calls, returns -/
section CALLS
variable {l : Launch} {M : am_m} {pc n : Nat} {L L2 : am_L} {S S2 : List Value} {h h2 : am_h} {pc2 : Nat}
theorem am_AAs {u : State} (h : (Cond.arrayOver (.array .int)).before #[] u = true) : ∃ (comp c : Nat) (k : Class), u.vm.findClass (FieldType.array .int).toString = some comp ∧ (u.vm.classes.findIdx? fun (x : Class) => match x.kind with | .array component _ => component == comp | _ => false) = some c ∧ u.vm.classes[c]? = some k ∧ k.kind = .array comp (.array .int) ∧ u.vm.findClass ("[" ++ (FieldType.array .int).toString) = some c := by
  unfold Cond.before Cond.holds at h
  simp only [Cond.value, beq_iff_eq] at h
  obtain ⟨comp, h1, ha⟩ := Option.bind_eq_some_iff.mp h
  obtain ⟨c, h2, hb⟩ := Option.bind_eq_some_iff.mp ha
  obtain ⟨k, h3, hc⟩ := Option.map_eq_some_iff.mp hb
  clear h ha hb
  have hlt := (Array.findIdx?_eq_some_iff_getElem.mp h2)
  obtain ⟨hl, hp, -⟩ := hlt
  have hk : u.vm.classes[c]? = some (u.vm.classes[c]) := Array.getElem?_eq_getElem hl
  have ek : k = u.vm.classes[c] := Option.some.inj (h3.symm.trans hk)
  subst ek
  cases hkd : (u.vm.classes[c]).kind with
  | array component ty =>
    rw [hkd] at hc hp
    simp only [Bool.and_eq_true, decide_eq_true_eq, beq_iff_eq] at hc hp
    subst hp
    exact ⟨_, c, _, h1, h2, h3, by rw [hkd, hc.1], hc.2⟩
  | _ => rw [hkd] at hc; simp at hc
theorem am_AA {u U : State} (hvm : u.vm.Alike U.vm) (h : (Cond.arrayOver (.array .int)).before #[] u = true) : (Cond.arrayOver (.array .int)).before #[] U = true := by
  obtain ⟨comp, c, k, h1, h2, h3, h4, h5⟩ := am_AAs h
  obtain ⟨k', hk', he⟩ := hvm.2.2 _ _ h3
  have hi : (U.vm.classes.findIdx? fun (x : Class) => match x.kind with | .array component _ => component == comp | _ => false) = some c := by
    refine (va_idx_bare U.vm comp).symm.trans ?_
    first | rw [hvm.bare_eq] | rw [← hvm.bare_eq]
    exact (va_idx_bare u.vm comp).trans h2
  have hkind : k'.kind = .array comp (.array .int) := by rw [he]; exact h4
  have f1 : U.vm.findClass (FieldType.array .int).toString = some comp := by rw [hvm.findClass]; exact h1
  have f2 : U.vm.findClass ("[" ++ (FieldType.array .int).toString) = some c := by rw [hvm.findClass]; exact h5
  unfold Cond.before Cond.holds
  simp only [Cond.value]
  rw [f1, Option.bind_some]
  refine (congrArg (fun o : Option Nat => (o.bind (fun c => (U.vm.classes[c]?).map fun (k : Class) => match k.kind with | .array _ ty => decide (ty = FieldType.array .int) && decide (U.vm.findClass ("[" ++ (FieldType.array .int).toString) = some c) | _ => false) == some true)) hi).trans ?_
  simp [hk', hkind, f2]
theorem am_K.warm {G : va_G} {ca : Nat → ClassId} {ad : Nat → Nat} {s U : State} (hW : s.WarmedH U.vm) (k : am_K G ca ad s) : am_K G ca ad U := by
  obtain ⟨k1, k2, ⟨k3, k4, k5, k6⟩, k7, k8⟩ := k
  refine ⟨va_K.moved hW.alike k1, fun w hw ho hn => ?_, ⟨k3.moved hW.alike, k4.moved hW.alike, k5.moved hW.alike, am_AA hW.alike k6⟩, k7.warm hW, k8.warm hW⟩
  obtain ⟨o, i, y, q, rfl⟩ := hn
  exact va_Nw.warmM hW (k2 _ hw ho ⟨_, _, _, _, rfl⟩)
theorem am_K.same {G : va_G} {ca : Nat → ClassId} {ad : Nat → Nat} {s U : State} (hv : s.vm = U.vm) (k : am_K G ca ad s) : am_K G ca ad U := by
  obtain ⟨k1, k2, ⟨k3, k4, k5, k6⟩, k7, k8⟩ := k
  have ha : s.vm.Alike U.vm := by rw [hv]; exact Vm.Alike.refl _
  refine ⟨va_K.moved ha k1, fun w hw ho hn => (k2 w hw ho hn).same ho hv, ⟨k3.moved ha, k4.moved ha, k5.moved ha, am_AA ha k6⟩, k7.same hv.symm, k8.same hv.symm⟩
theorem am_O.moved {b : Nat} {ad : Nat → Nat} {s U : State} {H H1 : Heap} (ha : s.vm.Alike U.vm) (hq : ∀ a : Nat, a < H.size → ¬ am_A b a → H1[a]? = H[a]?) (k : am_O b ad h s H) : am_O b ad h U H1 := by
  obtain ⟨k1, k2, k3, k4, k5, k6, k7⟩ := k
  exact ⟨fun p hp e => ((k1 p hp e).moved ha).kept hq, fun p hp e => ((k2 p hp e).moved ha).kept hq, fun p hp e => ⟨((k3 p hp e).1.moved ha).kept hq, ((k3 p hp e).2.1.moved ha).kept hq, ((k3 p hp e).2.2.moved ha).kept hq⟩, (k4.moved ha).kept hq, (k5.moved ha).kept hq, (k6.moved ha).kept hq, (k7.moved ha).kept hq⟩
/-- how a method begins -/
def am_Pc (G : va_G) (ca : Nat → ClassId) (b : Nat) (ad : Nat → Nat) (as : List Value) (h : am_h) : Array Value → State → Prop := fun a U => a = (as.map (cV ad)).toArray ∧ am_K G ca ad U ∧ b ≤ U.heap.size ∧ am_O b ad h U U.heap ∧ am_R G ca b ad h U.heap
theorem am_Pc.blind {G : va_G} {ca : Nat → ClassId} {b : Nat} {ad : Nat → Nat} {as : List Value} : FrameBlind (am_Pc G ca b ad as h) := by
  intro a U g mk ⟨k1, k2, k3, k4, k5⟩
  exact ⟨k1, am_K.same (s := U) rfl k2, k3, k4.moved (Vm.Alike.refl _) (fun _ _ _ => rfl), k5⟩
def am_rm (d mc ms : Nat) : Room := { frames := d + 1, cells := mc, slots := ms, locals := 100 * (d + 1) }
theorem am_Met {d : Nat} {as : List Value} {r : Option Value} {f : am_h} (k : am_Z l d M 0 (am_en (m_l M) as) [] h r f) (hw : am_wf h) (hp : plainName (m_y M).cls = true) (ho : (m_y M).cls = am_on (m_o M)) (hlen : (am_ag as).length ≤ m_l M) (G : va_G) (ca : Nat → ClassId) (b : Nat) (ad : Nat → Nat) :
    Met l (m_y M) (Cond.code (m_y M) (m_c M) (m_l M) (m_r M) :: am_W) (am_rm d (a_n f - a_n h) (a_z f - a_z h)) (am_Pc G ca b ad as h) (am_Q G ca b ad r f) (a_n f - a_n h) (a_z f - a_z h) (am_A b) := by
  refine Met.ofW (cc := m_c M) (maxL := m_l M) (ret := m_r M) hp rfl ?_
  intro p e s m args below meth c s₁ B hml hv
  obtain ⟨rfl, hK, hbs, hO, hR⟩ := hv
  have hts := atoms_spec (ws := Cond.code (m_y M) (m_c M) (m_l M) (m_r M) :: am_W) B.pre
  have hown : s.vm.findClass (m_y M).cls = some m.cls := findClass_of_methodNamed B.named
  rw [ho] at hown
  have X : am_X p (am_rm d (a_n f - a_n h) (a_z f - a_z h)) s m (as.map (cV ad)).toArray meth c G ca b ad M d := ⟨B.exec, B.bytes, B.returns, hml, hown, fun w hw => hts w (List.mem_cons_of_mem _ hw), B.notSynchronized, (name_of_methodNamed B.named B.method).1, hK, hbs, Nat.le_refl _, Nat.le_refl _⟩
  rw [lg_entry_eq]
  have z := (k hw).2.2 p e (am_rm d (a_n f - a_n h) (a_z f - a_z h)) s m (as.map (cV ad)).toArray below meth c G ca b ad s.heap [] _ 0 0 X ⟨hO, va_S.rf, hR⟩ (am_LR.en hlen) (by rw [Nat.zero_add]; exact Nat.le_refl _) (by rw [Nat.zero_add]; exact Nat.le_refl _)
  rw [Nat.zero_add, Nat.zero_add] at z
  exact z
theorem am_good {ws : List Cond} (k : ∀ w ∈ ws, w ∈ am_W) : GoodIn am_W ws := fun w hw => ⟨k w hw, good_of_word (List.mem_filter.mp (k w hw)).2⟩
theorem pop_s {as : List Value} : ∀ {k : Nat} {S S2 : List Value}, am_pop k S = some (as, S2) → S = as.reverse ++ S2 ∧ as.length = k := by
  intro k
  induction k generalizing as with
  | zero => intro S S2 e; unfold am_pop at e; cases e; exact ⟨rfl, rfl⟩
  | succ k ih =>
    intro S S2 e
    unfold am_pop at e
    split at e
    · cases e
    · rename_i v S
      split at e
      · rename_i as0 S0 e0
        cases e
        obtain ⟨q1, q2⟩ := ih e0
        exact ⟨by rw [q1]; simp, by simp [q2]⟩
      · cases e
/-- a call of the small machine is a call of the machine -/
def am_C (l : Launch) (M : am_m) (pc : Nat) (S : List Value) (h : am_h) (M2 : am_m) (as S2 : List Value) : Prop := (plainName (m_y M2).cls = true ∧ (m_y M2).cls = am_on (m_o M2) ∧ (am_ag as).length ≤ m_l M2) ∧ ∀ (p : Program) (e : Env) (R : Room) (s : State) (m : MethodId) (args : Array Value) (below : List Frame) (meth : Method) (c : Code) (G : va_G) (ca : Nat → ClassId) (b : Nat) (ad : Nat → Nat) (H : Heap) (locs : List Loc) (ls : Array Slot) (cells slots d mc ms : Nat) (r : Option Value) (f : am_h), am_wf h → am_X p R s m args meth c G ca b ad M (d + 1) → am_Y s G ca b ad h H locs → ls.size = m_l M → cells + mc ≤ R.cells → slots + ms ≤ R.slots → Met l (m_y M2) (Cond.code (m_y M2) (m_c M2) (m_l M2) (m_r M2) :: am_W) (am_rm d mc ms) (am_Pc G ca b ad as h) (am_Q G ca b ad r f) mc ms (am_A b) → va_Run p l e R s m args below meth c H locs cells slots mc ms (F0 m pc ls (S.map (cV ad))) (S2.map (cV ad)) (am_Q G ca b ad r f (as.map (cV ad)).toArray) (am_A b)
theorem am_pre {p : Program} {R : Room} {s : State} {m : MethodId} {args : Array Value} {meth : Method} {c : Code} {G : va_G} {ca : Nat → ClassId} {b : Nat} {ad : Nat → Nat} {d : Nat} {H : Heap} {locs : List Loc} {as : List Value} (X : am_X p R s m args meth c G ca b ad M d) (Y : am_Y s G ca b ad h H locs) : ∀ U : State, U.heap = H → s.WarmedH U.vm → am_Pc G ca b ad as h (as.map (cV ad)).toArray U := by
  intro U hU hW
  refine ⟨rfl, X.2.2.2.2.2.2.2.2.1.warm hW, by rw [hU]; exact Nat.le_trans X.2.2.2.2.2.2.2.2.2.1 Y.2.1.1, ?_, by rw [hU]; exact Y.2.2⟩
  rw [hU]
  exact Y.1.moved hW.alike Y.2.1.2.1
theorem am_fix {p : Program} {R : Room} {s : State} {m : MethodId} {args : Array Value} {meth : Method} {c : Code} {G : va_G} {ca : Nat → ClassId} {b : Nat} {ad : Nat → Nat} {d : Nat} (X : am_X p R s m args meth c G ca b ad M d) : CallFix p m c (m_c M) (m_l M) s args am_W (am_on (m_o M)) := ⟨X.1, X.2.1, X.2.2.2.1, X.2.2.2.2.1, X.2.2.2.2.2.1⟩
theorem am_room {p : Program} {R : Room} {s : State} {m : MethodId} {args : Array Value} {meth : Method} {c : Code} {G : va_G} {ca : Nat → ClassId} {b : Nat} {ad : Nat → Nat} {d mc ms k : Nat} (X : am_X p R s m args meth c G ca b ad M (d + 1)) (hk : k ≤ 60) : (am_rm d mc ms).frames + 1 ≤ R.frames ∧ 8 + (k + 11) + (am_rm d mc ms).locals ≤ R.locals := by
  have h1 := X.2.2.2.2.2.2.2.2.2.2.1
  have h2 := X.2.2.2.2.2.2.2.2.2.2.2
  refine ⟨h1, ?_⟩
  show 8 + (k + 11) + 100 * (d + 1) ≤ R.locals
  omega
theorem cl_virtual {x : Nat} {M2 : am_m} {as : List Value} (hd : decode (m_c M) pc = .ok (.invokevirtual x, n)) (e : am_I M (.invokevirtual x) n pc L S h = some (.inr (.inr (M2, as, S2)))) : am_C l M pc S h M2 as S2 := by
  simp only [am_I] at e
  split at e
  · rename_i M' hf
    split at e
    · rename_i as0 q S' hp
      obtain ⟨⟨rfl, htag, hlen, hcat⟩, e1⟩ := ck_s e
      simp only [Option.some.injEq, Sum.inr.injEq, Prod.mk.injEq] at e1
      obtain ⟨rfl, rfl, rfl⟩ := e1
      obtain ⟨i, hi⟩ := am_mTOK _ (lookup_mem hf)
      have hcode : Cond.code (m_y M') (m_c M') (m_l M') (m_r M') ∈ am_W := am_mCW _ (lookup_mem hf) (show (0 : Nat) ≠ 3 by decide)
      simp [am_mTB] at hi
      obtain ⟨⟨⟨⟨i1, i2⟩, i3⟩, i4⟩, ⟨⟨⟨⟨i5, i6⟩, i7⟩, i8⟩, a, i9, i10⟩, i11⟩ := hi
      refine ⟨⟨i5, i6, hlen⟩, ?_⟩
      intro p e R s m args below meth c G ca b ad H locs ls cells slots d mc ms r f hw X Y hls hc hs hMet
      obtain ⟨p1, p2⟩ := pop_s hp
      have hrecv : ∃ cellB : Cell, H[ad q]? = some cellB ∧ cellB.vm.isStatics = false ∧ s.vm.findClass (m_y M').cls = some cellB.cls := by
        rcases htag with ⟨ht, hle⟩ | ⟨ht, hle⟩
        · have z := Y.2.2.2.2 q (hw.lt (by omega))
          rw [am_ce_o (by omega), ht] at z
          obtain ⟨r9, h1, cell, g1, g2, g3, -⟩ := z
          have hK := (X.2.2.2.2.2.2.2.2.1.1.1 (m_o M') _ (am_clOK (m_o M') (by omega))).2.1
          exact ⟨cell, g1, by rw [g3]; rfl, by rw [g2, i6]; exact hK⟩
        · obtain ⟨cell, g1, g2, g3, g4⟩ := (Y.1.2.2.1 q (hw.old (by omega) (by omega)) ht).1
          refine ⟨cell, ?_, g2, ?_⟩
          · rw [Y.2.1.2.1 _ (Array.getElem?_eq_some_iff.mp g1).1 g4]; exact g1
          · rw [i6, hle]; exact g3
      exact va_runV (b := ad q) (As := as0.map (cV ad)) (C := (m_y M').cls) (n := m_n M') (am_fix X) hMet (cwV (m_n M') X.2.2.2.2.2.1 (am_good (fun w hw => by
          simp only [wsV, List.mem_append, List.mem_cons, List.not_mem_nil, or_false] at hw
          rcases hw with (rfl | rfl | rfl | rfl) | rfl | hw
          · exact am_at1_in i1
          · exact am_at1_in i3
          · exact am_at1_in i4
          · exact am_at1_in i2
          · exact hcode
          · exact hw)) rfl rfl rfl ⟨rfl, i7, i8, by rw [i9]; simp [i10]⟩ (am_room X i11)) ⟨am_Pc.blind, hrecv, am_pre X Y⟩ rfl (by simp [p2]) hls (by show S.map (cV ad) = _; rw [p1]; simp [cV]) (lv_room (by rw [cV_sum]; exact hcat)) hd ⟨hc, hs⟩
    · cases e
  · cases e
theorem cl_static {x : Nat} {M2 : am_m} {as : List Value} (hd : decode (m_c M) pc = .ok (.invokestatic x, n)) (e : am_I M (.invokestatic x) n pc L S h = some (.inr (.inr (M2, as, S2)))) : am_C l M pc S h M2 as S2 := by
  simp only [am_I] at e
  split at e
  · split at e
    · obtain ⟨_, e1⟩ := ck_s e; simp [nx] at e1
    · cases e
  · split at e
    · obtain ⟨_, e1⟩ := ck_s e; simp [nx] at e1
    · cases e
  · split at e
    · obtain ⟨_, e1⟩ := ck_s e; simp [nx] at e1
    · cases e
  · split at e
    · obtain ⟨_, e1⟩ := ck_s e; simp [nx] at e1
    · cases e
  · rename_i M' k _ _ _ _ hf
    split at e
    · rename_i as0 S' hp
      obtain ⟨⟨rfl, hk, hlen, hcat⟩, e1⟩ := ck_s e
      simp only [Option.some.injEq, Sum.inr.injEq, Prod.mk.injEq] at e1
      obtain ⟨rfl, rfl, rfl⟩ := e1
      obtain ⟨i, hi⟩ := am_mTOK _ (lookup_mem hf)
      have hcode : Cond.code (m_y M') (m_c M') (m_l M') (m_r M') ∈ am_W := am_mCW _ (lookup_mem hf) (show k ≠ 3 by omega)
      obtain ⟨p1, p2⟩ := pop_s hp
      rcases hk with rfl | rfl
      · simp [am_mTB] at hi
        obtain ⟨⟨⟨i1, i2⟩, i3⟩, ⟨⟨⟨⟨i5, i6⟩, i7⟩, i8⟩, a, i9, i10⟩, i11⟩ := hi
        refine ⟨⟨i5, i6, hlen⟩, ?_⟩
        intro p e R s m args below meth c G ca b ad H locs ls cells slots d mc ms r f hw X Y hls hc hs hMet
        exact va_runS (As := as0.map (cV ad)) (n := m_n M') (am_fix X) hMet (va_cwS (m_n M') X.2.2.2.2.2.1 (am_good (fun w hw => by
          simp only [va_wsS, List.mem_append, List.mem_cons, List.not_mem_nil, or_false] at hw
          rcases hw with (rfl | rfl | rfl) | rfl | hw
          · exact am_at1_in i1
          · exact am_at1_in i3
          · exact am_at1_in i2
          · exact hcode
          · exact hw)) rfl rfl rfl ⟨i7, i8, by rw [i9]; simp [i10]⟩ (am_room X i11)) ⟨am_Pc.blind, am_pre X Y⟩ rfl (by simp [p2]) hls (by show S.map (cV ad) = _; rw [p1]; simp) (lv_room (by rw [cV_sum]; exact hcat)) hd ⟨hc, hs⟩
      · simp [am_mTB] at hi
        obtain ⟨⟨⟨i1, i2⟩, i3⟩, ⟨⟨⟨⟨i5, i6⟩, i7⟩, i8⟩, a, i9, i10⟩, i11⟩ := hi
        refine ⟨⟨i5, i6, hlen⟩, ?_⟩
        intro p e R s m args below meth c G ca b ad H locs ls cells slots d mc ms r f hw X Y hls hc hs hMet
        have hnw := X.2.2.2.2.2.2.2.2.1.2.1 _ (am_at0_in i1) rfl ⟨_, _, _, _, rfl⟩
        exact va_runSN (As := as0.map (cV ad)) (n := m_n M') (am_fix X) hMet ⟨va_cnB (m_n M') X.2.2.2.2.2.1 (am_good (fun w hw => by
          simp only [List.mem_cons] at hw
          rcases hw with rfl | hw
          · exact hcode
          · exact hw)) rfl rfl rfl hnw (X.2.2.2.2.2.1 _ (am_at1_in i2)) ⟨i7, i8, by rw [i9]; simp [i10]⟩ (am_room X i11), X.2.2.2.2.2.1 _ (am_at1_in i3), trivial⟩ ⟨am_Pc.blind, am_pre X Y⟩ rfl (by simp [p2]) hls (by show S.map (cV ad) = _; rw [p1]; simp) (lv_room (by rw [cV_sum]; exact hcat)) hd ⟨hc, hs⟩
    · cases e
  · cases e
theorem cl_special {x : Nat} {M2 : am_m} {as : List Value} (hd : decode (m_c M) pc = .ok (.invokespecial x, n)) (e : am_I M (.invokespecial x) n pc L S h = some (.inr (.inr (M2, as, S2)))) : am_C l M pc S h M2 as S2 := by
  simp only [am_I] at e
  split at e
  · rename_i M' k hf
    split at e
    · split at e
      · obtain ⟨_, e1⟩ := ck_s e; simp [nx] at e1
      · cases e
    · rename_i hk3
      split at e
      · rename_i as0 q S' hp
        obtain ⟨⟨rfl, hk, hlen, hcat⟩, e1⟩ := ck_s e
        simp only [Option.some.injEq, Sum.inr.injEq, Prod.mk.injEq] at e1
        obtain ⟨rfl, rfl, rfl⟩ := e1
        obtain ⟨i, hi⟩ := am_mTOK _ (lookup_mem hf)
        have hcode : Cond.code (m_y M') (m_c M') (m_l M') (m_r M') ∈ am_W := am_mCW _ (lookup_mem hf) hk3
        obtain ⟨p1, p2⟩ := pop_s hp
        have hrn : m_r M' = none := am_mRN _ (lookup_mem hf) hk
        rcases hk with rfl | rfl
        · simp [am_mTB] at hi
          obtain ⟨⟨⟨⟨i1, i2⟩, i3⟩, i4⟩, ⟨⟨⟨⟨i5, i6⟩, i7⟩, i8⟩, a, i9, i10⟩, i11⟩ := hi
          refine ⟨⟨i5, i6, hlen⟩, ?_⟩
          intro p e R s m args below meth c G ca b ad H locs ls cells slots d mc ms r f hw X Y hls hc hs hMet
          rw [hrn] at hMet hcode
          exact va_runI (b := ad q) (As := as0.map (cV ad)) (n := m_n M') (am_fix X) hMet (cwI (m_n M') X.2.2.2.2.2.1 (am_good (fun w hw => by
            simp only [List.mem_cons] at hw
            rcases hw with rfl | hw
            · exact hcode
            · exact hw)) rfl rfl rfl (X.2.2.2.2.2.1 _ (am_at1_in i2)) (X.2.2.2.2.2.1 _ (am_at1_in i1)) (X.2.2.2.2.2.1 _ (am_at1_in i3)) i4 ⟨i7, i8, by rw [i9]; simp [i10]⟩ (am_room X i11)) ⟨am_Pc.blind, am_pre X Y⟩ rfl (by simp [p2]) hls (by show S.map (cV ad) = _; rw [p1]; simp [cV]) (lv_room (by rw [cV_sum]; exact hcat)) hd ⟨hc, hs⟩
        · simp [am_mTB] at hi
          obtain ⟨⟨⟨⟨i1, i2⟩, i3⟩, i4⟩, ⟨⟨⟨⟨i5, i6⟩, i7⟩, i8⟩, a, i9, i10⟩, i11⟩ := hi
          refine ⟨⟨i5, i6, hlen⟩, ?_⟩
          intro p e R s m args below meth c G ca b ad H locs ls cells slots d mc ms r f hw X Y hls hc hs hMet
          rw [hrn] at hMet hcode
          have hnw := X.2.2.2.2.2.2.2.2.1.2.1 _ (am_at0_in i1) rfl ⟨_, _, _, _, rfl⟩
          exact va_runIN (b := ad q) (As := as0.map (cV ad)) (n := m_n M') (am_fix X) hMet ⟨va_cnB (m_n M') X.2.2.2.2.2.1 (am_good (fun w hw => by
            simp only [List.mem_cons] at hw
            rcases hw with rfl | hw
            · exact hcode
            · exact hw)) rfl rfl rfl hnw (X.2.2.2.2.2.1 _ (am_at1_in i2)) ⟨i7, i8, by rw [i9]; simp [i10]⟩ (am_room X i11), i4, X.2.2.2.2.2.1 _ (am_at1_in i3)⟩ ⟨am_Pc.blind, am_pre X Y⟩ rfl (by simp [p2]) hls (by show S.map (cV ad) = _; rw [p1]; simp [cV]) (lv_room (by rw [cV_sum]; exact hcat)) hd ⟨hc, hs⟩
      · cases e
  · cases e
theorem st_special {x : Nat} (hd : decode (m_c M) pc = .ok (.invokespecial x, n)) (e : am_I M (.invokespecial x) n pc L S h = some (.inl (pc2, L2, S2, h2))) : am_P l M pc L S h pc2 L2 S2 h2 := by
  simp only [am_I] at e
  split at e
  · rename_i M' k hf
    split at e
    · rename_i hk3
      subst hk3
      split at e
      · rename_i q S'
        obtain ⟨⟨rfl, hcat⟩, e1⟩ := ck_s e
        obtain ⟨rfl, rfl, rfl, rfl⟩ := nx_s e1
        obtain ⟨i, hi⟩ := am_mTOK _ (lookup_mem hf)
        simp [am_mTB] at hi
        refine am_P.pure (fun p e R s m args below meth c G ca b ad H locs ls cells slots d Q hw X Y hL kk => ?_)
        have hts := X.2.2.2.2.2.1
        have h1 := X.2.2.2.2.2.2.2.2.2.2.1
        have h9 := X.2.2.2.2.2.2.2.2.2.2.2
        exact W.objInit X.1 X.2.1 X.2.2.2.2.1 (hts _ (am_at1_in hi.1)) (hts _ (am_at1_in hi.2)) (hts _ cw_OI) rfl (by rw [X.2.2.2.1]; exact hL.1) rfl hd (by omega) (by show 2 * 0 + _ + 12 ≤ _; rw [cV_sum]; omega) kk
      · cases e
    · split at e
      · obtain ⟨_, e1⟩ := ck_s e; cases e1
      · cases e
  · cases e
end CALLS
