/-! the world that the law begins in -/
section WORLD
variable {p : Program} {s : State} {m : MethodId} {meth : Method} {c : Code} {b L : Nat} {xs : Nat → Int32}
theorem arr_of {cA comp : ClassId} {k : Class} {ty : FieldType} (h1 : s.vm.classes[cA]? = some k) (h2 : k.kind = .array comp ty) : ArrOfT s cA ty := fun _ _ => ⟨(fun q hq => by cases hq), k, h1, comp, h2⟩
theorem two {P : Nat → Prop} (a0 : P 0) (a1 : P 1) : ∀ i, i < 2 → P i := fun i hi => by
  rcases (show i = 0 ∨ i = 1 by omega) with rfl | rfl
  · exact a0
  · exact a1
abbrev fl1 : List Cond := flatC (Jvm.Cond.and given_1 narrow_1)
theorem key1 : ∀ j, j < 5 → fl1[7 + j]? = some (Cond.eq (.elem (.static RX4 "LEAST_OF_LAW" "[I") (.int (Int32.ofNat j))) (.int (lo5 j))) := by decide +kernel
theorem key2 : ∀ j, j < 5 → fl1[15 + j]? = some (Cond.eq (.elem (.static RX4 "MOST_OF_LAW" "[I") (.int (Int32.ofNat j))) (.int (hi5 j))) := by decide +kernel
theorem key3 : ∀ j, j < 154 → fl1[29 + j]? = some (Cond.eq (.elem (.field (.string RX7 91) "java/lang/String" "value" "[B") (.int (Int32.ofNat j))) (.int (wbs.getD j 0))) := by decide +kernel
theorem key4 : ∀ j, j < 11 → fl1[187 + j]? = some (Cond.eq (.elem (.field (.string RX7 106) "java/lang/String" "value" "[B") (.int (Int32.ofNat j))) (.int (sbs.getD j 0))) := by decide +kernel
theorem key5 : fl1[5]? = some (Cond.arrayOf (.static RX4 "LEAST_OF_LAW" "[I") .int) ∧ fl1[6]? = some (Cond.eq (.length (.static RX4 "LEAST_OF_LAW" "[I")) (.int (Int32.ofNat 5))) ∧ fl1[13]? = some (Cond.arrayOf (.static RX4 "MOST_OF_LAW" "[I") .int) ∧ fl1[14]? = some (Cond.eq (.length (.static RX4 "MOST_OF_LAW" "[I")) (.int (Int32.ofNat 5))) ∧ fl1[20]? = some (Cond.eq (.static RJ0 "COMPACT_STRINGS" "Z") (.int 1)) ∧ fl1[21]? = some (Cond.isRef (.static RJ3 "SIOOBE_FORMATTER" "Ljava/util/function/BiFunction;")) := by decide +kernel
theorem key6 : fl1[25]? = some (Cond.exactly (.string RX7 91) "java/lang/String") ∧ fl1[26]? = some (Cond.eq (.field (.string RX7 91) "java/lang/String" "coder" "B") (.int 0)) ∧ fl1[27]? = some (Cond.arrayOf (.field (.string RX7 91) "java/lang/String" "value" "[B") .byte) ∧ fl1[28]? = some (Cond.eq (.length (.field (.string RX7 91) "java/lang/String" "value" "[B")) (.int (Int32.ofNat 154))) := by decide +kernel
theorem key7 : fl1[183]? = some (Cond.exactly (.string RX7 106) "java/lang/String") ∧ fl1[184]? = some (Cond.eq (.field (.string RX7 106) "java/lang/String" "coder" "B") (.int 0)) ∧ fl1[185]? = some (Cond.arrayOf (.field (.string RX7 106) "java/lang/String" "value" "[B") .byte) ∧ fl1[186]? = some (Cond.eq (.length (.field (.string RX7 106) "java/lang/String" "value" "[B")) (.int (Int32.ofNat 11))) ∧ fl1[198]? = some (Cond.not (.eq (.string RX7 91) (.string RX7 106))) := by decide +kernel
theorem world (C0 : lw_At p s m meth c b L xs) : ∃ (G : va_G) (ca : Nat → ClassId) (ad : Nat → Nat) (fo : Option Nat), (∀ t, fo = some t → 1000000 ≤ t) ∧ am_K G ca ad s ∧ am_Y s G ca s.heap.size ad (hW L xs fo) s.heap [] ∧ ad 1000000 = b := by
  obtain ⟨hx, hb, hr, hml, hown, hts, hX, hbl, hlocks, hgv⟩ := C0
  have hs0 := flat_of_before _ hgv
  have hs : ∀ {i : Nat} {w : Cond}, fl1[i]? = some w → w.before #[Value.ref b] s = true := fun h => hs0 _ (List.mem_of_getElem? h)
  have wd : ∀ {c j : Nat} {w : Cond}, (am_tb0 c)[j]? = some w → w.before #[Value.ref b] s = true := fun h => hts _ (am_tb0_in (List.mem_of_getElem? h))
  have hA : ∀ a : Nat, a < s.heap.size → ¬ am_A s.heap.size a := fun a h z => Nat.not_le.mpr h z
  obtain ⟨a1, v1, T1⟩ := va_Tof (N := 5) (f := fun j => .int (lo5 j)) (A := am_A s.heap.size) (by decide) (hs key5.1) (va_eqt (hs key5.2.1)) (fun j hj => va_eqt (hs (key1 j hj))) hA
  obtain ⟨a2, v2, T2⟩ := va_Tof (N := 5) (f := fun j => .int (hi5 j)) (A := am_A s.heap.size) (by decide) (hs key5.2.2.1) (va_eqt (hs key5.2.2.2.1)) (fun j hj => va_eqt (hs (key2 j hj))) hA
  have Z1 := va_Zref (wd (c := 3) (j := 162) rfl) (wd (c := 1) (j := 10) rfl) v1 hA
  have Z2 := va_Zref (wd (c := 3) (j := 164) rfl) (wd (c := 1) (j := 10) rfl) v2 hA
  have Z3 := va_Zof (wd (c := 4) (j := 12) rfl) (wd (c := 1) (j := 14) rfl) (va_eqt (hs key5.2.2.2.2.1)) hA
  have Z4 := va_Zqof (wd (c := 4) (j := 28) rfl) (wd (c := 1) (j := 16) rfl) (hs key5.2.2.2.2.2) hA
  obtain ⟨kk, vv, S0, S1⟩ := vk_Sof (N := 2) (tm := fun i => if i = 0 then .string RX7 91 else .string RX7 106) (len := [154, 11]) (byt := [wbs, sbs]) (A := am_A s.heap.size)
    (two (by decide) (by decide))
    (two (hs key6.1) (hs key7.1))
    (two (hs key6.2.1) (hs key7.2.1))
    (two (hs key6.2.2.1) (hs key7.2.2.1))
    (two (hs key6.2.2.2) (hs key7.2.2.2.1))
    (two (fun j hj => hs (key3 j hj)) (fun j hj => hs (key4 j hj)))
    (fun i j hi hj hij => by
      rcases (show i = 0 ∨ i = 1 by omega) with rfl | rfl <;> rcases (show j = 0 ∨ j = 1 by omega) with rfl | rfl
      · exact absurd rfl hij
      · exact Or.inl (hs key7.2.2.2.2)
      · exact Or.inr (hs key7.2.2.2.2)
      · exact absurd rfl hij) hA
  have R1 : vk_R RX7 91 _ (kk 0) s := vk_R.of (wd (c := 4) (j := 2) rfl) (S1 0 (by omega))
  have R2 : vk_R RX7 106 _ (kk 1) s := vk_R.of (wd (c := 4) (j := 59) rfl) (S1 1 (by omega))
  have inst : ∀ ci, ci < 13 → (Cond.instantiable (am_on ci) (am_sz ci)).before #[Value.ref b] s = true := by
    intro ci h
    rcases (show ci = 0 ∨ ci = 1 ∨ ci = 2 ∨ ci = 3 ∨ ci = 4 ∨ ci = 5 ∨ ci = 6 ∨ ci = 7 ∨ ci = 8 ∨ ci = 9 ∨ ci = 10 ∨ ci = 11 ∨ ci = 12 by omega) with rfl | rfl | rfl | rfl | rfl | rfl | rfl | rfl | rfl | rfl | rfl | rfl | rfl
    · exact wd (c := 1) (j := 221) rfl
    · exact wd (c := 2) (j := 1) rfl
    · exact wd (c := 1) (j := 188) rfl
    · exact wd (c := 1) (j := 76) rfl
    · exact wd (c := 2) (j := 131) rfl
    · exact wd (c := 1) (j := 69) rfl
    · exact wd (c := 5) (j := 218) rfl
    · exact wd (c := 2) (j := 79) rfl
    · exact wd (c := 1) (j := 30) rfl
    · exact wd (c := 2) (j := 150) rfl
    · exact wd (c := 1) (j := 36) rfl
    · exact wd (c := 1) (j := 22) rfl
    · exact wd (c := 6) (j := 153) rfl
  have cls : ∀ ci : Nat, ∃ q : ClassId × (Nat → Nat), ci < 13 → u_Kn s (am_on ci) (am_tb ci) (am_sz ci) q.1 q.2 := fun ci => by
    by_cases h : ci < 13
    · obtain ⟨cC, iS, k⟩ := u_known (C := am_on ci) (T := am_tb ci) (N := am_sz ci) (n := am_sz ci) hts (fun w hw => (List.mem_filter.mp (am_lyOK h w hw)).1) (inst ci h)
      exact ⟨(cC, iS), fun _ => k⟩
    · exact ⟨(0, fun _ => 0), fun z => absurd z h⟩
  obtain ⟨g, hg⟩ := Classical.axiomOfChoice cls
  obtain ⟨c20, k20, p20, f20, g20, h20⟩ := Cond.arrayClass_spec (wd (c := 1) (j := 67) rfl)
  obtain ⟨c21, k21, p21, f21, g21, h21⟩ := Cond.arrayClass_spec (wd (c := 4) (j := 212) rfl)
  obtain ⟨c22, k22, p22, f22, g22, h22⟩ := Cond.arrayClass_spec (wd (c := 7) (j := 157) rfl)
  obtain ⟨p23, c23, k23, d23, -, g23, h23, f23⟩ := Cond.arrayOver_spec (wd (c := 1) (j := 75) rfl)
  obtain ⟨p24, c24, k24, d24, -, g24, h24, f24⟩ := Cond.arrayOver_spec (wd (c := 1) (j := 219) rfl)
  obtain ⟨p25, c25, k25, d25, -, g25, h25, f25⟩ := Cond.arrayOver_spec (wd (c := 2) (j := 77) rfl)
  obtain ⟨p26, c26, k26, d26, g26, h26, f26⟩ := Cond.arrayOver_specA (wd (c := 5) (j := 224) rfl)
  obtain ⟨fo, tf, hfo, hZf⟩ : ∃ (fo : Option Nat) (tf : Nat), (∀ t, fo = some t → t = 1000007) ∧ va_Z RJ3 "SIOOBE_FORMATTER" "Ljava/util/function/BiFunction;" (va_rf (fo.map (fun _ => tf))) (am_A s.heap.size) s s.heap := by
    rcases Z4 with z | ⟨t, z⟩
    · exact ⟨none, 0, fun t e => absurd e (by simp), z⟩
    · exact ⟨some 1000007, t, fun t e => (Option.some.inj e).symm, z⟩
  obtain ⟨ad, hd0, hd1, hd2, hd3, hd4, hd5, hd6, hd7, hd8⟩ : ∃ ad : Nat → Nat, (∀ q, q < 1000000 → ad q = s.heap.size + q) ∧ ad 1000000 = b ∧ ad 1000001 = a1 ∧ ad 1000002 = a2 ∧ ad 1000003 = kk 0 ∧ ad 1000004 = vv 0 ∧ ad 1000005 = kk 1 ∧ ad 1000006 = vv 1 ∧ ad 1000007 = tf := by
    refine ⟨fun q => if q < 1000000 then s.heap.size + q else if q = 1000000 then b else if q = 1000001 then a1 else if q = 1000002 then a2 else if q = 1000003 then kk 0 else if q = 1000004 then vv 0 else if q = 1000005 then kk 1 else if q = 1000006 then vv 1 else tf, fun q hq => if_pos hq, rfl, rfl, rfl, rfl, rfl, rfl, rfl, rfl⟩
  obtain ⟨ca, e20, e21, e22, e23, e24, e25, e26⟩ : ∃ ca : Nat → ClassId, ca 20 = c20 ∧ ca 21 = c21 ∧ ca 22 = c22 ∧ ca 23 = c23 ∧ ca 24 = c24 ∧ ca 25 = c25 ∧ ca 26 = c26 :=
    ⟨fun n => if n = 20 then c20 else if n = 21 then c21 else if n = 22 then c22 else if n = 23 then c23 else if n = 24 then c24 else if n = 25 then c25 else c26, rfl, rfl, rfl, rfl, rfl, rfl, rfl⟩
  have K : va_K (fun k => (g k).1, fun k => (g k).2) vwCl (am_tys ca) s := by
    refine ⟨fun k q hk => ?_, fun k q hk => ?_⟩
    · have lt : k < 13 := (List.getElem?_eq_some_iff.mp hk).1
      have := (am_clOK k lt).symm.trans hk
      cases this
      exact hg k lt
    · have lt : k < 7 := (List.getElem?_eq_some_iff.mp hk).1
      rcases (show k = 0 ∨ k = 1 ∨ k = 2 ∨ k = 3 ∨ k = 4 ∨ k = 5 ∨ k = 6 by omega) with rfl | rfl | rfl | rfl | rfl | rfl | rfl <;> cases hk
      · rw [e20]; exact ⟨arr_of g20 h20, f20⟩
      · rw [e21]; exact ⟨arr_of g21 h21, f21⟩
      · rw [e22]; exact ⟨arr_of g22 h22, f22⟩
      · rw [e23]; exact ⟨arr_of g23 h23, k23, p23, g23, h23, d23, f23⟩
      · rw [e24]; exact ⟨arr_of g24 h24, k24, p24, g24, h24, d24, f24⟩
      · rw [e25]; exact ⟨arr_of g25 h25, k25, p25, g25, h25, d25, f25⟩
      · rw [e26]; exact ⟨arr_of g26 h26, f26⟩
  refine ⟨(fun k => (g k).1, fun k => (g k).2), ca, ad, fo, fun t e => by rw [hfo t e]; omega, ⟨K, fun w hw ho _ => va_Nw.of ho (hts w hw), ⟨va_AO.of (wd (c := 1) (j := 75) rfl), va_AO.of (wd (c := 1) (j := 219) rfl), va_AO.of (wd (c := 2) (j := 77) rfl), wd (c := 5) (j := 224) rfl⟩, ?_, ?_⟩, ⟨⟨fun q hq e => ?_, fun q hq e => ?_, fun q hq e => ?_, ?_, ?_, Z3, ?_⟩, va_S.rf, rfl, hd0, fun q hq => absurd hq (Nat.not_lt_zero q)⟩, hd1⟩
  · rw [hd4]; exact R1
  · rw [hd6]; exact R2
  · rcases hW_k.1 e with rfl | rfl | rfl
    · obtain ⟨scr, x1, x2, x3, x4, x5⟩ := hX
      rw [hd1]
      exact ⟨scr, x1, x2, x3, by rw [x4]; exact Nat.le_refl _, by rw [x4]; rfl, x5, hA b hbl⟩
    · rw [hd2]; exact T1
    · rw [hd3]; exact T2
  · rcases hW_k.2.1 e with rfl | rfl
    · rw [hd5]; exact (S0.1 0 (by omega)).2.2.2
    · rw [hd7]; exact (S0.1 1 (by omega)).2.2.2
  · rcases hW_k.2.2.1 e with rfl | rfl
    · rw [hd4, hd5]
      exact ⟨(S0.1 0 (by omega)).1, (S0.1 0 (by omega)).2.1, (S0.1 0 (by omega)).2.2.1⟩
    · rw [hd6, hd7]
      exact ⟨(S0.1 1 (by omega)).1, (S0.1 1 (by omega)).2.1, (S0.1 1 (by omega)).2.2.1⟩
  · rw [hd2]; exact Z1
  · rw [hd3]; exact Z2
  · have er : (a_r (hW L xs fo) 1000008 0).map ad = fo.map (fun _ => tf) := by
      rw [hW_r, if_pos rfl]
      cases fo with
      | none => rfl
      | some t => rw [hfo t rfl]; exact congrArg some hd8
    rw [er]
    exact hZf
end WORLD
