/-! putfield, and what makes cells -/
section MAKE
variable {l : Launch} {M : am_m} {pc n : Nat} {L L2 : am_L} {S S2 : List Value} {h h2 : am_h} {pc2 : Nat}
theorem pv_all {q k : Nat} {ty : FieldType} {v : Value} (e : am_pv h q k ty v = some h2) : (a_n h2 = a_n h ∧ a_z h2 = a_z h ∧ a_t h2 = a_t h) ∧ (∀ q2, q2 ≠ q → a_i h2 q2 = a_i h q2 ∧ a_l h2 q2 = a_l h q2 ∧ a_r h2 q2 = a_r h q2) ∧ (∀ ad : Nat → Nat, am_fv ad h2 q k ty = cV ad v ∧ narrow ty (cV ad v) = cV ad v ∧ fits ty (cV ad v) = true) ∧ ∀ j, j ≠ k → a_i h2 q j = a_i h q j ∧ a_l h2 q j = a_l h q j ∧ a_r h2 q j = a_r h q j := by
  unfold am_pv at e
  split at e
  · cases e
    refine ⟨⟨rfl, rfl, rfl⟩, fun q2 hq => ⟨rfl, funext fun j => if_neg (fun z => hq z.1), rfl⟩, fun ad => ⟨?_, rfl, rfl⟩, fun j hj => ⟨rfl, if_neg (fun z => hj z.2), rfl⟩⟩
    simp [am_fv, l_sl, cV]
  · cases e
    refine ⟨⟨rfl, rfl, rfl⟩, fun q2 hq => ⟨funext fun j => if_neg (fun z => hq z.1), rfl, rfl⟩, fun ad => ⟨?_, rfl, rfl⟩, fun j hj => ⟨if_neg (fun z => hj z.2), rfl, rfl⟩⟩
    simp [am_fv, i_si, cV]
  · split at e
    · rename_i hx
      cases e
      refine ⟨⟨rfl, rfl, rfl⟩, fun q2 hq => ⟨funext fun j => if_neg (fun z => hq z.1), rfl, rfl⟩, fun ad => ⟨?_, ?_, ?_⟩, fun j hj => ⟨if_neg (fun z => hj z.2), rfl, rfl⟩⟩
      · simp [am_fv, i_si, cV]
      · rcases hx with rfl | rfl <;> rfl
      · rcases hx with rfl | rfl <;> rfl
    · cases e
  all_goals first
    | (cases e; done)
    | (cases e
       refine ⟨⟨rfl, rfl, rfl⟩, fun q2 hq => ⟨rfl, rfl, funext fun j => if_neg (fun z => hq z.1)⟩, fun ad => ⟨?_, rfl, rfl⟩, fun j hj => ⟨rfl, rfl, if_neg (fun z => hj z.2)⟩⟩
       simp [am_fv, r_sr, cV, va_rf])
set_option maxHeartbeats 4000000 in
theorem st_putfield {x : Nat} (hd : decode (m_c M) pc = .ok (.putfield x, n)) (e : am_I M (.putfield x) n pc L S h = some (.inl (pc2, L2, S2, h2))) : am_P l M pc L S h pc2 L2 S2 h2 := by
  simp only [am_I] at e
  split at e
  · rename_i v q S0
    split at e
    · rename_i ci k hf
      split at e
      · rename_i h' hv
        obtain ⟨⟨rfl, hk, hfin⟩, e1⟩ := ck_s e
        obtain ⟨rfl, rfl, rfl, rfl⟩ := nx_s e1
        obtain ⟨i, hi⟩ := am_fTOK _ (lookup_mem hf)
        unfold am_fTB at hi
        simp only [Bool.and_eq_true, decide_eq_true_eq] at hi
        obtain ⟨⟨hi1, hi2⟩, hi3⟩ := hi
        obtain ⟨⟨p1, p2, p3⟩, p4, p5, p6⟩ := pv_all hv
        refine am_P.wr (q0 := q) (by omega) p1 p2 p3 p4 (fun p e R s m args below meth c G ca b ad H locs ls cells slots d Q hw h0 hA X Y hL kk => ?_)
        have hci : ci < 13 := by omega
        have z := Y.2.2.2.2 q h0
        rw [am_ce_o (by omega), hk] at z
        have hsz : (a_t h q).2 = am_sz ci := by
          rcases hw.2.1 q h0 with ⟨_, w⟩ | w
          · rw [w, hk]
          · omega
        rw [hsz] at z
        have hc := am_clOK ci hci
        have hK := X.2.2.2.2.2.2.2.2.1.1
        have hts := X.2.2.2.2.2.1
        have hin := am_lyOK hci
        have hap := va_apart (own := am_on (m_o M)) hts hin (am_ty ci) (am_tyOK ci hci) (am_nmOK ci hci) hK hc
        obtain ⟨r, hr1, cell, q1, q2, q3, q4⟩ := z
        have hr : r = (am_on ci, am_tb ci, am_sz ci) := Option.some.inj (hr1.symm.trans hc)
        subst hr
        obtain ⟨hS, hfc, kC, hkC, hkind⟩ := hK.1 ci _ hc
        obtain ⟨cf, kf, fi, f, hi, hsl⟩ := hS k hi2
        have hst := (u_facts hfc hkC (u_lays hts hin hi2) hi).1
        have hlay := hts _ (hin _ (u_in_lay hi2))
        have hd' := am_tyOK ci hci k hi2
        have hlink := hts _ (am_at1_in hi1)
        have key : ∀ (H' : Heap), H'[ad q]? = some (cell.setSlot (G.2 ci k) (cV ad v)) → va_at G vwCl (ad q, am_ce ad ca h2 q) H' := by
          intro H' e1
          rw [am_ce_o (h := h2) (by rw [p3]; omega), p3, hk, hsz]
          refine ⟨_, hc, t_OB.to (V := updV (vp_V ((List.range (am_sz ci)).map (fun k => am_fv ad h q k (am_ty ci k)))) k (cV ad v)) ⟨_, e1, q2, q3, t_set q4 hap hi2 (cV ad v)⟩ (fun j hj => ?_)⟩
          have hj' : j < am_sz ci := hj
          by_cases hjk : j = k
          · subst hjk
            simp only [updV, vp_V, if_true, List.getD_eq_getElem?_getD, List.getElem?_map, List.getElem?_range hj', Option.map_some, Option.getD_some]
            exact (p5 ad).1.symm
          · simp only [updV, vp_V, hjk, if_false, List.getD_eq_getElem?_getD, List.getElem?_map, List.getElem?_range hj', Option.map_some, Option.getD_some]
            unfold am_fv
            rw [(p6 j hjk).1, (p6 j hjk).2.1, (p6 j hjk).2.2]
        by_cases hff : (am_tb ci k).2.2.2 = true
        · rcases hfin with hfin | ⟨hini, hown2⟩
          · rw [hff] at hfin; cases hfin
          · unfold u_lay at hlay
            rw [if_pos hff] at hlay
            have hcf : m.cls = cf := by
              obtain ⟨_, _, c', _, _, _, -, -, hf', -, -, -, hown3, -⟩ := Cond.laysFinal_spec hlay
              have e1 : c' = cf := by have := hi.symm.trans hf'; simp at this; exact this.1.symm
              have hdec : (am_tb ci k).1 = am_on ci := by
                have := am_dcOK ci hci k hi2
                exact this
              rw [hdec] at hown3
              have hown := X.2.2.2.2.1
              rw [hown2] at hown
              rw [← e1]; exact Option.some.inj (hown.symm.trans hown3)
            have h6 := u_fits hfc hkC hkind (Or.inr hlay) hi hd' (p5 ad).2.1 (p5 ad).2.2
            refine W.putFinK X.1 X.2.1 X.2.2.2.2.1 hlink hi hst hcf (by rw [X.2.2.2.2.2.2.2.1]; exact hini) (by rw [q2]; exact h6) q1 q3 (by rw [hsl]; exact k2_hasslot (q4 k hi2)) rfl rfl hd fun H' e1 e2 e3 => ?_
            rw [hsl] at e1 ⊢
            exact kk H' _ e2 e3 (key H' e1) (Y.2.1.put e2 e3 hA)
        · have hff2 : (am_tb ci k).2.2.2 = false := by simpa using hff
          unfold u_lay at hlay
          rw [if_neg hff] at hlay
          have h6 := u_store hfc hkC hkind hlay hi hd' (p5 ad).2.1 (p5 ad).2.2
          refine W.putK X.1 X.2.1 (f := f) ⟨X.2.2.2.2.1, hlink, ⟨_, _, _, hi⟩, hst⟩ (by rw [q2]; exact h6) q1 q3 (by rw [hsl]; exact k2_hasslot (q4 k hi2)) rfl rfl hd fun H' e1 e2 e3 => ?_
          rw [hsl] at e1 ⊢
          exact kk H' _ e2 e3 (key H' e1) (Y.2.1.put e2 e3 hA)
      · cases e
    · cases e
  · cases e
theorem nw_t {t z : Nat} : a_t (s_nw h t z) (a_n h) = (t, z) := if_pos rfl
theorem nw_i {t z : Nat} : a_i (s_nw h t z) (a_n h) = fun _ => 0 := funext fun _ => if_pos rfl
theorem nw_l {t z : Nat} : a_l (s_nw h t z) (a_n h) = fun _ => 0 := funext fun _ => if_pos rfl
theorem nw_r {t z : Nat} : a_r (s_nw h t z) (a_n h) = fun _ => none := funext fun _ => if_pos rfl
theorem st_new {x : Nat} (hd : decode (m_c M) pc = .ok (.new x, n)) (e : am_I M (.new x) n pc L S h = some (.inl (pc2, L2, S2, h2))) : am_P l M pc L S h pc2 L2 S2 h2 := by
  simp only [am_I] at e
  split at e
  · rename_i ci hf
    obtain ⟨⟨rfl, hk, hmx⟩, e1⟩ := ck_s e
    obtain ⟨rfl, rfl, rfl, rfl⟩ := nx_s e1
    obtain ⟨i, hi⟩ := am_cTOK _ (lookup_mem hf)
    unfold am_cTB at hi
    have h26 : ¬ ci = 26 := by omega
    simp only [h26, if_false, Bool.and_eq_true, decide_eq_true_eq] at hi
    obtain ⟨⟨⟨-, hi1⟩, hi2⟩, hi3⟩ := hi
    refine am_P.al (Or.inl ⟨hk, rfl⟩) hmx (fun p e R s m args below meth c G ca b ad H locs ls cells slots d Q hw hsz X Y hL hcs hss kk => ?_)
    have hci : ci < 13 := by omega
    have hc := am_clOK ci hci
    have hK := X.2.2.2.2.2.2.2.2.1.1
    have hts := X.2.2.2.2.2.1
    have hin := am_lyOK hci
    have hKn := hK.1 ci _ hc
    refine W.newcK X.1 X.2.1 X.2.2.2.2.1 (hts _ (am_at1_in hi1)) (hts _ (am_at1_in hi2)) (hts _ (am_at1_in hi3)) rfl hd hcs hss hKn.2.1 hsz fun H1 kC hkC e1 z1 o1 => ?_
    refine kk H1 (by rw [z1, hsz]) (by rw [hsz]; exact o1) ?_
    rw [am_ce_o (h := s_nw h ci (am_sz ci)) (by rw [nw_t]; show ci < 20; omega), nw_t]
    refine ⟨_, hc, (u_born (am_ty ci) hts hin hKn hkC e1 (am_tyOK ci hci)).to (fun j hj => ?_)⟩
    have hj' : j < am_sz ci := hj
    simp only [vp_V, List.getD_eq_getElem?_getD, List.getElem?_map, List.getElem?_range hj', Option.map_some, Option.getD_some]
    have hb := am_tbOK ci hci j hj'
    unfold am_fv
    rw [nw_i, nw_l, nw_r]
    cases hty : am_ty ci j <;> first | rfl | (rw [hty] at hb; cases hb)
  · cases e
theorem st_newarray {ty : ArrayType} (hd : decode (m_c M) pc = .ok (.newarray ty, n)) (e : am_I M (.newarray ty) n pc L S h = some (.inl (pc2, L2, S2, h2))) : am_P l M pc L S h pc2 L2 S2 h2 := by
  simp only [am_I] at e
  split at e
  · rename_i x S0
    split at e
    · rename_i t ht
      obtain ⟨⟨rfl, hx0, hx1, hmx⟩, e1⟩ := ck_s e
      obtain ⟨rfl, rfl, rfl, rfl⟩ := nx_s e1
      cases ty <;> simp only [am_at, reduceCtorEq, Option.some.injEq] at ht
      all_goals subst ht
      all_goals refine am_P.al (Or.inr (by decide)) hmx (fun p e R s m args below meth c G ca b ad H locs ls cells slots d Q hw hsz X Y hL hcs hss kk => ?_)
      all_goals have hts := X.2.2.2.2.2.1
      all_goals have hK := X.2.2.2.2.2.2.2.2.1.1
      · refine va_newaK (atype := .byte) X.1 X.2.1 (hts _ (am_in2 (c := 4) (j := 212) rfl rfl)) rfl hd rfl hx0 rfl (by show x.toNatClampNeg * 1 ≤ _; omega) hcs hss hsz fun H1 cA e1 z1 o1 hAr hNm => ?_
        have ec : cA = ca 21 := Option.some.inj (hNm.symm.trans (hK.2 1 _ rfl).2)
        refine kk H1 (by rw [z1, hsz]) (by rw [hsz]; exact o1) ?_
        rw [am_ce_b (by rw [nw_t]), nw_t, nw_i]
        subst ec
        exact e1
      · refine va_newaK (atype := .int) X.1 X.2.1 (hts _ (am_in2 (c := 1) (j := 67) rfl rfl)) rfl hd rfl hx0 rfl (by show x.toNatClampNeg * 4 ≤ _; omega) hcs hss hsz fun H1 cA e1 z1 o1 hAr hNm => ?_
        have ec : cA = ca 20 := Option.some.inj (hNm.symm.trans (hK.2 0 _ rfl).2)
        refine kk H1 (by rw [z1, hsz]) (by rw [hsz]; exact o1) ?_
        rw [am_ce_i (by rw [nw_t]), nw_t, nw_i]
        subst ec
        exact e1
      · refine va_newaK (atype := .long) X.1 X.2.1 (hts _ (am_in2 (c := 7) (j := 157) rfl rfl)) rfl hd rfl hx0 rfl (by show x.toNatClampNeg * 8 ≤ _; omega) hcs hss hsz fun H1 cA e1 z1 o1 hAr hNm => ?_
        have ec : cA = ca 22 := Option.some.inj (hNm.symm.trans (hK.2 2 _ rfl).2)
        refine kk H1 (by rw [z1, hsz]) (by rw [hsz]; exact o1) ?_
        rw [am_ce_l (by rw [nw_t]), nw_t, nw_l]
        subst ec
        exact e1
    · cases e
  · cases e
theorem st_anewarray {x : Nat} (hd : decode (m_c M) pc = .ok (.anewarray x, n)) (e : am_I M (.anewarray x) n pc L S h = some (.inl (pc2, L2, S2, h2))) : am_P l M pc L S h pc2 L2 S2 h2 := by
  simp only [am_I] at e
  split at e
  · rename_i y S0
    split at e
    · rename_i ci hf
      obtain ⟨⟨rfl, hak, hx0, hx1, hmx⟩, e1⟩ := ck_s e
      obtain ⟨rfl, rfl, rfl, rfl⟩ := nx_s e1
      obtain ⟨i, hi⟩ := am_cTOK _ (lookup_mem hf)
      unfold am_cTB at hi
      have hcases : ci = 3 ∨ ci = 5 ∨ ci = 9 := by
        unfold am_ak at hak
        split at hak <;> first | omega | simp at hak
      have h26 : ¬ ci = 26 := by omega
      simp only [h26, if_false, Bool.and_eq_true, decide_eq_true_eq] at hi
      obtain ⟨⟨⟨-, hi1⟩, -⟩, -⟩ := hi
      have tk : 23 ≤ am_ak ci ∧ am_ak ci ≤ 25 := by rcases hcases with rfl | rfl | rfl <;> decide
      refine am_P.al (Or.inr ⟨by omega, by omega⟩) hmx (fun p e R s m args below meth c G ca b ad H locs ls cells slots d Q hw hsz X Y hL hcs hss kk => ?_)
      have hts := X.2.2.2.2.2.1
      have hK := X.2.2.2.2.2.2.2.2.1
      have hcl := hts _ (am_at1_in hi1)
      have hover : (Cond.arrayOver (.object (am_on ci))).before args s = true := by
        rcases hcases with rfl | rfl | rfl
        · exact va_AO.use hK.2.2.1.1
        · exact va_AO.use hK.2.2.1.2.1
        · exact va_AO.use hK.2.2.1.2.2.1
      refine W.anew X.1 X.2.1 X.2.2.2.2.1 hcl hover rfl hd rfl hx0 (by omega) hcs hss fun cA kA comp f1 f2 f3 f4 => ?_
      have ec : cA = ca (am_ak ci) := by
        rcases hcases with rfl | rfl | rfl
        · obtain ⟨_, _, _, _, _, w⟩ := (hK.1.2 3 _ rfl).2
          exact Option.some.inj (f1.symm.trans w)
        · obtain ⟨_, _, _, _, _, w⟩ := (hK.1.2 4 _ rfl).2
          exact Option.some.inj (f1.symm.trans w)
        · obtain ⟨_, _, _, _, _, w⟩ := (hK.1.2 5 _ rfl).2
          exact Option.some.inj (f1.symm.trans w)
      generalize hH1 : H.push ({ cls := cA, slots := Array.replicate y.toNatClampNeg .null, vm := .none } : Cell) = H1
      have z1 : H1.size = H.size + 1 := by rw [← hH1, Array.size_push]
      have e1 : H1[H.size]? = some (arrV cA y.toNatClampNeg (fun _ => .null)) := by rw [← hH1, Array.getElem?_push_size, ← arrV_new]
      have o1 : ∀ q, q < H.size → H1[q]? = H[q]? := fun q hq => by rw [← hH1, Array.getElem?_push, if_neg (Nat.ne_of_lt hq)]
      have := kk H1 z1 o1 (by
        rw [am_ce_r (by rw [nw_t]; exact tk.1), nw_t, nw_r]
        subst ec
        rw [hsz] at e1
        exact e1)
      rw [List.map_cons, cV_r, ← hsz] at this
      exact this
    · cases e
  · cases e
end MAKE
