/-! one instruction in two heaps that are seen alike -/
section FRAME3
variable {N : Nat → Prop} {al : Prop} {h y h' y' : am_h} {L : am_L} {S : List Value} {pc n : Nat} {M : am_m} {i : Instr}
set_option maxHeartbeats 8000000 in
theorem I_fr (w : prN N al h y) (hL : lok N L) : sok N S → frO N al h y (am_I M i n pc L S h) (am_I M i n pc L S y) := by
  have seen : ∀ {p}, ¬ N p → a_t y p = a_t h p ∧ ∀ j, a_i y p j = a_i h p j ∧ a_l y p j = a_l h p j ∧ a_r y p j = a_r h p j := fun {p} c => w.2.1 p c
  have big : ∀ {q}, 1000000 ≤ q → ¬ N q := fun {q} c => w.2.2.2 q c
  have vr : ∀ {p k}, ¬ N p → vk N (va_rf (a_r h p k)) := fun {p k} c => by
    cases e : a_r h p k with
    | none => exact vk_n
    | some q => exact vk_r ((w.1 p c).1 k q e)
  cases i
  case putfield x =>
    simp only [am_I]
    split <;> intro hS
    · rename_i v p S'
      have hp : ¬ N p := sok_h (sok_t hS) p rfl
      split
      · rename_i ci k _
        cases e : am_pv h p k (am_ty ci k) v with
        | none => exact fr_none
        | some h' =>
          obtain ⟨y', e2, e3⟩ := pv_fr w hp (sok_h hS) e
          rw [e2, (seen hp).1]
          exact fr_ck (fun _ => fr_up hL (sok_t (sok_t hS)) e3)
      · exact fr_none
    · exact fr_none
  case getfield x =>
    simp only [am_I]
    split <;> intro hS
    · rename_i p S'
      have hp : ¬ N p := sok_h hS p rfl
      rw [(seen hp).1]
      split
      · rename_i c42
        split
        · exact fr_ck (fun _ => fr_nx w hL (sok_c (vk_r ((w.1 p hp).2 c42)) (sok_t hS)))
        · split
          · exact fr_ck (fun _ => fr_nx w hL (sok_c vk_i (sok_t hS)))
          · exact fr_none
      · split
        · rename_i ci k _
          obtain ⟨e1, e2⟩ := fv_fr (k := k) (ty := am_ty ci k) w hp
          rw [e1]
          exact fr_ck (fun _ => fr_nx w hL (sok_c e2 (sok_t hS)))
        · exact fr_none
    · exact fr_none
  case getstatic x =>
    simp only [am_I]
    intro hS
    have e : am_gv y (m_o M) x = am_gv h (m_o M) x ∧ ∀ v, am_gv h (m_o M) x = some v → vk N v := by
      unfold am_gv
      split
      · exact ⟨rfl, fun v e => by cases e; exact vk_r (big (by omega))⟩
      · exact ⟨rfl, fun v e => by cases e; exact vk_r (big (by omega))⟩
      · exact ⟨rfl, fun v e => by cases e; exact vk_i⟩
      · refine ⟨by rw [((seen (big (show 1000000 ≤ 1000008 by omega))).2 0).2.2], fun v e => by cases e; exact vr (big (by omega))⟩
      · exact ⟨rfl, fun v e => by cases e⟩
    rw [e.1]
    split
    · rename_i v ev
      exact fr_ck (fun _ => fr_nx w hL (sok_c (e.2 v ev) hS))
    · exact fr_none
  case ldc x =>
    simp only [am_I]
    intro hS
    split
    · exact fr_ck (fun _ => fr_nx w hL (sok_c vk_i hS))
    · rename_i q _ e
      have : 1000000 ≤ q := by
        obtain ⟨a', m⟩ := lk_mem e
        have all : am_sT.all (fun e => decide (1000000 ≤ e.2)) = true := by decide +kernel
        have := List.all_eq_true.mp all _ m
        exact of_decide_eq_true this
      exact fr_ck (fun _ => fr_nx w hL (sok_c (vk_r (big this)) hS))
    · exact fr_none
  case iaload =>
    simp only [am_I]
    split <;> intro hS
    · have hp := sok_h (sok_t hS) _ rfl
      rw [(seen hp).1, ((seen hp).2 _).1]
      exact fr_ck (fun _ => fr_nx w hL (sok_c vk_i (sok_t (sok_t hS))))
    · exact fr_none
  case baload =>
    simp only [am_I]
    split <;> intro hS
    · have hp := sok_h (sok_t hS) _ rfl
      rw [(seen hp).1, ((seen hp).2 _).1]
      exact fr_ck (fun _ => fr_nx w hL (sok_c vk_i (sok_t (sok_t hS))))
    · exact fr_none
  case laload =>
    simp only [am_I]
    split <;> intro hS
    · have hp := sok_h (sok_t hS) _ rfl
      rw [(seen hp).1, ((seen hp).2 _).2.1]
      exact fr_ck (fun _ => fr_nx w hL (sok_c vk_l (sok_t (sok_t hS))))
    · exact fr_none
  case aaload =>
    simp only [am_I]
    split <;> intro hS
    · have hp := sok_h (sok_t hS) _ rfl
      rw [(seen hp).1, ((seen hp).2 _).2.2]
      exact fr_ck (fun _ => fr_nx w hL (sok_c (vr hp) (sok_t (sok_t hS))))
    · exact fr_none
  case iastore =>
    simp only [am_I]
    split <;> intro hS
    · have hp := sok_h (sok_t (sok_t hS)) _ rfl
      rw [(seen hp).1]
      exact fr_ck (fun _ => fr_up hL (sok_t (sok_t (sok_t hS))) (st_si w hp))
    · exact fr_none
  case bastore =>
    simp only [am_I]
    split <;> intro hS
    · have hp := sok_h (sok_t (sok_t hS)) _ rfl
      rw [(seen hp).1]
      exact fr_ck (fun _ => fr_up hL (sok_t (sok_t (sok_t hS))) (st_si w hp))
    · exact fr_none
  case lastore =>
    simp only [am_I]
    split <;> intro hS
    · have hp := sok_h (sok_t (sok_t hS)) _ rfl
      rw [(seen hp).1]
      exact fr_ck (fun _ => fr_up hL (sok_t (sok_t (sok_t hS))) (st_sl w hp))
    · exact fr_none
  case aastore =>
    simp only [am_I]
    split <;> intro hS
    · have hp := sok_h (sok_t (sok_t hS)) _ rfl
      have hq := sok_h hS _ rfl
      rw [(seen hp).1, (seen hq).1]
      exact fr_ck (fun _ => fr_up hL (sok_t (sok_t (sok_t hS))) (st_sr w hp (fun q z => by cases z; exact hq)))
    · exact fr_none
  case arraylength =>
    simp only [am_I]
    split <;> intro hS
    · have hp := sok_h hS _ rfl
      rw [(seen hp).1]
      exact fr_ck (fun _ => fr_nx w hL (sok_c vk_i (sok_t hS)))
    · exact fr_none
  case newarray ty =>
    simp only [am_I]
    split <;> intro hS
    · split
      · rename_i t e
        have ht : ¬ t = 42 := by
          unfold am_at at e
          split at e <;> cases e <;> decide
        exact fr_nw w ht hL (sok_t hS) (fun n1 c => by rw [n1]; exact c)
      · exact fr_none
    · exact fr_none
  case anewarray x =>
    simp only [am_I]
    split <;> intro hS
    · split
      · rename_i ci _
        have ht : ¬ am_ak ci = 42 := by
          unfold am_ak
          split <;> decide
        exact fr_nw w ht hL (sok_t hS) (fun n1 c => by rw [n1]; exact c)
      · exact fr_none
    · exact fr_none
  case multianewarray x dm =>
    simp only [am_I]
    split <;> intro hS
    · exact fr_mn w hL (sok_t (sok_t hS)) (fun n1 c => by rw [n1]; exact c)
    · exact fr_none
  case new x =>
    simp only [am_I]
    intro hS
    split
    · rename_i ci _
      by_cases c12 : ci ≤ 12
      · exact fr_nw w (by omega) hL hS (fun n1 c => by rw [n1]; exact c)
      · unfold ck
        rw [if_neg (fun z => c12 z.2.1)]
        exact fr_none
    · exact fr_none
  case invokevirtual x =>
    simp only [am_I]
    intro hS
    split
    · rename_i M' _
      cases e : am_pop (m_n M') S with
      | none => exact fr_none
      | some z =>
        obtain ⟨as, S1⟩ := z
        obtain ⟨z1, z2⟩ := pop_fr _ _ _ _ e hS
        rcases S1 with _ | ⟨v, S1⟩
        · exact fr_none
        · cases v with
          | ref p =>
            have hp := sok_h z2 _ rfl
            simp only []
            rw [(seen hp).1]
            exact fr_ck (fun _ => fr_cl (sok_c (vk_r hp) z1) (sok_t z2))
          | _ => exact fr_none
    · exact fr_none
  case invokespecial x =>
    simp only [am_I]
    intro hS
    split
    · rename_i M' k _
      by_cases c : k = 3
      · rw [if_pos c, if_pos c]
        revert hS
        split <;> intro hS
        · exact fr_ck (fun _ => fr_nx w hL (sok_t hS))
        · exact fr_none
      · rw [if_neg c, if_neg c]
        cases e : am_pop (m_n M') S with
        | none => exact fr_none
        | some z =>
          obtain ⟨as, S1⟩ := z
          obtain ⟨z1, z2⟩ := pop_fr _ _ _ _ e hS
          rcases S1 with _ | ⟨v, S1⟩
          · exact fr_none
          · cases v with
            | ref p =>
              have hp := sok_h z2 _ rfl
              exact fr_ck (fun _ => fr_cl (sok_c (vk_r hp) z1) (sok_t z2))
            | _ => exact fr_none
    · exact fr_none
  case invokestatic x =>
    simp only [am_I]
    intro hS
    split
    · revert hS; split <;> intro hS
      · exact fr_ck (fun _ => fr_nx w hL (sok_c vk_i (sok_t (sok_t hS))))
      · exact fr_none
    · revert hS; split <;> intro hS
      · exact fr_ck (fun _ => fr_nx w hL (sok_c vk_i (sok_t (sok_t hS))))
      · exact fr_none
    · revert hS; split <;> intro hS
      · exact fr_ck (fun _ => fr_nx w hL (sok_c vk_l (sok_t (sok_t hS))))
      · exact fr_none
    · revert hS; split <;> intro hS
      · exact fr_ck (fun _ => fr_nx w hL (sok_c vk_l (sok_t (sok_t hS))))
      · exact fr_none
    · split
      · rename_i e
        obtain ⟨z1, z2⟩ := pop_fr _ _ _ _ e hS
        exact fr_ck (fun _ => fr_cl z1 z2)
      · exact fr_none
    · exact fr_none
  case iconst => exact fun hS => fr_ck (fun _ => fr_nx w hL (sok_c vk_i hS))
  case bipush => exact fun hS => fr_ck (fun _ => fr_nx w hL (sok_c vk_i hS))
  case sipush => exact fun hS => fr_ck (fun _ => fr_nx w hL (sok_c vk_i hS))
  case lconst => exact fun hS => fr_ck (fun _ => fr_nx w hL (sok_c vk_l hS))
  case aconst_null => exact fun hS => fr_ck (fun _ => fr_nx w hL (sok_c vk_n hS))
  case ldc_w x =>
    simp only [am_I]
    intro hS
    split
    · exact fr_ck (fun _ => fr_nx w hL (sok_c vk_i hS))
    · exact fr_none
  case ldc2_w x =>
    simp only [am_I]
    intro hS
    split
    · exact fr_ck (fun _ => fr_nx w hL (sok_c vk_l hS))
    · exact fr_none
  case iinc k v =>
    simp only [am_I]
    intro hS
    split
    · exact fr_ck (fun _ => fr_nx w (lok_1 hL vk_i) hS)
    · exact fr_none
  case dup =>
    simp only [am_I]
    split <;> intro hS
    · exact fr_ck (fun _ => fr_nx w hL (sok_c (sok_h hS) hS))
    · exact fr_none
  case pop =>
    simp only [am_I]
    split <;> intro hS
    · exact fr_ck (fun _ => fr_nx w hL (sok_t hS))
    · exact fr_none
  case dup2 =>
    simp only [am_I]
    split <;> intro hS
    · exact fr_ck (fun _ => fr_nx w hL (sok_c (sok_h hS) (sok_c (sok_h (sok_t hS)) hS)))
    · exact fr_none
  case idiv =>
    simp only [am_I]
    split <;> intro hS
    · exact fr_ck (fun _ => fr_nx w hL (sok_c vk_i (sok_t (sok_t hS))))
    · exact fr_none
  case irem =>
    simp only [am_I]
    split <;> intro hS
    · exact fr_ck (fun _ => fr_nx w hL (sok_c vk_i (sok_t (sok_t hS))))
    · exact fr_none
  case ldiv =>
    simp only [am_I]
    split <;> intro hS
    · exact fr_ck (fun _ => fr_nx w hL (sok_c vk_l (sok_t (sok_t hS))))
    · exact fr_none
  case lcmp =>
    simp only [am_I]
    split <;> intro hS
    · exact fr_ck (fun _ => fr_nx w hL (sok_c vk_i (sok_t (sok_t hS))))
    · exact fr_none
  case goto off => exact fun hS => fr_ck (fun _ => fr_go w hL hS)
  case ifCond c off =>
    simp only [am_I]
    split <;> intro hS
    · split
      · exact fr_ck (fun _ => fr_go w hL (sok_t hS))
      · exact fr_ck (fun _ => fr_nx w hL (sok_t hS))
    · exact fr_none
  case if_icmp c off =>
    simp only [am_I]
    split <;> intro hS
    · split
      · exact fr_ck (fun _ => fr_go w hL (sok_t (sok_t hS)))
      · exact fr_ck (fun _ => fr_nx w hL (sok_t (sok_t hS)))
    · exact fr_none
  case ifnull off =>
    simp only [am_I]
    split <;> intro hS
    · exact fr_ck (fun _ => fr_go w hL (sok_t hS))
    · exact fr_ck (fun _ => fr_nx w hL (sok_t hS))
    · exact fr_none
  case ifnonnull off =>
    simp only [am_I]
    split <;> intro hS
    · exact fr_ck (fun _ => fr_go w hL (sok_t hS))
    · exact fr_ck (fun _ => fr_nx w hL (sok_t hS))
    · exact fr_none
  case tableswitch d lo hi offs =>
    simp only [am_I]
    split <;> intro hS
    · split
      · exact fr_go w hL (sok_t hS)
      · split
        · exact fr_go w hL (sok_t hS)
        · exact fr_none
    · exact fr_none
  case lookupswitch d ps =>
    simp only [am_I]
    split <;> intro hS
    · exact fr_ck (fun _ => fr_go w hL (sok_t hS))
    · exact fr_none
  case ireturn =>
    simp only [am_I]
    split <;> intro hS
    · split
      · exact fr_ck (fun _ => fr_rt (fun _ e => by cases e; exact vk_i))
      · exact fr_none
    · exact fr_none
  case lreturn =>
    simp only [am_I]
    split <;> intro hS
    · exact fr_ck (fun _ => fr_rt (fun _ e => by cases e; exact vk_l))
    · exact fr_none
  case areturn =>
    simp only [am_I]
    split <;> intro hS
    · split
      · exact fr_ck (fun _ => fr_rt (fun _ e => by cases e; exact sok_h hS))
      · exact fr_none
    · exact fr_none
  case return_ =>
    simp only [am_I]
    split <;> intro hS
    · exact fr_ck (fun _ => fr_rt (fun _ e => by cases e))
    · exact fr_none
  all_goals first
    | exact fun _ => fr_none
    | (intro hS; simp only [am_I]; refine fr_ck (fun _ => ?_); first | exact fr_b1 w hL hS | exact fr_b2 w hL hS | exact fr_b3 w hL hS | exact fr_u1 w hL (fun _ => vk_i) hS | exact fr_u1 w hL (fun _ => vk_l) hS | exact fr_u2 w hL (fun _ => vk_i) hS | exact fr_u2 w hL (fun _ => vk_l) hS | exact fr_li w hL hS | exact fr_ll w hL hS | exact fr_la w hL hS | exact fr_si w hL hS | exact fr_sl w hL hS | exact fr_sa w hL hS)
theorem act_fr (w : prN N al h y) (hL : lok N L) (hS : sok N S) : frO N al h y (act M pc L S h) (act M pc L S y) := by
  unfold act
  split
  · exact I_fr w hL hS
  · exact fr_none
theorem lok_en {as : List Value} {m : Nat} (k : sok N as) : lok N (am_en m as) := by
  have ag : ∀ as, sok N as → lok N (am_ag as) := by
    intro as
    induction as with
    | nil => intro _ o e; cases e
    | cons v as ih =>
      intro k o e u eu
      unfold am_ag at e
      split at e
      · rcases List.mem_cons.mp e with rfl | e
        · cases eu; exact sok_h k
        · rcases List.mem_cons.mp e with rfl | e
          · cases eu
          · exact ih (sok_t k) o e u eu
      · rcases List.mem_cons.mp e with rfl | e
        · cases eu; exact sok_h k
        · exact ih (sok_t k) o e u eu
  intro o e u eu
  unfold am_en at e
  rcases List.mem_append.mp e with e | e
  · exact ag as k o e u eu
  · rw [(List.mem_replicate.mp e).2] at eu
    cases eu
end FRAME3
