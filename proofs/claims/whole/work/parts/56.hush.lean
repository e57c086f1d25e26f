/-! acts: hush -/
section HUSH
section
variable {x y s : TS} {n e i : Nat} {z kd : Int32}
/-- the row's part of a turn that is closed -/
def clr (s : TS) (e i : Nat) (z kd : Int32) : TS := up (up (up (up s 13 i z) 14 i kd) 1 e 0) 2 e 0
theorem cls_r (hs : ∀ c i, c < 18 → x c i = y c i) : ∀ c j, c < 18 → cls x e i z kd c j = clr y e i z kd c j :=
  up_h (by omega) (up_h (by omega) (up_c (up_c (up_c (up_c hs)))))
theorem cls_c {c j : Nat} (hc : 3 ≤ c ∧ c ≤ 12 ∨ 15 ≤ c ∧ c ≤ 17) : cls s e i z kd c j = s c j := by
  unfold cls
  simp (disch := omega) only [upn]
theorem wS_cls (k : wS n s) (hn : n ≤ 4) (he : e < 4) (hi : i < Nn (s 0 3)) (h10 : s 10 i = nI e) (h13 : s 13 i = -1) (hz : z.toInt = (s 0 1).toInt + 1) (hk : kd = 2 ∨ kd = 3 ∨ (kd = 1 ∧ (s 11 i).toInt < (s 0 1).toInt + 1)) : wS n (cls s e i z kd) := by
  have w := wS_Z k rfl
  obtain ⟨k1, k2, k3, k4, k5, k6, k7, k8, k9, k10⟩ := k
  refine wS_of ?_ ?_ ?_ ?_ (fun e' he' => ?_) (fun j hj => ?_) ?_ (fun j hj => ?_)
  · rw [cls_03]; exact k1
  · rw [cls_03]; exact k2
  · rw [cls_03]; exact k3
  · rw [cls_03]; exact k4
  · rw [cls_1, cls_c (c := 5) (by omega), cls_c (c := 6) (by omega), cls_03]
    refine ⟨?_, (k5 e' he').2⟩
    split
    · exact Or.inl rfl
    · exact (k5 e' he').1
  · rw [cls_c (by omega)]; exact k6 j hj
  · rw [cls_03]
    exact wZ_cls w hn he hi h10 h13 hz hk
  · rw [cls_03] at hj
    rw [cls_c (c := 15) (by omega), cls_c (c := 16) (by omega), cls_c (c := 17) (by omega), cls_03, cls_03, cls_c (c := 10) (by omega)]
    exact k10 j hj
end
variable {X : PX} {d : Nat} {h : am_h} {e i : Nat}
/-- a turn closed on both sides -/
theorem Inv_close (k : Inv X h) {hc : am_h} {z : Int32} {n T : Nat} (hN : Nn (a_i h 127 0) = n) (he : e < n) (hT : a_i h 127 165 = nI T) (hT2 : T ≤ 90) (hi : i < T) (w10 : a_i h 127 (166 + 5 * i) = nI e) (w13 : a_i h 127 (166 + 5 * i + 3) = -1) (h1 : a_i h 127 (93 + e) = 1) (hz : z = a_i h 127 91 + 1)
    (ct : sm h hc) (cl : a_l hc = a_l h)
    (c0 : a_i hc (12 + e) 0 = 0) (c1 : a_i hc (12 + e) 1 = 0) (c11 : a_i hc (12 + e) 11 = a_i h (12 + e) 11) (c12 : a_i hc (12 + e) 12 = if 0 < a_i h (12 + e) 9 then z else a_i h (12 + e) 12)
    (cb : a_i hc 20 i = z ∧ a_i hc 21 i = 3)
    (co : ∀ q j, ¬ (q = 12 + e ∧ (j = 0 ∨ j = 1 ∨ j = 11 ∨ j = 12)) → ¬ (20 ≤ q ∧ q ≤ 21 ∧ j = i) → a_i hc q j = a_i h q j) :
    Inv X (s_w hc 127 (ud (ud (ud (ud (a_i h 127) (166 + 5 * i + 3) z) (166 + 5 * i + 4) 3) (93 + e) 0) (97 + e) 0)) := by
  obtain ⟨G, eG⟩ : ∃ G, G = ud (ud (ud (ud (a_i h 127) (166 + 5 * i + 3) z) (166 + 5 * i + 4) 3) (93 + e) 0) (97 + e) 0 := ⟨_, rfl⟩
  rw [← eG]
  have bn := bt_n (m := 4) k.2.1.1.2.2.2.2.1 (by omega) (by omega)
  have e4 : e < 4 := by omega
  have i9 : i < 90 := by omega
  have dG : dec G 90 = clr (dec (a_i h 127) 90) e i z 3 := by
    rw [eG]
    refine (du_c2 e4).trans (congrArg (fun s => up s 2 e 0) ?_)
    refine (du_c1 e4).trans (congrArg (fun s => up s 1 e 0) ?_)
    refine (du_c14 i9).trans (congrArg (fun s => up s 14 i _) ?_)
    exact du_c13 i9
  have r6 := k.2.1.2.1
  have r7 := k.2.1.2.2.1
  have w := k.2.1.2.2.2.2.1
  obtain ⟨xs, xm, x1, xh⟩ := rLn_M r6
  obtain ⟨x, ex⟩ : ∃ x, x = ext (a_i h) (a_l h) (7 + 0) (dec (a_i h 127) 90) := ⟨_, rfl⟩
  rw [← ex] at xs xm x1 xh
  have hx : ∀ c j, c < 18 → cls x e i z 3 c j = dec G 90 c j := by rw [dG]; exact cls_r xs
  have x03 : Nn (x 0 3) = T := by rw [xs 0 3 (by omega), dec_3, show 90 + 75 = 165 from rfl, hT]; exact Nn_n (by omega)
  have x01 : x 0 1 = a_i h 127 91 := xs 0 1 (by omega)
  have x1e : x 1 e = 1 := by
    rw [xs 1 e (by omega), dec_c1 e4]
    exact h1
  have x10 : x 10 i = nI e := by rw [xs 10 i (by omega), dec_c10 i9]; exact w10
  have x13 : x 13 i = -1 := by rw [xs 13 i (by omega), dec_c13 i9]; exact w13
  rw [hN] at w
  have wx : wS n x := wS_c xs w
  have hw1 := wx.2.1
  rw [x01] at hw1
  unfold bt at hw1
  have hzi : z.toInt = (x 0 1).toInt + 1 := by
    rw [hz, x01]
    obtain ⟨m, m1, m2, m3⟩ := btn (v := a_i h 127 91) (lo := 0) (hi := 9000) hw1 (by omega) (by omega)
    rw [m1, i_add1 (by omega), nI_i (by omega)]
  have hz1 : ¬ z = -1 := by
    intro q
    rw [q, x01] at hzi
    have : (-1 : Int32).toInt = -1 := rfl
    omega
  have hx14 : x 14 i = 0 := by
    rcases ((wS_Z wx rfl).1 i (by omega)).2.2.2 with q | ⟨q, _⟩
    · exact q.2.1
    · rw [x13] at q
      have := ((wS_Z wx rfl).1 i (by omega)).2.1
      have e1 : (-1 : Int32).toInt = -1 := rfl
      unfold bt at q this
      omega
  have hw2 := wS_cls (kd := 3) wx (by omega) e4 (by omega) x10 x13 hzi (Or.inr (Or.inl rfl))
  have iG : ∀ j, j < 90 ∨ 737 ≤ j → G j = a_i h 127 j := by
    intro j hj
    rw [eG]
    simp (disch := omega) only [udn]
  have m9 : a_i h (7 + 0 + 5 + e) 9 = x 23 e := ((xm.2.2 e e4).2.2.2.2.2.2.2.2.2.1 x1e).2.2
  refine Inv_row k ct.1 ct.2.2 (fun q j _ => by rw [r_sw_, ct.2.1]) (fun q j d1 d2 d3 => ?_) (fun q d => by rw [l_sw_, cl]) ?_ ?_ ?_ ?_
  · by_cases c : q = 127
    · subst c
      rw [iwe rfl]
      exact iG j (by omega)
    · rw [iwn c]
      exact co q j (by omega) (by omega)
  · rw [iwe rfl, l_sw_]
    refine rM_Ln (x := cls x e i z 3) hx ?_ ?_ ?_
    · refine rM_cls (I := a_i h) (by rw [cl]; exact xm) e4 ?_ ?_ ?_ ?_ (fun j hj => ?_) (fun q j d1 d2 d3 => ?_)
      · rw [iwn (by omega)]; exact c0
      · rw [iwn (by omega)]; exact c1
      · rw [iwn (by omega), if_neg (by decide), Int32.add_zero]; exact c11
      · rw [iwn (by omega), ← m9]; exact c12
      · rw [iwn (by omega)]; exact co _ _ (by omega) (by omega)
      · rw [iwn (by omega)]; exact co _ _ (by omega) (by omega)
    · rw [cls_03]
      refine D1_cls (u := fun _ => x 0 1 + 1) (by rw [x01]; exact x1) (wS_Z wx rfl) e4 x1e (by omega) x10 x13 hzi (by rw [hzi, x01]; omega) ?_
      rw [x01, hz]
    · rw [cls_03]
      refine Dh_cls ?_ (by omega) x13 hz1 (by omega)
      rw [x01]; exact xh
  · rw [iwe rfl]
    refine ⟨fun j hj => ?_, fun j hj => ?_⟩
    · rw [← hx 0 3 (by omega), cls_03] at hj
      rw [iwn (by omega), iwn (by omega), iwn (by omega), iwn (by omega), iwn (by omega), ← hx 10 j (by omega), ← hx 11 j (by omega), ← hx 12 j (by omega), ← hx 13 j (by omega), ← hx 14 j (by omega), cls_c (c := 10) (by omega), cls_c (c := 11) (by omega), cls_c (c := 12) (by omega), xs 10 j (by omega), xs 11 j (by omega), xs 12 j (by omega)]
      have rj := r7.1 j (by rw [← xs 0 3 (by omega)]; exact hj)
      rw [co (17 + 0) j (by omega) (by omega), co (18 + 0) j (by omega) (by omega), co (19 + 0) j (by omega) (by omega)]
      refine ⟨rj.1, rj.2.1, rj.2.2.1, ?_⟩
      by_cases c : j = i
      · subst c
        rw [cls_i.1, cls_i.2]
        exact cb
      · rw [cls_o (c := 13) (by omega) (by omega) (by omega), cls_o (c := 14) (by omega) (by omega) (by omega), xs 13 j (by omega), xs 14 j (by omega), co (20 + 0) j (by omega) (by omega), co (21 + 0) j (by omega) (by omega)]
        exact rj.2.2.2
    · rw [← hx 0 4 (by omega), cls_03, xs 0 4 (by omega)] at hj
      rw [iwn (by omega), iwn (by omega), iwn (by omega), ← hx 15 j (by omega), ← hx 16 j (by omega), ← hx 17 j (by omega), cls_c (by omega), cls_c (by omega), cls_c (by omega), xs 15 j (by omega), xs 16 j (by omega), xs 17 j (by omega)]
      rw [co _ _ (by omega) (by omega), co _ _ (by omega) (by omega), co _ _ (by omega) (by omega)]
      exact r7.2 j hj
  · rw [iwe rfl, hN]
    exact wS_c (fun c i hc => (hx c i hc).symm) hw2
  · rw [iwe rfl]
    have wo := wOld_cls (s := x) (e := e) (i := i) (z := z) (kd := 3) x13 hx14
    unfold wOld at wo ⊢
    simp (disch := omega) only [hx, xs] at wo
    exact wo
end HUSH
