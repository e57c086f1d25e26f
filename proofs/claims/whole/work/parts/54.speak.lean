/-! acts: speak -/
section SPEAK
section
variable {x y s : TS} {c0 i0 n e T i : Nat} {v b l sp z kd : Int32}
theorem up_c (hs : ∀ c i, c < 18 → x c i = y c i) : ∀ c i, c < 18 → up x c0 i0 v c i = up y c0 i0 v c i := by
  intro c i hc
  unfold up
  split
  · rfl
  · exact hs c i hc
theorem up_h (h0 : 18 ≤ c0) (hs : ∀ c i, c < 18 → x c i = y c i) : ∀ c i, c < 18 → up x c0 i0 v c i = y c i := by
  intro c i hc
  rw [upn (by omega)]
  exact hs c i hc
/-- the row's part of a turn that is opened -/
def opr (s : TS) (e T : Nat) (b l : Int32) : TS := up (up (up (up (up (up (up (up s 10 T (nI e)) 11 T b) 12 T l) 13 T (-1)) 14 T 0) 0 3 (nI (T + 1))) 1 e 1) 4 e 0
theorem opn_r (hs : ∀ c i, c < 18 → x c i = y c i) : ∀ c i, c < 18 → opn x e T b l sp c i = opr y e T b l c i :=
  up_h (by omega) (up_h (by omega) (up_h (by omega) (up_h (by omega) (up_c (up_c (up_c (up_c (up_c (up_c (up_c (up_c hs)))))))))))
theorem wS_of (h0 : bt 0 (s 0 0) 3) (h1 : bt 0 (s 0 1) 9000) (h3 : bt 0 (s 0 3) 90) (h4 : bt 0 (s 0 4) 40) (he : ∀ e, e < 4 → (s 1 e = 0 ∨ s 1 e = 1) ∧ bt (-1) (s 5 e) (n - 1) ∧ bt (-1) (s 6 e) (s 0 1).toInt) (h7 : ∀ k, k < 16 → bt 0 (s 7 k) 60) (hz : wZ n s ((s 0 1).toInt + 1)) (hy : ∀ i, i < Nn (s 0 4) → bt 0 (s 15 i) (n - 1) ∧ bt 0 (s 16 i) (s 0 1).toInt ∧ bt (-1) (s 17 i) ((s 0 3).toInt - 1) ∧ (s 17 i = -1 ∨ ¬ s 10 (Nn (s 17 i)) = s 15 i)) : wS n s := ⟨h0, h1, h3, h4, he, h7, hz.1, hz.2.1, hz.2.2, hy⟩
theorem opn_c {c j : Nat} (hc : 5 ≤ c ∧ c ≤ 9 ∨ 15 ≤ c ∧ c ≤ 17 ∨ c = 2 ∨ c = 3) : opn s e T b l sp c j = s c j := by
  unfold opn
  simp (disch := omega) only [upn]
theorem wS_opn (k : wS n s) (hn : n ≤ 4) (he : e < n) (hT : Nn (s 0 3) = T) (hT2 : T < 90) (h1 : ¬ s 1 e = 1) (hb : b.toInt = (s 0 1).toInt + 1) (hl : bt 1 l 99) : wS n (opn s e T b l sp) := by
  have w := wS_Z k rfl
  obtain ⟨k1, k2, k3, k4, k5, k6, k7, k8, k9, k10⟩ := k
  have k2' := k2
  unfold bt at k2'
  have eT := bt_i k3 (by omega)
  refine wS_of ?_ ?_ ?_ ?_ (fun e' he' => ?_) (fun j hj => ?_) ?_ (fun j hj => ?_)
  · rw [opn_0 (by omega)]; exact k1
  · rw [opn_0 (by omega)]; exact k2
  · rw [opn_03]
    unfold bt
    rw [nI_i (by omega)]
    omega
  · rw [opn_0 (by omega)]; exact k4
  · rw [opn_1, opn_c (c := 5) (by omega), opn_c (c := 6) (by omega), opn_0 (by omega)]
    refine ⟨?_, (k5 e' he').2⟩
    split
    · exact Or.inr rfl
    · exact (k5 e' he').1
  · rw [opn_c (by omega)]; exact k6 j hj
  · rw [opn_0 (by omega)]
    exact wZ_opn w hn he hT hT2 h1 (by omega) hl
  · rw [opn_0 (by omega)] at hj
    rw [opn_c (c := 15) (by omega), opn_c (c := 16) (by omega), opn_c (c := 17) (by omega), opn_0 (by omega), opn_03, nI_i (by omega)]
    obtain ⟨y1, y2, y3, y4⟩ := k10 j hj
    refine ⟨y1, y2, ?_, ?_⟩
    · unfold bt at y3 ⊢
      omega
    · rcases y4 with y4 | y4
      · exact Or.inl y4
      · by_cases q : s 17 j = -1
        · exact Or.inl q
        · refine Or.inr ?_
          have y5 : Nn (s 17 j) < T := by
            unfold bt at y3
            have q' : ¬ (s 17 j).toInt = -1 := fun z => q (Int32.toInt_inj.mp z)
            unfold Nn Int32.toNatClampNeg
            omega
          rw [opn_lt (by omega) (by omega) y5]
          exact y4
end
variable {X : PX} {d : Nat} {h : am_h} {e T : Nat}
theorem shE2 (hC : sh_C (a_t h) (a_r h)) : a_t h 11 = (23, 4) ∧ a_r h 7 8 = some 11 := by simp [hC.e]
theorem i_add1 {a : Nat} (ha : a < 2000000) : (nI a + 1).toInt = (a : Int) + 1 := by rw [nI_s, nI_i (by omega)]; omega
/-- a turn opened on both sides -/
theorem Inv_open (k : Inv X h) {hc : am_h} {l b : Int32} {n : Nat} (hN : Nn (a_i h 127 0) = n) (he : e < n) (hT : a_i h 127 165 = nI T) (hT2 : T < 90) (h1 : ¬ a_i h 127 (93 + e) = 1) (hl : inn l 1 99 = true) (hb : b = a_i h 127 91 + 1)
    (ct : sm h hc) (cl : a_l hc = a_l h)
    (c0 : a_i hc (12 + e) 0 = 1) (c3 : a_i hc (12 + e) 3 = 0) (c7 : a_i hc (12 + e) 7 = nI T) (c8 : a_i hc (12 + e) 8 = l) (c9 : a_i hc (12 + e) 9 = 0) (c10 : a_i hc (12 + e) 10 = a_i h (12 + e) 10 + 1)
    (cb : a_i hc 17 T = nI e ∧ a_i hc 18 T = b ∧ a_i hc 19 T = l ∧ a_i hc 20 T = -1 ∧ a_i hc 21 T = 0) (ct3 : a_i hc 7 3 = nI (T + 1))
    (co : ∀ q j, ¬ (q = 12 + e ∧ (j = 0 ∨ j = 3 ∨ (7 ≤ j ∧ j ≤ 10))) → ¬ (17 ≤ q ∧ q ≤ 21 ∧ j = T) → ¬ (q = 7 ∧ j = 3) → a_i hc q j = a_i h q j) :
    Inv X (s_w hc 127 (ud (ud (ud (ud (ud (ud (ud (ud (a_i h 127) (166 + 5 * T) (nI e)) (166 + 5 * T + 1) b) (166 + 5 * T + 2) l) (166 + 5 * T + 3) (-1)) (166 + 5 * T + 4) 0) 165 (nI (T + 1))) (93 + e) 1) (105 + e) 0)) := by
  obtain ⟨G, eG⟩ : ∃ G, G = ud (ud (ud (ud (ud (ud (ud (ud (a_i h 127) (166 + 5 * T) (nI e)) (166 + 5 * T + 1) b) (166 + 5 * T + 2) l) (166 + 5 * T + 3) (-1)) (166 + 5 * T + 4) 0) 165 (nI (T + 1))) (93 + e) 1) (105 + e) 0 := ⟨_, rfl⟩
  rw [← eG]
  have bn := bt_n (m := 4) k.2.1.1.2.2.2.2.1 (by omega) (by omega)
  have e4 : e < 4 := by omega
  have dG : dec G 90 = opr (dec (a_i h 127) 90) e T b l := by
    rw [eG]
    refine (du_c4 e4).trans (congrArg (fun s => up s 4 e 0) ?_)
    refine (du_c1 e4).trans (congrArg (fun s => up s 1 e 1) ?_)
    refine du_d3.trans (congrArg (fun s => up s 0 3 _) ?_)
    refine (du_c14 hT2).trans (congrArg (fun s => up s 14 T 0) ?_)
    refine (du_c13 hT2).trans (congrArg (fun s => up s 13 T _) ?_)
    refine (du_c12 hT2).trans (congrArg (fun s => up s 12 T _) ?_)
    refine (du_c11 hT2).trans (congrArg (fun s => up s 11 T _) ?_)
    exact du_c10 hT2
  have r6 := k.2.1.2.1
  have r7 := k.2.1.2.2.1
  have w := k.2.1.2.2.2.2.1
  obtain ⟨xs, xm, x1, xh⟩ := rLn_M r6
  obtain ⟨x, ex⟩ : ∃ x, x = ext (a_i h) (a_l h) (7 + 0) (dec (a_i h 127) 90) := ⟨_, rfl⟩
  rw [← ex] at xs xm x1 xh
  have hx : ∀ c i, c < 18 → opn x e T b l 0 c i = dec G 90 c i := by rw [dG]; exact opn_r xs
  have x03 : Nn (x 0 3) = T := by rw [xs 0 3 (by omega), dec_3, show 90 + 75 = 165 from rfl, hT]; exact Nn_n (by omega)
  have x01 : x 0 1 = a_i h 127 91 := xs 0 1 (by omega)
  have x1e : ¬ x 1 e = 1 := by
    rw [xs 1 e (by omega), dec_c1 e4]
    exact h1
  rw [hN] at w
  have wx : wS n x := wS_c xs w
  have hw1 := wx.2.1
  rw [x01] at hw1
  unfold bt at hw1
  have hbi : b.toInt = (x 0 1).toInt + 1 := by
    rw [hb, x01]
    obtain ⟨m, m1, m2, m3⟩ := btn (v := a_i h 127 91) (lo := 0) (hi := 9000) hw1 (by omega) (by omega)
    rw [m1, i_add1 (by omega), nI_i (by omega)]
  have hw2 := wS_opn (sp := 0) wx (by omega) he x03 hT2 x1e hbi (inn_bt hl)
  have iG : ∀ j, j < 90 ∨ 737 ≤ j → G j = a_i h 127 j := by
    intro j hj
    rw [eG]
    simp (disch := omega) only [udn]
  refine Inv_row k ct.1 ct.2.2 (fun q j _ => by rw [r_sw_, ct.2.1]) (fun q j d1 d2 d3 => ?_) (fun q d => by rw [l_sw_, cl]) ?_ ?_ ?_ ?_
  · by_cases c : q = 127
    · subst c
      rw [iwe rfl]
      exact iG j (by omega)
    · rw [iwn c]
      exact co q j (by omega) (by omega) (by omega)
  · rw [iwe rfl, l_sw_]
    refine rM_Ln (x := opn x e T b l 0) hx ?_ ?_ ?_
    · refine rM_opn (I := a_i h) (by rw [cl]; exact xm) e4 ?_ ?_ ?_ ?_ ?_ ?_ (fun j hj => ?_) ?_ (fun q j d1 d2 d3 d4 => ?_)
      · rw [iwn (by omega)]; exact c0
      · rw [iwn (by omega)]; exact c3
      · rw [iwn (by omega)]; exact c7
      · rw [iwn (by omega)]; exact c8
      · rw [iwn (by omega)]; exact c9
      · rw [iwn (by omega)]; exact c10
      · rw [iwn (by omega)]; exact co _ _ (by omega) (by omega) (by omega)
      · rw [iwn (by omega)]; exact ct3
      · rw [iwn (by omega)]; exact co _ _ (by omega) (by omega) (by omega)
    · rw [opn_0 (by omega)]
      refine D1_opn (u := fun _ => x 0 1 + 1) ?_ (wS_Z wx rfl) (by omega) e4 x03 hT2 x1e ?_
      · rw [x01]; exact x1
      · rw [x01, ← hb, Int32.sub_self]
    · rw [opn_0 (by omega)]
      refine Dh_opn ?_ x03 hT2 (by omega)
      rw [x01]; exact xh
  · rw [iwe rfl]
    have eTT : Nn (dec G 90 0 3) = T + 1 := by rw [← hx 0 3 (by omega), opn_03]; exact Nn_n (by omega)
    refine ⟨fun i hi => ?_, fun i hi => ?_⟩
    · rw [eTT] at hi
      rw [iwn (by omega), iwn (by omega), iwn (by omega), iwn (by omega), iwn (by omega), ← hx 10 i (by omega), ← hx 11 i (by omega), ← hx 12 i (by omega), ← hx 13 i (by omega), ← hx 14 i (by omega)]
      by_cases c : i = T
      · subst c
        rw [opn_T.1, opn_T.2.1, opn_T.2.2.1, opn_T.2.2.2.1, opn_T.2.2.2.2]
        exact cb
      · rw [opn_lt (by omega) (by omega) (by omega), opn_lt (by omega) (by omega) (by omega), opn_lt (by omega) (by omega) (by omega), opn_lt (by omega) (by omega) (by omega), opn_lt (by omega) (by omega) (by omega), xs 10 i (by omega), xs 11 i (by omega), xs 12 i (by omega), xs 13 i (by omega), xs 14 i (by omega)]
        rw [co _ _ (by omega) (by omega) (by omega), co _ _ (by omega) (by omega) (by omega), co _ _ (by omega) (by omega) (by omega), co _ _ (by omega) (by omega) (by omega), co _ _ (by omega) (by omega) (by omega)]
        exact r7.1 i (by rw [← xs 0 3 (by omega), x03]; omega)
    · rw [← hx 0 4 (by omega), opn_0 (by omega), xs 0 4 (by omega)] at hi
      rw [iwn (by omega), iwn (by omega), iwn (by omega), ← hx 15 i (by omega), ← hx 16 i (by omega), ← hx 17 i (by omega), opn_c (by omega), opn_c (by omega), opn_c (by omega), xs 15 i (by omega), xs 16 i (by omega), xs 17 i (by omega)]
      rw [co _ _ (by omega) (by omega) (by omega), co _ _ (by omega) (by omega) (by omega), co _ _ (by omega) (by omega) (by omega)]
      exact r7.2 i hi
  · rw [iwe rfl, hN]
    exact wS_c (fun c i hc => (hx c i hc).symm) hw2
  · rw [iwe rfl]
    have wo := wOld_opn (s := x) (e := e) (b := b) (l := l) (sp := 0) x03 hT2
    unfold wOld at wo ⊢
    simp (disch := omega) only [hx, xs] at wo
    exact wo
end SPEAK
