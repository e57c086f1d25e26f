/-! cold: both sides alike -/
section COLD
variable {X : PX} {d T i w : Nat} {h y : am_h} {g : Nat → Int32} {v : Int32} {V : (Nat → Int32) → Int32 → Int32} {Q : Option Value → am_h → Prop}
theorem lwf.nr (k : lwf h y) : near h y := ⟨k.1.1, k.1.2.2, fun q j _ => by rw [k.1.2.1], fun q j c => k.2.2 q j (fun z => c (by unfold scr; omega)), fun q _ => by rw [k.2.1]⟩
theorem lwr.nr (k : lwr h y) : near h y := ⟨k.1.1, k.1.2.2, fun q j _ => by rw [k.1.2.1], fun q j c => k.2.2 q j (fun z => c (by unfold scr; omega)), fun q c => k.2.1 q 13 (by omega)⟩
theorem near_r (l : Option Nat) : near h (s_r h 91 0 l) := ⟨rfl, rfl, fun q j c => rne (by omega), fun _ _ _ => rfl, fun _ _ => rfl⟩
theorem near.nums (a : near h y) : a_i y 127 = a_i h 127 := funext fun j => a.2.2.2.1 127 j (by unfold scr; omega)
/-- what is known ahead of a law asked -/
def LB (X : PX) (T w : Nat) (g : Nat → Int32) (V : (Nat → Int32) → Int32 → Int32) (h : am_h) : Prop :=
  Inv X h ∧ LX h w V ∧ a_i h 127 = g ∧ a_r h 91 0 = rlO g ∧ T ≤ 90 ∧ g 165 = nI T ∧ tG g T ∧ bB g T ∧ tO g T
theorem LB_ex (k : Inv X h) (ol : rOl h) (hw : w < 5) : ∃ T V, LB X T w (a_i h 127) V (s_r h 91 0 (rlO (a_i h 127))) := by
  obtain ⟨h1, eh1⟩ : ∃ h1, h1 = s_r h 91 0 (rlO (a_i h 127)) := ⟨_, rfl⟩
  have nh : near h h1 := by rw [eh1]; exact near_r _
  rw [← eh1]
  have k1 : Inv X h1 := nh.Iv k
  have o1 : rOl h1 := by rw [eh1]; exact ol
  have i1 : a_i h1 127 = a_i h 127 := nh.nums
  have r1 : a_r h1 91 0 = rlO (a_i h 127) := by rw [eh1]; exact req rfl rfl
  obtain ⟨V, L⟩ := LX_ex X k1 o1 (w := w) hw (by rw [r1, i1]; rfl)
  obtain ⟨T, t1, t2, t3⟩ := k.T
  exact ⟨T, V, k1, L, i1, r1, t2, t1, k.tG t3, k.bB t3, k.tO t3⟩
theorem LB.at (b : LB X T w g V h) (ny : near h y) : Inv X y ∧ sh_C (a_t y) (a_r y) ∧ sh_R (a_t y) (a_r y) ∧ a_i y 127 = g ∧ bG y g T ∧ (a_r y 91 0 = rlO g → LX y w V) ∧ (∀ d Q, Cal d mX11_lawsNow [.ref 0] y Q = Q (some (.ref 91)) (s_r y 91 0 (rlO g))) := by
  obtain ⟨k, L, i1, r1, t2, t1, G, B, O⟩ := b
  have ky := ny.Iv k
  have i2 : a_i y 127 = g := ny.nums.trans i1
  have hC := ky.1.1
  refine ⟨ky, hC, ky.1.2.1, i2, ?_, fun r => ny.LX (r1.trans r.symm) L, fun d Q => ?_⟩
  · have := ky.bG (T := T) (by rw [i2, t1, Nn_n (by omega)])
    rw [i2] at this
    exact this
  · have := rlO_c ky
    rw [i2] at this
    exact q_lawsNow hC this
/-- the numbers that cold's law sees -/
def coN (g : Nat → Int32) (e : Nat) (v : Int32) : Nat → Int32 := fun a => if a = 0 then nI e else if a = 1 then g 0 else if a = 2 then g 90 else v
theorem q_max {b : Int32} : Cal d mJ9_max_7cf53 [.int 0, .int b] h Q = Q (some (.int (if b < 0 then 0 else b))) h := by
  unfold Cal
  rw [l_J9_max_7cf53]
  simp only [am_en, am_ag, ct_i, ct_r, ct_l, List.length_cons, List.length_nil, List.replicate]
  by_cases c : (0 : Int32) < b
  · have c2 : ¬ b < 0 := fun z => Int32.lt_irrefl (Int32.lt_trans c z)
    simp [w_iload_n0 (M := mJ9_max_7cf53) dJ9_max_7cf53_0, w_iload_n1 (M := mJ9_max_7cf53) dJ9_max_7cf53_1, w_ic_lt (M := mJ9_max_7cf53) (tgt := 9) dJ9_max_7cf53_2 (by decide), w_iload_n0 (M := mJ9_max_7cf53) dJ9_max_7cf53_5, w_goto (M := mJ9_max_7cf53) (tgt := 10) dJ9_max_7cf53_6 (by decide), w_iload_n1 (M := mJ9_max_7cf53) dJ9_max_7cf53_9, w_iret (M := mJ9_max_7cf53) dJ9_max_7cf53_10 rfl, Kn_v_, Kn_n_, kl_i_, kl_a_, kl_l_, kl_n_, s1_0_, s2_0_, s1_1, s1_2, s1_3, s1_4, s1_5, s1_6, s1_7, s1_8, s1_9, s1_10, s1_11, s1_12, s1_13, s1_14, s2_1, s2_2, s2_3, s2_4, s2_5, s2_6, s2_7, s2_8, s2_9, s2_10, s2_11, s2_12, s2_13, s2_14, List.map_nil, List.map_cons, List.sum_nil, List.sum_cons, ct_i_, ct_r_, ct_l_, t_si_, t_sl_, t_sr_, n_si_, n_sl_, n_sr_, i_si_, i_sl_, i_sr_, l_si_, l_sl_, l_sr_, r_si_, r_sl_, r_sr_, vr_s_, vr_n_, nz_0_, nz_1_, c, c2]
  · by_cases c2 : b < 0
    · simp [w_iload_n0 (M := mJ9_max_7cf53) dJ9_max_7cf53_0, w_iload_n1 (M := mJ9_max_7cf53) dJ9_max_7cf53_1, w_ic_lt (M := mJ9_max_7cf53) (tgt := 9) dJ9_max_7cf53_2 (by decide), w_iload_n0 (M := mJ9_max_7cf53) dJ9_max_7cf53_5, w_goto (M := mJ9_max_7cf53) (tgt := 10) dJ9_max_7cf53_6 (by decide), w_iload_n1 (M := mJ9_max_7cf53) dJ9_max_7cf53_9, w_iret (M := mJ9_max_7cf53) dJ9_max_7cf53_10 rfl, Kn_v_, Kn_n_, kl_i_, kl_a_, kl_l_, kl_n_, s1_0_, s2_0_, s1_1, s1_2, s1_3, s1_4, s1_5, s1_6, s1_7, s1_8, s1_9, s1_10, s1_11, s1_12, s1_13, s1_14, s2_1, s2_2, s2_3, s2_4, s2_5, s2_6, s2_7, s2_8, s2_9, s2_10, s2_11, s2_12, s2_13, s2_14, List.map_nil, List.map_cons, List.sum_nil, List.sum_cons, ct_i_, ct_r_, ct_l_, t_si_, t_sl_, t_sr_, n_si_, n_sl_, n_sr_, i_si_, i_sl_, i_sr_, l_si_, l_sl_, l_sr_, r_si_, r_sl_, r_sr_, vr_s_, vr_n_, nz_0_, nz_1_, c, c2]
    · have : b = 0 := Int32.le_antisymm (Int32.not_lt.mp c) (Int32.not_lt.mp c2)
      subst this
      simp [w_iload_n0 (M := mJ9_max_7cf53) dJ9_max_7cf53_0, w_iload_n1 (M := mJ9_max_7cf53) dJ9_max_7cf53_1, w_ic_lt (M := mJ9_max_7cf53) (tgt := 9) dJ9_max_7cf53_2 (by decide), w_iload_n0 (M := mJ9_max_7cf53) dJ9_max_7cf53_5, w_goto (M := mJ9_max_7cf53) (tgt := 10) dJ9_max_7cf53_6 (by decide), w_iload_n1 (M := mJ9_max_7cf53) dJ9_max_7cf53_9, w_iret (M := mJ9_max_7cf53) dJ9_max_7cf53_10 rfl, Kn_v_, Kn_n_, kl_i_, kl_a_, kl_l_, kl_n_, s1_0_, s2_0_, s1_1, s1_2, s1_3, s1_4, s1_5, s1_6, s1_7, s1_8, s1_9, s1_10, s1_11, s1_12, s1_13, s1_14, s2_1, s2_2, s2_3, s2_4, s2_5, s2_6, s2_7, s2_8, s2_9, s2_10, s2_11, s2_12, s2_13, s2_14, List.map_nil, List.map_cons, List.sum_nil, List.sum_cons, ct_i_, ct_r_, ct_l_, t_si_, t_sl_, t_sr_, n_si_, n_sl_, n_sr_, i_si_, i_sl_, i_sr_, l_si_, l_sl_, l_sr_, r_si_, r_sl_, r_sr_, vr_s_, vr_n_, nz_0_, nz_1_]
/-- a gap less what the line takes -/
def mxV (g : Nat → Int32) (T one other : Nat) (v2 : Int32) (i : Nat) : Int32 := if v2 = 0 then gV g T one other i else if gV g T one other i - g (117 + 4 * one + other) - g (117 + 4 * other + one) - 2 < 0 then 0 else gV g T one other i - g (117 + 4 * one + other) - g (117 + 4 * other + one) - 2
theorem gV_b (B : bB g T) (G : tG g T) (hi : i < T) {one other : Nat} (h2 : other < 4) (hn : ¬ gV g T one other i = -1) : bt 0 (gV g T one other i) 9062 := by
  unfold gV at hn ⊢
  by_cases c1 : g (166 + 5 * i) = nI other ∧ g (166 + 5 * i + 4) = 1
  · rw [if_pos c1] at hn ⊢
    have b3 := (B.2.2 i hi).2.2 c1.2
    have b4 := (B.2.2 i hi).1
    generalize g (166 + 5 * i + 3) = u at hn b3 ⊢
    by_cases c2 : gH g T one other u = -1 ∨ an (BW g other u (gH g T one other u)) T 0 = true
    · rw [if_pos c2] at hn
      exact absurd rfl hn
    · rw [if_neg c2]
      rcases fv_s (P := GC g one other u) (v := bA g (nI other)) T 0 with z | ⟨j, z1, z2, z3, z4⟩
      · exact absurd (Or.inl z) c2
      · have e : gH g T one other u = bA g (nI other) j := z4
        rw [e]
        have bj := bA_b B G (show j < T by omega) h2
        unfold GC at z3
        simp only [Bool.and_eq_true, decide_eq_true_eq] at z3
        have z5 := z3.2.1
        rw [Int32.lt_iff_toInt_lt] at z5
        unfold bt at b4 bj ⊢
        rw [Int32.toInt_sub, Int.bmod_eq_of_le (by omega) (by omega)]
        omega
  · rw [if_neg c1] at hn
    exact absurd rfl hn
theorem mxV_c (B : bB g T) (G : tG g T) (hi : i < T) {one other : Nat} (h1 : one < 4) (h2 : other < 4) {v2 : Int32} (hn : ¬ gV g T one other i = -1) : inM (mxV g T one other v2 i) ∧ (if gV g T one other i - (if v2 = 0 then 0 else (1 + g (117 + 4 * one + other)) + (1 + g (117 + 4 * other + one))) < 0 then 0 else gV g T one other i - (if v2 = 0 then 0 else (1 + g (117 + 4 * one + other)) + (1 + g (117 + 4 * other + one)))) = mxV g T one other v2 i := by
  have b := gV_b B G hi h2 hn
  have a1 := B.2.1 (4 * one + other) (by omega)
  have a2 := B.2.1 (4 * other + one) (by omega)
  rw [← Nat.add_assoc] at a1 a2
  unfold mxV inM
  generalize gV g T one other i = x at b ⊢
  generalize g (117 + 4 * one + other) = p at a1 ⊢
  generalize g (117 + 4 * other + one) = q at a2 ⊢
  unfold bt at b a1 a2
  by_cases c : v2 = 0
  · rw [if_pos c, if_pos c, Int32.sub_zero, if_neg (by rw [Int32.lt_iff_toInt_lt, show (0 : Int32).toInt = 0 from rfl]; omega)]
    exact ⟨by omega, rfl⟩
  · rw [if_neg c, if_neg c]
    have e : x - ((1 + p) + (1 + q)) = x - p - q - 2 := by
      apply Int32.toInt_inj.mp
      have one : (1 : Int32).toInt = 1 := rfl
      have two : (2 : Int32).toInt = 2 := rfl
      have e1 : (1 + p).toInt = 1 + p.toInt := by rw [Int32.toInt_add, one, Int.bmod_eq_of_le (by omega) (by omega)]
      have e2 : (1 + q).toInt = 1 + q.toInt := by rw [Int32.toInt_add, one, Int.bmod_eq_of_le (by omega) (by omega)]
      have e3 : ((1 + p) + (1 + q)).toInt = 2 + p.toInt + q.toInt := by rw [Int32.toInt_add, e1, e2, Int.bmod_eq_of_le (by omega) (by omega)]; omega
      have e4 : (x - p).toInt = x.toInt - p.toInt := by rw [Int32.toInt_sub, Int.bmod_eq_of_le (by omega) (by omega)]
      have e5 : (x - p - q).toInt = x.toInt - p.toInt - q.toInt := by rw [Int32.toInt_sub, e4, Int.bmod_eq_of_le (by omega) (by omega)]
      rw [Int32.toInt_sub, e3, Int32.toInt_sub, e5, two, Int.bmod_eq_of_le (by omega) (by omega), Int.bmod_eq_of_le (by omega) (by omega)]
      omega
    have one : (1 : Int32).toInt = 1 := rfl
    have two : (2 : Int32).toInt = 2 := rfl
    have e4 : (x - p).toInt = x.toInt - p.toInt := by rw [Int32.toInt_sub, Int.bmod_eq_of_le (by omega) (by omega)]
    have e5 : (x - p - q).toInt = x.toInt - p.toInt - q.toInt := by rw [Int32.toInt_sub, e4, Int.bmod_eq_of_le (by omega) (by omega)]
    have e6 : (x - p - q - 2).toInt = x.toInt - p.toInt - q.toInt - 2 := by rw [Int32.toInt_sub, e5, two, Int.bmod_eq_of_le (by omega) (by omega)]
    rw [e]
    refine ⟨?_, rfl⟩
    by_cases c2 : x - p - q - 2 < 0
    · rw [if_pos c2, show (0 : Int32).toInt = 0 from rfl]; omega
    · rw [if_neg c2, e6]; omega
/-- cold: a round -/
def FC (g : Nat → Int32) (T one other : Nat) (v2 : Int32) (V : (Nat → Int32) → Int32 → Int32) (i : Nat) (s : Int32) : Int32 := if gV g T one other i = -1 then s else s + V (coN g one (mxV g T one other v2 i)) (mxV g T one other v2 i)
end COLD
