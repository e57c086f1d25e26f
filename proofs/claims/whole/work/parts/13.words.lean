theorem zip_ex {α β : Type} {a : List α} {b : List β} (h : a.length ≤ b.length) {x : α} (hx : x ∈ a) : ∃ y, (x, y) ∈ a.zip b := by
  induction a generalizing b with
  | nil => cases hx
  | cons u a ih =>
    cases b with
    | nil => simp at h
    | cons v b =>
      rcases List.mem_cons.mp hx with rfl | hx
      · exact ⟨v, by simp⟩
      · obtain ⟨y, hy⟩ := ih (by simpa using h) hx
        exact ⟨y, by simp [hy]⟩
theorem lookup_mem {α β : Type} [BEq α] [LawfulBEq α] {a : α} {b : β} {l : List (α × β)} (h : l.lookup a = some b) : (a, b) ∈ l := by
  induction l with
  | nil => simp at h
  | cons x l ih =>
    obtain ⟨u, v⟩ := x
    rw [List.lookup_cons] at h
    split at h
    · rename_i e
      have := LawfulBEq.eq_of_beq e
      subst this
      cases h
      exact List.mem_cons_self
    · exact List.mem_cons_of_mem _ (ih h)
def am_tb0 (c : Nat) : List Cond := match c with
  | 0 => k2_sels lw_privs
  | 1 => tables_1_1
  | 2 => tables_1_2
  | 3 => tables_1_3
  | 4 => tables_1_4
  | 5 => tables_1_5
  | 6 => tables_1_6
  | 7 => tables_1_7
  | 8 => tables_1_8
  | _ => tables_1_9
theorem am_tb0_in {c : Nat} {w : Cond} (h : w ∈ am_tb0 c) : w ∈ lw_tbl := by
  unfold lw_tbl tables_1
  unfold am_tb0 at h
  split at h <;> simp only [List.mem_append, h, true_or, or_true]
def am_at0 (i : Nat) (w : Cond) : Bool := decide ((am_tb0 (i / 1000))[i % 1000]? = some w)
theorem am_at0_in {i : Nat} {w : Cond} (h : am_at0 i w = true) : w ∈ lw_tbl := by
  unfold am_at0 at h
  exact am_tb0_in (List.mem_of_getElem? (decide_eq_true_eq.mp h))
def am_at1 (i : Nat) (w : Cond) : Bool := am_at0 i w && goodWord w
theorem am_at1_in {i : Nat} {w : Cond} (h : am_at1 i w = true) : w ∈ am_W := by
  unfold am_at1 at h
  simp only [Bool.and_eq_true] at h
  exact List.mem_filter.mpr ⟨am_at0_in h.1, h.2⟩
def am_kTI : List Nat := [4085, 4110, 4114, 6124, 6125, 6126, 8020]
def am_kTB (q : ((Nat × Nat) × Int32) × Nat) : Bool := am_at1 q.2 (Cond.constant (am_on q.1.1.1) q.1.1.2 q.1.2)
set_option maxRecDepth 100000 in
theorem am_kTC0 : (((am_kT.zip am_kTI).drop 0).take 40).all am_kTB = true := by decide +kernel
theorem all_dt {α : Type} {l : List α} {f : α → Bool} {n k : Nat} (h1 : ((l.drop n).take k).all f = true) (h2 : (l.drop (n + k)).all f = true) : (l.drop n).all f = true := by
  rw [← List.take_append_drop k (l.drop n), List.all_append, List.drop_drop, h1, Bool.true_and]
  exact h2
theorem am_kTC : (am_kT.zip am_kTI).all am_kTB = true := by
  have h0 : ((am_kT.zip am_kTI).drop 40).all am_kTB = true := by rw [show (am_kT.zip am_kTI).drop 40 = [] from by decide +kernel]; rfl
  have h0 := all_dt am_kTC0 h0
  exact h0
theorem am_kTOK : ∀ e ∈ am_kT, ∃ i, am_kTB (e, i) = true := by
  intro e he
  obtain ⟨i, hi⟩ := zip_ex (b := am_kTI) (by decide +kernel) he
  exact ⟨i, List.all_eq_true.mp am_kTC _ hi⟩
def am_lTI : List Nat := [3150, 3151, 7224, 7228, 7229, 7230, 7231, 7232, 7233, 7234, 7235, 7236, 7237, 7238, 7239, 8000, 8001, 8002, 8003, 8004, 8005, 8006, 8007, 8008, 8009, 8010, 8011, 8012, 8013, 8014, 8015, 8016, 8017, 8018, 8019, 8195, 8196]
def am_lTB (q : ((Nat × Nat) × Int64) × Nat) : Bool := am_at1 q.2 (Cond.constantLong (am_on q.1.1.1) q.1.1.2 q.1.2)
set_option maxRecDepth 100000 in
theorem am_lTC0 : (((am_lT.zip am_lTI).drop 0).take 40).all am_lTB = true := by decide +kernel
theorem am_lTC : (am_lT.zip am_lTI).all am_lTB = true := by
  have h0 : ((am_lT.zip am_lTI).drop 40).all am_lTB = true := by rw [show (am_lT.zip am_lTI).drop 40 = [] from by decide +kernel]; rfl
  have h0 := all_dt am_lTC0 h0
  exact h0
theorem am_lTOK : ∀ e ∈ am_lT, ∃ i, am_lTB (e, i) = true := by
  intro e he
  obtain ⟨i, hi⟩ := zip_ex (b := am_lTI) (by decide +kernel) he
  exact ⟨i, List.all_eq_true.mp am_lTC _ hi⟩
def am_fTI : List Nat := [1041, 1042, 1043, 1044, 1045, 1046, 1047, 1048, 1049, 1050, 1051, 1052, 1053, 1054, 1055, 1081, 1082, 1083, 1084, 1085, 1086, 1087, 1088, 1089, 1090, 1091, 1092, 1093, 1094, 1095, 1096, 1097, 1098, 1099, 1100, 1101, 1102, 1103, 1104, 1105, 1106, 1107, 1108, 1109, 1110, 1111, 1112, 1113, 1114, 1144, 1145, 1146, 1147, 1148, 1149, 1150, 1151, 1152, 1153, 1154, 1155, 1156, 1157, 1158, 1159, 1160, 1161, 1162, 1163, 1164, 1165, 1166, 1167, 1193, 1194, 1195, 1196, 1197, 1198, 1199, 1200, 1201, 1226, 1227, 1228, 1229, 1230, 2006, 2007, 2008, 2009, 2017, 2018, 2019, 2020, 2021, 2022, 2023, 2024, 2025, 2026, 2027, 2028, 2029, 2030, 2031, 2032, 2033, 2034, 2035, 2036, 2037, 2038, 2039, 2040, 2041, 2042, 2084, 2085, 2086, 2087, 2088, 2089, 2090, 2091, 2092, 2093, 2094, 2095, 2096, 2097, 2098, 2099, 2100, 2136, 2137, 2138, 2139, 2140, 2155, 2156, 2157, 2158, 2159, 2160, 2161, 2162, 2163, 2164, 2165, 2166, 2167, 2168, 2169, 2170, 2171, 2172, 2173, 2174, 2175, 2195, 2196, 2197, 2198, 2199, 2200, 2201, 2202, 5225, 5226, 5227, 5228, 5229, 5230, 5231, 5232, 5233, 5234, 5235, 5236, 5237, 5238, 5239, 6162, 6163, 6164, 6165, 6166, 6167, 6168, 6169, 6170, 6171, 6172, 6173, 6174, 6175, 6176, 6177, 6178, 6179, 6180, 6181, 6182, 6183, 6184, 6185, 6186, 6187, 6188, 6189, 6190, 6191, 6192, 6193, 6194, 6195, 6196, 6197, 6198, 6199, 6200, 6201, 6202, 6203, 6204, 6205, 6206, 6207, 6208, 6209, 6210, 6211, 6212, 6213, 6214, 6215, 6216, 6217, 6218, 6219, 6220, 6221, 6222, 6223, 6224, 6225, 6226, 6227, 6228, 6229, 6230, 6231, 6232, 6233, 6234, 6235, 6236, 6237, 6238, 6239]
def am_fTB (q : ((Nat × Nat) × (Nat × Nat)) × Nat) : Bool := am_at1 q.2 (Cond.fieldLink (am_on q.1.1.1) q.1.1.2 (am_tb q.1.2.1 q.1.2.2).1 (am_tb q.1.2.1 q.1.2.2).2.1 (am_tb q.1.2.1 q.1.2.2).2.2.1) && decide (q.1.2.2 < am_sz q.1.2.1) && decide (q.1.2.1 ≤ 12)
set_option maxRecDepth 100000 in
theorem am_fTC0 : (((am_fT.zip am_fTI).drop 0).take 40).all am_fTB = true := by decide +kernel
set_option maxRecDepth 100000 in
theorem am_fTC40 : (((am_fT.zip am_fTI).drop 40).take 40).all am_fTB = true := by decide +kernel
set_option maxRecDepth 100000 in
theorem am_fTC80 : (((am_fT.zip am_fTI).drop 80).take 40).all am_fTB = true := by decide +kernel
set_option maxRecDepth 100000 in
theorem am_fTC120 : (((am_fT.zip am_fTI).drop 120).take 40).all am_fTB = true := by decide +kernel
set_option maxRecDepth 100000 in
theorem am_fTC160 : (((am_fT.zip am_fTI).drop 160).take 40).all am_fTB = true := by decide +kernel
set_option maxRecDepth 100000 in
theorem am_fTC200 : (((am_fT.zip am_fTI).drop 200).take 40).all am_fTB = true := by decide +kernel
set_option maxRecDepth 100000 in
theorem am_fTC240 : (((am_fT.zip am_fTI).drop 240).take 40).all am_fTB = true := by decide +kernel
theorem am_fTC : (am_fT.zip am_fTI).all am_fTB = true := by
  have h0 : ((am_fT.zip am_fTI).drop 280).all am_fTB = true := by rw [show (am_fT.zip am_fTI).drop 280 = [] from by decide +kernel]; rfl
  have h0 := all_dt am_fTC240 h0
  have h0 := all_dt am_fTC200 h0
  have h0 := all_dt am_fTC160 h0
  have h0 := all_dt am_fTC120 h0
  have h0 := all_dt am_fTC80 h0
  have h0 := all_dt am_fTC40 h0
  have h0 := all_dt am_fTC0 h0
  exact h0
theorem am_fTOK : ∀ e ∈ am_fT, ∃ i, am_fTB (e, i) = true := by
  intro e he
  obtain ⟨i, hi⟩ := zip_ex (b := am_fTI) (by decide +kernel) he
  exact ⟨i, List.all_eq_true.mp am_fTC _ hi⟩
def am_cTI : List (Nat × Nat × Nat) := [(1021, 1022, 1001), (1029, 1030, 1002), (1035, 1036, 1003), (1068, 1069, 1004), (1074, 1076, 1005), (1187, 1188, 1006), (1220, 1221, 1007), (2000, 2001, 1008), (2072, 1069, 1004), (2074, 1188, 1006), (2076, 2150, 1011), (2078, 2079, 1009), (2130, 2131, 1010), (5217, 5218, 1019), (5223, 0, 0), (6152, 6153, 1012)]
def am_cTB (q : ((Nat × Nat) × Nat) × (Nat × Nat × Nat)) : Bool := if q.1.2 = 26 then am_at1 q.2.1 (Cond.classLink (am_on q.1.1.1) q.1.1.2 "[[I") else decide (q.1.2 ≤ 12) && am_at1 q.2.1 (Cond.classLink (am_on q.1.1.1) q.1.1.2 (am_on q.1.2)) && am_at1 q.2.2.1 (Cond.instantiable (am_on q.1.2) (am_sz q.1.2)) && am_at1 q.2.2.2 (Cond.initialized (am_on q.1.2))
set_option maxRecDepth 100000 in
theorem am_cTC0 : (((am_cT.zip am_cTI).drop 0).take 40).all am_cTB = true := by decide +kernel
theorem am_cTC : (am_cT.zip am_cTI).all am_cTB = true := by
  have h0 : ((am_cT.zip am_cTI).drop 40).all am_cTB = true := by rw [show (am_cT.zip am_cTI).drop 40 = [] from by decide +kernel]; rfl
  have h0 := all_dt am_cTC0 h0
  exact h0
theorem am_cTOK : ∀ e ∈ am_cT, ∃ i, am_cTB (e, i) = true := by
  intro e he
  obtain ⟨i, hi⟩ := zip_ex (b := am_cTI) (by decide +kernel) he
  exact ⟨i, List.all_eq_true.mp am_cTC _ hi⟩
