section SW
variable {d : Nat} {L : am_L} {S : List Value} {h : am_h} {Q : Option Value → am_h → Prop}
theorem ti_ne {x : Int32} {k : Int32} {a : Int} (hk : k.toInt = a) (h : ¬ x = k) : ¬ x.toInt = a := fun q => h (Int32.toInt_inj.mp (by rw [hk]; exact q))
set_option maxRecDepth 4000 in
theorem sw_X2_turnNumber_1 {x : Int32} : WP d mX2_turnNumber 1 L (.int x :: S) h Q = (if x = 0 then WP d mX2_turnNumber 36 L S h Q else if x = 1 then WP d mX2_turnNumber 43 L S h Q else if x = 2 then WP d mX2_turnNumber 50 L S h Q else if x = 3 then WP d mX2_turnNumber 57 L S h Q else if x = 4 then WP d mX2_turnNumber 64 L S h Q else WP d mX2_turnNumber 71 L S h Q) := by
  rw [w_tsw (M := mX2_turnNumber) dX2_turnNumber_1 (by decide) (by decide) (by decide)]
  by_cases h0 : x = 0
  · subst h0; rfl
  rw [if_neg h0]
  by_cases h1 : x = 1
  · subst h1; rfl
  rw [if_neg h1]
  by_cases h2 : x = 2
  · subst h2; rfl
  rw [if_neg h2]
  by_cases h3 : x = 3
  · subst h3; rfl
  rw [if_neg h3]
  by_cases h4 : x = 4
  · subst h4; rfl
  rw [if_neg h4]
  rw [if_pos]
  · rfl
  have e0 := ti_ne (a := 0) (by decide) h0
  have e1 := ti_ne (a := 1) (by decide) h1
  have e2 := ti_ne (a := 2) (by decide) h2
  have e3 := ti_ne (a := 3) (by decide) h3
  have e4 := ti_ne (a := 4) (by decide) h4
  omega
set_option maxRecDepth 4000 in
theorem sw_X2_yesNumber_1 {x : Int32} : WP d mX2_yesNumber 1 L (.int x :: S) h Q = (if x = 0 then WP d mX2_yesNumber 28 L S h Q else if x = 1 then WP d mX2_yesNumber 35 L S h Q else if x = 2 then WP d mX2_yesNumber 42 L S h Q else WP d mX2_yesNumber 49 L S h Q) := by
  rw [w_tsw (M := mX2_yesNumber) dX2_yesNumber_1 (by decide) (by decide) (by decide)]
  by_cases h0 : x = 0
  · subst h0; rfl
  rw [if_neg h0]
  by_cases h1 : x = 1
  · subst h1; rfl
  rw [if_neg h1]
  by_cases h2 : x = 2
  · subst h2; rfl
  rw [if_neg h2]
  rw [if_pos]
  · rfl
  have e0 := ti_ne (a := 0) (by decide) h0
  have e1 := ti_ne (a := 1) (by decide) h1
  have e2 := ti_ne (a := 2) (by decide) h2
  omega
set_option maxRecDepth 4000 in
theorem sw_X3_number_1 {x : Int32} : WP d mX3_number 1 L (.int x :: S) h Q = (if x = 4 then WP d mX3_number 44 L S h Q else if x = 5 then WP d mX3_number 57 L S h Q else if x = 6 then WP d mX3_number 62 L S h Q else if x = 7 then WP d mX3_number 67 L S h Q else if x = 8 then WP d mX3_number 72 L S h Q else if x = 9 then WP d mX3_number 77 L S h Q else if x = 10 then WP d mX3_number 82 L S h Q else WP d mX3_number 87 L S h Q) := by
  rw [w_tsw (M := mX3_number) dX3_number_1 (by decide) (by decide) (by decide)]
  by_cases h0 : x = 4
  · subst h0; rfl
  rw [if_neg h0]
  by_cases h1 : x = 5
  · subst h1; rfl
  rw [if_neg h1]
  by_cases h2 : x = 6
  · subst h2; rfl
  rw [if_neg h2]
  by_cases h3 : x = 7
  · subst h3; rfl
  rw [if_neg h3]
  by_cases h4 : x = 8
  · subst h4; rfl
  rw [if_neg h4]
  by_cases h5 : x = 9
  · subst h5; rfl
  rw [if_neg h5]
  by_cases h6 : x = 10
  · subst h6; rfl
  rw [if_neg h6]
  rw [if_pos]
  · rfl
  have e0 := ti_ne (a := 4) (by decide) h0
  have e1 := ti_ne (a := 5) (by decide) h1
  have e2 := ti_ne (a := 6) (by decide) h2
  have e3 := ti_ne (a := 7) (by decide) h3
  have e4 := ti_ne (a := 8) (by decide) h4
  have e5 := ti_ne (a := 9) (by decide) h5
  have e6 := ti_ne (a := 10) (by decide) h6
  omega
set_option maxRecDepth 4000 in
theorem sw_X4_valueOf_71 {x : Int32} : WP d mX4_valueOf 71 L (.int x :: S) h Q = (if x = 0 then WP d mX4_valueOf 108 L S h Q else if x = 1 then WP d mX4_valueOf 117 L S h Q else if x = 2 then WP d mX4_valueOf 142 L S h Q else if x = 3 then WP d mX4_valueOf 154 L S h Q else if x = 4 then WP d mX4_valueOf 177 L S h Q else if x = 5 then WP d mX4_valueOf 189 L S h Q else WP d mX4_valueOf 202 L S h Q) := by
  rw [w_tsw (M := mX4_valueOf) dX4_valueOf_71 (by decide) (by decide) (by decide)]
  by_cases h0 : x = 0
  · subst h0; rfl
  rw [if_neg h0]
  by_cases h1 : x = 1
  · subst h1; rfl
  rw [if_neg h1]
  by_cases h2 : x = 2
  · subst h2; rfl
  rw [if_neg h2]
  by_cases h3 : x = 3
  · subst h3; rfl
  rw [if_neg h3]
  by_cases h4 : x = 4
  · subst h4; rfl
  rw [if_neg h4]
  by_cases h5 : x = 5
  · subst h5; rfl
  rw [if_neg h5]
  rw [if_pos]
  · rfl
  have e0 := ti_ne (a := 0) (by decide) h0
  have e1 := ti_ne (a := 1) (by decide) h1
  have e2 := ti_ne (a := 2) (by decide) h2
  have e3 := ti_ne (a := 3) (by decide) h3
  have e4 := ti_ne (a := 4) (by decide) h4
  have e5 := ti_ne (a := 5) (by decide) h5
  omega
set_option maxRecDepth 4000 in
theorem sw_X4_reckon_1 {x : Int32} : WP d mX4_reckon 1 L (.int x :: S) h Q = (if x = 6 then WP d mX4_reckon 28 L S h Q else if x = 7 then WP d mX4_reckon 36 L S h Q else if x = 8 then WP d mX4_reckon 44 L S h Q else WP d mX4_reckon 52 L S h Q) := by
  rw [w_tsw (M := mX4_reckon) dX4_reckon_1 (by decide) (by decide) (by decide)]
  by_cases h0 : x = 6
  · subst h0; rfl
  rw [if_neg h0]
  by_cases h1 : x = 7
  · subst h1; rfl
  rw [if_neg h1]
  by_cases h2 : x = 8
  · subst h2; rfl
  rw [if_neg h2]
  rw [if_pos]
  · rfl
  have e0 := ti_ne (a := 6) (by decide) h0
  have e1 := ti_ne (a := 7) (by decide) h1
  have e2 := ti_ne (a := 8) (by decide) h2
  omega
set_option maxRecDepth 4000 in
theorem sw_X4_asked_1 {x : Int32} : WP d mX4_asked 1 L (.int x :: S) h Q = (if x = 10 then WP d mX4_asked 44 L S h Q else if x = 11 then WP d mX4_asked 58 L S h Q else if x = 12 then WP d mX4_asked 72 L S h Q else if x = 13 then WP d mX4_asked 86 L S h Q else if x = 14 then WP d mX4_asked 100 L S h Q else if x = 15 then WP d mX4_asked 114 L S h Q else if x = 16 then WP d mX4_asked 128 L S h Q else WP d mX4_asked 145 L S h Q) := by
  rw [w_tsw (M := mX4_asked) dX4_asked_1 (by decide) (by decide) (by decide)]
  by_cases h0 : x = 10
  · subst h0; rfl
  rw [if_neg h0]
  by_cases h1 : x = 11
  · subst h1; rfl
  rw [if_neg h1]
  by_cases h2 : x = 12
  · subst h2; rfl
  rw [if_neg h2]
  by_cases h3 : x = 13
  · subst h3; rfl
  rw [if_neg h3]
  by_cases h4 : x = 14
  · subst h4; rfl
  rw [if_neg h4]
  by_cases h5 : x = 15
  · subst h5; rfl
  rw [if_neg h5]
  by_cases h6 : x = 16
  · subst h6; rfl
  rw [if_neg h6]
  rw [if_pos]
  · rfl
  have e0 := ti_ne (a := 10) (by decide) h0
  have e1 := ti_ne (a := 11) (by decide) h1
  have e2 := ti_ne (a := 12) (by decide) h2
  have e3 := ti_ne (a := 13) (by decide) h3
  have e4 := ti_ne (a := 14) (by decide) h4
  have e5 := ti_ne (a := 15) (by decide) h5
  have e6 := ti_ne (a := 16) (by decide) h6
  omega
set_option maxRecDepth 4000 in
theorem sw_X5_findPatience_33 {x : Int32} : WP d mX5_findPatience 33 L (.int x :: S) h Q = (if x = 1 then WP d mX5_findPatience 60 L S h Q else if x = 2 then WP d mX5_findPatience 68 L S h Q else if x = 3 then WP d mX5_findPatience 93 L S h Q else WP d mX5_findPatience 122 L S h Q) := by
  rw [w_tsw (M := mX5_findPatience) dX5_findPatience_33 (by decide) (by decide) (by decide)]
  by_cases h0 : x = 1
  · subst h0; rfl
  rw [if_neg h0]
  by_cases h1 : x = 2
  · subst h1; rfl
  rw [if_neg h1]
  by_cases h2 : x = 3
  · subst h2; rfl
  rw [if_neg h2]
  rw [if_pos]
  · rfl
  have e0 := ti_ne (a := 1) (by decide) h0
  have e1 := ti_ne (a := 2) (by decide) h1
  have e2 := ti_ne (a := 3) (by decide) h2
  omega
theorem sw_X7_comparison_14 {x : Int32} : WP d mX7_comparison 14 L (.int x :: S) h Q = (if x = 35 then WP d mX7_comparison 87 L S h Q else if x = 60 then WP d mX7_comparison 72 L S h Q else if x = 61 then WP d mX7_comparison 84 L S h Q else if x = 62 then WP d mX7_comparison 78 L S h Q else if x = 316 then WP d mX7_comparison 75 L S h Q else if x = 318 then WP d mX7_comparison 81 L S h Q else WP d mX7_comparison 90 L S h Q) := by
  rw [w_lsw (M := mX7_comparison) dX7_comparison_14 (by decide)]
  simp only [Op.lookupswitch.offset_cons]
  by_cases h0 : x = 35
  · subst h0; simp [Op.lookupswitch.offset_cons]
  rw [if_neg h0]
  by_cases h1 : x = 60
  · subst h1; simp [Op.lookupswitch.offset_cons]
  rw [if_neg h1]
  by_cases h2 : x = 61
  · subst h2; simp [Op.lookupswitch.offset_cons]
  rw [if_neg h2]
  by_cases h3 : x = 62
  · subst h3; simp [Op.lookupswitch.offset_cons]
  rw [if_neg h3]
  by_cases h4 : x = 316
  · subst h4; simp [Op.lookupswitch.offset_cons]
  rw [if_neg h4]
  by_cases h5 : x = 318
  · subst h5; simp [Op.lookupswitch.offset_cons]
  rw [if_neg h5]
  have e0 : ¬ (35 : Int) = x.toInt := fun z => ti_ne (a := 35) (by decide) h0 z.symm
  have e1 : ¬ (60 : Int) = x.toInt := fun z => ti_ne (a := 60) (by decide) h1 z.symm
  have e2 : ¬ (61 : Int) = x.toInt := fun z => ti_ne (a := 61) (by decide) h2 z.symm
  have e3 : ¬ (62 : Int) = x.toInt := fun z => ti_ne (a := 62) (by decide) h3 z.symm
  have e4 : ¬ (316 : Int) = x.toInt := fun z => ti_ne (a := 316) (by decide) h4 z.symm
  have e5 : ¬ (318 : Int) = x.toInt := fun z => ti_ne (a := 318) (by decide) h5 z.symm
  simp [Op.lookupswitch.offset_cons, Op.lookupswitch.offset, e0, e1, e2, e3, e4, e5]
set_option maxRecDepth 4000 in
theorem sw_X10_number_1 {x : Int32} : WP d mX10_number 1 L (.int x :: S) h Q = (if x = 0 then WP d mX10_number 32 L S h Q else if x = 1 then WP d mX10_number 39 L S h Q else if x = 2 then WP d mX10_number 46 L S h Q else if x = 3 then WP d mX10_number 53 L S h Q else WP d mX10_number 60 L S h Q) := by
  rw [w_tsw (M := mX10_number) dX10_number_1 (by decide) (by decide) (by decide)]
  by_cases h0 : x = 0
  · subst h0; rfl
  rw [if_neg h0]
  by_cases h1 : x = 1
  · subst h1; rfl
  rw [if_neg h1]
  by_cases h2 : x = 2
  · subst h2; rfl
  rw [if_neg h2]
  by_cases h3 : x = 3
  · subst h3; rfl
  rw [if_neg h3]
  rw [if_pos]
  · rfl
  have e0 := ti_ne (a := 0) (by decide) h0
  have e1 := ti_ne (a := 1) (by decide) h1
  have e2 := ti_ne (a := 2) (by decide) h2
  have e3 := ti_ne (a := 3) (by decide) h3
  omega
set_option maxRecDepth 4000 in
theorem sw_X11_played_67 {x : Int32} : WP d mX11_played 67 L (.int x :: S) h Q = (if x = 5 then WP d mX11_played 104 L S h Q else if x = 6 then WP d mX11_played 126 L S h Q else if x = 7 then WP d mX11_played 146 L S h Q else if x = 8 then WP d mX11_played 167 L S h Q else if x = 9 then WP d mX11_played 187 L S h Q else if x = 10 then WP d mX11_played 206 L S h Q else WP d mX11_played 217 L S h Q) := by
  rw [w_tsw (M := mX11_played) dX11_played_67 (by decide) (by decide) (by decide)]
  by_cases h0 : x = 5
  · subst h0; rfl
  rw [if_neg h0]
  by_cases h1 : x = 6
  · subst h1; rfl
  rw [if_neg h1]
  by_cases h2 : x = 7
  · subst h2; rfl
  rw [if_neg h2]
  by_cases h3 : x = 8
  · subst h3; rfl
  rw [if_neg h3]
  by_cases h4 : x = 9
  · subst h4; rfl
  rw [if_neg h4]
  by_cases h5 : x = 10
  · subst h5; rfl
  rw [if_neg h5]
  rw [if_pos]
  · rfl
  have e0 := ti_ne (a := 5) (by decide) h0
  have e1 := ti_ne (a := 6) (by decide) h1
  have e2 := ti_ne (a := 7) (by decide) h2
  have e3 := ti_ne (a := 8) (by decide) h3
  have e4 := ti_ne (a := 9) (by decide) h4
  have e5 := ti_ne (a := 10) (by decide) h5
  omega
set_option maxRecDepth 4000 in
theorem sw_X11_about_1 {x : Int32} : WP d mX11_about 1 L (.int x :: S) h Q = (if x = 0 then WP d mX11_about 56 L S h Q else if x = 1 then WP d mX11_about 67 L S h Q else if x = 2 then WP d mX11_about 78 L S h Q else if x = 3 then WP d mX11_about 89 L S h Q else if x = 4 then WP d mX11_about 100 L S h Q else if x = 5 then WP d mX11_about 108 L S h Q else if x = 6 then WP d mX11_about 116 L S h Q else if x = 7 then WP d mX11_about 124 L S h Q else if x = 8 then WP d mX11_about 135 L S h Q else if x = 9 then WP d mX11_about 146 L S h Q else WP d mX11_about 154 L S h Q) := by
  rw [w_tsw (M := mX11_about) dX11_about_1 (by decide) (by decide) (by decide)]
  by_cases h0 : x = 0
  · subst h0; rfl
  rw [if_neg h0]
  by_cases h1 : x = 1
  · subst h1; rfl
  rw [if_neg h1]
  by_cases h2 : x = 2
  · subst h2; rfl
  rw [if_neg h2]
  by_cases h3 : x = 3
  · subst h3; rfl
  rw [if_neg h3]
  by_cases h4 : x = 4
  · subst h4; rfl
  rw [if_neg h4]
  by_cases h5 : x = 5
  · subst h5; rfl
  rw [if_neg h5]
  by_cases h6 : x = 6
  · subst h6; rfl
  rw [if_neg h6]
  by_cases h7 : x = 7
  · subst h7; rfl
  rw [if_neg h7]
  by_cases h8 : x = 8
  · subst h8; rfl
  rw [if_neg h8]
  by_cases h9 : x = 9
  · subst h9; rfl
  rw [if_neg h9]
  rw [if_pos]
  · rfl
  have e0 := ti_ne (a := 0) (by decide) h0
  have e1 := ti_ne (a := 1) (by decide) h1
  have e2 := ti_ne (a := 2) (by decide) h2
  have e3 := ti_ne (a := 3) (by decide) h3
  have e4 := ti_ne (a := 4) (by decide) h4
  have e5 := ti_ne (a := 5) (by decide) h5
  have e6 := ti_ne (a := 6) (by decide) h6
  have e7 := ti_ne (a := 7) (by decide) h7
  have e8 := ti_ne (a := 8) (by decide) h8
  have e9 := ti_ne (a := 9) (by decide) h9
  omega
set_option maxRecDepth 4000 in
theorem sw_X12_doing_10 {x : Int32} : WP d mX12_doing 10 L (.int x :: S) h Q = (if x = 5 then WP d mX12_doing 44 L S h Q else if x = 6 then WP d mX12_doing 105 L S h Q else if x = 7 then WP d mX12_doing 105 L S h Q else if x = 8 then WP d mX12_doing 64 L S h Q else if x = 9 then WP d mX12_doing 76 L S h Q else WP d mX12_doing 105 L S h Q) := by
  rw [w_tsw (M := mX12_doing) dX12_doing_10 (by decide) (by decide) (by decide)]
  by_cases h0 : x = 5
  · subst h0; rfl
  rw [if_neg h0]
  by_cases h1 : x = 6
  · subst h1; rfl
  rw [if_neg h1]
  by_cases h2 : x = 7
  · subst h2; rfl
  rw [if_neg h2]
  by_cases h3 : x = 8
  · subst h3; rfl
  rw [if_neg h3]
  by_cases h4 : x = 9
  · subst h4; rfl
  rw [if_neg h4]
  rw [if_pos]
  · rfl
  have e0 := ti_ne (a := 5) (by decide) h0
  have e1 := ti_ne (a := 6) (by decide) h1
  have e2 := ti_ne (a := 7) (by decide) h2
  have e3 := ti_ne (a := 8) (by decide) h3
  have e4 := ti_ne (a := 9) (by decide) h4
  omega
set_option maxRecDepth 4000 in
theorem sw_X12_text_105 {x : Int32} : WP d mX12_text 105 L (.int x :: S) h Q = (if x = 0 then WP d mX12_text 136 L S h Q else if x = 1 then WP d mX12_text 143 L S h Q else if x = 2 then WP d mX12_text 150 L S h Q else if x = 3 then WP d mX12_text 157 L S h Q else WP d mX12_text 164 L S h Q) := by
  rw [w_tsw (M := mX12_text) dX12_text_105 (by decide) (by decide) (by decide)]
  by_cases h0 : x = 0
  · subst h0; rfl
  rw [if_neg h0]
  by_cases h1 : x = 1
  · subst h1; rfl
  rw [if_neg h1]
  by_cases h2 : x = 2
  · subst h2; rfl
  rw [if_neg h2]
  by_cases h3 : x = 3
  · subst h3; rfl
  rw [if_neg h3]
  rw [if_pos]
  · rfl
  have e0 := ti_ne (a := 0) (by decide) h0
  have e1 := ti_ne (a := 1) (by decide) h1
  have e2 := ti_ne (a := 2) (by decide) h2
  have e3 := ti_ne (a := 3) (by decide) h3
  omega
theorem sw_X12_worked_1 {x : Int32} : WP d mX12_worked 1 L (.int x :: S) h Q = (if x = 35 then WP d mX12_worked 171 L S h Q else if x = 42 then WP d mX12_worked 114 L S h Q else if x = 43 then WP d mX12_worked 100 L S h Q else if x = 45 then WP d mX12_worked 107 L S h Q else if x = 47 then WP d mX12_worked 121 L S h Q else if x = 60 then WP d mX12_worked 135 L S h Q else if x = 61 then WP d mX12_worked 159 L S h Q else if x = 62 then WP d mX12_worked 147 L S h Q else if x = 300 then WP d mX12_worked 183 L S h Q else if x = 301 then WP d mX12_worked 195 L S h Q else if x = 406 then WP d mX12_worked 207 L S h Q else WP d mX12_worked 211 L S h Q) := by
  rw [w_lsw (M := mX12_worked) dX12_worked_1 (by decide)]
  simp only [Op.lookupswitch.offset_cons]
  by_cases h0 : x = 35
  · subst h0; simp [Op.lookupswitch.offset_cons]
  rw [if_neg h0]
  by_cases h1 : x = 42
  · subst h1; simp [Op.lookupswitch.offset_cons]
  rw [if_neg h1]
  by_cases h2 : x = 43
  · subst h2; simp [Op.lookupswitch.offset_cons]
  rw [if_neg h2]
  by_cases h3 : x = 45
  · subst h3; simp [Op.lookupswitch.offset_cons]
  rw [if_neg h3]
  by_cases h4 : x = 47
  · subst h4; simp [Op.lookupswitch.offset_cons]
  rw [if_neg h4]
  by_cases h5 : x = 60
  · subst h5; simp [Op.lookupswitch.offset_cons]
  rw [if_neg h5]
  by_cases h6 : x = 61
  · subst h6; simp [Op.lookupswitch.offset_cons]
  rw [if_neg h6]
  by_cases h7 : x = 62
  · subst h7; simp [Op.lookupswitch.offset_cons]
  rw [if_neg h7]
  by_cases h8 : x = 300
  · subst h8; simp [Op.lookupswitch.offset_cons]
  rw [if_neg h8]
  by_cases h9 : x = 301
  · subst h9; simp [Op.lookupswitch.offset_cons]
  rw [if_neg h9]
  by_cases h10 : x = 406
  · subst h10; simp [Op.lookupswitch.offset_cons]
  rw [if_neg h10]
  have e0 : ¬ (35 : Int) = x.toInt := fun z => ti_ne (a := 35) (by decide) h0 z.symm
  have e1 : ¬ (42 : Int) = x.toInt := fun z => ti_ne (a := 42) (by decide) h1 z.symm
  have e2 : ¬ (43 : Int) = x.toInt := fun z => ti_ne (a := 43) (by decide) h2 z.symm
  have e3 : ¬ (45 : Int) = x.toInt := fun z => ti_ne (a := 45) (by decide) h3 z.symm
  have e4 : ¬ (47 : Int) = x.toInt := fun z => ti_ne (a := 47) (by decide) h4 z.symm
  have e5 : ¬ (60 : Int) = x.toInt := fun z => ti_ne (a := 60) (by decide) h5 z.symm
  have e6 : ¬ (61 : Int) = x.toInt := fun z => ti_ne (a := 61) (by decide) h6 z.symm
  have e7 : ¬ (62 : Int) = x.toInt := fun z => ti_ne (a := 62) (by decide) h7 z.symm
  have e8 : ¬ (300 : Int) = x.toInt := fun z => ti_ne (a := 300) (by decide) h8 z.symm
  have e9 : ¬ (301 : Int) = x.toInt := fun z => ti_ne (a := 301) (by decide) h9 z.symm
  have e10 : ¬ (406 : Int) = x.toInt := fun z => ti_ne (a := 406) (by decide) h10 z.symm
  simp [Op.lookupswitch.offset_cons, Op.lookupswitch.offset, e0, e1, e2, e3, e4, e5, e6, e7, e8, e9, e10]
set_option maxRecDepth 4000 in
theorem sw_X12_findsPatience_64 {x : Int32} : WP d mX12_findsPatience 64 L (.int x :: S) h Q = (if x = 1 then WP d mX12_findsPatience 92 L S h Q else if x = 2 then WP d mX12_findsPatience 99 L S h Q else if x = 3 then WP d mX12_findsPatience 136 L S h Q else WP d mX12_findsPatience 171 L S h Q) := by
  rw [w_tsw (M := mX12_findsPatience) dX12_findsPatience_64 (by decide) (by decide) (by decide)]
  by_cases h0 : x = 1
  · subst h0; rfl
  rw [if_neg h0]
  by_cases h1 : x = 2
  · subst h1; rfl
  rw [if_neg h1]
  by_cases h2 : x = 3
  · subst h2; rfl
  rw [if_neg h2]
  rw [if_pos]
  · rfl
  have e0 := ti_ne (a := 1) (by decide) h0
  have e1 := ti_ne (a := 2) (by decide) h1
  have e2 := ti_ne (a := 3) (by decide) h2
  omega
set_option maxRecDepth 4000 in
theorem sw_X12_played_52 {x : Int32} : WP d mX12_played 52 L (.int x :: S) h Q = (if x = 5 then WP d mX12_played 92 L S h Q else if x = 6 then WP d mX12_played 122 L S h Q else if x = 7 then WP d mX12_played 146 L S h Q else if x = 8 then WP d mX12_played 171 L S h Q else if x = 9 then WP d mX12_played 195 L S h Q else if x = 10 then WP d mX12_played 222 L S h Q else WP d mX12_played 237 L S h Q) := by
  rw [w_tsw (M := mX12_played) dX12_played_52 (by decide) (by decide) (by decide)]
  by_cases h0 : x = 5
  · subst h0; rfl
  rw [if_neg h0]
  by_cases h1 : x = 6
  · subst h1; rfl
  rw [if_neg h1]
  by_cases h2 : x = 7
  · subst h2; rfl
  rw [if_neg h2]
  by_cases h3 : x = 8
  · subst h3; rfl
  rw [if_neg h3]
  by_cases h4 : x = 9
  · subst h4; rfl
  rw [if_neg h4]
  by_cases h5 : x = 10
  · subst h5; rfl
  rw [if_neg h5]
  rw [if_pos]
  · rfl
  have e0 := ti_ne (a := 5) (by decide) h0
  have e1 := ti_ne (a := 6) (by decide) h1
  have e2 := ti_ne (a := 7) (by decide) h2
  have e3 := ti_ne (a := 8) (by decide) h3
  have e4 := ti_ne (a := 9) (by decide) h4
  have e5 := ti_ne (a := 10) (by decide) h5
  omega
set_option maxRecDepth 4000 in
theorem sw_X12_of_12 {x : Int32} : WP d mX12_of 12 L (.int x :: S) h Q = (if x = 4 then WP d mX12_of 56 L S h Q else if x = 5 then WP d mX12_of 66 L S h Q else if x = 6 then WP d mX12_of 76 L S h Q else if x = 7 then WP d mX12_of 86 L S h Q else if x = 8 then WP d mX12_of 96 L S h Q else if x = 9 then WP d mX12_of 106 L S h Q else if x = 10 then WP d mX12_of 113 L S h Q else WP d mX12_of 120 L S h Q) := by
  rw [w_tsw (M := mX12_of) dX12_of_12 (by decide) (by decide) (by decide)]
  by_cases h0 : x = 4
  · subst h0; rfl
  rw [if_neg h0]
  by_cases h1 : x = 5
  · subst h1; rfl
  rw [if_neg h1]
  by_cases h2 : x = 6
  · subst h2; rfl
  rw [if_neg h2]
  by_cases h3 : x = 7
  · subst h3; rfl
  rw [if_neg h3]
  by_cases h4 : x = 8
  · subst h4; rfl
  rw [if_neg h4]
  by_cases h5 : x = 9
  · subst h5; rfl
  rw [if_neg h5]
  by_cases h6 : x = 10
  · subst h6; rfl
  rw [if_neg h6]
  rw [if_pos]
  · rfl
  have e0 := ti_ne (a := 4) (by decide) h0
  have e1 := ti_ne (a := 5) (by decide) h1
  have e2 := ti_ne (a := 6) (by decide) h2
  have e3 := ti_ne (a := 7) (by decide) h3
  have e4 := ti_ne (a := 8) (by decide) h4
  have e5 := ti_ne (a := 9) (by decide) h5
  have e6 := ti_ne (a := 10) (by decide) h6
  omega
set_option maxRecDepth 4000 in
theorem sw_X12_about_1 {x : Int32} : WP d mX12_about 1 L (.int x :: S) h Q = (if x = 0 then WP d mX12_about 56 L S h Q else if x = 1 then WP d mX12_about 63 L S h Q else if x = 2 then WP d mX12_about 71 L S h Q else if x = 3 then WP d mX12_about 79 L S h Q else if x = 4 then WP d mX12_about 87 L S h Q else if x = 5 then WP d mX12_about 94 L S h Q else if x = 6 then WP d mX12_about 101 L S h Q else if x = 7 then WP d mX12_about 108 L S h Q else if x = 8 then WP d mX12_about 115 L S h Q else if x = 9 then WP d mX12_about 122 L S h Q else WP d mX12_about 127 L S h Q) := by
  rw [w_tsw (M := mX12_about) dX12_about_1 (by decide) (by decide) (by decide)]
  by_cases h0 : x = 0
  · subst h0; rfl
  rw [if_neg h0]
  by_cases h1 : x = 1
  · subst h1; rfl
  rw [if_neg h1]
  by_cases h2 : x = 2
  · subst h2; rfl
  rw [if_neg h2]
  by_cases h3 : x = 3
  · subst h3; rfl
  rw [if_neg h3]
  by_cases h4 : x = 4
  · subst h4; rfl
  rw [if_neg h4]
  by_cases h5 : x = 5
  · subst h5; rfl
  rw [if_neg h5]
  by_cases h6 : x = 6
  · subst h6; rfl
  rw [if_neg h6]
  by_cases h7 : x = 7
  · subst h7; rfl
  rw [if_neg h7]
  by_cases h8 : x = 8
  · subst h8; rfl
  rw [if_neg h8]
  by_cases h9 : x = 9
  · subst h9; rfl
  rw [if_neg h9]
  rw [if_pos]
  · rfl
  have e0 := ti_ne (a := 0) (by decide) h0
  have e1 := ti_ne (a := 1) (by decide) h1
  have e2 := ti_ne (a := 2) (by decide) h2
  have e3 := ti_ne (a := 3) (by decide) h3
  have e4 := ti_ne (a := 4) (by decide) h4
  have e5 := ti_ne (a := 5) (by decide) h5
  have e6 := ti_ne (a := 6) (by decide) h6
  have e7 := ti_ne (a := 7) (by decide) h7
  have e8 := ti_ne (a := 8) (by decide) h8
  have e9 := ti_ne (a := 9) (by decide) h9
  omega
set_option maxRecDepth 4000 in
theorem sw_L_law_33 {x : Int32} : WP d mL_law 33 L (.int x :: S) h Q = (if x = 0 then WP d mL_law 220 L S h Q else if x = 1 then WP d mL_law 273 L S h Q else if x = 2 then WP d mL_law 296 L S h Q else if x = 3 then WP d mL_law 339 L S h Q else if x = 4 then WP d mL_law 362 L S h Q else if x = 5 then WP d mL_law 395 L S h Q else if x = 6 then WP d mL_law 418 L S h Q else if x = 7 then WP d mL_law 441 L S h Q else if x = 8 then WP d mL_law 464 L S h Q else if x = 9 then WP d mL_law 527 L S h Q else if x = 10 then WP d mL_law 550 L S h Q else if x = 11 then WP d mL_law 563 L S h Q else if x = 12 then WP d mL_law 586 L S h Q else if x = 13 then WP d mL_law 609 L S h Q else if x = 14 then WP d mL_law 632 L S h Q else if x = 15 then WP d mL_law 645 L S h Q else if x = 16 then WP d mL_law 678 L S h Q else if x = 17 then WP d mL_law 737 L S h Q else if x = 18 then WP d mL_law 770 L S h Q else if x = 19 then WP d mL_law 803 L S h Q else if x = 20 then WP d mL_law 816 L S h Q else if x = 21 then WP d mL_law 907 L S h Q else if x = 22 then WP d mL_law 950 L S h Q else if x = 23 then WP d mL_law 1009 L S h Q else if x = 24 then WP d mL_law 1068 L S h Q else if x = 25 then WP d mL_law 1127 L S h Q else if x = 26 then WP d mL_law 1150 L S h Q else if x = 27 then WP d mL_law 1193 L S h Q else if x = 28 then WP d mL_law 1216 L S h Q else if x = 29 then WP d mL_law 1249 L S h Q else if x = 30 then WP d mL_law 1324 L S h Q else if x = 31 then WP d mL_law 1387 L S h Q else if x = 32 then WP d mL_law 1466 L S h Q else if x = 33 then WP d mL_law 1499 L S h Q else if x = 34 then WP d mL_law 1578 L S h Q else if x = 35 then WP d mL_law 1621 L S h Q else if x = 36 then WP d mL_law 1644 L S h Q else if x = 37 then WP d mL_law 1697 L S h Q else if x = 38 then WP d mL_law 1736 L S h Q else if x = 39 then WP d mL_law 1779 L S h Q else if x = 40 then WP d mL_law 1802 L S h Q else if x = 41 then WP d mL_law 1815 L S h Q else if x = 42 then WP d mL_law 1828 L S h Q else WP d mL_law 1851 L S h Q) := by
  rw [w_tsw (M := mL_law) dL_law_33 (by decide) (by decide) (by decide)]
  by_cases h0 : x = 0
  · subst h0; rfl
  rw [if_neg h0]
  by_cases h1 : x = 1
  · subst h1; rfl
  rw [if_neg h1]
  by_cases h2 : x = 2
  · subst h2; rfl
  rw [if_neg h2]
  by_cases h3 : x = 3
  · subst h3; rfl
  rw [if_neg h3]
  by_cases h4 : x = 4
  · subst h4; rfl
  rw [if_neg h4]
  by_cases h5 : x = 5
  · subst h5; rfl
  rw [if_neg h5]
  by_cases h6 : x = 6
  · subst h6; rfl
  rw [if_neg h6]
  by_cases h7 : x = 7
  · subst h7; rfl
  rw [if_neg h7]
  by_cases h8 : x = 8
  · subst h8; rfl
  rw [if_neg h8]
  by_cases h9 : x = 9
  · subst h9; rfl
  rw [if_neg h9]
  by_cases h10 : x = 10
  · subst h10; rfl
  rw [if_neg h10]
  by_cases h11 : x = 11
  · subst h11; rfl
  rw [if_neg h11]
  by_cases h12 : x = 12
  · subst h12; rfl
  rw [if_neg h12]
  by_cases h13 : x = 13
  · subst h13; rfl
  rw [if_neg h13]
  by_cases h14 : x = 14
  · subst h14; rfl
  rw [if_neg h14]
  by_cases h15 : x = 15
  · subst h15; rfl
  rw [if_neg h15]
  by_cases h16 : x = 16
  · subst h16; rfl
  rw [if_neg h16]
  by_cases h17 : x = 17
  · subst h17; rfl
  rw [if_neg h17]
  by_cases h18 : x = 18
  · subst h18; rfl
  rw [if_neg h18]
  by_cases h19 : x = 19
  · subst h19; rfl
  rw [if_neg h19]
  by_cases h20 : x = 20
  · subst h20; rfl
  rw [if_neg h20]
  by_cases h21 : x = 21
  · subst h21; rfl
  rw [if_neg h21]
  by_cases h22 : x = 22
  · subst h22; rfl
  rw [if_neg h22]
  by_cases h23 : x = 23
  · subst h23; rfl
  rw [if_neg h23]
  by_cases h24 : x = 24
  · subst h24; rfl
  rw [if_neg h24]
  by_cases h25 : x = 25
  · subst h25; rfl
  rw [if_neg h25]
  by_cases h26 : x = 26
  · subst h26; rfl
  rw [if_neg h26]
  by_cases h27 : x = 27
  · subst h27; rfl
  rw [if_neg h27]
  by_cases h28 : x = 28
  · subst h28; rfl
  rw [if_neg h28]
  by_cases h29 : x = 29
  · subst h29; rfl
  rw [if_neg h29]
  by_cases h30 : x = 30
  · subst h30; rfl
  rw [if_neg h30]
  by_cases h31 : x = 31
  · subst h31; rfl
  rw [if_neg h31]
  by_cases h32 : x = 32
  · subst h32; rfl
  rw [if_neg h32]
  by_cases h33 : x = 33
  · subst h33; rfl
  rw [if_neg h33]
  by_cases h34 : x = 34
  · subst h34; rfl
  rw [if_neg h34]
  by_cases h35 : x = 35
  · subst h35; rfl
  rw [if_neg h35]
  by_cases h36 : x = 36
  · subst h36; rfl
  rw [if_neg h36]
  by_cases h37 : x = 37
  · subst h37; rfl
  rw [if_neg h37]
  by_cases h38 : x = 38
  · subst h38; rfl
  rw [if_neg h38]
  by_cases h39 : x = 39
  · subst h39; rfl
  rw [if_neg h39]
  by_cases h40 : x = 40
  · subst h40; rfl
  rw [if_neg h40]
  by_cases h41 : x = 41
  · subst h41; rfl
  rw [if_neg h41]
  by_cases h42 : x = 42
  · subst h42; rfl
  rw [if_neg h42]
  rw [if_pos]
  · rfl
  have e0 := ti_ne (a := 0) (by decide) h0
  have e1 := ti_ne (a := 1) (by decide) h1
  have e2 := ti_ne (a := 2) (by decide) h2
  have e3 := ti_ne (a := 3) (by decide) h3
  have e4 := ti_ne (a := 4) (by decide) h4
  have e5 := ti_ne (a := 5) (by decide) h5
  have e6 := ti_ne (a := 6) (by decide) h6
  have e7 := ti_ne (a := 7) (by decide) h7
  have e8 := ti_ne (a := 8) (by decide) h8
  have e9 := ti_ne (a := 9) (by decide) h9
  have e10 := ti_ne (a := 10) (by decide) h10
  have e11 := ti_ne (a := 11) (by decide) h11
  have e12 := ti_ne (a := 12) (by decide) h12
  have e13 := ti_ne (a := 13) (by decide) h13
  have e14 := ti_ne (a := 14) (by decide) h14
  have e15 := ti_ne (a := 15) (by decide) h15
  have e16 := ti_ne (a := 16) (by decide) h16
  have e17 := ti_ne (a := 17) (by decide) h17
  have e18 := ti_ne (a := 18) (by decide) h18
  have e19 := ti_ne (a := 19) (by decide) h19
  have e20 := ti_ne (a := 20) (by decide) h20
  have e21 := ti_ne (a := 21) (by decide) h21
  have e22 := ti_ne (a := 22) (by decide) h22
  have e23 := ti_ne (a := 23) (by decide) h23
  have e24 := ti_ne (a := 24) (by decide) h24
  have e25 := ti_ne (a := 25) (by decide) h25
  have e26 := ti_ne (a := 26) (by decide) h26
  have e27 := ti_ne (a := 27) (by decide) h27
  have e28 := ti_ne (a := 28) (by decide) h28
  have e29 := ti_ne (a := 29) (by decide) h29
  have e30 := ti_ne (a := 30) (by decide) h30
  have e31 := ti_ne (a := 31) (by decide) h31
  have e32 := ti_ne (a := 32) (by decide) h32
  have e33 := ti_ne (a := 33) (by decide) h33
  have e34 := ti_ne (a := 34) (by decide) h34
  have e35 := ti_ne (a := 35) (by decide) h35
  have e36 := ti_ne (a := 36) (by decide) h36
  have e37 := ti_ne (a := 37) (by decide) h37
  have e38 := ti_ne (a := 38) (by decide) h38
  have e39 := ti_ne (a := 39) (by decide) h39
  have e40 := ti_ne (a := 40) (by decide) h40
  have e41 := ti_ne (a := 41) (by decide) h41
  have e42 := ti_ne (a := 42) (by decide) h42
  omega
end SW
