/-! the code words, a method each -/
theorem am_in2 {c j : Nat} {w : Cond} (h : (am_tb0 c)[j]? = some w) (g : goodWord w = true) : w ∈ am_W := List.mem_filter.mpr ⟨am_tb0_in (List.mem_of_getElem? h), g⟩
set_option maxRecDepth 20000 in
theorem cw_X11_init : Cond.code (m_y mX11_init) (m_c mX11_init) (m_l mX11_init) (m_r mX11_init) ∈ am_W := am_in2 (c := 1) (j := 25) rfl rfl
set_option maxRecDepth 20000 in
theorem cw_X11_about : Cond.code (m_y mX11_about) (m_c mX11_about) (m_l mX11_about) (m_r mX11_about) ∈ am_W := am_in2 (c := 5) (j := 116) rfl rfl
set_option maxRecDepth 20000 in
theorem cw_X11_agree : Cond.code (m_y mX11_agree) (m_c mX11_agree) (m_l mX11_agree) (m_r mX11_agree) ∈ am_W := am_in2 (c := 5) (j := 7) rfl rfl
set_option maxRecDepth 20000 in
theorem cw_X11_apart : Cond.code (m_y mX11_apart) (m_c mX11_apart) (m_l mX11_apart) (m_r mX11_apart) ∈ am_W := am_in2 (c := 6) (j := 84) rfl rfl
set_option maxRecDepth 20000 in
theorem cw_X11_apartDraws : Cond.code (m_y mX11_apartDraws) (m_c mX11_apartDraws) (m_l mX11_apartDraws) (m_r mX11_apartDraws) ∈ am_W := am_in2 (c := 6) (j := 96) rfl rfl
set_option maxRecDepth 20000 in
theorem cw_X11_areDelays : Cond.code (m_y mX11_areDelays) (m_c mX11_areDelays) (m_l mX11_areDelays) (m_r mX11_areDelays) ∈ am_W := am_in2 (c := 5) (j := 212) rfl rfl
set_option maxRecDepth 20000 in
theorem cw_X11_arePairNumbers : Cond.code (m_y mX11_arePairNumbers) (m_c mX11_arePairNumbers) (m_l mX11_arePairNumbers) (m_r mX11_arePairNumbers) ∈ am_W := am_in2 (c := 5) (j := 209) rfl rfl
set_option maxRecDepth 20000 in
theorem cw_X11_areTwoEnds : Cond.code (m_y mX11_areTwoEnds) (m_c mX11_areTwoEnds) (m_l mX11_areTwoEnds) (m_r mX11_areTwoEnds) ∈ am_W := am_in2 (c := 3) (j := 10) rfl rfl
set_option maxRecDepth 20000 in
theorem cw_X11_back : Cond.code (m_y mX11_back) (m_c mX11_back) (m_l mX11_back) (m_r mX11_back) ∈ am_W := am_in2 (c := 5) (j := 51) rfl rfl
set_option maxRecDepth 20000 in
theorem cw_X11_bestRule : Cond.code (m_y mX11_bestRule) (m_c mX11_bestRule) (m_l mX11_bestRule) (m_r mX11_bestRule) ∈ am_W := am_in2 (c := 5) (j := 190) rfl rfl
set_option maxRecDepth 20000 in
theorem cw_X11_by : Cond.code (m_y mX11_by) (m_c mX11_by) (m_l mX11_by) (m_r mX11_by) ∈ am_W := am_in2 (c := 4) (j := 216) rfl rfl
set_option maxRecDepth 20000 in
theorem cw_X11_cold : Cond.code (m_y mX11_cold) (m_c mX11_cold) (m_l mX11_cold) (m_r mX11_cold) ∈ am_W := am_in2 (c := 5) (j := 139) rfl rfl
set_option maxRecDepth 20000 in
theorem cw_X11_comes : Cond.code (m_y mX11_comes) (m_c mX11_comes) (m_l mX11_comes) (m_r mX11_comes) ∈ am_W := am_in2 (c := 5) (j := 206) rfl rfl
set_option maxRecDepth 20000 in
theorem cw_X11_delay : Cond.code (m_y mX11_delay) (m_c mX11_delay) (m_l mX11_delay) (m_r mX11_delay) ∈ am_W := am_in2 (c := 3) (j := 6) rfl rfl
set_option maxRecDepth 20000 in
theorem cw_X11_drawn : Cond.code (m_y mX11_drawn) (m_c mX11_drawn) (m_l mX11_drawn) (m_r mX11_drawn) ∈ am_W := am_in2 (c := 6) (j := 93) rfl rfl
set_option maxRecDepth 20000 in
theorem cw_X11_end : Cond.code (m_y mX11_end) (m_c mX11_end) (m_l mX11_end) (m_r mX11_end) ∈ am_W := am_in2 (c := 3) (j := 202) rfl rfl
set_option maxRecDepth 20000 in
theorem cw_X11_fault : Cond.code (m_y mX11_fault) (m_c mX11_fault) (m_l mX11_fault) (m_r mX11_fault) ∈ am_W := am_in2 (c := 5) (j := 55) rfl rfl
set_option maxRecDepth 20000 in
theorem cw_X11_feed : Cond.code (m_y mX11_feed) (m_c mX11_feed) (m_l mX11_feed) (m_r mX11_feed) ∈ am_W := am_in2 (c := 3) (j := 194) rfl rfl
set_option maxRecDepth 20000 in
theorem cw_X11_first : Cond.code (m_y mX11_first) (m_c mX11_first) (m_l mX11_first) (m_r mX11_first) ∈ am_W := am_in2 (c := 5) (j := 131) rfl rfl
set_option maxRecDepth 20000 in
theorem cw_X11_forPence : Cond.code (m_y mX11_forPence) (m_c mX11_forPence) (m_l mX11_forPence) (m_r mX11_forPence) ∈ am_W := am_in2 (c := 5) (j := 202) rfl rfl
set_option maxRecDepth 20000 in
theorem cw_X11_go : Cond.code (m_y mX11_go) (m_c mX11_go) (m_l mX11_go) (m_r mX11_go) ∈ am_W := am_in2 (c := 3) (j := 98) rfl rfl
set_option maxRecDepth 20000 in
theorem cw_X11_haste : Cond.code (m_y mX11_haste) (m_c mX11_haste) (m_l mX11_haste) (m_r mX11_haste) ∈ am_W := am_in2 (c := 5) (j := 158) rfl rfl
set_option maxRecDepth 20000 in
theorem cw_X11_heard : Cond.code (m_y mX11_heard) (m_c mX11_heard) (m_l mX11_heard) (m_r mX11_heard) ∈ am_W := am_in2 (c := 5) (j := 19) rfl rfl
set_option maxRecDepth 20000 in
theorem cw_X11_hush : Cond.code (m_y mX11_hush) (m_c mX11_hush) (m_l mX11_hush) (m_r mX11_hush) ∈ am_W := am_in2 (c := 3) (j := 65) rfl rfl
set_option maxRecDepth 20000 in
theorem cw_X11_image : Cond.code (m_y mX11_image) (m_c mX11_image) (m_l mX11_image) (m_r mX11_image) ∈ am_W := am_in2 (c := 5) (j := 27) rfl rfl
set_option maxRecDepth 20000 in
theorem cw_X11_isEnd : Cond.code (m_y mX11_isEnd) (m_c mX11_isEnd) (m_l mX11_isEnd) (m_r mX11_isEnd) ∈ am_W := am_in2 (c := 3) (j := 14) rfl rfl
set_option maxRecDepth 20000 in
theorem cw_X11_isSpokenIn : Cond.code (m_y mX11_isSpokenIn) (m_c mX11_isSpokenIn) (m_l mX11_isSpokenIn) (m_r mX11_isSpokenIn) ∈ am_W := am_in2 (c := 6) (j := 151) rfl rfl
set_option maxRecDepth 20000 in
theorem cw_X11_isTurn : Cond.code (m_y mX11_isTurn) (m_c mX11_isTurn) (m_l mX11_isTurn) (m_r mX11_isTurn) ∈ am_W := am_in2 (c := 5) (j := 79) rfl rfl
set_option maxRecDepth 20000 in
theorem cw_X11_lawsNow : Cond.code (m_y mX11_lawsNow) (m_c mX11_lawsNow) (m_l mX11_lawsNow) (m_r mX11_lawsNow) ∈ am_W := am_in2 (c := 3) (j := 102) rfl rfl
set_option maxRecDepth 20000 in
theorem cw_X11_least : Cond.code (m_y mX11_least) (m_c mX11_least) (m_l mX11_least) (m_r mX11_least) ∈ am_W := am_in2 (c := 6) (j := 108) rfl rfl
set_option maxRecDepth 20000 in
theorem cw_X11_lowestTerm : Cond.code (m_y mX11_lowestTerm) (m_c mX11_lowestTerm) (m_l mX11_lowestTerm) (m_r mX11_lowestTerm) ∈ am_W := am_in2 (c := 5) (j := 127) rfl rfl
set_option maxRecDepth 20000 in
theorem cw_X11_misjoined : Cond.code (m_y mX11_misjoined) (m_c mX11_misjoined) (m_l mX11_misjoined) (m_r mX11_misjoined) ∈ am_W := am_in2 (c := 5) (j := 103) rfl rfl
set_option maxRecDepth 20000 in
theorem cw_X11_of : Cond.code (m_y mX11_of) (m_c mX11_of) (m_l mX11_of) (m_r mX11_of) ∈ am_W := am_in2 (c := 5) (j := 59) rfl rfl
set_option maxRecDepth 20000 in
theorem cw_X11_pairNow : Cond.code (m_y mX11_pairNow) (m_c mX11_pairNow) (m_l mX11_pairNow) (m_r mX11_pairNow) ∈ am_W := am_in2 (c := 5) (j := 216) rfl rfl
set_option maxRecDepth 20000 in
theorem cw_X11_pence : Cond.code (m_y mX11_pence) (m_c mX11_pence) (m_l mX11_pence) (m_r mX11_pence) ∈ am_W := am_in2 (c := 5) (j := 194) rfl rfl
set_option maxRecDepth 20000 in
theorem cw_X11_played : Cond.code (m_y mX11_played) (m_c mX11_played) (m_l mX11_played) (m_r mX11_played) ∈ am_W := am_in2 (c := 4) (j := 220) rfl rfl
set_option maxRecDepth 20000 in
theorem cw_X11_price : Cond.code (m_y mX11_price) (m_c mX11_price) (m_l mX11_price) (m_r mX11_price) ∈ am_W := am_in2 (c := 5) (j := 3) rfl rfl
set_option maxRecDepth 20000 in
theorem cw_X11_refuse : Cond.code (m_y mX11_refuse) (m_c mX11_refuse) (m_l mX11_refuse) (m_r mX11_refuse) ∈ am_W := am_in2 (c := 2) (j := 230) rfl rfl
set_option maxRecDepth 20000 in
theorem cw_X11_refuseFlatly : Cond.code (m_y mX11_refuseFlatly) (m_c mX11_refuseFlatly) (m_l mX11_refuseFlatly) (m_r mX11_refuseFlatly) ∈ am_W := am_in2 (c := 3) (j := 2) rfl rfl
set_option maxRecDepth 20000 in
theorem cw_X11_refused : Cond.code (m_y mX11_refused) (m_c mX11_refused) (m_l mX11_refused) (m_r mX11_refused) ∈ am_W := am_in2 (c := 5) (j := 112) rfl rfl
set_option maxRecDepth 20000 in
theorem cw_X11_rule : Cond.code (m_y mX11_rule) (m_c mX11_rule) (m_l mX11_rule) (m_r mX11_rule) ∈ am_W := am_in2 (c := 3) (j := 41) rfl rfl
set_option maxRecDepth 20000 in
theorem cw_X11_rules : Cond.code (m_y mX11_rules) (m_c mX11_rules) (m_l mX11_rules) (m_r mX11_rules) ∈ am_W := am_in2 (c := 5) (j := 174) rfl rfl
set_option maxRecDepth 20000 in
theorem cw_X11_said : Cond.code (m_y mX11_said) (m_c mX11_said) (m_l mX11_said) (m_r mX11_said) ∈ am_W := am_in2 (c := 5) (j := 87) rfl rfl
set_option maxRecDepth 20000 in
theorem cw_X11_seed : Cond.code (m_y mX11_seed) (m_c mX11_seed) (m_l mX11_seed) (m_r mX11_seed) ∈ am_W := am_in2 (c := 2) (j := 238) rfl rfl
set_option maxRecDepth 20000 in
theorem cw_X11_span : Cond.code (m_y mX11_span) (m_c mX11_span) (m_l mX11_span) (m_r mX11_span) ∈ am_W := am_in2 (c := 6) (j := 130) rfl rfl
set_option maxRecDepth 20000 in
theorem cw_X11_speak : Cond.code (m_y mX11_speak) (m_c mX11_speak) (m_l mX11_speak) (m_r mX11_speak) ∈ am_W := am_in2 (c := 3) (j := 45) rfl rfl
set_option maxRecDepth 20000 in
theorem cw_X11_tellEnd : Cond.code (m_y mX11_tellEnd) (m_c mX11_tellEnd) (m_l mX11_tellEnd) (m_r mX11_tellEnd) ∈ am_W := am_in2 (c := 2) (j := 223) rfl rfl
set_option maxRecDepth 20000 in
theorem cw_X11_text : Cond.code (m_y mX11_text) (m_c mX11_text) (m_l mX11_text) (m_r mX11_text) ∈ am_W := am_in2 (c := 3) (j := 206) rfl rfl
set_option maxRecDepth 20000 in
theorem cw_X11_through : Cond.code (m_y mX11_through) (m_c mX11_through) (m_l mX11_through) (m_r mX11_through) ∈ am_W := am_in2 (c := 5) (j := 71) rfl rfl
set_option maxRecDepth 20000 in
theorem cw_X11_total : Cond.code (m_y mX11_total) (m_c mX11_total) (m_l mX11_total) (m_r mX11_total) ∈ am_W := am_in2 (c := 5) (j := 186) rfl rfl
set_option maxRecDepth 20000 in
theorem cw_X11_tryRule : Cond.code (m_y mX11_tryRule) (m_c mX11_tryRule) (m_l mX11_tryRule) (m_r mX11_tryRule) ∈ am_W := am_in2 (c := 5) (j := 178) rfl rfl
set_option maxRecDepth 20000 in
theorem cw_X11_turn : Cond.code (m_y mX11_turn) (m_c mX11_turn) (m_l mX11_turn) (m_r mX11_turn) ∈ am_W := am_in2 (c := 5) (j := 75) rfl rfl
set_option maxRecDepth 20000 in
theorem cw_X11_undo : Cond.code (m_y mX11_undo) (m_c mX11_undo) (m_l mX11_undo) (m_r mX11_undo) ∈ am_W := am_in2 (c := 4) (j := 230) rfl rfl
set_option maxRecDepth 20000 in
theorem cw_X11_way : Cond.code (m_y mX11_way) (m_c mX11_way) (m_l mX11_way) (m_r mX11_way) ∈ am_W := am_in2 (c := 6) (j := 144) rfl rfl
set_option maxRecDepth 20000 in
theorem cw_X11_whoYields : Cond.code (m_y mX11_whoYields) (m_c mX11_whoYields) (m_l mX11_whoYields) (m_r mX11_whoYields) ∈ am_W := am_in2 (c := 6) (j := 148) rfl rfl
set_option maxRecDepth 20000 in
theorem cw_X11_whose : Cond.code (m_y mX11_whose) (m_c mX11_whose) (m_l mX11_whose) (m_r mX11_whose) ∈ am_W := am_in2 (c := 5) (j := 120) rfl rfl
set_option maxRecDepth 20000 in
theorem cw_X11_wide : Cond.code (m_y mX11_wide) (m_c mX11_wide) (m_l mX11_wide) (m_r mX11_wide) ∈ am_W := am_in2 (c := 6) (j := 100) rfl rfl
set_option maxRecDepth 20000 in
theorem cw_X11_within : Cond.code (m_y mX11_within) (m_c mX11_within) (m_l mX11_within) (m_r mX11_within) ∈ am_W := am_in2 (c := 2) (j := 226) rfl rfl
set_option maxRecDepth 20000 in
theorem cw_X11_worth : Cond.code (m_y mX11_worth) (m_c mX11_worth) (m_l mX11_worth) (m_r mX11_worth) ∈ am_W := am_in2 (c := 6) (j := 104) rfl rfl
set_option maxRecDepth 20000 in
theorem cw_X11_yes : Cond.code (m_y mX11_yes) (m_c mX11_yes) (m_l mX11_yes) (m_r mX11_yes) ∈ am_W := am_in2 (c := 3) (j := 77) rfl rfl
set_option maxRecDepth 20000 in
theorem cw_X0_init : Cond.code (m_y mX0_init) (m_c mX0_init) (m_l mX0_init) (m_r mX0_init) ∈ am_W := am_in2 (c := 1) (j := 224) rfl rfl
set_option maxRecDepth 20000 in
theorem cw_X0_add : Cond.code (m_y mX0_add) (m_c mX0_add) (m_l mX0_add) (m_r mX0_add) ∈ am_W := am_in2 (c := 5) (j := 15) rfl rfl
set_option maxRecDepth 20000 in
theorem cw_X0_areTold : Cond.code (m_y mX0_areTold) (m_c mX0_areTold) (m_l mX0_areTold) (m_r mX0_areTold) ∈ am_W := am_in2 (c := 5) (j := 11) rfl rfl
set_option maxRecDepth 20000 in
theorem cw_X0_copyFrom : Cond.code (m_y mX0_copyFrom) (m_c mX0_copyFrom) (m_l mX0_copyFrom) (m_r mX0_copyFrom) ∈ am_W := am_in2 (c := 5) (j := 43) rfl rfl
set_option maxRecDepth 20000 in
theorem cw_X0_hasAllItNeeds : Cond.code (m_y mX0_hasAllItNeeds) (m_c mX0_hasAllItNeeds) (m_l mX0_hasAllItNeeds) (m_r mX0_hasAllItNeeds) ∈ am_W := am_in2 (c := 6) (j := 116) rfl rfl
set_option maxRecDepth 20000 in
theorem cw_X0_leastSet : Cond.code (m_y mX0_leastSet) (m_c mX0_leastSet) (m_l mX0_leastSet) (m_r mX0_leastSet) ∈ am_W := am_in2 (c := 6) (j := 112) rfl rfl
set_option maxRecDepth 20000 in
theorem cw_X0_sumOf : Cond.code (m_y mX0_sumOf) (m_c mX0_sumOf) (m_l mX0_sumOf) (m_r mX0_sumOf) ∈ am_W := am_in2 (c := 6) (j := 120) rfl rfl
set_option maxRecDepth 20000 in
theorem cw_X1_init : Cond.code (m_y mX1_init) (m_c mX1_init) (m_l mX1_init) (m_r mX1_init) ∈ am_W := am_in2 (c := 2) (j := 4) rfl rfl
set_option maxRecDepth 20000 in
theorem cw_X1_add : Cond.code (m_y mX1_add) (m_c mX1_add) (m_l mX1_add) (m_r mX1_add) ∈ am_W := am_in2 (c := 5) (j := 23) rfl rfl
set_option maxRecDepth 20000 in
theorem cw_X1_copyFrom : Cond.code (m_y mX1_copyFrom) (m_c mX1_copyFrom) (m_l mX1_copyFrom) (m_r mX1_copyFrom) ∈ am_W := am_in2 (c := 5) (j := 47) rfl rfl
set_option maxRecDepth 20000 in
theorem cw_X1_leastWays : Cond.code (m_y mX1_leastWays) (m_c mX1_leastWays) (m_l mX1_leastWays) (m_r mX1_leastWays) ∈ am_W := am_in2 (c := 6) (j := 134) rfl rfl
set_option maxRecDepth 20000 in
theorem cw_X1_mostWays : Cond.code (m_y mX1_mostWays) (m_c mX1_mostWays) (m_l mX1_mostWays) (m_r mX1_mostWays) ∈ am_W := am_in2 (c := 6) (j := 139) rfl rfl
set_option maxRecDepth 20000 in
theorem cw_X2_init : Cond.code (m_y mX2_init) (m_c mX2_init) (m_l mX2_init) (m_r mX2_init) ∈ am_W := am_in2 (c := 1) (j := 191) rfl rfl
set_option maxRecDepth 20000 in
theorem cw_X2_addYes : Cond.code (m_y mX2_addYes) (m_c mX2_addYes) (m_l mX2_addYes) (m_r mX2_addYes) ∈ am_W := am_in2 (c := 3) (j := 81) rfl rfl
set_option maxRecDepth 20000 in
theorem cw_X2_beganAt : Cond.code (m_y mX2_beganAt) (m_c mX2_beganAt) (m_l mX2_beganAt) (m_r mX2_beganAt) ∈ am_W := am_in2 (c := 5) (j := 135) rfl rfl
set_option maxRecDepth 20000 in
theorem cw_X2_beganWithin : Cond.code (m_y mX2_beganWithin) (m_c mX2_beganWithin) (m_l mX2_beganWithin) (m_r mX2_beganWithin) ∈ am_W := am_in2 (c := 5) (j := 149) rfl rfl
set_option maxRecDepth 20000 in
theorem cw_X2_closeTurn : Cond.code (m_y mX2_closeTurn) (m_c mX2_closeTurn) (m_l mX2_closeTurn) (m_r mX2_closeTurn) ∈ am_W := am_in2 (c := 3) (j := 73) rfl rfl
set_option maxRecDepth 20000 in
theorem cw_X2_copyFrom : Cond.code (m_y mX2_copyFrom) (m_c mX2_copyFrom) (m_l mX2_copyFrom) (m_r mX2_copyFrom) ∈ am_W := am_in2 (c := 5) (j := 39) rfl rfl
set_option maxRecDepth 20000 in
theorem cw_X2_couldHear : Cond.code (m_y mX2_couldHear) (m_c mX2_couldHear) (m_l mX2_couldHear) (m_r mX2_couldHear) ∈ am_W := am_in2 (c := 5) (j := 166) rfl rfl
set_option maxRecDepth 20000 in
theorem cw_X2_endedLast : Cond.code (m_y mX2_endedLast) (m_c mX2_endedLast) (m_l mX2_endedLast) (m_r mX2_endedLast) ∈ am_W := am_in2 (c := 5) (j := 124) rfl rfl
set_option maxRecDepth 20000 in
theorem cw_X2_gapBehind : Cond.code (m_y mX2_gapBehind) (m_c mX2_gapBehind) (m_l mX2_gapBehind) (m_r mX2_gapBehind) ∈ am_W := am_in2 (c := 5) (j := 144) rfl rfl
set_option maxRecDepth 20000 in
theorem cw_X2_hasRow : Cond.code (m_y mX2_hasRow) (m_c mX2_hasRow) (m_l mX2_hasRow) (m_r mX2_hasRow) ∈ am_W := am_in2 (c := 3) (j := 61) rfl rfl
set_option maxRecDepth 20000 in
theorem cw_X2_heardOutLast : Cond.code (m_y mX2_heardOutLast) (m_c mX2_heardOutLast) (m_l mX2_heardOutLast) (m_r mX2_heardOutLast) ∈ am_W := am_in2 (c := 3) (j := 85) rfl rfl
set_option maxRecDepth 20000 in
theorem cw_X2_isFull : Cond.code (m_y mX2_isFull) (m_c mX2_isFull) (m_l mX2_isFull) (m_r mX2_isFull) ∈ am_W := am_in2 (c := 3) (j := 49) rfl rfl
set_option maxRecDepth 20000 in
theorem cw_X2_isMisjoined : Cond.code (m_y mX2_isMisjoined) (m_c mX2_isMisjoined) (m_l mX2_isMisjoined) (m_r mX2_isMisjoined) ∈ am_W := am_in2 (c := 5) (j := 107) rfl rfl
set_option maxRecDepth 20000 in
theorem cw_X2_isSpokenBy : Cond.code (m_y mX2_isSpokenBy) (m_c mX2_isSpokenBy) (m_l mX2_isSpokenBy) (m_r mX2_isSpokenBy) ∈ am_W := am_in2 (c := 3) (j := 89) rfl rfl
set_option maxRecDepth 20000 in
theorem cw_X2_openTurn : Cond.code (m_y mX2_openTurn) (m_c mX2_openTurn) (m_l mX2_openTurn) (m_r mX2_openTurn) ∈ am_W := am_in2 (c := 3) (j := 57) rfl rfl
set_option maxRecDepth 20000 in
theorem cw_X2_reopen : Cond.code (m_y mX2_reopen) (m_c mX2_reopen) (m_l mX2_reopen) (m_r mX2_reopen) ∈ am_W := am_in2 (c := 4) (j := 238) rfl rfl
set_option maxRecDepth 20000 in
theorem cw_X2_takenFor : Cond.code (m_y mX2_takenFor) (m_c mX2_takenFor) (m_l mX2_takenFor) (m_r mX2_takenFor) ∈ am_W := am_in2 (c := 5) (j := 91) rfl rfl
set_option maxRecDepth 20000 in
theorem cw_X2_turnBrokenInto : Cond.code (m_y mX2_turnBrokenInto) (m_c mX2_turnBrokenInto) (m_l mX2_turnBrokenInto) (m_r mX2_turnBrokenInto) ∈ am_W := am_in2 (c := 5) (j := 162) rfl rfl
set_option maxRecDepth 20000 in
theorem cw_X2_turnNumber : Cond.code (m_y mX2_turnNumber) (m_c mX2_turnNumber) (m_l mX2_turnNumber) (m_r mX2_turnNumber) ∈ am_W := am_in2 (c := 5) (j := 83) rfl rfl
set_option maxRecDepth 20000 in
theorem cw_X2_yesHeardIn : Cond.code (m_y mX2_yesHeardIn) (m_c mX2_yesHeardIn) (m_l mX2_yesHeardIn) (m_r mX2_yesHeardIn) ∈ am_W := am_in2 (c := 5) (j := 95) rfl rfl
set_option maxRecDepth 20000 in
theorem cw_X2_yesNumber : Cond.code (m_y mX2_yesNumber) (m_c mX2_yesNumber) (m_l mX2_yesNumber) (m_r mX2_yesNumber) ∈ am_W := am_in2 (c := 5) (j := 99) rfl rfl
set_option maxRecDepth 20000 in
theorem cw_X3_init : Cond.code (m_y mX3_init) (m_c mX3_init) (m_l mX3_init) (m_r mX3_init) ∈ am_W := am_in2 (c := 1) (j := 79) rfl rfl
set_option maxRecDepth 20000 in
theorem cw_X3_copyFrom : Cond.code (m_y mX3_copyFrom) (m_c mX3_copyFrom) (m_l mX3_copyFrom) (m_r mX3_copyFrom) ∈ am_W := am_in2 (c := 3) (j := 34) rfl rfl
set_option maxRecDepth 20000 in
theorem cw_X3_number : Cond.code (m_y mX3_number) (m_c mX3_number) (m_l mX3_number) (m_r mX3_number) ∈ am_W := am_in2 (c := 5) (j := 67) rfl rfl
set_option maxRecDepth 20000 in
theorem cw_X3_spokeAgo : Cond.code (m_y mX3_spokeAgo) (m_c mX3_spokeAgo) (m_l mX3_spokeAgo) (m_r mX3_spokeAgo) ∈ am_W := am_in2 (c := 3) (j := 114) rfl rfl
set_option maxRecDepth 20000 in
theorem cw_X3_wasCalled : Cond.code (m_y mX3_wasCalled) (m_c mX3_wasCalled) (m_l mX3_wasCalled) (m_r mX3_wasCalled) ∈ am_W := am_in2 (c := 3) (j := 181) rfl rfl
set_option maxRecDepth 20000 in
theorem cw_X4_init : Cond.code (m_y mX4_init) (m_c mX4_init) (m_l mX4_init) (m_r mX4_init) ∈ am_W := am_in2 (c := 2) (j := 134) rfl rfl
set_option maxRecDepth 20000 in
theorem cw_X4_asked : Cond.code (m_y mX4_asked) (m_c mX4_asked) (m_l mX4_asked) (m_r mX4_asked) ∈ am_W := am_in2 (c := 3) (j := 160) rfl rfl
set_option maxRecDepth 20000 in
theorem cw_X4_coldOf : Cond.code (m_y mX4_coldOf) (m_c mX4_coldOf) (m_l mX4_coldOf) (m_r mX4_coldOf) ∈ am_W := am_in2 (c := 5) (j := 154) rfl rfl
set_option maxRecDepth 20000 in
theorem cw_X4_has : Cond.code (m_y mX4_has) (m_c mX4_has) (m_l mX4_has) (m_r mX4_has) ∈ am_W := am_in2 (c := 3) (j := 126) rfl rfl
set_option maxRecDepth 20000 in
theorem cw_X4_hasteOf : Cond.code (m_y mX4_hasteOf) (m_c mX4_hasteOf) (m_l mX4_hasteOf) (m_r mX4_hasteOf) ∈ am_W := am_in2 (c := 5) (j := 170) rfl rfl
set_option maxRecDepth 20000 in
theorem cw_X4_nameAll : Cond.code (m_y mX4_nameAll) (m_c mX4_nameAll) (m_l mX4_nameAll) (m_r mX4_nameAll) ∈ am_W := am_in2 (c := 3) (j := 130) rfl rfl
set_option maxRecDepth 20000 in
theorem cw_X4_ofEnd : Cond.code (m_y mX4_ofEnd) (m_c mX4_ofEnd) (m_l mX4_ofEnd) (m_r mX4_ofEnd) ∈ am_W := am_in2 (c := 3) (j := 122) rfl rfl
set_option maxRecDepth 20000 in
theorem cw_X4_pop : Cond.code (m_y mX4_pop) (m_c mX4_pop) (m_l mX4_pop) (m_r mX4_pop) ∈ am_W := am_in2 (c := 3) (j := 146) rfl rfl
set_option maxRecDepth 20000 in
theorem cw_X4_push : Cond.code (m_y mX4_push) (m_c mX4_push) (m_l mX4_push) (m_r mX4_push) ∈ am_W := am_in2 (c := 3) (j := 139) rfl rfl
set_option maxRecDepth 20000 in
theorem cw_X4_reckon : Cond.code (m_y mX4_reckon) (m_c mX4_reckon) (m_l mX4_reckon) (m_r mX4_reckon) ∈ am_W := am_in2 (c := 3) (j := 149) rfl rfl
set_option maxRecDepth 20000 in
theorem cw_X4_valueOf : Cond.code (m_y mX4_valueOf) (m_c mX4_valueOf) (m_l mX4_valueOf) (m_r mX4_valueOf) ∈ am_W := am_in2 (c := 3) (j := 134) rfl rfl
set_option maxRecDepth 20000 in
theorem cw_X5_init : Cond.code (m_y mX5_init) (m_c mX5_init) (m_l mX5_init) (m_r mX5_init) ∈ am_W := am_in2 (c := 1) (j := 72) rfl rfl
set_option maxRecDepth 20000 in
theorem cw_X5_closeTurn : Cond.code (m_y mX5_closeTurn) (m_c mX5_closeTurn) (m_l mX5_closeTurn) (m_r mX5_closeTurn) ∈ am_W := am_in2 (c := 3) (j := 69) rfl rfl
set_option maxRecDepth 20000 in
theorem cw_X5_copyFrom : Cond.code (m_y mX5_copyFrom) (m_c mX5_copyFrom) (m_l mX5_copyFrom) (m_r mX5_copyFrom) ∈ am_W := am_in2 (c := 3) (j := 30) rfl rfl
set_option maxRecDepth 20000 in
theorem cw_X5_countHeard : Cond.code (m_y mX5_countHeard) (m_c mX5_countHeard) (m_l mX5_countHeard) (m_r mX5_countHeard) ∈ am_W := am_in2 (c := 3) (j := 190) rfl rfl
set_option maxRecDepth 20000 in
theorem cw_X5_delayOf : Cond.code (m_y mX5_delayOf) (m_c mX5_delayOf) (m_l mX5_delayOf) (m_r mX5_delayOf) ∈ am_W := am_in2 (c := 3) (j := 18) rfl rfl
set_option maxRecDepth 20000 in
theorem cw_X5_draw : Cond.code (m_y mX5_draw) (m_c mX5_draw) (m_l mX5_draw) (m_r mX5_draw) ∈ am_W := am_in2 (c := 3) (j := 177) rfl rfl
set_option maxRecDepth 20000 in
theorem cw_X5_findPatience : Cond.code (m_y mX5_findPatience) (m_c mX5_findPatience) (m_l mX5_findPatience) (m_r mX5_findPatience) ∈ am_W := am_in2 (c := 3) (j := 173) rfl rfl
set_option maxRecDepth 20000 in
theorem cw_X5_forgetCounts : Cond.code (m_y mX5_forgetCounts) (m_c mX5_forgetCounts) (m_l mX5_forgetCounts) (m_r mX5_forgetCounts) ∈ am_W := am_in2 (c := 5) (j := 183) rfl rfl
set_option maxRecDepth 20000 in
theorem cw_X5_isNextTo : Cond.code (m_y mX5_isNextTo) (m_c mX5_isNextTo) (m_l mX5_isNextTo) (m_r mX5_isNextTo) ∈ am_W := am_in2 (c := 3) (j := 184) rfl rfl
set_option maxRecDepth 20000 in
theorem cw_X5_keepSilence : Cond.code (m_y mX5_keepSilence) (m_c mX5_keepSilence) (m_l mX5_keepSilence) (m_r mX5_keepSilence) ∈ am_W := am_in2 (c := 3) (j := 169) rfl rfl
set_option maxRecDepth 20000 in
theorem cw_X5_lag : Cond.code (m_y mX5_lag) (m_c mX5_lag) (m_l mX5_lag) (m_r mX5_lag) ∈ am_W := am_in2 (c := 3) (j := 93) rfl rfl
set_option maxRecDepth 20000 in
theorem cw_X5_listen : Cond.code (m_y mX5_listen) (m_c mX5_listen) (m_l mX5_listen) (m_r mX5_listen) ∈ am_W := am_in2 (c := 3) (j := 110) rfl rfl
set_option maxRecDepth 20000 in
theorem cw_X5_openTurn : Cond.code (m_y mX5_openTurn) (m_c mX5_openTurn) (m_l mX5_openTurn) (m_r mX5_openTurn) ∈ am_W := am_in2 (c := 3) (j := 53) rfl rfl
set_option maxRecDepth 20000 in
theorem cw_X5_pass : Cond.code (m_y mX5_pass) (m_c mX5_pass) (m_l mX5_pass) (m_r mX5_pass) ∈ am_W := am_in2 (c := 3) (j := 106) rfl rfl
set_option maxRecDepth 20000 in
theorem cw_X5_speakOn : Cond.code (m_y mX5_speakOn) (m_c mX5_speakOn) (m_l mX5_speakOn) (m_r mX5_speakOn) ∈ am_W := am_in2 (c := 3) (j := 118) rfl rfl
set_option maxRecDepth 20000 in
theorem cw_X6_init : Cond.code (m_y mX6_init) (m_c mX6_init) (m_l mX6_init) (m_r mX6_init) ∈ am_W := am_in2 (c := 5) (j := 221) rfl rfl
set_option maxRecDepth 20000 in
theorem cw_X6_begin : Cond.code (m_y mX6_begin) (m_c mX6_begin) (m_l mX6_begin) (m_r mX6_begin) ∈ am_W := am_in2 (c := 6) (j := 38) rfl rfl
set_option maxRecDepth 20000 in
theorem cw_X6_beginsIn : Cond.code (m_y mX6_beginsIn) (m_c mX6_beginsIn) (m_l mX6_beginsIn) (m_r mX6_beginsIn) ∈ am_W := am_in2 (c := 6) (j := 67) rfl rfl
set_option maxRecDepth 20000 in
theorem cw_X6_change : Cond.code (m_y mX6_change) (m_c mX6_change) (m_l mX6_change) (m_r mX6_change) ∈ am_W := am_in2 (c := 6) (j := 80) rfl rfl
set_option maxRecDepth 20000 in
theorem cw_X6_comesAt : Cond.code (m_y mX6_comesAt) (m_c mX6_comesAt) (m_l mX6_comesAt) (m_r mX6_comesAt) ∈ am_W := am_in2 (c := 6) (j := 34) rfl rfl
set_option maxRecDepth 20000 in
theorem cw_X6_findApart : Cond.code (m_y mX6_findApart) (m_c mX6_findApart) (m_l mX6_findApart) (m_r mX6_findApart) ∈ am_W := am_in2 (c := 6) (j := 88) rfl rfl
set_option maxRecDepth 20000 in
theorem cw_X6_isJudgedTo : Cond.code (m_y mX6_isJudgedTo) (m_c mX6_isJudgedTo) (m_l mX6_isJudgedTo) (m_r mX6_isJudgedTo) ∈ am_W := am_in2 (c := 6) (j := 46) rfl rfl
set_option maxRecDepth 20000 in
theorem cw_X6_isSettled : Cond.code (m_y mX6_isSettled) (m_c mX6_isSettled) (m_l mX6_isSettled) (m_r mX6_isSettled) ∈ am_W := am_in2 (c := 6) (j := 42) rfl rfl
set_option maxRecDepth 20000 in
theorem cw_X6_isSilent : Cond.code (m_y mX6_isSilent) (m_c mX6_isSilent) (m_l mX6_isSilent) (m_r mX6_isSilent) ∈ am_W := am_in2 (c := 6) (j := 76) rfl rfl
set_option maxRecDepth 20000 in
theorem cw_X6_isSpeaking : Cond.code (m_y mX6_isSpeaking) (m_c mX6_isSpeaking) (m_l mX6_isSpeaking) (m_r mX6_isSpeaking) ∈ am_W := am_in2 (c := 6) (j := 54) rfl rfl
set_option maxRecDepth 20000 in
theorem cw_X6_judge : Cond.code (m_y mX6_judge) (m_c mX6_judge) (m_l mX6_judge) (m_r mX6_judge) ∈ am_W := am_in2 (c := 6) (j := 72) rfl rfl
set_option maxRecDepth 20000 in
theorem cw_X6_nextChange : Cond.code (m_y mX6_nextChange) (m_c mX6_nextChange) (m_l mX6_nextChange) (m_r mX6_nextChange) ∈ am_W := am_in2 (c := 6) (j := 50) rfl rfl
set_option maxRecDepth 20000 in
theorem cw_X6_passBy : Cond.code (m_y mX6_passBy) (m_c mX6_passBy) (m_l mX6_passBy) (m_r mX6_passBy) ∈ am_W := am_in2 (c := 6) (j := 58) rfl rfl
set_option maxRecDepth 20000 in
theorem cw_X6_set : Cond.code (m_y mX6_set) (m_c mX6_set) (m_l mX6_set) (m_r mX6_set) ∈ am_W := am_in2 (c := 6) (j := 30) rfl rfl
set_option maxRecDepth 20000 in
theorem cw_X6_yieldsIn : Cond.code (m_y mX6_yieldsIn) (m_c mX6_yieldsIn) (m_l mX6_yieldsIn) (m_r mX6_yieldsIn) ∈ am_W := am_in2 (c := 6) (j := 62) rfl rfl
set_option maxRecDepth 20000 in
theorem cw_X7_init : Cond.code (m_y mX7_init) (m_c mX7_init) (m_l mX7_init) (m_r mX7_init) ∈ am_W := am_in2 (c := 2) (j := 82) rfl rfl
set_option maxRecDepth 20000 in
theorem cw_X7_addToken : Cond.code (m_y mX7_addToken) (m_c mX7_addToken) (m_l mX7_addToken) (m_r mX7_addToken) ∈ am_W := am_in2 (c := 3) (j := 230) rfl rfl
set_option maxRecDepth 20000 in
theorem cw_X7_come : Cond.code (m_y mX7_come) (m_c mX7_come) (m_l mX7_come) (m_r mX7_come) ∈ am_W := am_in2 (c := 4) (j := 118) rfl rfl
set_option maxRecDepth 20000 in
theorem cw_X7_comparison : Cond.code (m_y mX7_comparison) (m_c mX7_comparison) (m_l mX7_comparison) (m_r mX7_comparison) ∈ am_W := am_in2 (c := 4) (j := 187) rfl rfl
set_option maxRecDepth 20000 in
theorem cw_X7_expectNumber : Cond.code (m_y mX7_expectNumber) (m_c mX7_expectNumber) (m_l mX7_expectNumber) (m_r mX7_expectNumber) ∈ am_W := am_in2 (c := 4) (j := 146) rfl rfl
set_option maxRecDepth 20000 in
theorem cw_X7_expectSign : Cond.code (m_y mX7_expectSign) (m_c mX7_expectSign) (m_l mX7_expectSign) (m_r mX7_expectSign) ∈ am_W := am_in2 (c := 4) (j := 163) rfl rfl
set_option maxRecDepth 20000 in
theorem cw_X7_expectWord : Cond.code (m_y mX7_expectWord) (m_c mX7_expectWord) (m_l mX7_expectWord) (m_r mX7_expectWord) ∈ am_W := am_in2 (c := 4) (j := 191) rfl rfl
set_option maxRecDepth 20000 in
theorem cw_X7_fail : Cond.code (m_y mX7_fail) (m_c mX7_fail) (m_l mX7_fail) (m_r mX7_fail) ∈ am_W := am_in2 (c := 4) (j := 126) rfl rfl
set_option maxRecDepth 20000 in
theorem cw_X7_isDigit : Cond.code (m_y mX7_isDigit) (m_c mX7_isDigit) (m_l mX7_isDigit) (m_r mX7_isDigit) ∈ am_W := am_in2 (c := 3) (j := 221) rfl rfl
set_option maxRecDepth 20000 in
theorem cw_X7_isLetter : Cond.code (m_y mX7_isLetter) (m_c mX7_isLetter) (m_l mX7_isLetter) (m_r mX7_isLetter) ∈ am_W := am_in2 (c := 3) (j := 233) rfl rfl
set_option maxRecDepth 20000 in
theorem cw_X7_isOfClause : Cond.code (m_y mX7_isOfClause) (m_c mX7_isOfClause) (m_l mX7_isOfClause) (m_r mX7_isOfClause) ∈ am_W := am_in2 (c := 4) (j := 203) rfl rfl
set_option maxRecDepth 20000 in
theorem cw_X7_isSign : Cond.code (m_y mX7_isSign) (m_c mX7_isSign) (m_l mX7_isSign) (m_r mX7_isSign) ∈ am_W := am_in2 (c := 4) (j := 155) rfl rfl
set_option maxRecDepth 20000 in
theorem cw_X7_isSpeltAt : Cond.code (m_y mX7_isSpeltAt) (m_c mX7_isSpeltAt) (m_l mX7_isSpeltAt) (m_r mX7_isSpeltAt) ∈ am_W := am_in2 (c := 4) (j := 54) rfl rfl
set_option maxRecDepth 20000 in
theorem cw_X7_isWord : Cond.code (m_y mX7_isWord) (m_c mX7_isWord) (m_l mX7_isWord) (m_r mX7_isWord) ∈ am_W := am_in2 (c := 4) (j := 167) rfl rfl
set_option maxRecDepth 20000 in
theorem cw_X7_mayOpen : Cond.code (m_y mX7_mayOpen) (m_c mX7_mayOpen) (m_l mX7_mayOpen) (m_r mX7_mayOpen) ∈ am_W := am_in2 (c := 4) (j := 159) rfl rfl
set_option maxRecDepth 20000 in
theorem cw_X7_numberOfWord : Cond.code (m_y mX7_numberOfWord) (m_c mX7_numberOfWord) (m_l mX7_numberOfWord) (m_r mX7_numberOfWord) ∈ am_W := am_in2 (c := 4) (j := 1) rfl rfl
set_option maxRecDepth 20000 in
theorem cw_X7_readAct : Cond.code (m_y mX7_readAct) (m_c mX7_readAct) (m_l mX7_readAct) (m_r mX7_readAct) ∈ am_W := am_in2 (c := 4) (j := 207) rfl rfl
set_option maxRecDepth 20000 in
theorem cw_X7_readAsk : Cond.code (m_y mX7_readAsk) (m_c mX7_readAsk) (m_l mX7_readAsk) (m_r mX7_readAsk) ∈ am_W := am_in2 (c := 4) (j := 183) rfl rfl
set_option maxRecDepth 20000 in
theorem cw_X7_readBoth : Cond.code (m_y mX7_readBoth) (m_c mX7_readBoth) (m_l mX7_readBoth) (m_r mX7_readBoth) ∈ am_W := am_in2 (c := 4) (j := 179) rfl rfl
set_option maxRecDepth 20000 in
theorem cw_X7_readChoice : Cond.code (m_y mX7_readChoice) (m_c mX7_readChoice) (m_l mX7_readChoice) (m_r mX7_readChoice) ∈ am_W := am_in2 (c := 4) (j := 171) rfl rfl
set_option maxRecDepth 20000 in
theorem cw_X7_readClause : Cond.code (m_y mX7_readClause) (m_c mX7_readClause) (m_l mX7_readClause) (m_r mX7_readClause) ∈ am_W := am_in2 (c := 4) (j := 122) rfl rfl
set_option maxRecDepth 20000 in
theorem cw_X7_readEither : Cond.code (m_y mX7_readEither) (m_c mX7_readEither) (m_l mX7_readEither) (m_r mX7_readEither) ∈ am_W := am_in2 (c := 4) (j := 175) rfl rfl
set_option maxRecDepth 20000 in
theorem cw_X7_readInto : Cond.code (m_y mX7_readInto) (m_c mX7_readInto) (m_l mX7_readInto) (m_r mX7_readInto) ∈ am_W := am_in2 (c := 3) (j := 210) rfl rfl
set_option maxRecDepth 20000 in
theorem cw_X7_readName : Cond.code (m_y mX7_readName) (m_c mX7_readName) (m_l mX7_readName) (m_r mX7_readName) ∈ am_W := am_in2 (c := 4) (j := 199) rfl rfl
set_option maxRecDepth 20000 in
theorem cw_X7_readOne : Cond.code (m_y mX7_readOne) (m_c mX7_readOne) (m_l mX7_readOne) (m_r mX7_readOne) ∈ am_W := am_in2 (c := 4) (j := 142) rfl rfl
set_option maxRecDepth 20000 in
theorem cw_X7_readProduct : Cond.code (m_y mX7_readProduct) (m_c mX7_readProduct) (m_l mX7_readProduct) (m_r mX7_readProduct) ∈ am_W := am_in2 (c := 4) (j := 138) rfl rfl
set_option maxRecDepth 20000 in
theorem cw_X7_readSum : Cond.code (m_y mX7_readSum) (m_c mX7_readSum) (m_l mX7_readSum) (m_r mX7_readSum) ∈ am_W := am_in2 (c := 4) (j := 134) rfl rfl
set_option maxRecDepth 20000 in
theorem cw_X7_splitNumber : Cond.code (m_y mX7_splitNumber) (m_c mX7_splitNumber) (m_l mX7_splitNumber) (m_r mX7_splitNumber) ∈ am_W := am_in2 (c := 3) (j := 225) rfl rfl
set_option maxRecDepth 20000 in
theorem cw_X7_splitSign : Cond.code (m_y mX7_splitSign) (m_c mX7_splitSign) (m_l mX7_splitSign) (m_r mX7_splitSign) ∈ am_W := am_in2 (c := 4) (j := 58) rfl rfl
set_option maxRecDepth 20000 in
theorem cw_X7_splitTape : Cond.code (m_y mX7_splitTape) (m_c mX7_splitTape) (m_l mX7_splitTape) (m_r mX7_splitTape) ∈ am_W := am_in2 (c := 3) (j := 218) rfl rfl
set_option maxRecDepth 20000 in
theorem cw_X7_splitWord : Cond.code (m_y mX7_splitWord) (m_c mX7_splitWord) (m_l mX7_splitWord) (m_r mX7_splitWord) ∈ am_W := am_in2 (c := 3) (j := 237) rfl rfl
set_option maxRecDepth 20000 in
theorem cw_X7_take : Cond.code (m_y mX7_take) (m_c mX7_take) (m_l mX7_take) (m_r mX7_take) ∈ am_W := am_in2 (c := 3) (j := 198) rfl rfl
set_option maxRecDepth 20000 in
theorem cw_X8_init : Cond.code (m_y mX8_init) (m_c mX8_init) (m_l mX8_init) (m_r mX8_init) ∈ am_W := am_in2 (c := 1) (j := 33) rfl rfl
set_option maxRecDepth 20000 in
theorem cw_X8_copyFrom : Cond.code (m_y mX8_copyFrom) (m_c mX8_copyFrom) (m_l mX8_copyFrom) (m_r mX8_copyFrom) ∈ am_W := am_in2 (c := 5) (j := 31) rfl rfl
set_option maxRecDepth 20000 in
theorem cw_X8_keepStep : Cond.code (m_y mX8_keepStep) (m_c mX8_keepStep) (m_l mX8_keepStep) (m_r mX8_keepStep) ∈ am_W := am_in2 (c := 3) (j := 22) rfl rfl
set_option maxRecDepth 20000 in
theorem cw_X8_penceFor : Cond.code (m_y mX8_penceFor) (m_c mX8_penceFor) (m_l mX8_penceFor) (m_r mX8_penceFor) ∈ am_W := am_in2 (c := 5) (j := 198) rfl rfl
set_option maxRecDepth 20000 in
theorem cw_X8_stepRow : Cond.code (m_y mX8_stepRow) (m_c mX8_stepRow) (m_l mX8_stepRow) (m_r mX8_stepRow) ∈ am_W := am_in2 (c := 3) (j := 26) rfl rfl
set_option maxRecDepth 20000 in
theorem cw_X8_takeStepBack : Cond.code (m_y mX8_takeStepBack) (m_c mX8_takeStepBack) (m_l mX8_takeStepBack) (m_r mX8_takeStepBack) ∈ am_W := am_in2 (c := 4) (j := 234) rfl rfl
set_option maxRecDepth 20000 in
theorem cw_X9_init : Cond.code (m_y mX9_init) (m_c mX9_init) (m_l mX9_init) (m_r mX9_init) ∈ am_W := am_in2 (c := 2) (j := 153) rfl rfl
set_option maxRecDepth 20000 in
theorem cw_X9_addClause : Cond.code (m_y mX9_addClause) (m_c mX9_addClause) (m_l mX9_addClause) (m_r mX9_addClause) ∈ am_W := am_in2 (c := 4) (j := 130) rfl rfl
set_option maxRecDepth 20000 in
theorem cw_X9_emit : Cond.code (m_y mX9_emit) (m_c mX9_emit) (m_l mX9_emit) (m_r mX9_emit) ∈ am_W := am_in2 (c := 4) (j := 151) rfl rfl
set_option maxRecDepth 20000 in
theorem cw_X9_empty : Cond.code (m_y mX9_empty) (m_c mX9_empty) (m_l mX9_empty) (m_r mX9_empty) ∈ am_W := am_in2 (c := 3) (j := 214) rfl rfl
set_option maxRecDepth 20000 in
theorem cw_X9_landHere : Cond.code (m_y mX9_landHere) (m_c mX9_landHere) (m_l mX9_landHere) (m_r mX9_landHere) ∈ am_W := am_in2 (c := 4) (j := 195) rfl rfl
set_option maxRecDepth 20000 in
theorem cw_X9_setNumbers : Cond.code (m_y mX9_setNumbers) (m_c mX9_setNumbers) (m_l mX9_setNumbers) (m_r mX9_setNumbers) ∈ am_W := am_in2 (c := 4) (j := 211) rfl rfl
set_option maxRecDepth 20000 in
theorem cw_X10_init : Cond.code (m_y mX10_init) (m_c mX10_init) (m_l mX10_init) (m_r mX10_init) ∈ am_W := am_in2 (c := 1) (j := 39) rfl rfl
set_option maxRecDepth 20000 in
theorem cw_X10_add : Cond.code (m_y mX10_add) (m_c mX10_add) (m_l mX10_add) (m_r mX10_add) ∈ am_W := am_in2 (c := 2) (j := 234) rfl rfl
set_option maxRecDepth 20000 in
theorem cw_X10_copyFrom : Cond.code (m_y mX10_copyFrom) (m_c mX10_copyFrom) (m_l mX10_copyFrom) (m_r mX10_copyFrom) ∈ am_W := am_in2 (c := 5) (j := 35) rfl rfl
set_option maxRecDepth 20000 in
theorem cw_X10_number : Cond.code (m_y mX10_number) (m_c mX10_number) (m_l mX10_number) (m_r mX10_number) ∈ am_W := am_in2 (c := 5) (j := 63) rfl rfl
set_option maxRecDepth 20000 in
theorem cw_X12_init : Cond.code (m_y mX12_init) (m_c mX12_init) (m_l mX12_init) (m_r mX12_init) ∈ am_W := am_in2 (c := 6) (j := 156) rfl rfl
set_option maxRecDepth 20000 in
theorem cw_X12_about : Cond.code (m_y mX12_about) (m_c mX12_about) (m_l mX12_about) (m_r mX12_about) ∈ am_W := am_in2 (c := 9) (j := 205) rfl rfl
set_option maxRecDepth 20000 in
theorem cw_X12_agree : Cond.code (m_y mX12_agree) (m_c mX12_agree) (m_l mX12_agree) (m_r mX12_agree) ∈ am_W := am_in2 (c := 9) (j := 173) rfl rfl
set_option maxRecDepth 20000 in
theorem cw_X12_apart : Cond.code (m_y mX12_apart) (m_c mX12_apart) (m_l mX12_apart) (m_r mX12_apart) ∈ am_W := am_in2 (c := 9) (j := 154) rfl rfl
set_option maxRecDepth 20000 in
theorem cw_X12_askIsOver : Cond.code (m_y mX12_askIsOver) (m_c mX12_askIsOver) (m_l mX12_askIsOver) (m_r mX12_askIsOver) ∈ am_W := am_in2 (c := 8) (j := 93) rfl rfl
set_option maxRecDepth 20000 in
theorem cw_X12_asks : Cond.code (m_y mX12_asks) (m_c mX12_asks) (m_l mX12_asks) (m_r mX12_asks) ∈ am_W := am_in2 (c := 8) (j := 24) rfl rfl
set_option maxRecDepth 20000 in
theorem cw_X12_asksOn : Cond.code (m_y mX12_asksOn) (m_c mX12_asksOn) (m_l mX12_asksOn) (m_r mX12_asksOn) ∈ am_W := am_in2 (c := 8) (j := 101) rfl rfl
set_option maxRecDepth 20000 in
theorem cw_X12_back : Cond.code (m_y mX12_back) (m_c mX12_back) (m_l mX12_back) (m_r mX12_back) ∈ am_W := am_in2 (c := 9) (j := 201) rfl rfl
set_option maxRecDepth 20000 in
theorem cw_X12_beganAt : Cond.code (m_y mX12_beganAt) (m_c mX12_beganAt) (m_l mX12_beganAt) (m_r mX12_beganAt) ∈ am_W := am_in2 (c := 9) (j := 79) rfl rfl
set_option maxRecDepth 20000 in
theorem cw_X12_begins : Cond.code (m_y mX12_begins) (m_c mX12_begins) (m_l mX12_begins) (m_r mX12_begins) ∈ am_W := am_in2 (c := 8) (j := 44) rfl rfl
set_option maxRecDepth 20000 in
theorem cw_X12_beginsTurn : Cond.code (m_y mX12_beginsTurn) (m_c mX12_beginsTurn) (m_l mX12_beginsTurn) (m_r mX12_beginsTurn) ∈ am_W := am_in2 (c := 8) (j := 223) rfl rfl
set_option maxRecDepth 20000 in
theorem cw_X12_bestRule : Cond.code (m_y mX12_bestRule) (m_c mX12_bestRule) (m_l mX12_bestRule) (m_r mX12_bestRule) ∈ am_W := am_in2 (c := 9) (j := 115) rfl rfl
set_option maxRecDepth 20000 in
theorem cw_X12_bound : Cond.code (m_y mX12_bound) (m_c mX12_bound) (m_l mX12_bound) (m_r mX12_bound) ∈ am_W := am_in2 (c := 8) (j := 194) rfl rfl
set_option maxRecDepth 20000 in
theorem cw_X12_by : Cond.code (m_y mX12_by) (m_c mX12_by) (m_l mX12_by) (m_r mX12_by) ∈ am_W := am_in2 (c := 8) (j := 129) rfl rfl
set_option maxRecDepth 20000 in
theorem cw_X12_cameThrough : Cond.code (m_y mX12_cameThrough) (m_c mX12_cameThrough) (m_l mX12_cameThrough) (m_r mX12_cameThrough) ∈ am_W := am_in2 (c := 9) (j := 150) rfl rfl
set_option maxRecDepth 20000 in
theorem cw_X12_clause : Cond.code (m_y mX12_clause) (m_c mX12_clause) (m_l mX12_clause) (m_r mX12_clause) ∈ am_W := am_in2 (c := 8) (j := 105) rfl rfl
set_option maxRecDepth 20000 in
theorem cw_X12_clauseIsOver : Cond.code (m_y mX12_clauseIsOver) (m_c mX12_clauseIsOver) (m_l mX12_clauseIsOver) (m_r mX12_clauseIsOver) ∈ am_W := am_in2 (c := 8) (j := 97) rfl rfl
set_option maxRecDepth 20000 in
theorem cw_X12_cold : Cond.code (m_y mX12_cold) (m_c mX12_cold) (m_l mX12_cold) (m_r mX12_cold) ∈ am_W := am_in2 (c := 9) (j := 83) rfl rfl
set_option maxRecDepth 20000 in
theorem cw_X12_comeApart : Cond.code (m_y mX12_comeApart) (m_c mX12_comeApart) (m_l mX12_comeApart) (m_r mX12_comeApart) ∈ am_W := am_in2 (c := 9) (j := 161) rfl rfl
set_option maxRecDepth 20000 in
theorem cw_X12_comes : Cond.code (m_y mX12_comes) (m_c mX12_comes) (m_l mX12_comes) (m_r mX12_comes) ∈ am_W := am_in2 (c := 9) (j := 135) rfl rfl
set_option maxRecDepth 20000 in
theorem cw_X12_comesOf : Cond.code (m_y mX12_comesOf) (m_c mX12_comesOf) (m_l mX12_comesOf) (m_r mX12_comesOf) ∈ am_W := am_in2 (c := 9) (j := 142) rfl rfl
set_option maxRecDepth 20000 in
theorem cw_X12_common : Cond.code (m_y mX12_common) (m_c mX12_common) (m_l mX12_common) (m_r mX12_common) ∈ am_W := am_in2 (c := 9) (j := 71) rfl rfl
set_option maxRecDepth 20000 in
theorem cw_X12_copies : Cond.code (m_y mX12_copies) (m_c mX12_copies) (m_l mX12_copies) (m_r mX12_copies) ∈ am_W := am_in2 (c := 6) (j := 161) rfl rfl
set_option maxRecDepth 20000 in
theorem cw_X12_countOf : Cond.code (m_y mX12_countOf) (m_c mX12_countOf) (m_l mX12_countOf) (m_r mX12_countOf) ∈ am_W := am_in2 (c := 9) (j := 33) rfl rfl
set_option maxRecDepth 20000 in
theorem cw_X12_delay : Cond.code (m_y mX12_delay) (m_c mX12_delay) (m_l mX12_delay) (m_r mX12_delay) ∈ am_W := am_in2 (c := 7) (j := 184) rfl rfl
set_option maxRecDepth 20000 in
theorem cw_X12_delayOf : Cond.code (m_y mX12_delayOf) (m_c mX12_delayOf) (m_l mX12_delayOf) (m_r mX12_delayOf) ∈ am_W := am_in2 (c := 7) (j := 192) rfl rfl
set_option maxRecDepth 20000 in
theorem cw_X12_doing : Cond.code (m_y mX12_doing) (m_c mX12_doing) (m_l mX12_doing) (m_r mX12_doing) ∈ am_W := am_in2 (c := 8) (j := 113) rfl rfl
set_option maxRecDepth 20000 in
theorem cw_X12_draw : Cond.code (m_y mX12_draw) (m_c mX12_draw) (m_l mX12_draw) (m_r mX12_draw) ∈ am_W := am_in2 (c := 8) (j := 219) rfl rfl
set_option maxRecDepth 20000 in
theorem cw_X12_drawn : Cond.code (m_y mX12_drawn) (m_c mX12_drawn) (m_l mX12_drawn) (m_r mX12_drawn) ∈ am_W := am_in2 (c := 9) (j := 158) rfl rfl
set_option maxRecDepth 20000 in
theorem cw_X12_emits : Cond.code (m_y mX12_emits) (m_c mX12_emits) (m_l mX12_emits) (m_r mX12_emits) ∈ am_W := am_in2 (c := 8) (j := 52) rfl rfl
set_option maxRecDepth 20000 in
theorem cw_X12_end : Cond.code (m_y mX12_end) (m_c mX12_end) (m_l mX12_end) (m_r mX12_end) ∈ am_W := am_in2 (c := 7) (j := 212) rfl rfl
set_option maxRecDepth 20000 in
theorem cw_X12_endedBy : Cond.code (m_y mX12_endedBy) (m_c mX12_endedBy) (m_l mX12_endedBy) (m_r mX12_endedBy) ∈ am_W := am_in2 (c := 9) (j := 65) rfl rfl
set_option maxRecDepth 20000 in
theorem cw_X12_endsTurn : Cond.code (m_y mX12_endsTurn) (m_c mX12_endsTurn) (m_l mX12_endsTurn) (m_r mX12_endsTurn) ∈ am_W := am_in2 (c := 8) (j := 203) rfl rfl
set_option maxRecDepth 20000 in
theorem cw_X12_errs : Cond.code (m_y mX12_errs) (m_c mX12_errs) (m_l mX12_errs) (m_r mX12_errs) ∈ am_W := am_in2 (c := 8) (j := 36) rfl rfl
set_option maxRecDepth 20000 in
theorem cw_X12_fault : Cond.code (m_y mX12_fault) (m_c mX12_fault) (m_l mX12_fault) (m_r mX12_fault) ∈ am_W := am_in2 (c := 8) (j := 125) rfl rfl
set_option maxRecDepth 20000 in
theorem cw_X12_feed : Cond.code (m_y mX12_feed) (m_c mX12_feed) (m_l mX12_feed) (m_r mX12_feed) ∈ am_W := am_in2 (c := 7) (j := 204) rfl rfl
set_option maxRecDepth 20000 in
theorem cw_X12_findsPatience : Cond.code (m_y mX12_findsPatience) (m_c mX12_findsPatience) (m_l mX12_findsPatience) (m_r mX12_findsPatience) ∈ am_W := am_in2 (c := 8) (j := 215) rfl rfl
set_option maxRecDepth 20000 in
theorem cw_X12_first : Cond.code (m_y mX12_first) (m_c mX12_first) (m_l mX12_first) (m_r mX12_first) ∈ am_W := am_in2 (c := 9) (j := 75) rfl rfl
set_option maxRecDepth 20000 in
theorem cw_X12_forPence : Cond.code (m_y mX12_forPence) (m_c mX12_forPence) (m_l mX12_forPence) (m_r mX12_forPence) ∈ am_W := am_in2 (c := 9) (j := 131) rfl rfl
set_option maxRecDepth 20000 in
theorem cw_X12_go : Cond.code (m_y mX12_go) (m_c mX12_go) (m_l mX12_go) (m_r mX12_go) ∈ am_W := am_in2 (c := 8) (j := 133) rfl rfl
set_option maxRecDepth 20000 in
theorem cw_X12_goesOn : Cond.code (m_y mX12_goesOn) (m_c mX12_goesOn) (m_l mX12_goesOn) (m_r mX12_goesOn) ∈ am_W := am_in2 (c := 8) (j := 71) rfl rfl
set_option maxRecDepth 20000 in
theorem cw_X12_goesSilent : Cond.code (m_y mX12_goesSilent) (m_c mX12_goesSilent) (m_l mX12_goesSilent) (m_r mX12_goesSilent) ∈ am_W := am_in2 (c := 8) (j := 211) rfl rfl
set_option maxRecDepth 20000 in
theorem cw_X12_goesSpeaking : Cond.code (m_y mX12_goesSpeaking) (m_c mX12_goesSpeaking) (m_l mX12_goesSpeaking) (m_r mX12_goesSpeaking) ∈ am_W := am_in2 (c := 8) (j := 164) rfl rfl
set_option maxRecDepth 20000 in
theorem cw_X12_hasBegun : Cond.code (m_y mX12_hasBegun) (m_c mX12_hasBegun) (m_l mX12_hasBegun) (m_r mX12_hasBegun) ∈ am_W := am_in2 (c := 9) (j := 91) rfl rfl
set_option maxRecDepth 20000 in
theorem cw_X12_haste : Cond.code (m_y mX12_haste) (m_c mX12_haste) (m_l mX12_haste) (m_r mX12_haste) ∈ am_W := am_in2 (c := 9) (j := 99) rfl rfl
set_option maxRecDepth 20000 in
theorem cw_X12_heard : Cond.code (m_y mX12_heard) (m_c mX12_heard) (m_l mX12_heard) (m_r mX12_heard) ∈ am_W := am_in2 (c := 9) (j := 181) rfl rfl
set_option maxRecDepth 20000 in
theorem cw_X12_heardBegin : Cond.code (m_y mX12_heardBegin) (m_c mX12_heardBegin) (m_l mX12_heardBegin) (m_r mX12_heardBegin) ∈ am_W := am_in2 (c := 9) (j := 87) rfl rfl
set_option maxRecDepth 20000 in
theorem cw_X12_heardOut : Cond.code (m_y mX12_heardOut) (m_c mX12_heardOut) (m_l mX12_heardOut) (m_r mX12_heardOut) ∈ am_W := am_in2 (c := 9) (j := 15) rfl rfl
set_option maxRecDepth 20000 in
theorem cw_X12_heardThen : Cond.code (m_y mX12_heardThen) (m_c mX12_heardThen) (m_l mX12_heardThen) (m_r mX12_heardThen) ∈ am_W := am_in2 (c := 9) (j := 53) rfl rfl
set_option maxRecDepth 20000 in
theorem cw_X12_hearsAll : Cond.code (m_y mX12_hearsAll) (m_c mX12_hearsAll) (m_l mX12_hearsAll) (m_r mX12_hearsAll) ∈ am_W := am_in2 (c := 8) (j := 157) rfl rfl
set_option maxRecDepth 20000 in
theorem cw_X12_held : Cond.code (m_y mX12_held) (m_c mX12_held) (m_l mX12_held) (m_r mX12_held) ∈ am_W := am_in2 (c := 8) (j := 199) rfl rfl
set_option maxRecDepth 20000 in
theorem cw_X12_hush : Cond.code (m_y mX12_hush) (m_c mX12_hush) (m_l mX12_hush) (m_r mX12_hush) ∈ am_W := am_in2 (c := 9) (j := 3) rfl rfl
set_option maxRecDepth 20000 in
theorem cw_X12_image : Cond.code (m_y mX12_image) (m_c mX12_image) (m_l mX12_image) (m_r mX12_image) ∈ am_W := am_in2 (c := 9) (j := 197) rfl rfl
set_option maxRecDepth 20000 in
theorem cw_X12_in : Cond.code (m_y mX12_in) (m_c mX12_in) (m_l mX12_in) (m_r mX12_in) ∈ am_W := am_in2 (c := 7) (j := 164) rfl rfl
set_option maxRecDepth 20000 in
theorem cw_X12_inLowest : Cond.code (m_y mX12_inLowest) (m_c mX12_inLowest) (m_l mX12_inLowest) (m_r mX12_inLowest) ∈ am_W := am_in2 (c := 9) (j := 68) rfl rfl
set_option maxRecDepth 20000 in
theorem cw_X12_isAsking : Cond.code (m_y mX12_isAsking) (m_c mX12_isAsking) (m_l mX12_isAsking) (m_r mX12_isAsking) ∈ am_W := am_in2 (c := 8) (j := 89) rfl rfl
set_option maxRecDepth 20000 in
theorem cw_X12_isEnd : Cond.code (m_y mX12_isEnd) (m_c mX12_isEnd) (m_l mX12_isEnd) (m_r mX12_isEnd) ∈ am_W := am_in2 (c := 7) (j := 188) rfl rfl
set_option maxRecDepth 20000 in
theorem cw_X12_isLetter : Cond.code (m_y mX12_isLetter) (m_c mX12_isLetter) (m_l mX12_isLetter) (m_r mX12_isLetter) ∈ am_W := am_in2 (c := 7) (j := 223) rfl rfl
set_option maxRecDepth 20000 in
theorem cw_X12_isLine : Cond.code (m_y mX12_isLine) (m_c mX12_isLine) (m_l mX12_isLine) (m_r mX12_isLine) ∈ am_W := am_in2 (c := 9) (j := 138) rfl rfl
set_option maxRecDepth 20000 in
theorem cw_X12_isSign : Cond.code (m_y mX12_isSign) (m_c mX12_isSign) (m_l mX12_isSign) (m_r mX12_isSign) ∈ am_W := am_in2 (c := 8) (j := 67) rfl rfl
set_option maxRecDepth 20000 in
theorem cw_X12_isWord : Cond.code (m_y mX12_isWord) (m_c mX12_isWord) (m_l mX12_isWord) (m_r mX12_isWord) ∈ am_W := am_in2 (c := 8) (j := 28) rfl rfl
set_option maxRecDepth 20000 in
theorem cw_X12_keepsNow : Cond.code (m_y mX12_keepsNow) (m_c mX12_keepsNow) (m_l mX12_keepsNow) (m_r mX12_keepsNow) ∈ am_W := am_in2 (c := 8) (j := 235) rfl rfl
set_option maxRecDepth 20000 in
theorem cw_X12_keepsStep : Cond.code (m_y mX12_keepsStep) (m_c mX12_keepsStep) (m_l mX12_keepsStep) (m_r mX12_keepsStep) ∈ am_W := am_in2 (c := 7) (j := 196) rfl rfl
set_option maxRecDepth 20000 in
theorem cw_X12_lawOf : Cond.code (m_y mX12_lawOf) (m_c mX12_lawOf) (m_l mX12_lawOf) (m_r mX12_lawOf) ∈ am_W := am_in2 (c := 8) (j := 176) rfl rfl
set_option maxRecDepth 20000 in
theorem cw_X12_laysFresh : Cond.code (m_y mX12_laysFresh) (m_c mX12_laysFresh) (m_l mX12_laysFresh) (m_r mX12_laysFresh) ∈ am_W := am_in2 (c := 9) (j := 146) rfl rfl
set_option maxRecDepth 20000 in
theorem cw_X12_laysNow : Cond.code (m_y mX12_laysNow) (m_c mX12_laysNow) (m_l mX12_laysNow) (m_r mX12_laysNow) ∈ am_W := am_in2 (c := 8) (j := 137) rfl rfl
set_option maxRecDepth 20000 in
theorem cw_X12_laysRule : Cond.code (m_y mX12_laysRule) (m_c mX12_laysRule) (m_l mX12_laysRule) (m_r mX12_laysRule) ∈ am_W := am_in2 (c := 9) (j := 111) rfl rfl
set_option maxRecDepth 20000 in
theorem cw_X12_laysTurn : Cond.code (m_y mX12_laysTurn) (m_c mX12_laysTurn) (m_l mX12_laysTurn) (m_r mX12_laysTurn) ∈ am_W := am_in2 (c := 8) (j := 141) rfl rfl
set_option maxRecDepth 20000 in
theorem cw_X12_least : Cond.code (m_y mX12_least) (m_c mX12_least) (m_l mX12_least) (m_r mX12_least) ∈ am_W := am_in2 (c := 9) (j := 177) rfl rfl
set_option maxRecDepth 20000 in
theorem cw_X12_longOf : Cond.code (m_y mX12_longOf) (m_c mX12_longOf) (m_l mX12_longOf) (m_r mX12_longOf) ∈ am_W := am_in2 (c := 8) (j := 227) rfl rfl
set_option maxRecDepth 20000 in
theorem cw_X12_lowestOf : Cond.code (m_y mX12_lowestOf) (m_c mX12_lowestOf) (m_l mX12_lowestOf) (m_r mX12_lowestOf) ∈ am_W := am_in2 (c := 8) (j := 160) rfl rfl
set_option maxRecDepth 20000 in
theorem cw_X12_mayName : Cond.code (m_y mX12_mayName) (m_c mX12_mayName) (m_l mX12_mayName) (m_r mX12_mayName) ∈ am_W := am_in2 (c := 8) (j := 63) rfl rfl
set_option maxRecDepth 20000 in
theorem cw_X12_misjoined : Cond.code (m_y mX12_misjoined) (m_c mX12_misjoined) (m_l mX12_misjoined) (m_r mX12_misjoined) ∈ am_W := am_in2 (c := 9) (j := 57) rfl rfl
set_option maxRecDepth 20000 in
theorem cw_X12_nameNow : Cond.code (m_y mX12_nameNow) (m_c mX12_nameNow) (m_l mX12_nameNow) (m_r mX12_nameNow) ∈ am_W := am_in2 (c := 8) (j := 48) rfl rfl
set_option maxRecDepth 20000 in
theorem cw_X12_names : Cond.code (m_y mX12_names) (m_c mX12_names) (m_l mX12_names) (m_r mX12_names) ∈ am_W := am_in2 (c := 8) (j := 184) rfl rfl
set_option maxRecDepth 20000 in
theorem cw_X12_next : Cond.code (m_y mX12_next) (m_c mX12_next) (m_l mX12_next) (m_r mX12_next) ∈ am_W := am_in2 (c := 7) (j := 220) rfl rfl
set_option maxRecDepth 20000 in
theorem cw_X12_number : Cond.code (m_y mX12_number) (m_c mX12_number) (m_l mX12_number) (m_r mX12_number) ∈ am_W := am_in2 (c := 8) (j := 117) rfl rfl
set_option maxRecDepth 20000 in
theorem cw_X12_numberBehind : Cond.code (m_y mX12_numberBehind) (m_c mX12_numberBehind) (m_l mX12_numberBehind) (m_r mX12_numberBehind) ∈ am_W := am_in2 (c := 8) (j := 121) rfl rfl
set_option maxRecDepth 20000 in
theorem cw_X12_of : Cond.code (m_y mX12_of) (m_c mX12_of) (m_l mX12_of) (m_r mX12_of) ∈ am_W := am_in2 (c := 9) (j := 29) rfl rfl
set_option maxRecDepth 20000 in
theorem cw_X12_ofTurn : Cond.code (m_y mX12_ofTurn) (m_c mX12_ofTurn) (m_l mX12_ofTurn) (m_r mX12_ofTurn) ∈ am_W := am_in2 (c := 8) (j := 145) rfl rfl
set_option maxRecDepth 20000 in
theorem cw_X12_oneIsOver : Cond.code (m_y mX12_oneIsOver) (m_c mX12_oneIsOver) (m_l mX12_oneIsOver) (m_r mX12_oneIsOver) ∈ am_W := am_in2 (c := 8) (j := 56) rfl rfl
set_option maxRecDepth 20000 in
theorem cw_X12_opensFrame : Cond.code (m_y mX12_opensFrame) (m_c mX12_opensFrame) (m_l mX12_opensFrame) (m_r mX12_opensFrame) ∈ am_W := am_in2 (c := 8) (j := 40) rfl rfl
set_option maxRecDepth 20000 in
theorem cw_X12_opensSign : Cond.code (m_y mX12_opensSign) (m_c mX12_opensSign) (m_l mX12_opensSign) (m_r mX12_opensSign) ∈ am_W := am_in2 (c := 8) (j := 32) rfl rfl
set_option maxRecDepth 20000 in
theorem cw_X12_ordersOf : Cond.code (m_y mX12_ordersOf) (m_c mX12_ordersOf) (m_l mX12_ordersOf) (m_r mX12_ordersOf) ∈ am_W := am_in2 (c := 8) (j := 180) rfl rfl
set_option maxRecDepth 20000 in
theorem cw_X12_pence : Cond.code (m_y mX12_pence) (m_c mX12_pence) (m_l mX12_pence) (m_r mX12_pence) ∈ am_W := am_in2 (c := 9) (j := 123) rfl rfl
set_option maxRecDepth 20000 in
theorem cw_X12_penceOf : Cond.code (m_y mX12_penceOf) (m_c mX12_penceOf) (m_l mX12_penceOf) (m_r mX12_penceOf) ∈ am_W := am_in2 (c := 9) (j := 127) rfl rfl
set_option maxRecDepth 20000 in
theorem cw_X12_played : Cond.code (m_y mX12_played) (m_c mX12_played) (m_l mX12_played) (m_r mX12_played) ∈ am_W := am_in2 (c := 9) (j := 19) rfl rfl
set_option maxRecDepth 20000 in
theorem cw_X12_price : Cond.code (m_y mX12_price) (m_c mX12_price) (m_l mX12_price) (m_r mX12_price) ∈ am_W := am_in2 (c := 9) (j := 119) rfl rfl
set_option maxRecDepth 20000 in
theorem cw_X12_put : Cond.code (m_y mX12_put) (m_c mX12_put) (m_l mX12_put) (m_r mX12_put) ∈ am_W := am_in2 (c := 7) (j := 208) rfl rfl
set_option maxRecDepth 20000 in
theorem cw_X12_rank : Cond.code (m_y mX12_rank) (m_c mX12_rank) (m_l mX12_rank) (m_r mX12_rank) ∈ am_W := am_in2 (c := 8) (j := 78) rfl rfl
set_option maxRecDepth 20000 in
theorem cw_X12_refused : Cond.code (m_y mX12_refused) (m_c mX12_refused) (m_l mX12_refused) (m_r mX12_refused) ∈ am_W := am_in2 (c := 9) (j := 193) rfl rfl
set_option maxRecDepth 20000 in
theorem cw_X12_refuses : Cond.code (m_y mX12_refuses) (m_c mX12_refuses) (m_l mX12_refuses) (m_r mX12_refuses) ∈ am_W := am_in2 (c := 7) (j := 168) rfl rfl
set_option maxRecDepth 20000 in
theorem cw_X12_refusesIt : Cond.code (m_y mX12_refusesIt) (m_c mX12_refusesIt) (m_l mX12_refusesIt) (m_r mX12_refusesIt) ∈ am_W := am_in2 (c := 7) (j := 176) rfl rfl
set_option maxRecDepth 20000 in
theorem cw_X12_rule : Cond.code (m_y mX12_rule) (m_c mX12_rule) (m_l mX12_rule) (m_r mX12_rule) ∈ am_W := am_in2 (c := 7) (j := 200) rfl rfl
set_option maxRecDepth 20000 in
theorem cw_X12_rules : Cond.code (m_y mX12_rules) (m_c mX12_rules) (m_l mX12_rules) (m_r mX12_rules) ∈ am_W := am_in2 (c := 9) (j := 107) rfl rfl
set_option maxRecDepth 20000 in
theorem cw_X12_said : Cond.code (m_y mX12_said) (m_c mX12_said) (m_l mX12_said) (m_r mX12_said) ∈ am_W := am_in2 (c := 9) (j := 45) rfl rfl
set_option maxRecDepth 20000 in
theorem cw_X12_saysNow : Cond.code (m_y mX12_saysNow) (m_c mX12_saysNow) (m_l mX12_saysNow) (m_r mX12_saysNow) ∈ am_W := am_in2 (c := 8) (j := 207) rfl rfl
set_option maxRecDepth 20000 in
theorem cw_X12_saysOf : Cond.code (m_y mX12_saysOf) (m_c mX12_saysOf) (m_l mX12_saysOf) (m_r mX12_saysOf) ∈ am_W := am_in2 (c := 8) (j := 188) rfl rfl
set_option maxRecDepth 20000 in
theorem cw_X12_seed : Cond.code (m_y mX12_seed) (m_c mX12_seed) (m_l mX12_seed) (m_r mX12_seed) ∈ am_W := am_in2 (c := 7) (j := 172) rfl rfl
set_option maxRecDepth 20000 in
theorem cw_X12_seems : Cond.code (m_y mX12_seems) (m_c mX12_seems) (m_l mX12_seems) (m_r mX12_seems) ∈ am_W := am_in2 (c := 9) (j := 95) rfl rfl
set_option maxRecDepth 20000 in
theorem cw_X12_span : Cond.code (m_y mX12_span) (m_c mX12_span) (m_l mX12_span) (m_r mX12_span) ∈ am_W := am_in2 (c := 9) (j := 185) rfl rfl
set_option maxRecDepth 20000 in
theorem cw_X12_speak : Cond.code (m_y mX12_speak) (m_c mX12_speak) (m_l mX12_speak) (m_r mX12_speak) ∈ am_W := am_in2 (c := 8) (j := 239) rfl rfl
set_option maxRecDepth 20000 in
theorem cw_X12_stopsOf : Cond.code (m_y mX12_stopsOf) (m_c mX12_stopsOf) (m_l mX12_stopsOf) (m_r mX12_stopsOf) ∈ am_W := am_in2 (c := 8) (j := 168) rfl rfl
set_option maxRecDepth 20000 in
theorem cw_X12_takenAt : Cond.code (m_y mX12_takenAt) (m_c mX12_takenAt) (m_l mX12_takenAt) (m_r mX12_takenAt) ∈ am_W := am_in2 (c := 9) (j := 49) rfl rfl
set_option maxRecDepth 20000 in
theorem cw_X12_talliesAll : Cond.code (m_y mX12_talliesAll) (m_c mX12_talliesAll) (m_l mX12_talliesAll) (m_r mX12_talliesAll) ∈ am_W := am_in2 (c := 8) (j := 231) rfl rfl
set_option maxRecDepth 20000 in
theorem cw_X12_tellEnd : Cond.code (m_y mX12_tellEnd) (m_c mX12_tellEnd) (m_l mX12_tellEnd) (m_r mX12_tellEnd) ∈ am_W := am_in2 (c := 7) (j := 161) rfl rfl
set_option maxRecDepth 20000 in
theorem cw_X12_tenthGoes : Cond.code (m_y mX12_tenthGoes) (m_c mX12_tenthGoes) (m_l mX12_tenthGoes) (m_r mX12_tenthGoes) ∈ am_W := am_in2 (c := 8) (j := 153) rfl rfl
set_option maxRecDepth 20000 in
theorem cw_X12_text : Cond.code (m_y mX12_text) (m_c mX12_text) (m_l mX12_text) (m_r mX12_text) ∈ am_W := am_in2 (c := 7) (j := 216) rfl rfl
set_option maxRecDepth 20000 in
theorem cw_X12_through : Cond.code (m_y mX12_through) (m_c mX12_through) (m_l mX12_through) (m_r mX12_through) ∈ am_W := am_in2 (c := 9) (j := 37) rfl rfl
set_option maxRecDepth 20000 in
theorem cw_X12_told : Cond.code (m_y mX12_told) (m_c mX12_told) (m_l mX12_told) (m_r mX12_told) ∈ am_W := am_in2 (c := 8) (j := 172) rfl rfl
set_option maxRecDepth 20000 in
theorem cw_X12_top : Cond.code (m_y mX12_top) (m_c mX12_top) (m_l mX12_top) (m_r mX12_top) ∈ am_W := am_in2 (c := 8) (j := 60) rfl rfl
set_option maxRecDepth 20000 in
theorem cw_X12_turn : Cond.code (m_y mX12_turn) (m_c mX12_turn) (m_l mX12_turn) (m_r mX12_turn) ∈ am_W := am_in2 (c := 9) (j := 41) rfl rfl
set_option maxRecDepth 20000 in
theorem cw_X12_turnAt : Cond.code (m_y mX12_turnAt) (m_c mX12_turnAt) (m_l mX12_turnAt) (m_r mX12_turnAt) ∈ am_W := am_in2 (c := 9) (j := 103) rfl rfl
set_option maxRecDepth 20000 in
theorem cw_X12_turnGoingOn : Cond.code (m_y mX12_turnGoingOn) (m_c mX12_turnGoingOn) (m_l mX12_turnGoingOn) (m_r mX12_turnGoingOn) ∈ am_W := am_in2 (c := 9) (j := 7) rfl rfl
set_option maxRecDepth 20000 in
theorem cw_X12_turnsTo : Cond.code (m_y mX12_turnsTo) (m_c mX12_turnsTo) (m_l mX12_turnsTo) (m_r mX12_turnsTo) ∈ am_W := am_in2 (c := 8) (j := 86) rfl rfl
set_option maxRecDepth 20000 in
theorem cw_X12_undo : Cond.code (m_y mX12_undo) (m_c mX12_undo) (m_l mX12_undo) (m_r mX12_undo) ∈ am_W := am_in2 (c := 7) (j := 180) rfl rfl
set_option maxRecDepth 20000 in
theorem cw_X12_waitsFor : Cond.code (m_y mX12_waitsFor) (m_c mX12_waitsFor) (m_l mX12_waitsFor) (m_r mX12_waitsFor) ∈ am_W := am_in2 (c := 8) (j := 75) rfl rfl
set_option maxRecDepth 20000 in
theorem cw_X12_wasSpoken : Cond.code (m_y mX12_wasSpoken) (m_c mX12_wasSpoken) (m_l mX12_wasSpoken) (m_r mX12_wasSpoken) ∈ am_W := am_in2 (c := 8) (j := 149) rfl rfl
set_option maxRecDepth 20000 in
theorem cw_X12_wasTold : Cond.code (m_y mX12_wasTold) (m_c mX12_wasTold) (m_l mX12_wasTold) (m_r mX12_wasTold) ∈ am_W := am_in2 (c := 8) (j := 109) rfl rfl
set_option maxRecDepth 20000 in
theorem cw_X12_way : Cond.code (m_y mX12_way) (m_c mX12_way) (m_l mX12_way) (m_r mX12_way) ∈ am_W := am_in2 (c := 9) (j := 189) rfl rfl
set_option maxRecDepth 20000 in
theorem cw_X12_whose : Cond.code (m_y mX12_whose) (m_c mX12_whose) (m_l mX12_whose) (m_r mX12_whose) ∈ am_W := am_in2 (c := 9) (j := 61) rfl rfl
set_option maxRecDepth 20000 in
theorem cw_X12_wide : Cond.code (m_y mX12_wide) (m_c mX12_wide) (m_l mX12_wide) (m_r mX12_wide) ∈ am_W := am_in2 (c := 9) (j := 165) rfl rfl
set_option maxRecDepth 20000 in
theorem cw_X12_wordOf : Cond.code (m_y mX12_wordOf) (m_c mX12_wordOf) (m_l mX12_wordOf) (m_r mX12_wordOf) ∈ am_W := am_in2 (c := 7) (j := 227) rfl rfl
set_option maxRecDepth 20000 in
theorem cw_X12_worked : Cond.code (m_y mX12_worked) (m_c mX12_worked) (m_l mX12_worked) (m_r mX12_worked) ∈ am_W := am_in2 (c := 8) (j := 191) rfl rfl
set_option maxRecDepth 20000 in
theorem cw_X12_works : Cond.code (m_y mX12_works) (m_c mX12_works) (m_l mX12_works) (m_r mX12_works) ∈ am_W := am_in2 (c := 8) (j := 82) rfl rfl
set_option maxRecDepth 20000 in
theorem cw_X12_worth : Cond.code (m_y mX12_worth) (m_c mX12_worth) (m_l mX12_worth) (m_r mX12_worth) ∈ am_W := am_in2 (c := 9) (j := 169) rfl rfl
set_option maxRecDepth 20000 in
theorem cw_X12_yes : Cond.code (m_y mX12_yes) (m_c mX12_yes) (m_l mX12_yes) (m_r mX12_yes) ∈ am_W := am_in2 (c := 9) (j := 11) rfl rfl
set_option maxRecDepth 20000 in
theorem cw_J11_highSurrogate_5068e : Cond.code (m_y mJ11_highSurrogate_5068e) (m_c mJ11_highSurrogate_5068e) (m_l mJ11_highSurrogate_5068e) (m_r mJ11_highSurrogate_5068e) ∈ am_W := am_in2 (c := 4) (j := 109) rfl rfl
set_option maxRecDepth 20000 in
theorem cw_J11_isValidCodePoint_9a6ad : Cond.code (m_y mJ11_isValidCodePoint_9a6ad) (m_c mJ11_isValidCodePoint_9a6ad) (m_l mJ11_isValidCodePoint_9a6ad) (m_r mJ11_isValidCodePoint_9a6ad) ∈ am_W := am_in2 (c := 4) (j := 106) rfl rfl
set_option maxRecDepth 20000 in
theorem cw_J11_lowSurrogate_5068e : Cond.code (m_y mJ11_lowSurrogate_5068e) (m_c mJ11_lowSurrogate_5068e) (m_l mJ11_lowSurrogate_5068e) (m_r mJ11_lowSurrogate_5068e) ∈ am_W := am_in2 (c := 4) (j := 113) rfl rfl
set_option maxRecDepth 20000 in
theorem cw_J6_bitCount_0f7a4 : Cond.code (m_y mJ6_bitCount_0f7a4) (m_c mJ6_bitCount_0f7a4) (m_l mJ6_bitCount_0f7a4) (m_r mJ6_bitCount_0f7a4) ∈ am_W := am_in2 (c := 6) (j := 123) rfl rfl
set_option maxRecDepth 20000 in
theorem cw_J9_max_7cf53 : Cond.code (m_y mJ9_max_7cf53) (m_c mJ9_max_7cf53) (m_l mJ9_max_7cf53) (m_r mJ9_max_7cf53) ∈ am_W := am_in2 (c := 3) (j := 142) rfl rfl
set_option maxRecDepth 20000 in
theorem cw_J9_max_f86c9 : Cond.code (m_y mJ9_max_f86c9) (m_c mJ9_max_f86c9) (m_l mJ9_max_f86c9) (m_r mJ9_max_f86c9) ∈ am_W := am_in2 (c := 3) (j := 157) rfl rfl
set_option maxRecDepth 20000 in
theorem cw_J9_min_7cf53 : Cond.code (m_y mJ9_min_7cf53) (m_c mJ9_min_7cf53) (m_l mJ9_min_7cf53) (m_r mJ9_min_7cf53) ∈ am_W := am_in2 (c := 3) (j := 37) rfl rfl
set_option maxRecDepth 20000 in
theorem cw_J9_min_f86c9 : Cond.code (m_y mJ9_min_f86c9) (m_c mJ9_min_f86c9) (m_l mJ9_min_f86c9) (m_r mJ9_min_f86c9) ∈ am_W := am_in2 (c := 3) (j := 154) rfl rfl
set_option maxRecDepth 20000 in
theorem cw_J0_charAt_5068e : Cond.code (m_y mJ0_charAt_5068e) (m_c mJ0_charAt_5068e) (m_l mJ0_charAt_5068e) (m_r mJ0_charAt_5068e) ∈ am_W := am_in2 (c := 4) (j := 16) rfl rfl
set_option maxRecDepth 20000 in
theorem cw_J0_checkBoundsBeginEnd_23922 : Cond.code (m_y mJ0_checkBoundsBeginEnd_23922) (m_c mJ0_checkBoundsBeginEnd_23922) (m_l mJ0_checkBoundsBeginEnd_23922) (m_r mJ0_checkBoundsBeginEnd_23922) ∈ am_W := am_in2 (c := 4) (j := 94) rfl rfl
set_option maxRecDepth 20000 in
theorem cw_J0_checkIndex_df160 : Cond.code (m_y mJ0_checkIndex_df160) (m_c mJ0_checkIndex_df160) (m_l mJ0_checkIndex_df160) (m_r mJ0_checkIndex_df160) ∈ am_W := am_in2 (c := 4) (j := 26) rfl rfl
set_option maxRecDepth 20000 in
theorem cw_J0_coder_7d493 : Cond.code (m_y mJ0_coder_7d493) (m_c mJ0_coder_7d493) (m_l mJ0_coder_7d493) (m_r mJ0_coder_7d493) ∈ am_W := am_in2 (c := 4) (j := 10) rfl rfl
set_option maxRecDepth 20000 in
theorem cw_J0_indexOf_0f7a4 : Cond.code (m_y mJ0_indexOf_0f7a4) (m_c mJ0_indexOf_0f7a4) (m_l mJ0_indexOf_0f7a4) (m_r mJ0_indexOf_0f7a4) ∈ am_W := am_in2 (c := 4) (j := 63) rfl rfl
set_option maxRecDepth 20000 in
theorem cw_J0_indexOf_7cf53 : Cond.code (m_y mJ0_indexOf_7cf53) (m_c mJ0_indexOf_7cf53) (m_l mJ0_indexOf_7cf53) (m_r mJ0_indexOf_7cf53) ∈ am_W := am_in2 (c := 4) (j := 67) rfl rfl
set_option maxRecDepth 20000 in
theorem cw_J0_isLatin1_aae02 : Cond.code (m_y mJ0_isLatin1_aae02) (m_c mJ0_isLatin1_aae02) (m_l mJ0_isLatin1_aae02) (m_r mJ0_isLatin1_aae02) ∈ am_W := am_in2 (c := 4) (j := 20) rfl rfl
set_option maxRecDepth 20000 in
theorem cw_J0_length_8abf5 : Cond.code (m_y mJ0_length_8abf5) (m_c mJ0_length_8abf5) (m_l mJ0_length_8abf5) (m_r mJ0_length_8abf5) ∈ am_W := am_in2 (c := 4) (j := 6) rfl rfl
set_option maxRecDepth 20000 in
theorem cw_J1_canEncode_9a6ad : Cond.code (m_y mJ1_canEncode_9a6ad) (m_c mJ1_canEncode_9a6ad) (m_l mJ1_canEncode_9a6ad) (m_r mJ1_canEncode_9a6ad) ∈ am_W := am_in2 (c := 4) (j := 74) rfl rfl
set_option maxRecDepth 20000 in
theorem cw_J1_charAt_3b067 : Cond.code (m_y mJ1_charAt_3b067) (m_c mJ1_charAt_3b067) (m_l mJ1_charAt_3b067) (m_r mJ1_charAt_3b067) ∈ am_W := am_in2 (c := 4) (j := 23) rfl rfl
set_option maxRecDepth 20000 in
theorem cw_J1_indexOf_4cfef : Cond.code (m_y mJ1_indexOf_4cfef) (m_c mJ1_indexOf_4cfef) (m_l mJ1_indexOf_4cfef) (m_r mJ1_indexOf_4cfef) ∈ am_W := am_in2 (c := 4) (j := 71) rfl rfl
set_option maxRecDepth 20000 in
theorem cw_J1_indexOfChar_4cfef : Cond.code (m_y mJ1_indexOfChar_4cfef) (m_c mJ1_indexOfChar_4cfef) (m_l mJ1_indexOfChar_4cfef) (m_r mJ1_indexOfChar_4cfef) ∈ am_W := am_in2 (c := 4) (j := 79) rfl rfl
set_option maxRecDepth 20000 in
theorem cw_J2_charAt_3b067 : Cond.code (m_y mJ2_charAt_3b067) (m_c mJ2_charAt_3b067) (m_l mJ2_charAt_3b067) (m_r mJ2_charAt_3b067) ∈ am_W := am_in2 (c := 4) (j := 34) rfl rfl
set_option maxRecDepth 20000 in
theorem cw_J2_checkBoundsBeginEnd_d044e : Cond.code (m_y mJ2_checkBoundsBeginEnd_d044e) (m_c mJ2_checkBoundsBeginEnd_d044e) (m_l mJ2_checkBoundsBeginEnd_d044e) (m_r mJ2_checkBoundsBeginEnd_d044e) ∈ am_W := am_in2 (c := 4) (j := 91) rfl rfl
set_option maxRecDepth 20000 in
theorem cw_J2_checkIndex_2214a : Cond.code (m_y mJ2_checkIndex_2214a) (m_c mJ2_checkIndex_2214a) (m_l mJ2_checkIndex_2214a) (m_r mJ2_checkIndex_2214a) ∈ am_W := am_in2 (c := 4) (j := 37) rfl rfl
set_option maxRecDepth 20000 in
theorem cw_J2_getChar_3b067 : Cond.code (m_y mJ2_getChar_3b067) (m_c mJ2_getChar_3b067) (m_l mJ2_getChar_3b067) (m_r mJ2_getChar_3b067) ∈ am_W := am_in2 (c := 4) (j := 44) rfl rfl
set_option maxRecDepth 20000 in
theorem cw_J2_indexOf_4cfef : Cond.code (m_y mJ2_indexOf_4cfef) (m_c mJ2_indexOf_4cfef) (m_l mJ2_indexOf_4cfef) (m_r mJ2_indexOf_4cfef) ∈ am_W := am_in2 (c := 4) (j := 82) rfl rfl
set_option maxRecDepth 20000 in
theorem cw_J2_indexOfChar_4cfef : Cond.code (m_y mJ2_indexOfChar_4cfef) (m_c mJ2_indexOfChar_4cfef) (m_l mJ2_indexOfChar_4cfef) (m_r mJ2_indexOfChar_4cfef) ∈ am_W := am_in2 (c := 4) (j := 88) rfl rfl
set_option maxRecDepth 20000 in
theorem cw_J2_indexOfCharUnsafe_4cfef : Cond.code (m_y mJ2_indexOfCharUnsafe_4cfef) (m_c mJ2_indexOfCharUnsafe_4cfef) (m_l mJ2_indexOfCharUnsafe_4cfef) (m_r mJ2_indexOfCharUnsafe_4cfef) ∈ am_W := am_in2 (c := 4) (j := 100) rfl rfl
set_option maxRecDepth 20000 in
theorem cw_J2_indexOfSupplementary_4cfef : Cond.code (m_y mJ2_indexOfSupplementary_4cfef) (m_c mJ2_indexOfSupplementary_4cfef) (m_l mJ2_indexOfSupplementary_4cfef) (m_r mJ2_indexOfSupplementary_4cfef) ∈ am_W := am_in2 (c := 4) (j := 103) rfl rfl
set_option maxRecDepth 20000 in
theorem cw_J2_length_9d52b : Cond.code (m_y mJ2_length_9d52b) (m_c mJ2_length_9d52b) (m_l mJ2_length_9d52b) (m_r mJ2_length_9d52b) ∈ am_W := am_in2 (c := 4) (j := 40) rfl rfl
set_option maxRecDepth 20000 in
theorem cw_J3_checkFromToIndex_8c36e : Cond.code (m_y mJ3_checkFromToIndex_8c36e) (m_c mJ3_checkFromToIndex_8c36e) (m_l mJ3_checkFromToIndex_8c36e) (m_r mJ3_checkFromToIndex_8c36e) ∈ am_W := am_in2 (c := 4) (j := 97) rfl rfl
set_option maxRecDepth 20000 in
theorem cw_J3_checkIndex_8e157 : Cond.code (m_y mJ3_checkIndex_8e157) (m_c mJ3_checkIndex_8e157) (m_l mJ3_checkIndex_8e157) (m_r mJ3_checkIndex_8e157) ∈ am_W := am_in2 (c := 4) (j := 31) rfl rfl
/-! the code words of all that is called -/
set_option maxRecDepth 20000 in
theorem am_cwc0 : ∀ e ∈ am_mT0, e.2.2 ≠ 3 → Cond.code (m_y e.2.1) (m_c e.2.1) (m_l e.2.1) (m_r e.2.1) ∈ am_W := by
  exact List.forall_mem_cons.mpr ⟨fun _ => cw_X11_init, List.forall_mem_cons.mpr ⟨fun h => absurd rfl h, List.forall_mem_cons.mpr ⟨fun _ => cw_X8_init, List.forall_mem_cons.mpr ⟨fun h => absurd rfl h, List.forall_mem_cons.mpr ⟨fun _ => cw_X10_init, List.forall_mem_cons.mpr ⟨fun h => absurd rfl h, List.forall_mem_cons.mpr ⟨fun _ => cw_X5_init, List.forall_mem_cons.mpr ⟨fun h => absurd rfl h, List.forall_mem_cons.mpr ⟨fun _ => cw_X3_init, List.forall_mem_cons.mpr ⟨fun h => absurd rfl h, List.forall_mem_cons.mpr ⟨fun _ => cw_X2_init, List.forall_mem_cons.mpr ⟨fun h => absurd rfl h, List.forall_mem_cons.mpr ⟨fun _ => cw_X0_init, List.forall_mem_cons.mpr ⟨fun h => absurd rfl h, List.forall_mem_cons.mpr ⟨fun _ => cw_X1_init, List.forall_mem_cons.mpr ⟨fun h => absurd rfl h, List.forall_mem_cons.mpr ⟨fun _ => cw_X5_init, List.forall_mem_cons.mpr ⟨fun _ => cw_X2_init, List.forall_mem_cons.mpr ⟨fun _ => cw_X7_init, List.forall_mem_cons.mpr ⟨fun h => absurd rfl h, List.forall_mem_cons.mpr ⟨fun _ => cw_X4_init, List.forall_mem_cons.mpr ⟨fun h => absurd rfl h, List.forall_mem_cons.mpr ⟨fun _ => cw_X9_init, List.forall_mem_cons.mpr ⟨fun h => absurd rfl h, List.forall_mem_cons.mpr ⟨fun _ => cw_X11_tellEnd, List.forall_mem_cons.mpr ⟨fun _ => cw_X11_within, List.forall_mem_cons.mpr ⟨fun _ => cw_X11_refuse, List.forall_mem_cons.mpr ⟨fun _ => cw_X10_add, List.forall_mem_cons.mpr ⟨fun _ => cw_X11_seed, List.forall_mem_cons.mpr ⟨fun _ => cw_X11_refuseFlatly, List.forall_mem_cons.mpr ⟨fun _ => cw_X11_delay, List.forall_mem_cons.mpr ⟨fun _ => cw_X11_areTwoEnds, List.forall_mem_cons.mpr ⟨fun _ => cw_X11_isEnd, List.forall_mem_cons.mpr ⟨fun _ => cw_X5_delayOf, List.forall_mem_cons.mpr ⟨fun _ => cw_X8_keepStep, List.forall_mem_cons.mpr ⟨fun _ => cw_X8_stepRow, List.forall_mem_cons.mpr ⟨fun _ => cw_X5_copyFrom, List.forall_mem_cons.mpr ⟨fun _ => cw_X3_copyFrom, List.forall_mem_cons.mpr ⟨fun _ => cw_J9_min_7cf53, List.forall_mem_cons.mpr ⟨fun _ => cw_X11_rule, List.forall_mem_cons.mpr ⟨fun _ => cw_X11_speak, List.forall_mem_cons.mpr ⟨fun _ => cw_X2_isFull, List.forall_mem_cons.mpr ⟨fun _ => cw_X5_openTurn, List.forall_mem_cons.mpr ⟨fun _ => cw_X2_openTurn, List.forall_mem_cons.mpr ⟨fun _ => cw_X2_hasRow, List.forall_mem_cons.mpr ⟨fun _ => cw_X11_hush, List.forall_mem_cons.mpr ⟨fun _ => cw_X5_closeTurn, List.forall_mem_cons.mpr ⟨fun _ => cw_X2_closeTurn, List.forall_mem_cons.mpr ⟨fun _ => cw_X11_yes, List.forall_mem_cons.mpr ⟨fun _ => cw_X2_addYes, List.forall_mem_cons.mpr ⟨fun _ => cw_X2_heardOutLast, List.forall_mem_cons.mpr ⟨fun _ => cw_X2_isSpokenBy, List.forall_mem_cons.mpr ⟨fun _ => cw_X5_lag, List.forall_mem_cons.mpr ⟨fun _ => cw_X5_delayOf, List.forall_mem_cons.mpr ⟨fun _ => cw_X11_go, List.forall_mem_cons.mpr ⟨fun _ => cw_X11_lawsNow, List.forall_mem_cons.mpr ⟨fun _ => cw_X5_pass, List.forall_mem_cons.mpr ⟨fun _ => cw_X5_listen, List.forall_mem_cons.mpr ⟨fun _ => cw_X3_spokeAgo, List.forall_mem_cons.mpr ⟨fun _ => cw_X5_speakOn, fun _ h => absurd h List.not_mem_nil⟩⟩⟩⟩⟩⟩⟩⟩⟩⟩⟩⟩⟩⟩⟩⟩⟩⟩⟩⟩⟩⟩⟩⟩⟩⟩⟩⟩⟩⟩⟩⟩⟩⟩⟩⟩⟩⟩⟩⟩⟩⟩⟩⟩⟩⟩⟩⟩⟩⟩⟩⟩⟩⟩⟩⟩⟩⟩⟩⟩
set_option maxRecDepth 20000 in
theorem am_cwc1 : ∀ e ∈ am_mT1, e.2.2 ≠ 3 → Cond.code (m_y e.2.1) (m_c e.2.1) (m_l e.2.1) (m_r e.2.1) ∈ am_W := by
  exact List.forall_mem_cons.mpr ⟨fun _ => cw_X4_ofEnd, List.forall_mem_cons.mpr ⟨fun _ => cw_X4_has, List.forall_mem_cons.mpr ⟨fun _ => cw_X4_nameAll, List.forall_mem_cons.mpr ⟨fun _ => cw_X4_valueOf, List.forall_mem_cons.mpr ⟨fun _ => cw_J9_min_7cf53, List.forall_mem_cons.mpr ⟨fun _ => cw_X4_push, List.forall_mem_cons.mpr ⟨fun _ => cw_J9_max_7cf53, List.forall_mem_cons.mpr ⟨fun _ => cw_X4_pop, List.forall_mem_cons.mpr ⟨fun _ => cw_X4_reckon, List.forall_mem_cons.mpr ⟨fun _ => cw_J9_min_f86c9, List.forall_mem_cons.mpr ⟨fun _ => cw_J9_max_f86c9, List.forall_mem_cons.mpr ⟨fun _ => cw_X4_asked, List.forall_mem_cons.mpr ⟨fun _ => cw_X5_closeTurn, List.forall_mem_cons.mpr ⟨fun _ => cw_X5_keepSilence, List.forall_mem_cons.mpr ⟨fun _ => cw_X5_findPatience, List.forall_mem_cons.mpr ⟨fun _ => cw_X5_draw, List.forall_mem_cons.mpr ⟨fun _ => cw_X3_wasCalled, List.forall_mem_cons.mpr ⟨fun _ => cw_X5_isNextTo, List.forall_mem_cons.mpr ⟨fun _ => cw_X2_isFull, List.forall_mem_cons.mpr ⟨fun _ => cw_X5_openTurn, List.forall_mem_cons.mpr ⟨fun _ => cw_X5_countHeard, List.forall_mem_cons.mpr ⟨fun _ => cw_X11_feed, List.forall_mem_cons.mpr ⟨fun _ => cw_X7_take, List.forall_mem_cons.mpr ⟨fun _ => cw_X11_end, List.forall_mem_cons.mpr ⟨fun _ => cw_X11_text, List.forall_mem_cons.mpr ⟨fun _ => cw_X7_readInto, List.forall_mem_cons.mpr ⟨fun _ => cw_X9_empty, List.forall_mem_cons.mpr ⟨fun _ => cw_X7_splitTape, List.forall_mem_cons.mpr ⟨fun _ => cw_X7_isDigit, List.forall_mem_cons.mpr ⟨fun _ => cw_X7_splitNumber, List.forall_mem_cons.mpr ⟨fun _ => cw_J9_min_7cf53, List.forall_mem_cons.mpr ⟨fun _ => cw_X7_addToken, List.forall_mem_cons.mpr ⟨fun _ => cw_X7_isLetter, List.forall_mem_cons.mpr ⟨fun _ => cw_X7_splitWord, List.forall_mem_cons.mpr ⟨fun _ => cw_X7_numberOfWord, List.forall_mem_cons.mpr ⟨fun _ => cw_J0_length_8abf5, List.forall_mem_cons.mpr ⟨fun _ => cw_J0_coder_7d493, List.forall_mem_cons.mpr ⟨fun _ => cw_J0_charAt_5068e, List.forall_mem_cons.mpr ⟨fun _ => cw_J0_isLatin1_aae02, List.forall_mem_cons.mpr ⟨fun _ => cw_J1_charAt_3b067, List.forall_mem_cons.mpr ⟨fun _ => cw_J0_checkIndex_df160, List.forall_mem_cons.mpr ⟨fun _ => cw_J3_checkIndex_8e157, List.forall_mem_cons.mpr ⟨fun _ => cw_J2_charAt_3b067, List.forall_mem_cons.mpr ⟨fun _ => cw_J2_checkIndex_2214a, List.forall_mem_cons.mpr ⟨fun _ => cw_J2_length_9d52b, List.forall_mem_cons.mpr ⟨fun _ => cw_J0_checkIndex_df160, List.forall_mem_cons.mpr ⟨fun _ => cw_J2_getChar_3b067, List.forall_mem_cons.mpr ⟨fun _ => cw_X7_isSpeltAt, List.forall_mem_cons.mpr ⟨fun _ => cw_X7_splitSign, List.forall_mem_cons.mpr ⟨fun _ => cw_J0_indexOf_0f7a4, List.forall_mem_cons.mpr ⟨fun _ => cw_J0_indexOf_7cf53, List.forall_mem_cons.mpr ⟨fun _ => cw_J0_length_8abf5, List.forall_mem_cons.mpr ⟨fun _ => cw_J1_indexOf_4cfef, List.forall_mem_cons.mpr ⟨fun _ => cw_J1_canEncode_9a6ad, List.forall_mem_cons.mpr ⟨fun _ => cw_J9_max_7cf53, List.forall_mem_cons.mpr ⟨fun _ => cw_J9_min_7cf53, List.forall_mem_cons.mpr ⟨fun _ => cw_J1_indexOfChar_4cfef, List.forall_mem_cons.mpr ⟨fun _ => cw_J2_indexOf_4cfef, List.forall_mem_cons.mpr ⟨fun _ => cw_J9_max_7cf53, List.forall_mem_cons.mpr ⟨fun _ => cw_J9_min_7cf53, fun _ h => absurd h List.not_mem_nil⟩⟩⟩⟩⟩⟩⟩⟩⟩⟩⟩⟩⟩⟩⟩⟩⟩⟩⟩⟩⟩⟩⟩⟩⟩⟩⟩⟩⟩⟩⟩⟩⟩⟩⟩⟩⟩⟩⟩⟩⟩⟩⟩⟩⟩⟩⟩⟩⟩⟩⟩⟩⟩⟩⟩⟩⟩⟩⟩⟩
set_option maxRecDepth 20000 in
theorem am_cwc2 : ∀ e ∈ am_mT2, e.2.2 ≠ 3 → Cond.code (m_y e.2.1) (m_c e.2.1) (m_l e.2.1) (m_r e.2.1) ∈ am_W := by
  exact List.forall_mem_cons.mpr ⟨fun _ => cw_J2_indexOfChar_4cfef, List.forall_mem_cons.mpr ⟨fun _ => cw_J2_checkBoundsBeginEnd_d044e, List.forall_mem_cons.mpr ⟨fun _ => cw_J0_checkBoundsBeginEnd_23922, List.forall_mem_cons.mpr ⟨fun _ => cw_J3_checkFromToIndex_8c36e, List.forall_mem_cons.mpr ⟨fun _ => cw_J2_indexOfCharUnsafe_4cfef, List.forall_mem_cons.mpr ⟨fun _ => cw_J2_indexOfSupplementary_4cfef, List.forall_mem_cons.mpr ⟨fun _ => cw_J11_isValidCodePoint_9a6ad, List.forall_mem_cons.mpr ⟨fun _ => cw_J11_highSurrogate_5068e, List.forall_mem_cons.mpr ⟨fun _ => cw_J11_lowSurrogate_5068e, List.forall_mem_cons.mpr ⟨fun _ => cw_X7_come, List.forall_mem_cons.mpr ⟨fun _ => cw_X7_readClause, List.forall_mem_cons.mpr ⟨fun _ => cw_X7_fail, List.forall_mem_cons.mpr ⟨fun _ => cw_X9_addClause, List.forall_mem_cons.mpr ⟨fun _ => cw_X7_readSum, List.forall_mem_cons.mpr ⟨fun _ => cw_X7_readProduct, List.forall_mem_cons.mpr ⟨fun _ => cw_X7_readOne, List.forall_mem_cons.mpr ⟨fun _ => cw_X7_expectNumber, List.forall_mem_cons.mpr ⟨fun _ => cw_X11_within, List.forall_mem_cons.mpr ⟨fun _ => cw_X9_emit, List.forall_mem_cons.mpr ⟨fun _ => cw_X7_isSign, List.forall_mem_cons.mpr ⟨fun _ => cw_X7_mayOpen, List.forall_mem_cons.mpr ⟨fun _ => cw_X7_expectSign, List.forall_mem_cons.mpr ⟨fun _ => cw_X7_isWord, List.forall_mem_cons.mpr ⟨fun _ => cw_X7_readChoice, List.forall_mem_cons.mpr ⟨fun _ => cw_X7_readEither, List.forall_mem_cons.mpr ⟨fun _ => cw_X7_readBoth, List.forall_mem_cons.mpr ⟨fun _ => cw_X7_readAsk, List.forall_mem_cons.mpr ⟨fun _ => cw_X7_comparison, List.forall_mem_cons.mpr ⟨fun _ => cw_X7_expectWord, List.forall_mem_cons.mpr ⟨fun _ => cw_X9_landHere, List.forall_mem_cons.mpr ⟨fun _ => cw_X7_readName, List.forall_mem_cons.mpr ⟨fun _ => cw_X7_isOfClause, List.forall_mem_cons.mpr ⟨fun _ => cw_X7_readAct, List.forall_mem_cons.mpr ⟨fun _ => cw_X9_setNumbers, List.forall_mem_cons.mpr ⟨fun _ => cw_X11_by, List.forall_mem_cons.mpr ⟨fun _ => cw_X11_played, List.forall_mem_cons.mpr ⟨fun _ => cw_X11_speak, List.forall_mem_cons.mpr ⟨fun _ => cw_X11_hush, List.forall_mem_cons.mpr ⟨fun _ => cw_X11_yes, List.forall_mem_cons.mpr ⟨fun _ => cw_X11_go, List.forall_mem_cons.mpr ⟨fun _ => cw_X11_delay, List.forall_mem_cons.mpr ⟨fun _ => cw_X11_rule, List.forall_mem_cons.mpr ⟨fun _ => cw_X11_undo, List.forall_mem_cons.mpr ⟨fun _ => cw_X8_takeStepBack, List.forall_mem_cons.mpr ⟨fun _ => cw_X2_reopen, List.forall_mem_cons.mpr ⟨fun _ => cw_X2_closeTurn, List.forall_mem_cons.mpr ⟨fun _ => cw_X11_price, List.forall_mem_cons.mpr ⟨fun _ => cw_X11_agree, List.forall_mem_cons.mpr ⟨fun _ => cw_X0_areTold, List.forall_mem_cons.mpr ⟨fun _ => cw_X0_add, List.forall_mem_cons.mpr ⟨fun _ => cw_X11_heard, List.forall_mem_cons.mpr ⟨fun _ => cw_X1_add, List.forall_mem_cons.mpr ⟨fun _ => cw_X11_image, List.forall_mem_cons.mpr ⟨fun _ => cw_X8_copyFrom, List.forall_mem_cons.mpr ⟨fun _ => cw_X10_copyFrom, List.forall_mem_cons.mpr ⟨fun _ => cw_X2_copyFrom, List.forall_mem_cons.mpr ⟨fun _ => cw_X0_copyFrom, List.forall_mem_cons.mpr ⟨fun _ => cw_X1_copyFrom, List.forall_mem_cons.mpr ⟨fun _ => cw_X11_back, List.forall_mem_cons.mpr ⟨fun _ => cw_X11_fault, fun _ h => absurd h List.not_mem_nil⟩⟩⟩⟩⟩⟩⟩⟩⟩⟩⟩⟩⟩⟩⟩⟩⟩⟩⟩⟩⟩⟩⟩⟩⟩⟩⟩⟩⟩⟩⟩⟩⟩⟩⟩⟩⟩⟩⟩⟩⟩⟩⟩⟩⟩⟩⟩⟩⟩⟩⟩⟩⟩⟩⟩⟩⟩⟩⟩⟩
set_option maxRecDepth 20000 in
theorem am_cwc3 : ∀ e ∈ am_mT3, e.2.2 ≠ 3 → Cond.code (m_y e.2.1) (m_c e.2.1) (m_l e.2.1) (m_r e.2.1) ∈ am_W := by
  exact List.forall_mem_cons.mpr ⟨fun _ => cw_X11_of, List.forall_mem_cons.mpr ⟨fun _ => cw_X10_number, List.forall_mem_cons.mpr ⟨fun _ => cw_X3_number, List.forall_mem_cons.mpr ⟨fun _ => cw_X11_through, List.forall_mem_cons.mpr ⟨fun _ => cw_X11_turn, List.forall_mem_cons.mpr ⟨fun _ => cw_X11_isTurn, List.forall_mem_cons.mpr ⟨fun _ => cw_X2_turnNumber, List.forall_mem_cons.mpr ⟨fun _ => cw_X11_said, List.forall_mem_cons.mpr ⟨fun _ => cw_X2_takenFor, List.forall_mem_cons.mpr ⟨fun _ => cw_X2_yesHeardIn, List.forall_mem_cons.mpr ⟨fun _ => cw_X2_yesNumber, List.forall_mem_cons.mpr ⟨fun _ => cw_X11_misjoined, List.forall_mem_cons.mpr ⟨fun _ => cw_X2_isMisjoined, List.forall_mem_cons.mpr ⟨fun _ => cw_X2_takenFor, List.forall_mem_cons.mpr ⟨fun _ => cw_X11_refused, List.forall_mem_cons.mpr ⟨fun _ => cw_X11_about, List.forall_mem_cons.mpr ⟨fun _ => cw_X11_whose, List.forall_mem_cons.mpr ⟨fun _ => cw_X2_endedLast, List.forall_mem_cons.mpr ⟨fun _ => cw_X11_lowestTerm, List.forall_mem_cons.mpr ⟨fun _ => cw_X11_first, List.forall_mem_cons.mpr ⟨fun _ => cw_X2_beganAt, List.forall_mem_cons.mpr ⟨fun _ => cw_X11_cold, List.forall_mem_cons.mpr ⟨fun _ => cw_X5_lag, List.forall_mem_cons.mpr ⟨fun _ => cw_X2_gapBehind, List.forall_mem_cons.mpr ⟨fun _ => cw_X2_beganAt, List.forall_mem_cons.mpr ⟨fun _ => cw_X2_beganWithin, List.forall_mem_cons.mpr ⟨fun _ => cw_J9_max_7cf53, List.forall_mem_cons.mpr ⟨fun _ => cw_X4_coldOf, List.forall_mem_cons.mpr ⟨fun _ => cw_X11_haste, List.forall_mem_cons.mpr ⟨fun _ => cw_X2_turnBrokenInto, List.forall_mem_cons.mpr ⟨fun _ => cw_X2_couldHear, List.forall_mem_cons.mpr ⟨fun _ => cw_X4_hasteOf, List.forall_mem_cons.mpr ⟨fun _ => cw_X11_rules, List.forall_mem_cons.mpr ⟨fun _ => cw_X11_tryRule, List.forall_mem_cons.mpr ⟨fun _ => cw_X5_copyFrom, List.forall_mem_cons.mpr ⟨fun _ => cw_X5_forgetCounts, List.forall_mem_cons.mpr ⟨fun _ => cw_X11_total, List.forall_mem_cons.mpr ⟨fun _ => cw_X11_bestRule, List.forall_mem_cons.mpr ⟨fun _ => cw_X11_pence, List.forall_mem_cons.mpr ⟨fun _ => cw_X8_penceFor, List.forall_mem_cons.mpr ⟨fun _ => cw_X11_forPence, List.forall_mem_cons.mpr ⟨fun _ => cw_X11_comes, List.forall_mem_cons.mpr ⟨fun _ => cw_X11_arePairNumbers, List.forall_mem_cons.mpr ⟨fun _ => cw_X11_areDelays, List.forall_mem_cons.mpr ⟨fun _ => cw_X11_pairNow, List.forall_mem_cons.mpr ⟨fun _ => cw_X6_init, List.forall_mem_cons.mpr ⟨fun h => absurd rfl h, List.forall_mem_cons.mpr ⟨fun _ => cw_X6_set, List.forall_mem_cons.mpr ⟨fun _ => cw_X6_comesAt, List.forall_mem_cons.mpr ⟨fun _ => cw_X6_begin, List.forall_mem_cons.mpr ⟨fun _ => cw_X6_isSettled, List.forall_mem_cons.mpr ⟨fun _ => cw_X6_isJudgedTo, List.forall_mem_cons.mpr ⟨fun _ => cw_X6_nextChange, List.forall_mem_cons.mpr ⟨fun _ => cw_X6_isSpeaking, List.forall_mem_cons.mpr ⟨fun _ => cw_X6_passBy, List.forall_mem_cons.mpr ⟨fun _ => cw_X6_yieldsIn, List.forall_mem_cons.mpr ⟨fun _ => cw_J9_min_7cf53, List.forall_mem_cons.mpr ⟨fun _ => cw_X6_beginsIn, List.forall_mem_cons.mpr ⟨fun _ => cw_J9_max_7cf53, List.forall_mem_cons.mpr ⟨fun _ => cw_X6_judge, fun _ h => absurd h List.not_mem_nil⟩⟩⟩⟩⟩⟩⟩⟩⟩⟩⟩⟩⟩⟩⟩⟩⟩⟩⟩⟩⟩⟩⟩⟩⟩⟩⟩⟩⟩⟩⟩⟩⟩⟩⟩⟩⟩⟩⟩⟩⟩⟩⟩⟩⟩⟩⟩⟩⟩⟩⟩⟩⟩⟩⟩⟩⟩⟩⟩⟩
set_option maxRecDepth 20000 in
theorem am_cwc4 : ∀ e ∈ am_mT4, e.2.2 ≠ 3 → Cond.code (m_y e.2.1) (m_c e.2.1) (m_l e.2.1) (m_r e.2.1) ∈ am_W := by
  exact List.forall_mem_cons.mpr ⟨fun _ => cw_X6_isSilent, List.forall_mem_cons.mpr ⟨fun _ => cw_X6_change, List.forall_mem_cons.mpr ⟨fun _ => cw_X11_apart, List.forall_mem_cons.mpr ⟨fun _ => cw_X6_findApart, List.forall_mem_cons.mpr ⟨fun _ => cw_X6_comesAt, List.forall_mem_cons.mpr ⟨fun _ => cw_X11_drawn, List.forall_mem_cons.mpr ⟨fun _ => cw_X11_apartDraws, List.forall_mem_cons.mpr ⟨fun _ => cw_X11_wide, List.forall_mem_cons.mpr ⟨fun _ => cw_X11_worth, List.forall_mem_cons.mpr ⟨fun _ => cw_X11_least, List.forall_mem_cons.mpr ⟨fun _ => cw_X0_leastSet, List.forall_mem_cons.mpr ⟨fun _ => cw_X0_hasAllItNeeds, List.forall_mem_cons.mpr ⟨fun _ => cw_X0_sumOf, List.forall_mem_cons.mpr ⟨fun _ => cw_J6_bitCount_0f7a4, List.forall_mem_cons.mpr ⟨fun _ => cw_X11_span, List.forall_mem_cons.mpr ⟨fun _ => cw_X1_leastWays, List.forall_mem_cons.mpr ⟨fun _ => cw_J9_max_7cf53, List.forall_mem_cons.mpr ⟨fun _ => cw_X1_mostWays, List.forall_mem_cons.mpr ⟨fun _ => cw_J9_min_7cf53, List.forall_mem_cons.mpr ⟨fun _ => cw_X11_way, List.forall_mem_cons.mpr ⟨fun _ => cw_X11_whoYields, List.forall_mem_cons.mpr ⟨fun _ => cw_X11_isSpokenIn, List.forall_mem_cons.mpr ⟨fun _ => cw_X12_init, List.forall_mem_cons.mpr ⟨fun h => absurd rfl h, List.forall_mem_cons.mpr ⟨fun _ => cw_X12_copies, List.forall_mem_cons.mpr ⟨fun _ => cw_X12_tellEnd, List.forall_mem_cons.mpr ⟨fun _ => cw_X12_in, List.forall_mem_cons.mpr ⟨fun _ => cw_X12_refuses, List.forall_mem_cons.mpr ⟨fun _ => cw_X12_seed, List.forall_mem_cons.mpr ⟨fun _ => cw_X12_refusesIt, List.forall_mem_cons.mpr ⟨fun _ => cw_X12_undo, List.forall_mem_cons.mpr ⟨fun _ => cw_X12_delay, List.forall_mem_cons.mpr ⟨fun _ => cw_X12_isEnd, List.forall_mem_cons.mpr ⟨fun _ => cw_X12_delayOf, List.forall_mem_cons.mpr ⟨fun _ => cw_X12_keepsStep, List.forall_mem_cons.mpr ⟨fun _ => cw_X12_rule, List.forall_mem_cons.mpr ⟨fun _ => cw_X12_feed, List.forall_mem_cons.mpr ⟨fun _ => cw_X12_put, List.forall_mem_cons.mpr ⟨fun _ => cw_X12_end, List.forall_mem_cons.mpr ⟨fun _ => cw_X12_text, List.forall_mem_cons.mpr ⟨fun _ => cw_X12_next, List.forall_mem_cons.mpr ⟨fun _ => cw_X12_isLetter, List.forall_mem_cons.mpr ⟨fun _ => cw_X12_wordOf, List.forall_mem_cons.mpr ⟨fun _ => cw_X12_asks, List.forall_mem_cons.mpr ⟨fun _ => cw_X12_isWord, List.forall_mem_cons.mpr ⟨fun _ => cw_X12_opensSign, List.forall_mem_cons.mpr ⟨fun _ => cw_X12_errs, List.forall_mem_cons.mpr ⟨fun _ => cw_X12_opensFrame, List.forall_mem_cons.mpr ⟨fun _ => cw_X12_begins, List.forall_mem_cons.mpr ⟨fun _ => cw_X12_nameNow, List.forall_mem_cons.mpr ⟨fun _ => cw_X12_emits, List.forall_mem_cons.mpr ⟨fun _ => cw_X12_oneIsOver, List.forall_mem_cons.mpr ⟨fun _ => cw_X12_top, List.forall_mem_cons.mpr ⟨fun _ => cw_X12_mayName, List.forall_mem_cons.mpr ⟨fun _ => cw_X12_isSign, List.forall_mem_cons.mpr ⟨fun _ => cw_X12_goesOn, List.forall_mem_cons.mpr ⟨fun _ => cw_X12_waitsFor, List.forall_mem_cons.mpr ⟨fun _ => cw_X12_rank, List.forall_mem_cons.mpr ⟨fun _ => cw_X12_works, List.forall_mem_cons.mpr ⟨fun _ => cw_X12_turnsTo, fun _ h => absurd h List.not_mem_nil⟩⟩⟩⟩⟩⟩⟩⟩⟩⟩⟩⟩⟩⟩⟩⟩⟩⟩⟩⟩⟩⟩⟩⟩⟩⟩⟩⟩⟩⟩⟩⟩⟩⟩⟩⟩⟩⟩⟩⟩⟩⟩⟩⟩⟩⟩⟩⟩⟩⟩⟩⟩⟩⟩⟩⟩⟩⟩⟩⟩
set_option maxRecDepth 20000 in
theorem am_cwc5 : ∀ e ∈ am_mT5, e.2.2 ≠ 3 → Cond.code (m_y e.2.1) (m_c e.2.1) (m_l e.2.1) (m_r e.2.1) ∈ am_W := by
  exact List.forall_mem_cons.mpr ⟨fun _ => cw_X12_isAsking, List.forall_mem_cons.mpr ⟨fun _ => cw_X12_askIsOver, List.forall_mem_cons.mpr ⟨fun _ => cw_X12_clauseIsOver, List.forall_mem_cons.mpr ⟨fun _ => cw_X12_asksOn, List.forall_mem_cons.mpr ⟨fun _ => cw_X12_clause, List.forall_mem_cons.mpr ⟨fun _ => cw_X12_wasTold, List.forall_mem_cons.mpr ⟨fun _ => cw_X12_doing, List.forall_mem_cons.mpr ⟨fun _ => cw_X12_number, List.forall_mem_cons.mpr ⟨fun _ => cw_X12_numberBehind, List.forall_mem_cons.mpr ⟨fun _ => cw_X12_fault, List.forall_mem_cons.mpr ⟨fun _ => cw_X12_by, List.forall_mem_cons.mpr ⟨fun _ => cw_X12_go, List.forall_mem_cons.mpr ⟨fun _ => cw_X12_laysNow, List.forall_mem_cons.mpr ⟨fun _ => cw_X12_laysTurn, List.forall_mem_cons.mpr ⟨fun _ => cw_X12_ofTurn, List.forall_mem_cons.mpr ⟨fun _ => cw_X12_wasSpoken, List.forall_mem_cons.mpr ⟨fun _ => cw_X12_tenthGoes, List.forall_mem_cons.mpr ⟨fun _ => cw_X12_hearsAll, List.forall_mem_cons.mpr ⟨fun _ => cw_X12_lowestOf, List.forall_mem_cons.mpr ⟨fun _ => cw_X12_goesSpeaking, List.forall_mem_cons.mpr ⟨fun _ => cw_X12_stopsOf, List.forall_mem_cons.mpr ⟨fun _ => cw_X12_told, List.forall_mem_cons.mpr ⟨fun _ => cw_X12_lawOf, List.forall_mem_cons.mpr ⟨fun _ => cw_X12_ordersOf, List.forall_mem_cons.mpr ⟨fun _ => cw_X12_names, List.forall_mem_cons.mpr ⟨fun _ => cw_X12_saysOf, List.forall_mem_cons.mpr ⟨fun _ => cw_X12_worked, List.forall_mem_cons.mpr ⟨fun _ => cw_X12_bound, List.forall_mem_cons.mpr ⟨fun _ => cw_X12_held, List.forall_mem_cons.mpr ⟨fun _ => cw_X12_endsTurn, List.forall_mem_cons.mpr ⟨fun _ => cw_X12_saysNow, List.forall_mem_cons.mpr ⟨fun _ => cw_X12_goesSilent, List.forall_mem_cons.mpr ⟨fun _ => cw_X12_findsPatience, List.forall_mem_cons.mpr ⟨fun _ => cw_X12_draw, List.forall_mem_cons.mpr ⟨fun _ => cw_X12_beginsTurn, List.forall_mem_cons.mpr ⟨fun _ => cw_X12_longOf, List.forall_mem_cons.mpr ⟨fun _ => cw_X12_talliesAll, List.forall_mem_cons.mpr ⟨fun _ => cw_X12_keepsNow, List.forall_mem_cons.mpr ⟨fun _ => cw_X12_speak, List.forall_mem_cons.mpr ⟨fun _ => cw_X12_hush, List.forall_mem_cons.mpr ⟨fun _ => cw_X12_turnGoingOn, List.forall_mem_cons.mpr ⟨fun _ => cw_X12_yes, List.forall_mem_cons.mpr ⟨fun _ => cw_X12_heardOut, List.forall_mem_cons.mpr ⟨fun _ => cw_X12_played, List.forall_mem_cons.mpr ⟨fun _ => cw_X12_speak, List.forall_mem_cons.mpr ⟨fun _ => cw_X12_hush, List.forall_mem_cons.mpr ⟨fun _ => cw_X12_yes, List.forall_mem_cons.mpr ⟨fun _ => cw_X12_go, List.forall_mem_cons.mpr ⟨fun _ => cw_X12_delay, List.forall_mem_cons.mpr ⟨fun _ => cw_X12_rule, List.forall_mem_cons.mpr ⟨fun _ => cw_X12_of, List.forall_mem_cons.mpr ⟨fun _ => cw_X12_countOf, List.forall_mem_cons.mpr ⟨fun _ => cw_X12_through, List.forall_mem_cons.mpr ⟨fun _ => cw_X12_turn, List.forall_mem_cons.mpr ⟨fun _ => cw_X12_said, List.forall_mem_cons.mpr ⟨fun _ => cw_X12_takenAt, List.forall_mem_cons.mpr ⟨fun _ => cw_X12_heardThen, List.forall_mem_cons.mpr ⟨fun _ => cw_X12_misjoined, List.forall_mem_cons.mpr ⟨fun _ => cw_X12_whose, List.forall_mem_cons.mpr ⟨fun _ => cw_X12_endedBy, fun _ h => absurd h List.not_mem_nil⟩⟩⟩⟩⟩⟩⟩⟩⟩⟩⟩⟩⟩⟩⟩⟩⟩⟩⟩⟩⟩⟩⟩⟩⟩⟩⟩⟩⟩⟩⟩⟩⟩⟩⟩⟩⟩⟩⟩⟩⟩⟩⟩⟩⟩⟩⟩⟩⟩⟩⟩⟩⟩⟩⟩⟩⟩⟩⟩⟩
set_option maxRecDepth 20000 in
theorem am_cwc6 : ∀ e ∈ am_mT6, e.2.2 ≠ 3 → Cond.code (m_y e.2.1) (m_c e.2.1) (m_l e.2.1) (m_r e.2.1) ∈ am_W := by
  exact List.forall_mem_cons.mpr ⟨fun _ => cw_X12_inLowest, List.forall_mem_cons.mpr ⟨fun _ => cw_X12_common, List.forall_mem_cons.mpr ⟨fun _ => cw_X12_first, List.forall_mem_cons.mpr ⟨fun _ => cw_X12_beganAt, List.forall_mem_cons.mpr ⟨fun _ => cw_X12_cold, List.forall_mem_cons.mpr ⟨fun _ => cw_X12_heardBegin, List.forall_mem_cons.mpr ⟨fun _ => cw_X12_hasBegun, List.forall_mem_cons.mpr ⟨fun _ => cw_X12_seems, List.forall_mem_cons.mpr ⟨fun _ => cw_X12_haste, List.forall_mem_cons.mpr ⟨fun _ => cw_X12_turnAt, List.forall_mem_cons.mpr ⟨fun _ => cw_X12_rules, List.forall_mem_cons.mpr ⟨fun _ => cw_X12_laysRule, List.forall_mem_cons.mpr ⟨fun _ => cw_X12_bestRule, List.forall_mem_cons.mpr ⟨fun _ => cw_X12_price, List.forall_mem_cons.mpr ⟨fun _ => cw_X12_pence, List.forall_mem_cons.mpr ⟨fun _ => cw_X12_penceOf, List.forall_mem_cons.mpr ⟨fun _ => cw_X12_forPence, List.forall_mem_cons.mpr ⟨fun _ => cw_X12_comes, List.forall_mem_cons.mpr ⟨fun _ => cw_X12_isLine, List.forall_mem_cons.mpr ⟨fun _ => cw_X12_comesOf, List.forall_mem_cons.mpr ⟨fun _ => cw_X12_laysFresh, List.forall_mem_cons.mpr ⟨fun _ => cw_X12_cameThrough, List.forall_mem_cons.mpr ⟨fun _ => cw_X12_apart, List.forall_mem_cons.mpr ⟨fun _ => cw_X12_drawn, List.forall_mem_cons.mpr ⟨fun _ => cw_X12_comeApart, List.forall_mem_cons.mpr ⟨fun _ => cw_X12_wide, List.forall_mem_cons.mpr ⟨fun _ => cw_X12_worth, List.forall_mem_cons.mpr ⟨fun _ => cw_X12_agree, List.forall_mem_cons.mpr ⟨fun _ => cw_X12_least, List.forall_mem_cons.mpr ⟨fun _ => cw_X12_heard, List.forall_mem_cons.mpr ⟨fun _ => cw_X12_span, List.forall_mem_cons.mpr ⟨fun _ => cw_X12_way, List.forall_mem_cons.mpr ⟨fun _ => cw_X12_refused, List.forall_mem_cons.mpr ⟨fun _ => cw_X12_image, List.forall_mem_cons.mpr ⟨fun _ => cw_X12_back, List.forall_mem_cons.mpr ⟨fun _ => cw_X12_about, fun _ h => absurd h List.not_mem_nil⟩⟩⟩⟩⟩⟩⟩⟩⟩⟩⟩⟩⟩⟩⟩⟩⟩⟩⟩⟩⟩⟩⟩⟩⟩⟩⟩⟩⟩⟩⟩⟩⟩⟩⟩⟩
theorem am_mCW : ∀ e ∈ am_mT, e.2.2 ≠ 3 → Cond.code (m_y e.2.1) (m_c e.2.1) (m_l e.2.1) (m_r e.2.1) ∈ am_W := by
  unfold am_mT
  exact List.forall_mem_append.mpr ⟨am_cwc0, List.forall_mem_append.mpr ⟨am_cwc1, List.forall_mem_append.mpr ⟨am_cwc2, List.forall_mem_append.mpr ⟨am_cwc3, List.forall_mem_append.mpr ⟨am_cwc4, List.forall_mem_append.mpr ⟨am_cwc5, am_cwc6⟩⟩⟩⟩⟩⟩
set_option maxRecDepth 20000 in
theorem am_mRNC : am_mT.all (fun e => !(decide (e.2.2 = 2 ∨ e.2.2 = 6)) || decide (m_r e.2.1 = none)) = true := by decide +kernel
theorem am_mRN : ∀ e ∈ am_mT, (e.2.2 = 2 ∨ e.2.2 = 6) → m_r e.2.1 = none := by
  intro e he hk
  have := List.all_eq_true.mp am_mRNC e he
  simpa [hk] using this
set_option maxRecDepth 20000 in
theorem am_mMC : am_mT.all (fun e => (!(decide (e.2.2 = 7)) || decide (m_y e.2.1 = Lib.Math.max.name)) && (!(decide (e.2.2 = 8)) || decide (m_y e.2.1 = Lib.Math.min.name)) && (!(decide (e.2.2 = 9)) || decide (m_y e.2.1 = Lib.MathLoose.max_long.x)) && (!(decide (e.2.2 = 10)) || decide (m_y e.2.1 = Lib.MathLoose.min_long.x))) = true := by decide +kernel
theorem cw_OI : Cond.code Lib.objectInit ⟨#[0xb1]⟩ 1 none ∈ am_W := am_in2 (c := 1) (j := 28) rfl rfl
theorem cw_mx : Cond.code Lib.Math.max.name Lib.Math.max.code 2 (some .int) ∈ am_W := am_in2 (c := 3) (j := 142) rfl rfl
theorem cw_mn : Cond.code Lib.Math.min.name Lib.Math.min.code 2 (some .int) ∈ am_W := am_in2 (c := 3) (j := 37) rfl rfl
theorem cw_mxl : Cond.code Lib.MathLoose.max_long.x Lib.MathLoose.max_long.code 4 (some .long) ∈ am_W := am_in2 (c := 3) (j := 157) rfl rfl
theorem cw_mnl : Cond.code Lib.MathLoose.min_long.x Lib.MathLoose.min_long.code 4 (some .long) ∈ am_W := am_in2 (c := 3) (j := 154) rfl rfl
