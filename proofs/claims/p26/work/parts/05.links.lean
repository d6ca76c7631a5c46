set_option maxRecDepth 100000 in
theorem uw0 : ∀ w ∈ u_ws RX0 TX0 6, w ∈ xU := by decide +kernel
set_option maxRecDepth 100000 in
theorem uw1 : ∀ w ∈ u_ws RX1 TX1 7, w ∈ xU := by decide +kernel
set_option maxRecDepth 100000 in
theorem uw2 : ∀ w ∈ u_ws RX2 TX2 5, w ∈ xU := by decide +kernel
set_option maxRecDepth 100000 in
theorem uw3 : ∀ w ∈ u_ws RX3 TX3 6, w ∈ xU := by decide +kernel
set_option maxRecDepth 100000 in
theorem uw4 : ∀ w ∈ u_ws RX4 TX4 5, w ∈ xU := by decide +kernel
set_option maxRecDepth 100000 in
theorem uw5 : ∀ w ∈ u_ws RX5 TX5 10, w ∈ xU := by decide +kernel
set_option maxRecDepth 100000 in
theorem uw6 : ∀ w ∈ u_ws RX6 TX6 5, w ∈ xU := by decide +kernel
set_option maxRecDepth 100000 in
theorem uw7 : ∀ w ∈ u_ws RX7 TX7 8, w ∈ xU := by decide +kernel
set_option maxRecDepth 100000 in
theorem uw8 : ∀ w ∈ u_ws RX8 TX8 5, w ∈ xU := by decide +kernel
set_option maxRecDepth 100000 in
theorem uw9 : ∀ w ∈ u_ws RX9 TX9 10, w ∈ xU := by decide +kernel
set_option maxRecDepth 100000 in
theorem uw10 : ∀ w ∈ u_ws RX10 TX10 46, w ∈ xU := by decide +kernel
theorem okJ6_bitCount_0f7a4 : x_ok fJ6_bitCount_0f7a4 1 := ⟨by decide +kernel, by decide +kernel, by decide +kernel, by decide, x_mem 14 u1 rfl rfl, x_mem 239 u3 rfl rfl⟩
theorem okX0_forgetOldest : x_ok fX0_forgetOldest 0 := ⟨by decide +kernel, by decide +kernel, by decide +kernel, by decide, x_mem 8 u1 rfl rfl, x_mem 211 u2 rfl rfl⟩
theorem okX0_init : x_ok fX0_init 0 := ⟨by decide +kernel, by decide +kernel, by decide +kernel, by decide, x_mem 8 u1 rfl rfl, x_mem 231 u1 rfl rfl⟩
theorem okX0_note : x_ok fX0_note 4 := ⟨by decide +kernel, by decide +kernel, by decide +kernel, by decide, x_mem 8 u1 rfl rfl, x_mem 207 u2 rfl rfl⟩
theorem okX1_becomes : x_ok fX1_becomes 2 := ⟨by decide +kernel, by decide +kernel, by decide +kernel, by decide, x_mem 7 u1 rfl rfl, x_mem 69 u4 rfl rfl⟩
theorem okX1_beside : x_ok fX1_beside 2 := ⟨by decide +kernel, by decide +kernel, by decide +kernel, by decide, x_mem 7 u1 rfl rfl, x_mem 100 u4 rfl rfl⟩
theorem okX1_draw : x_ok fX1_draw 0 := ⟨by decide +kernel, by decide +kernel, by decide +kernel, by decide, x_mem 7 u1 rfl rfl, x_mem 88 u4 rfl rfl⟩
theorem okX1_drop : x_ok fX1_drop 3 := ⟨by decide +kernel, by decide +kernel, by decide +kernel, by decide, x_mem 7 u1 rfl rfl, x_mem 93 u4 rfl rfl⟩
theorem okX1_howManyUp : x_ok fX1_howManyUp 0 := ⟨by decide +kernel, by decide +kernel, by decide +kernel, by decide, x_mem 7 u1 rfl rfl, x_mem 104 u4 rfl rfl⟩
theorem okX1_init : x_ok fX1_init 0 := ⟨by decide +kernel, by decide +kernel, by decide +kernel, by decide, x_mem 7 u1 rfl rfl, x_mem 196 u1 rfl rfl⟩
theorem okX1_knockFrom : x_ok fX1_knockFrom 2 := ⟨by decide +kernel, by decide +kernel, by decide +kernel, by decide, x_mem 7 u1 rfl rfl, x_mem 97 u4 rfl rfl⟩
theorem okX1_learnMinute : x_ok fX1_learnMinute 1 := ⟨by decide +kernel, by decide +kernel, by decide +kernel, by decide, x_mem 7 u1 rfl rfl, x_mem 133 u4 rfl rfl⟩
theorem okX1_longest : x_ok fX1_longest 0 := ⟨by decide +kernel, by decide +kernel, by decide +kernel, by decide, x_mem 7 u1 rfl rfl, x_mem 116 u4 rfl rfl⟩
theorem okX1_minutesAt : x_ok fX1_minutesAt 1 := ⟨by decide +kernel, by decide +kernel, by decide +kernel, by decide, x_mem 7 u1 rfl rfl, x_mem 136 u4 rfl rfl⟩
theorem okX1_play : x_ok fX1_play 2 := ⟨by decide +kernel, by decide +kernel, by decide +kernel, by decide, x_mem 7 u1 rfl rfl, x_mem 80 u4 rfl rfl⟩
theorem okX1_playMinute : x_ok fX1_playMinute 1 := ⟨by decide +kernel, by decide +kernel, by decide +kernel, by decide, x_mem 7 u1 rfl rfl, x_mem 84 u4 rfl rfl⟩
theorem okX10_above : x_ok fX10_above 1 := ⟨by decide +kernel, by decide +kernel, by decide +kernel, by decide, x_mem 11 u1 rfl rfl, x_mem 105 u7 rfl rfl⟩
theorem okX10_act : x_ok fX10_act 3 := ⟨by decide +kernel, by decide +kernel, by decide +kernel, by decide, x_mem 11 u1 rfl rfl, x_mem 39 u7 rfl rfl⟩
theorem okX10_adds : x_ok fX10_adds 3 := ⟨by decide +kernel, by decide +kernel, by decide +kernel, by decide, x_mem 11 u1 rfl rfl, x_mem 223 u5 rfl rfl⟩
theorem okX10_alone : x_ok fX10_alone 3 := ⟨by decide +kernel, by decide +kernel, by decide +kernel, by decide, x_mem 11 u1 rfl rfl, x_mem 9 u7 rfl rfl⟩
theorem okX10_asSort : x_ok fX10_asSort 2 := ⟨by decide +kernel, by decide +kernel, by decide +kernel, by decide, x_mem 11 u1 rfl rfl, x_mem 86 u7 rfl rfl⟩
theorem okX10_back : x_ok fX10_back 0 := ⟨by decide +kernel, by decide +kernel, by decide +kernel, by decide, x_mem 11 u1 rfl rfl, x_mem 31 u7 rfl rfl⟩
theorem okX10_beatFor : x_ok fX10_beatFor 1 := ⟨by decide +kernel, by decide +kernel, by decide +kernel, by decide, x_mem 11 u1 rfl rfl, x_mem 157 u6 rfl rfl⟩
theorem okX10_becomes : x_ok fX10_becomes 2 := ⟨by decide +kernel, by decide +kernel, by decide +kernel, by decide, x_mem 11 u1 rfl rfl, x_mem 4 u6 rfl rfl⟩
theorem okX10_becomesPace : x_ok fX10_becomesPace 2 := ⟨by decide +kernel, by decide +kernel, by decide +kernel, by decide, x_mem 11 u1 rfl rfl, x_mem 118 u6 rfl rfl⟩
theorem okX10_begins : x_ok fX10_begins 1 := ⟨by decide +kernel, by decide +kernel, by decide +kernel, by decide, x_mem 11 u1 rfl rfl, x_mem 51 u7 rfl rfl⟩
theorem okX10_begins1 : x_ok fX10_begins1 1 := ⟨by decide +kernel, by decide +kernel, by decide +kernel, by decide, x_mem 11 u1 rfl rfl, x_mem 84 u6 rfl rfl⟩
theorem okX10_begun : x_ok fX10_begun 3 := ⟨by decide +kernel, by decide +kernel, by decide +kernel, by decide, x_mem 11 u1 rfl rfl, x_mem 208 u6 rfl rfl⟩
theorem okX10_besideOf : x_ok fX10_besideOf 2 := ⟨by decide +kernel, by decide +kernel, by decide +kernel, by decide, x_mem 11 u1 rfl rfl, x_mem 237 u6 rfl rfl⟩
theorem okX10_bitsOf : x_ok fX10_bitsOf 1 := ⟨by decide +kernel, by decide +kernel, by decide +kernel, by decide, x_mem 11 u1 rfl rfl, x_mem 125 u6 rfl rfl⟩
theorem okX10_body : x_ok fX10_body 1 := ⟨by decide +kernel, by decide +kernel, by decide +kernel, by decide, x_mem 11 u1 rfl rfl, x_mem 35 u7 rfl rfl⟩
theorem okX10_both : x_ok fX10_both 0 := ⟨by decide +kernel, by decide +kernel, by decide +kernel, by decide, x_mem 11 u1 rfl rfl, x_mem 40 u6 rfl rfl⟩
theorem okX10_byteAt : x_ok fX10_byteAt 0 := ⟨by decide +kernel, by decide +kernel, by decide +kernel, by decide, x_mem 11 u1 rfl rfl, x_mem 60 u6 rfl rfl⟩
theorem okX10_compared : x_ok fX10_compared 0 := ⟨by decide +kernel, by decide +kernel, by decide +kernel, by decide, x_mem 11 u1 rfl rfl, x_mem 44 u6 rfl rfl⟩
theorem okX10_count : x_ok fX10_count 1 := ⟨by decide +kernel, by decide +kernel, by decide +kernel, by decide, x_mem 11 u1 rfl rfl, x_mem 109 u7 rfl rfl⟩
theorem okX10_draws : x_ok fX10_draws 0 := ⟨by decide +kernel, by decide +kernel, by decide +kernel, by decide, x_mem 11 u1 rfl rfl, x_mem 229 u6 rfl rfl⟩
theorem okX10_drops : x_ok fX10_drops 3 := ⟨by decide +kernel, by decide +kernel, by decide +kernel, by decide, x_mem 11 u1 rfl rfl, x_mem 234 u6 rfl rfl⟩
theorem okX10_either : x_ok fX10_either 0 := ⟨by decide +kernel, by decide +kernel, by decide +kernel, by decide, x_mem 11 u1 rfl rfl, x_mem 36 u6 rfl rfl⟩
theorem okX10_element : x_ok fX10_element 2 := ⟨by decide +kernel, by decide +kernel, by decide +kernel, by decide, x_mem 11 u1 rfl rfl, x_mem 90 u7 rfl rfl⟩
theorem okX10_fallOf : x_ok fX10_fallOf 1 := ⟨by decide +kernel, by decide +kernel, by decide +kernel, by decide, x_mem 11 u1 rfl rfl, x_mem 145 u6 rfl rfl⟩
theorem okX10_fallWith : x_ok fX10_fallWith 4 := ⟨by decide +kernel, by decide +kernel, by decide +kernel, by decide, x_mem 11 u1 rfl rfl, x_mem 183 u6 rfl rfl⟩
theorem okX10_falls : x_ok fX10_falls 1 := ⟨by decide +kernel, by decide +kernel, by decide +kernel, by decide, x_mem 11 u1 rfl rfl, x_mem 141 u6 rfl rfl⟩
theorem okX10_feed : x_ok fX10_feed 1 := ⟨by decide +kernel, by decide +kernel, by decide +kernel, by decide, x_mem 11 u1 rfl rfl, x_mem 23 u6 rfl rfl⟩
theorem okX10_field : x_ok fX10_field 2 := ⟨by decide +kernel, by decide +kernel, by decide +kernel, by decide, x_mem 11 u1 rfl rfl, x_mem 225 u6 rfl rfl⟩
theorem okX10_firstFalse : x_ok fX10_firstFalse 2 := ⟨by decide +kernel, by decide +kernel, by decide +kernel, by decide, x_mem 11 u1 rfl rfl, x_mem 204 u6 rfl rfl⟩
theorem okX10_gained : x_ok fX10_gained 3 := ⟨by decide +kernel, by decide +kernel, by decide +kernel, by decide, x_mem 11 u1 rfl rfl, x_mem 114 u6 rfl rfl⟩
theorem okX10_go : x_ok fX10_go 1 := ⟨by decide +kernel, by decide +kernel, by decide +kernel, by decide, x_mem 11 u1 rfl rfl, x_mem 75 u6 rfl rfl⟩
theorem okX10_held : x_ok fX10_held 1 := ⟨by decide +kernel, by decide +kernel, by decide +kernel, by decide, x_mem 11 u1 rfl rfl, x_mem 175 u6 rfl rfl⟩
theorem okX10_hoop : x_ok fX10_hoop 1 := ⟨by decide +kernel, by decide +kernel, by decide +kernel, by decide, x_mem 11 u1 rfl rfl, x_mem 213 u5 rfl rfl⟩
theorem okX10_hoops : x_ok fX10_hoops 3 := ⟨by decide +kernel, by decide +kernel, by decide +kernel, by decide, x_mem 11 u1 rfl rfl, x_mem 227 u5 rfl rfl⟩
theorem okX10_image : x_ok fX10_image 0 := ⟨by decide +kernel, by decide +kernel, by decide +kernel, by decide, x_mem 11 u1 rfl rfl, x_mem 27 u7 rfl rfl⟩
theorem okX10_init : x_ok fX10_init 0 := ⟨by decide +kernel, by decide +kernel, by decide +kernel, by decide, x_mem 11 u1 rfl rfl, x_mem 52 u5 rfl rfl⟩
theorem okX10_isBody : x_ok fX10_isBody 1 := ⟨by decide +kernel, by decide +kernel, by decide +kernel, by decide, x_mem 11 u1 rfl rfl, x_mem 43 u7 rfl rfl⟩
theorem okX10_isGirl : x_ok fX10_isGirl 1 := ⟨by decide +kernel, by decide +kernel, by decide +kernel, by decide, x_mem 11 u1 rfl rfl, x_mem 215 u6 rfl rfl⟩
theorem okX10_isHoop : x_ok fX10_isHoop 1 := ⟨by decide +kernel, by decide +kernel, by decide +kernel, by decide, x_mem 11 u1 rfl rfl, x_mem 0 u6 rfl rfl⟩
theorem okX10_isIn : x_ok fX10_isIn 2 := ⟨by decide +kernel, by decide +kernel, by decide +kernel, by decide, x_mem 11 u1 rfl rfl, x_mem 87 u6 rfl rfl⟩
theorem okX10_isOne : x_ok fX10_isOne 3 := ⟨by decide +kernel, by decide +kernel, by decide +kernel, by decide, x_mem 11 u1 rfl rfl, x_mem 217 u5 rfl rfl⟩
theorem okX10_isPush : x_ok fX10_isPush 1 := ⟨by decide +kernel, by decide +kernel, by decide +kernel, by decide, x_mem 11 u1 rfl rfl, x_mem 99 u6 rfl rfl⟩
theorem okX10_isShelf : x_ok fX10_isShelf 1 := ⟨by decide +kernel, by decide +kernel, by decide +kernel, by decide, x_mem 11 u1 rfl rfl, x_mem 230 u5 rfl rfl⟩
theorem okX10_judge : x_ok fX10_judge 2 := ⟨by decide +kernel, by decide +kernel, by decide +kernel, by decide, x_mem 11 u1 rfl rfl, x_mem 200 u6 rfl rfl⟩
theorem okX10_keep : x_ok fX10_keep 2 := ⟨by decide +kernel, by decide +kernel, by decide +kernel, by decide, x_mem 11 u1 rfl rfl, x_mem 71 u7 rfl rfl⟩
theorem okX10_kindOf : x_ok fX10_kindOf 1 := ⟨by decide +kernel, by decide +kernel, by decide +kernel, by decide, x_mem 11 u1 rfl rfl, x_mem 102 u7 rfl rfl⟩
theorem okX10_knocked : x_ok fX10_knocked 3 := ⟨by decide +kernel, by decide +kernel, by decide +kernel, by decide, x_mem 11 u1 rfl rfl, x_mem 1 u7 rfl rfl⟩
theorem okX10_last : x_ok fX10_last 2 := ⟨by decide +kernel, by decide +kernel, by decide +kernel, by decide, x_mem 11 u1 rfl rfl, x_mem 5 u7 rfl rfl⟩
theorem okX10_lasts : x_ok fX10_lasts 0 := ⟨by decide +kernel, by decide +kernel, by decide +kernel, by decide, x_mem 11 u1 rfl rfl, x_mem 149 u6 rfl rfl⟩
theorem okX10_lastsOf : x_ok fX10_lastsOf 1 := ⟨by decide +kernel, by decide +kernel, by decide +kernel, by decide, x_mem 11 u1 rfl rfl, x_mem 153 u6 rfl rfl⟩
theorem okX10_law : x_ok fX10_law 0 := ⟨by decide +kernel, by decide +kernel, by decide +kernel, by decide, x_mem 11 u1 rfl rfl, x_mem 28 u6 rfl rfl⟩
theorem okX10_lays : x_ok fX10_lays 2 := ⟨by decide +kernel, by decide +kernel, by decide +kernel, by decide, x_mem 11 u1 rfl rfl, x_mem 200 u5 rfl rfl⟩
theorem okX10_learn : x_ok fX10_learn 2 := ⟨by decide +kernel, by decide +kernel, by decide +kernel, by decide, x_mem 11 u1 rfl rfl, x_mem 15 u7 rfl rfl⟩
theorem okX10_leastPush : x_ok fX10_leastPush 1 := ⟨by decide +kernel, by decide +kernel, by decide +kernel, by decide, x_mem 11 u1 rfl rfl, x_mem 162 u6 rfl rfl⟩
theorem okX10_led : x_ok fX10_led 1 := ⟨by decide +kernel, by decide +kernel, by decide +kernel, by decide, x_mem 11 u1 rfl rfl, x_mem 133 u6 rfl rfl⟩
theorem okX10_left : x_ok fX10_left 3 := ⟨by decide +kernel, by decide +kernel, by decide +kernel, by decide, x_mem 11 u1 rfl rfl, x_mem 220 u6 rfl rfl⟩
theorem okX10_lift : x_ok fX10_lift 1 := ⟨by decide +kernel, by decide +kernel, by decide +kernel, by decide, x_mem 11 u1 rfl rfl, x_mem 129 u6 rfl rfl⟩
theorem okX10_lyingOf : x_ok fX10_lyingOf 1 := ⟨by decide +kernel, by decide +kernel, by decide +kernel, by decide, x_mem 11 u1 rfl rfl, x_mem 91 u6 rfl rfl⟩
theorem okX10_mend : x_ok fX10_mend 3 := ⟨by decide +kernel, by decide +kernel, by decide +kernel, by decide, x_mem 11 u1 rfl rfl, x_mem 235 u5 rfl rfl⟩
theorem okX10_mistake : x_ok fX10_mistake 2 := ⟨by decide +kernel, by decide +kernel, by decide +kernel, by decide, x_mem 11 u1 rfl rfl, x_mem 166 u6 rfl rfl⟩
theorem okX10_mistaken : x_ok fX10_mistaken 1 := ⟨by decide +kernel, by decide +kernel, by decide +kernel, by decide, x_mem 11 u1 rfl rfl, x_mem 171 u6 rfl rfl⟩
theorem okX10_music : x_ok fX10_music 1 := ⟨by decide +kernel, by decide +kernel, by decide +kernel, by decide, x_mem 11 u1 rfl rfl, x_mem 191 u6 rfl rfl⟩
theorem okX10_nameOf : x_ok fX10_nameOf 1 := ⟨by decide +kernel, by decide +kernel, by decide +kernel, by decide, x_mem 11 u1 rfl rfl, x_mem 71 u6 rfl rfl⟩
theorem okX10_needOf : x_ok fX10_needOf 1 := ⟨by decide +kernel, by decide +kernel, by decide +kernel, by decide, x_mem 11 u1 rfl rfl, x_mem 15 u6 rfl rfl⟩
theorem okX10_needsOf : x_ok fX10_needsOf 1 := ⟨by decide +kernel, by decide +kernel, by decide +kernel, by decide, x_mem 11 u1 rfl rfl, x_mem 19 u7 rfl rfl⟩
theorem okX10_of : x_ok fX10_of 2 := ⟨by decide +kernel, by decide +kernel, by decide +kernel, by decide, x_mem 11 u1 rfl rfl, x_mem 11 u6 rfl rfl⟩
theorem okX10_one : x_ok fX10_one 0 := ⟨by decide +kernel, by decide +kernel, by decide +kernel, by decide, x_mem 11 u1 rfl rfl, x_mem 56 u6 rfl rfl⟩
theorem okX10_product : x_ok fX10_product 0 := ⟨by decide +kernel, by decide +kernel, by decide +kernel, by decide, x_mem 11 u1 rfl rfl, x_mem 52 u6 rfl rfl⟩
theorem okX10_pushes : x_ok fX10_pushes 2 := ⟨by decide +kernel, by decide +kernel, by decide +kernel, by decide, x_mem 11 u1 rfl rfl, x_mem 107 u6 rfl rfl⟩
theorem okX10_pushesAs : x_ok fX10_pushesAs 2 := ⟨by decide +kernel, by decide +kernel, by decide +kernel, by decide, x_mem 11 u1 rfl rfl, x_mem 47 u7 rfl rfl⟩
theorem okX10_put : x_ok fX10_put 3 := ⟨by decide +kernel, by decide +kernel, by decide +kernel, by decide, x_mem 11 u1 rfl rfl, x_mem 79 u7 rfl rfl⟩
theorem okX10_redo : x_ok fX10_redo 0 := ⟨by decide +kernel, by decide +kernel, by decide +kernel, by decide, x_mem 11 u1 rfl rfl, x_mem 209 u5 rfl rfl⟩
theorem okX10_refusal : x_ok fX10_refusal 2 := ⟨by decide +kernel, by decide +kernel, by decide +kernel, by decide, x_mem 11 u1 rfl rfl, x_mem 83 u7 rfl rfl⟩
theorem okX10_rescue : x_ok fX10_rescue 2 := ⟨by decide +kernel, by decide +kernel, by decide +kernel, by decide, x_mem 11 u1 rfl rfl, x_mem 179 u6 rfl rfl⟩
theorem okX10_row : x_ok fX10_row 3 := ⟨by decide +kernel, by decide +kernel, by decide +kernel, by decide, x_mem 11 u1 rfl rfl, x_mem 75 u7 rfl rfl⟩
theorem okX10_rowIs : x_ok fX10_rowIs 1 := ⟨by decide +kernel, by decide +kernel, by decide +kernel, by decide, x_mem 11 u1 rfl rfl, x_mem 195 u6 rfl rfl⟩
theorem okX10_shift : x_ok fX10_shift 5 := ⟨by decide +kernel, by decide +kernel, by decide +kernel, by decide, x_mem 11 u1 rfl rfl, x_mem 94 u7 rfl rfl⟩
theorem okX10_sinksAs : x_ok fX10_sinksAs 2 := ⟨by decide +kernel, by decide +kernel, by decide +kernel, by decide, x_mem 11 u1 rfl rfl, x_mem 59 u7 rfl rfl⟩
theorem okX10_sizeOf : x_ok fX10_sizeOf 1 := ⟨by decide +kernel, by decide +kernel, by decide +kernel, by decide, x_mem 11 u1 rfl rfl, x_mem 110 u6 rfl rfl⟩
theorem okX10_skill : x_ok fX10_skill 2 := ⟨by decide +kernel, by decide +kernel, by decide +kernel, by decide, x_mem 11 u1 rfl rfl, x_mem 212 u6 rfl rfl⟩
theorem okX10_start : x_ok fX10_start 1 := ⟨by decide +kernel, by decide +kernel, by decide +kernel, by decide, x_mem 11 u1 rfl rfl, x_mem 187 u6 rfl rfl⟩
theorem okX10_sums : x_ok fX10_sums 0 := ⟨by decide +kernel, by decide +kernel, by decide +kernel, by decide, x_mem 11 u1 rfl rfl, x_mem 48 u6 rfl rfl⟩
theorem okX10_taken : x_ok fX10_taken 2 := ⟨by decide +kernel, by decide +kernel, by decide +kernel, by decide, x_mem 11 u1 rfl rfl, x_mem 98 u7 rfl rfl⟩
theorem okX10_takes : x_ok fX10_takes 1 := ⟨by decide +kernel, by decide +kernel, by decide +kernel, by decide, x_mem 11 u1 rfl rfl, x_mem 68 u6 rfl rfl⟩
theorem okX10_tellsAs : x_ok fX10_tellsAs 2 := ⟨by decide +kernel, by decide +kernel, by decide +kernel, by decide, x_mem 11 u1 rfl rfl, x_mem 63 u7 rfl rfl⟩
theorem okX10_then : x_ok fX10_then 3 := ⟨by decide +kernel, by decide +kernel, by decide +kernel, by decide, x_mem 11 u1 rfl rfl, x_mem 137 u6 rfl rfl⟩
theorem okX10_tickGoes : x_ok fX10_tickGoes 1 := ⟨by decide +kernel, by decide +kernel, by decide +kernel, by decide, x_mem 11 u1 rfl rfl, x_mem 95 u6 rfl rfl⟩
theorem okX10_till : x_ok fX10_till 2 := ⟨by decide +kernel, by decide +kernel, by decide +kernel, by decide, x_mem 11 u1 rfl rfl, x_mem 23 u7 rfl rfl⟩
theorem okX10_toOf : x_ok fX10_toOf 1 := ⟨by decide +kernel, by decide +kernel, by decide +kernel, by decide, x_mem 11 u1 rfl rfl, x_mem 103 u6 rfl rfl⟩
theorem okX10_trace : x_ok fX10_trace 1 := ⟨by decide +kernel, by decide +kernel, by decide +kernel, by decide, x_mem 11 u1 rfl rfl, x_mem 67 u7 rfl rfl⟩
theorem okX10_turns : x_ok fX10_turns 1 := ⟨by decide +kernel, by decide +kernel, by decide +kernel, by decide, x_mem 11 u1 rfl rfl, x_mem 122 u6 rfl rfl⟩
theorem okX10_turnsAs : x_ok fX10_turnsAs 2 := ⟨by decide +kernel, by decide +kernel, by decide +kernel, by decide, x_mem 11 u1 rfl rfl, x_mem 55 u7 rfl rfl⟩
theorem okX10_undo : x_ok fX10_undo 0 := ⟨by decide +kernel, by decide +kernel, by decide +kernel, by decide, x_mem 11 u1 rfl rfl, x_mem 196 u5 rfl rfl⟩
theorem okX10_upNow : x_ok fX10_upNow 0 := ⟨by decide +kernel, by decide +kernel, by decide +kernel, by decide, x_mem 11 u1 rfl rfl, x_mem 80 u6 rfl rfl⟩
theorem okX10_within : x_ok fX10_within 3 := ⟨by decide +kernel, by decide +kernel, by decide +kernel, by decide, x_mem 11 u1 rfl rfl, x_mem 205 u5 rfl rfl⟩
theorem okX10_workOut : x_ok fX10_workOut 2 := ⟨by decide +kernel, by decide +kernel, by decide +kernel, by decide, x_mem 11 u1 rfl rfl, x_mem 32 u6 rfl rfl⟩
theorem okX10_wrong : x_ok fX10_wrong 0 := ⟨by decide +kernel, by decide +kernel, by decide +kernel, by decide, x_mem 11 u1 rfl rfl, x_mem 64 u6 rfl rfl⟩
theorem okX2_become : x_ok fX2_become 2 := ⟨by decide +kernel, by decide +kernel, by decide +kernel, by decide, x_mem 5 u1 rfl rfl, x_mem 202 u2 rfl rfl⟩
theorem okX2_copy : x_ok fX2_copy 1 := ⟨by decide +kernel, by decide +kernel, by decide +kernel, by decide, x_mem 5 u1 rfl rfl, x_mem 177 u3 rfl rfl⟩
theorem okX2_copyWay : x_ok fX2_copyWay 1 := ⟨by decide +kernel, by decide +kernel, by decide +kernel, by decide, x_mem 5 u1 rfl rfl, x_mem 181 u3 rfl rfl⟩
theorem okX2_drop : x_ok fX2_drop 0 := ⟨by decide +kernel, by decide +kernel, by decide +kernel, by decide, x_mem 5 u1 rfl rfl, x_mem 14 u4 rfl rfl⟩
theorem okX2_farFrom : x_ok fX2_farFrom 1 := ⟨by decide +kernel, by decide +kernel, by decide +kernel, by decide, x_mem 5 u1 rfl rfl, x_mem 79 u3 rfl rfl⟩
theorem okX2_init : x_ok fX2_init 0 := ⟨by decide +kernel, by decide +kernel, by decide +kernel, by decide, x_mem 5 u1 rfl rfl, x_mem 88 u1 rfl rfl⟩
theorem okX2_lies : x_ok fX2_lies 0 := ⟨by decide +kernel, by decide +kernel, by decide +kernel, by decide, x_mem 5 u1 rfl rfl, x_mem 169 u2 rfl rfl⟩
theorem okX2_move : x_ok fX2_move 0 := ⟨by decide +kernel, by decide +kernel, by decide +kernel, by decide, x_mem 5 u1 rfl rfl, x_mem 132 u3 rfl rfl⟩
theorem okX2_need : x_ok fX2_need 0 := ⟨by decide +kernel, by decide +kernel, by decide +kernel, by decide, x_mem 5 u1 rfl rfl, x_mem 189 u2 rfl rfl⟩
theorem okX2_quicken : x_ok fX2_quicken 1 := ⟨by decide +kernel, by decide +kernel, by decide +kernel, by decide, x_mem 5 u1 rfl rfl, x_mem 122 u3 rfl rfl⟩
theorem okX2_raise : x_ok fX2_raise 0 := ⟨by decide +kernel, by decide +kernel, by decide +kernel, by decide, x_mem 5 u1 rfl rfl, x_mem 124 u2 rfl rfl⟩
theorem okX2_sankToLie : x_ok fX2_sankToLie 0 := ⟨by decide +kernel, by decide +kernel, by decide +kernel, by decide, x_mem 5 u1 rfl rfl, x_mem 143 u3 rfl rfl⟩
theorem okX2_speed : x_ok fX2_speed 0 := ⟨by decide +kernel, by decide +kernel, by decide +kernel, by decide, x_mem 5 u1 rfl rfl, x_mem 92 u3 rfl rfl⟩
theorem okX2_told : x_ok fX2_told 1 := ⟨by decide +kernel, by decide +kernel, by decide +kernel, by decide, x_mem 5 u1 rfl rfl, x_mem 185 u2 rfl rfl⟩
theorem okX3_add : x_ok fX3_add 2 := ⟨by decide +kernel, by decide +kernel, by decide +kernel, by decide, x_mem 2 u1 rfl rfl, x_mem 24 u3 rfl rfl⟩
theorem okX3_copy : x_ok fX3_copy 1 := ⟨by decide +kernel, by decide +kernel, by decide +kernel, by decide, x_mem 2 u1 rfl rfl, x_mem 43 u3 rfl rfl⟩
theorem okX3_init : x_ok fX3_init 0 := ⟨by decide +kernel, by decide +kernel, by decide +kernel, by decide, x_mem 2 u1 rfl rfl, x_mem 27 u1 rfl rfl⟩
theorem okX3_joined : x_ok fX3_joined 3 := ⟨by decide +kernel, by decide +kernel, by decide +kernel, by decide, x_mem 2 u1 rfl rfl, x_mem 118 u3 rfl rfl⟩
theorem okX3_more : x_ok fX3_more 3 := ⟨by decide +kernel, by decide +kernel, by decide +kernel, by decide, x_mem 2 u1 rfl rfl, x_mem 75 u3 rfl rfl⟩
theorem okX3_pile : x_ok fX3_pile 1 := ⟨by decide +kernel, by decide +kernel, by decide +kernel, by decide, x_mem 2 u1 rfl rfl, x_mem 103 u3 rfl rfl⟩
theorem okX3_unpile : x_ok fX3_unpile 0 := ⟨by decide +kernel, by decide +kernel, by decide +kernel, by decide, x_mem 2 u1 rfl rfl, x_mem 114 u3 rfl rfl⟩
theorem okX3_withoutText : x_ok fX3_withoutText 2 := ⟨by decide +kernel, by decide +kernel, by decide +kernel, by decide, x_mem 2 u1 rfl rfl, x_mem 88 u3 rfl rfl⟩
theorem okX3_worth : x_ok fX3_worth 0 := ⟨by decide +kernel, by decide +kernel, by decide +kernel, by decide, x_mem 2 u1 rfl rfl, x_mem 99 u3 rfl rfl⟩
theorem okX4_init : x_ok fX4_init 0 := ⟨by decide +kernel, by decide +kernel, by decide +kernel, by decide, x_mem 3 u1 rfl rfl, x_mem 55 u1 rfl rfl⟩
theorem okX4_isDigit : x_ok fX4_isDigit 1 := ⟨by decide +kernel, by decide +kernel, by decide +kernel, by decide, x_mem 3 u1 rfl rfl, x_mem 16 u3 rfl rfl⟩
theorem okX4_isJoin : x_ok fX4_isJoin 1 := ⟨by decide +kernel, by decide +kernel, by decide +kernel, by decide, x_mem 3 u1 rfl rfl, x_mem 39 u3 rfl rfl⟩
theorem okX4_nameOf : x_ok fX4_nameOf 1 := ⟨by decide +kernel, by decide +kernel, by decide +kernel, by decide, x_mem 3 u1 rfl rfl, x_mem 27 u3 rfl rfl⟩
theorem okX4_next : x_ok fX4_next 0 := ⟨by decide +kernel, by decide +kernel, by decide +kernel, by decide, x_mem 3 u1 rfl rfl, x_mem 13 u3 rfl rfl⟩
theorem okX4_readChain : x_ok fX4_readChain 2 := ⟨by decide +kernel, by decide +kernel, by decide +kernel, by decide, x_mem 3 u1 rfl rfl, x_mem 5 u3 rfl rfl⟩
theorem okX4_readLine : x_ok fX4_readLine 0 := ⟨by decide +kernel, by decide +kernel, by decide +kernel, by decide, x_mem 3 u1 rfl rfl, x_mem 1 u3 rfl rfl⟩
theorem okX4_readNumber : x_ok fX4_readNumber 0 := ⟨by decide +kernel, by decide +kernel, by decide +kernel, by decide, x_mem 3 u1 rfl rfl, x_mem 20 u3 rfl rfl⟩
theorem okX4_readOpened : x_ok fX4_readOpened 2 := ⟨by decide +kernel, by decide +kernel, by decide +kernel, by decide, x_mem 3 u1 rfl rfl, x_mem 31 u3 rfl rfl⟩
theorem okX4_readOperand : x_ok fX4_readOperand 1 := ⟨by decide +kernel, by decide +kernel, by decide +kernel, by decide, x_mem 3 u1 rfl rfl, x_mem 9 u3 rfl rfl⟩
theorem okX4_readText : x_ok fX4_readText 0 := ⟨by decide +kernel, by decide +kernel, by decide +kernel, by decide, x_mem 3 u1 rfl rfl, x_mem 237 u2 rfl rfl⟩
theorem okX4_takeIn : x_ok fX4_takeIn 1 := ⟨by decide +kernel, by decide +kernel, by decide +kernel, by decide, x_mem 3 u1 rfl rfl, x_mem 229 u2 rfl rfl⟩
theorem okX4_takes : x_ok fX4_takes 1 := ⟨by decide +kernel, by decide +kernel, by decide +kernel, by decide, x_mem 3 u1 rfl rfl, x_mem 35 u3 rfl rfl⟩
theorem okX5_addHoop : x_ok fX5_addHoop 3 := ⟨by decide +kernel, by decide +kernel, by decide +kernel, by decide, x_mem 4 u1 rfl rfl, x_mem 119 u2 rfl rfl⟩
theorem okX5_allHighest : x_ok fX5_allHighest 0 := ⟨by decide +kernel, by decide +kernel, by decide +kernel, by decide, x_mem 4 u1 rfl rfl, x_mem 232 u3 rfl rfl⟩
theorem okX5_allUp : x_ok fX5_allUp 1 := ⟨by decide +kernel, by decide +kernel, by decide +kernel, by decide, x_mem 4 u1 rfl rfl, x_mem 6 u4 rfl rfl⟩
theorem okX5_areCrossed : x_ok fX5_areCrossed 2 := ⟨by decide +kernel, by decide +kernel, by decide +kernel, by decide, x_mem 4 u1 rfl rfl, x_mem 139 u3 rfl rfl⟩
theorem okX5_copy : x_ok fX5_copy 1 := ⟨by decide +kernel, by decide +kernel, by decide +kernel, by decide, x_mem 4 u1 rfl rfl, x_mem 173 u3 rfl rfl⟩
theorem okX5_cross : x_ok fX5_cross 0 := ⟨by decide +kernel, by decide +kernel, by decide +kernel, by decide, x_mem 4 u1 rfl rfl, x_mem 136 u3 rfl rfl⟩
theorem okX5_goalInTurn : x_ok fX5_goalInTurn 0 := ⟨by decide +kernel, by decide +kernel, by decide +kernel, by decide, x_mem 4 u1 rfl rfl, x_mem 63 u3 rfl rfl⟩
theorem okX5_has : x_ok fX5_has 1 := ⟨by decide +kernel, by decide +kernel, by decide +kernel, by decide, x_mem 4 u1 rfl rfl, x_mem 162 u2 rfl rfl⟩
theorem okX5_init : x_ok fX5_init 1 := ⟨by decide +kernel, by decide +kernel, by decide +kernel, by decide, x_mem 4 u1 rfl rfl, x_mem 81 u1 rfl rfl⟩
theorem okX5_isFull : x_ok fX5_isFull 0 := ⟨by decide +kernel, by decide +kernel, by decide +kernel, by decide, x_mem 4 u1 rfl rfl, x_mem 115 u2 rfl rfl⟩
theorem okX5_isPushDue : x_ok fX5_isPushDue 0 := ⟨by decide +kernel, by decide +kernel, by decide +kernel, by decide, x_mem 4 u1 rfl rfl, x_mem 56 u3 rfl rfl⟩
theorem okX5_layAllBut : x_ok fX5_layAllBut 1 := ⟨by decide +kernel, by decide +kernel, by decide +kernel, by decide, x_mem 4 u1 rfl rfl, x_mem 10 u4 rfl rfl⟩
theorem okX5_layBack : x_ok fX5_layBack 1 := ⟨by decide +kernel, by decide +kernel, by decide +kernel, by decide, x_mem 4 u1 rfl rfl, x_mem 156 u4 rfl rfl⟩
theorem okX5_push : x_ok fX5_push 2 := ⟨by decide +kernel, by decide +kernel, by decide +kernel, by decide, x_mem 4 u1 rfl rfl, x_mem 70 u3 rfl rfl⟩
theorem okX5_settle : x_ok fX5_settle 0 := ⟨by decide +kernel, by decide +kernel, by decide +kernel, by decide, x_mem 4 u1 rfl rfl, x_mem 128 u3 rfl rfl⟩
theorem okX5_tick : x_ok fX5_tick 0 := ⟨by decide +kernel, by decide +kernel, by decide +kernel, by decide, x_mem 4 u1 rfl rfl, x_mem 52 u3 rfl rfl⟩
theorem okX5_upright : x_ok fX5_upright 0 := ⟨by decide +kernel, by decide +kernel, by decide +kernel, by decide, x_mem 4 u1 rfl rfl, x_mem 148 u3 rfl rfl⟩
theorem okX6_bytesRefusal : x_ok fX6_bytesRefusal 0 := ⟨by decide +kernel, by decide +kernel, by decide +kernel, by decide, x_mem 10 u1 rfl rfl, x_mem 38 u4 rfl rfl⟩
theorem okX6_gapAt : x_ok fX6_gapAt 1 := ⟨by decide +kernel, by decide +kernel, by decide +kernel, by decide, x_mem 10 u1 rfl rfl, x_mem 48 u4 rfl rfl⟩
theorem okX6_hasBytes : x_ok fX6_hasBytes 0 := ⟨by decide +kernel, by decide +kernel, by decide +kernel, by decide, x_mem 10 u1 rfl rfl, x_mem 139 u2 rfl rfl⟩
theorem okX6_hasStretch : x_ok fX6_hasStretch 2 := ⟨by decide +kernel, by decide +kernel, by decide +kernel, by decide, x_mem 10 u1 rfl rfl, x_mem 31 u5 rfl rfl⟩
theorem okX6_holdNothing : x_ok fX6_holdNothing 0 := ⟨by decide +kernel, by decide +kernel, by decide +kernel, by decide, x_mem 10 u1 rfl rfl, x_mem 231 u4 rfl rfl⟩
theorem okX6_holdRow : x_ok fX6_holdRow 2 := ⟨by decide +kernel, by decide +kernel, by decide +kernel, by decide, x_mem 10 u1 rfl rfl, x_mem 6 u5 rfl rfl⟩
theorem okX6_holdTurn : x_ok fX6_holdTurn 1 := ⟨by decide +kernel, by decide +kernel, by decide +kernel, by decide, x_mem 10 u1 rfl rfl, x_mem 235 u4 rfl rfl⟩
theorem okX6_init : x_ok fX6_init 0 := ⟨by decide +kernel, by decide +kernel, by decide +kernel, by decide, x_mem 10 u1 rfl rfl, x_mem 49 u2 rfl rfl⟩
theorem okX6_isEmpty : x_ok fX6_isEmpty 0 := ⟨by decide +kernel, by decide +kernel, by decide +kernel, by decide, x_mem 10 u1 rfl rfl, x_mem 135 u2 rfl rfl⟩
theorem okX6_isRow : x_ok fX6_isRow 0 := ⟨by decide +kernel, by decide +kernel, by decide +kernel, by decide, x_mem 10 u1 rfl rfl, x_mem 143 u2 rfl rfl⟩
theorem okX6_isSort : x_ok fX6_isSort 1 := ⟨by decide +kernel, by decide +kernel, by decide +kernel, by decide, x_mem 10 u1 rfl rfl, x_mem 2 u5 rfl rfl⟩
theorem okX6_isTurn : x_ok fX6_isTurn 0 := ⟨by decide +kernel, by decide +kernel, by decide +kernel, by decide, x_mem 10 u1 rfl rfl, x_mem 40 u5 rfl rfl⟩
theorem okX6_lay : x_ok fX6_lay 2 := ⟨by decide +kernel, by decide +kernel, by decide +kernel, by decide, x_mem 10 u1 rfl rfl, x_mem 18 u5 rfl rfl⟩
theorem okX6_placeRefusal : x_ok fX6_placeRefusal 1 := ⟨by decide +kernel, by decide +kernel, by decide +kernel, by decide, x_mem 10 u1 rfl rfl, x_mem 14 u5 rfl rfl⟩
theorem okX7_addPush : x_ok fX7_addPush 3 := ⟨by decide +kernel, by decide +kernel, by decide +kernel, by decide, x_mem 6 u1 rfl rfl, x_mem 22 u4 rfl rfl⟩
theorem okX7_begin : x_ok fX7_begin 0 := ⟨by decide +kernel, by decide +kernel, by decide +kernel, by decide, x_mem 6 u1 rfl rfl, x_mem 169 u3 rfl rfl⟩
theorem okX7_behind : x_ok fX7_behind 2 := ⟨by decide +kernel, by decide +kernel, by decide +kernel, by decide, x_mem 6 u1 rfl rfl, x_mem 165 u3 rfl rfl⟩
theorem okX7_caughtAgain : x_ok fX7_caughtAgain 0 := ⟨by decide +kernel, by decide +kernel, by decide +kernel, by decide, x_mem 6 u1 rfl rfl, x_mem 228 u3 rfl rfl⟩
theorem okX7_fallOf : x_ok fX7_fallOf 1 := ⟨by decide +kernel, by decide +kernel, by decide +kernel, by decide, x_mem 6 u1 rfl rfl, x_mem 198 u3 rfl rfl⟩
theorem okX7_firstUnlike : x_ok fX7_firstUnlike 2 := ⟨by decide +kernel, by decide +kernel, by decide +kernel, by decide, x_mem 6 u1 rfl rfl, x_mem 57 u4 rfl rfl⟩
theorem okX7_init : x_ok fX7_init 2 := ⟨by decide +kernel, by decide +kernel, by decide +kernel, by decide, x_mem 6 u1 rfl rfl, x_mem 164 u1 rfl rfl⟩
theorem okX7_isUpBehind : x_ok fX7_isUpBehind 2 := ⟨by decide +kernel, by decide +kernel, by decide +kernel, by decide, x_mem 6 u1 rfl rfl, x_mem 26 u4 rfl rfl⟩
theorem okX7_lasting : x_ok fX7_lasting 0 := ⟨by decide +kernel, by decide +kernel, by decide +kernel, by decide, x_mem 6 u1 rfl rfl, x_mem 207 u3 rfl rfl⟩
theorem okX7_lastingBy : x_ok fX7_lastingBy 1 := ⟨by decide +kernel, by decide +kernel, by decide +kernel, by decide, x_mem 6 u1 rfl rfl, x_mem 44 u4 rfl rfl⟩
theorem okX7_leaveOut : x_ok fX7_leaveOut 1 := ⟨by decide +kernel, by decide +kernel, by decide +kernel, by decide, x_mem 6 u1 rfl rfl, x_mem 224 u3 rfl rfl⟩
theorem okX7_step : x_ok fX7_step 0 := ⟨by decide +kernel, by decide +kernel, by decide +kernel, by decide, x_mem 6 u1 rfl rfl, x_mem 185 u3 rfl rfl⟩
theorem okX8_above : x_ok fX8_above 4 := ⟨by decide +kernel, by decide +kernel, by decide +kernel, by decide, x_mem 9 u1 rfl rfl, x_mem 217 u4 rfl rfl⟩
theorem okX8_addBody : x_ok fX8_addBody 1 := ⟨by decide +kernel, by decide +kernel, by decide +kernel, by decide, x_mem 9 u1 rfl rfl, x_mem 180 u4 rfl rfl⟩
theorem okX8_has : x_ok fX8_has 1 := ⟨by decide +kernel, by decide +kernel, by decide +kernel, by decide, x_mem 9 u1 rfl rfl, x_mem 189 u4 rfl rfl⟩
theorem okX8_init : x_ok fX8_init 0 := ⟨by decide +kernel, by decide +kernel, by decide +kernel, by decide, x_mem 9 u1 rfl rfl, x_mem 22 u2 rfl rfl⟩
theorem okX8_isFull : x_ok fX8_isFull 0 := ⟨by decide +kernel, by decide +kernel, by decide +kernel, by decide, x_mem 9 u1 rfl rfl, x_mem 176 u4 rfl rfl⟩
theorem okX8_isUnder : x_ok fX8_isUnder 2 := ⟨by decide +kernel, by decide +kernel, by decide +kernel, by decide, x_mem 9 u1 rfl rfl, x_mem 43 u5 rfl rfl⟩
theorem okX8_note : x_ok fX8_note 1 := ⟨by decide +kernel, by decide +kernel, by decide +kernel, by decide, x_mem 9 u1 rfl rfl, x_mem 213 u4 rfl rfl⟩
theorem okX8_own : x_ok fX8_own 3 := ⟨by decide +kernel, by decide +kernel, by decide +kernel, by decide, x_mem 9 u1 rfl rfl, x_mem 197 u4 rfl rfl⟩
theorem okX8_perform : x_ok fX8_perform 3 := ⟨by decide +kernel, by decide +kernel, by decide +kernel, by decide, x_mem 9 u1 rfl rfl, x_mem 193 u4 rfl rfl⟩
theorem okX8_run : x_ok fX8_run 4 := ⟨by decide +kernel, by decide +kernel, by decide +kernel, by decide, x_mem 9 u1 rfl rfl, x_mem 209 u4 rfl rfl⟩
theorem okX8_runFrom : x_ok fX8_runFrom 4 := ⟨by decide +kernel, by decide +kernel, by decide +kernel, by decide, x_mem 9 u1 rfl rfl, x_mem 202 u4 rfl rfl⟩
theorem okX9_act : x_ok fX9_act 3 := ⟨by decide +kernel, by decide +kernel, by decide +kernel, by decide, x_mem 1 u1 rfl rfl, x_mem 185 u4 rfl rfl⟩
theorem okX9_alone : x_ok fX9_alone 3 := ⟨by decide +kernel, by decide +kernel, by decide +kernel, by decide, x_mem 1 u1 rfl rfl, x_mem 120 u4 rfl rfl⟩
theorem okX9_back : x_ok fX9_back 0 := ⟨by decide +kernel, by decide +kernel, by decide +kernel, by decide, x_mem 1 u1 rfl rfl, x_mem 152 u4 rfl rfl⟩
theorem okX9_beatFor : x_ok fX9_beatFor 1 := ⟨by decide +kernel, by decide +kernel, by decide +kernel, by decide, x_mem 1 u1 rfl rfl, x_mem 212 u3 rfl rfl⟩
theorem okX9_begun : x_ok fX9_begun 3 := ⟨by decide +kernel, by decide +kernel, by decide +kernel, by decide, x_mem 1 u1 rfl rfl, x_mem 61 u4 rfl rfl⟩
theorem okX9_body : x_ok fX9_body 1 := ⟨by decide +kernel, by decide +kernel, by decide +kernel, by decide, x_mem 1 u1 rfl rfl, x_mem 169 u4 rfl rfl⟩
theorem okX9_canBecome : x_ok fX9_canBecome 3 := ⟨by decide +kernel, by decide +kernel, by decide +kernel, by decide, x_mem 1 u1 rfl rfl, x_mem 158 u2 rfl rfl⟩
theorem okX9_count : x_ok fX9_count 1 := ⟨by decide +kernel, by decide +kernel, by decide +kernel, by decide, x_mem 1 u1 rfl rfl, x_mem 47 u5 rfl rfl⟩
theorem okX9_element : x_ok fX9_element 2 := ⟨by decide +kernel, by decide +kernel, by decide +kernel, by decide, x_mem 1 u1 rfl rfl, x_mem 22 u5 rfl rfl⟩
theorem okX9_falls : x_ok fX9_falls 1 := ⟨by decide +kernel, by decide +kernel, by decide +kernel, by decide, x_mem 1 u1 rfl rfl, x_mem 193 u3 rfl rfl⟩
theorem okX9_feed : x_ok fX9_feed 1 := ⟨by decide +kernel, by decide +kernel, by decide +kernel, by decide, x_mem 1 u1 rfl rfl, x_mem 225 u2 rfl rfl⟩
theorem okX9_go : x_ok fX9_go 1 := ⟨by decide +kernel, by decide +kernel, by decide +kernel, by decide, x_mem 1 u1 rfl rfl, x_mem 48 u3 rfl rfl⟩
theorem okX9_goalOf : x_ok fX9_goalOf 1 := ⟨by decide +kernel, by decide +kernel, by decide +kernel, by decide, x_mem 1 u1 rfl rfl, x_mem 66 u3 rfl rfl⟩
theorem okX9_greatestDivisor : x_ok fX9_greatestDivisor 2 := ⟨by decide +kernel, by decide +kernel, by decide +kernel, by decide, x_mem 1 u1 rfl rfl, x_mem 124 u4 rfl rfl⟩
theorem okX9_held : x_ok fX9_held 1 := ⟨by decide +kernel, by decide +kernel, by decide +kernel, by decide, x_mem 1 u1 rfl rfl, x_mem 236 u3 rfl rfl⟩
theorem okX9_hoop : x_ok fX9_hoop 1 := ⟨by decide +kernel, by decide +kernel, by decide +kernel, by decide, x_mem 1 u1 rfl rfl, x_mem 108 u2 rfl rfl⟩
theorem okX9_hoopCame : x_ok fX9_hoopCame 2 := ⟨by decide +kernel, by decide +kernel, by decide +kernel, by decide, x_mem 1 u1 rfl rfl, x_mem 147 u2 rfl rfl⟩
theorem okX9_hoopCanBecome : x_ok fX9_hoopCanBecome 3 := ⟨by decide +kernel, by decide +kernel, by decide +kernel, by decide, x_mem 1 u1 rfl rfl, x_mem 165 u2 rfl rfl⟩
theorem okX9_hoops : x_ok fX9_hoops 3 := ⟨by decide +kernel, by decide +kernel, by decide +kernel, by decide, x_mem 1 u1 rfl rfl, x_mem 128 u2 rfl rfl⟩
theorem okX9_image : x_ok fX9_image 0 := ⟨by decide +kernel, by decide +kernel, by decide +kernel, by decide, x_mem 1 u1 rfl rfl, x_mem 147 u4 rfl rfl⟩
theorem okX9_init : x_ok fX9_init 0 := ⟨by decide +kernel, by decide +kernel, by decide +kernel, by decide, x_mem 1 u1 rfl rfl, x_mem 19 u1 rfl rfl⟩
theorem okX9_isGirl : x_ok fX9_isGirl 1 := ⟨by decide +kernel, by decide +kernel, by decide +kernel, by decide, x_mem 1 u1 rfl rfl, x_mem 221 u2 rfl rfl⟩
theorem okX9_isKind : x_ok fX9_isKind 1 := ⟨by decide +kernel, by decide +kernel, by decide +kernel, by decide, x_mem 1 u1 rfl rfl, x_mem 172 u4 rfl rfl⟩
theorem okX9_isMinutes : x_ok fX9_isMinutes 1 := ⟨by decide +kernel, by decide +kernel, by decide +kernel, by decide, x_mem 1 u1 rfl rfl, x_mem 76 u4 rfl rfl⟩
theorem okX9_isPace : x_ok fX9_isPace 1 := ⟨by decide +kernel, by decide +kernel, by decide +kernel, by decide, x_mem 1 u1 rfl rfl, x_mem 150 u2 rfl rfl⟩
theorem okX9_isShelf : x_ok fX9_isShelf 1 := ⟨by decide +kernel, by decide +kernel, by decide +kernel, by decide, x_mem 1 u1 rfl rfl, x_mem 131 u2 rfl rfl⟩
theorem okX9_isSkill : x_ok fX9_isSkill 1 := ⟨by decide +kernel, by decide +kernel, by decide +kernel, by decide, x_mem 1 u1 rfl rfl, x_mem 176 u2 rfl rfl⟩
theorem okX9_isWeight : x_ok fX9_isWeight 1 := ⟨by decide +kernel, by decide +kernel, by decide +kernel, by decide, x_mem 1 u1 rfl rfl, x_mem 111 u2 rfl rfl⟩
theorem okX9_judge : x_ok fX9_judge 2 := ⟨by decide +kernel, by decide +kernel, by decide +kernel, by decide, x_mem 1 u1 rfl rfl, x_mem 53 u4 rfl rfl⟩
theorem okX9_keep : x_ok fX9_keep 2 := ⟨by decide +kernel, by decide +kernel, by decide +kernel, by decide, x_mem 1 u1 rfl rfl, x_mem 227 u4 rfl rfl⟩
theorem okX9_knocked : x_ok fX9_knocked 3 := ⟨by decide +kernel, by decide +kernel, by decide +kernel, by decide, x_mem 1 u1 rfl rfl, x_mem 108 u4 rfl rfl⟩
theorem okX9_last : x_ok fX9_last 2 := ⟨by decide +kernel, by decide +kernel, by decide +kernel, by decide, x_mem 1 u1 rfl rfl, x_mem 112 u4 rfl rfl⟩
theorem okX9_lasts : x_ok fX9_lasts 0 := ⟨by decide +kernel, by decide +kernel, by decide +kernel, by decide, x_mem 1 u1 rfl rfl, x_mem 203 u3 rfl rfl⟩
theorem okX9_law : x_ok fX9_law 0 := ⟨by decide +kernel, by decide +kernel, by decide +kernel, by decide, x_mem 1 u1 rfl rfl, x_mem 233 u2 rfl rfl⟩
theorem okX9_lay : x_ok fX9_lay 3 := ⟨by decide +kernel, by decide +kernel, by decide +kernel, by decide, x_mem 1 u1 rfl rfl, x_mem 198 u2 rfl rfl⟩
theorem okX9_learn : x_ok fX9_learn 2 := ⟨by decide +kernel, by decide +kernel, by decide +kernel, by decide, x_mem 1 u1 rfl rfl, x_mem 129 u4 rfl rfl⟩
theorem okX9_leastPush : x_ok fX9_leastPush 1 := ⟨by decide +kernel, by decide +kernel, by decide +kernel, by decide, x_mem 1 u1 rfl rfl, x_mem 216 u3 rfl rfl⟩
theorem okX9_led : x_ok fX9_led 1 := ⟨by decide +kernel, by decide +kernel, by decide +kernel, by decide, x_mem 1 u1 rfl rfl, x_mem 157 u3 rfl rfl⟩
theorem okX9_left : x_ok fX9_left 3 := ⟨by decide +kernel, by decide +kernel, by decide +kernel, by decide, x_mem 1 u1 rfl rfl, x_mem 73 u4 rfl rfl⟩
theorem okX9_lift : x_ok fX9_lift 1 := ⟨by decide +kernel, by decide +kernel, by decide +kernel, by decide, x_mem 1 u1 rfl rfl, x_mem 152 u3 rfl rfl⟩
theorem okX9_mend : x_ok fX9_mend 3 := ⟨by decide +kernel, by decide +kernel, by decide +kernel, by decide, x_mem 1 u1 rfl rfl, x_mem 154 u2 rfl rfl⟩
theorem okX9_mistake : x_ok fX9_mistake 2 := ⟨by decide +kernel, by decide +kernel, by decide +kernel, by decide, x_mem 1 u1 rfl rfl, x_mem 220 u3 rfl rfl⟩
theorem okX9_music : x_ok fX9_music 1 := ⟨by decide +kernel, by decide +kernel, by decide +kernel, by decide, x_mem 1 u1 rfl rfl, x_mem 34 u4 rfl rfl⟩
theorem okX9_of : x_ok fX9_of 2 := ⟨by decide +kernel, by decide +kernel, by decide +kernel, by decide, x_mem 1 u1 rfl rfl, x_mem 218 u2 rfl rfl⟩
theorem okX9_put : x_ok fX9_put 3 := ⟨by decide +kernel, by decide +kernel, by decide +kernel, by decide, x_mem 1 u1 rfl rfl, x_mem 10 u5 rfl rfl⟩
theorem okX9_redo : x_ok fX9_redo 0 := ⟨by decide +kernel, by decide +kernel, by decide +kernel, by decide, x_mem 1 u1 rfl rfl, x_mem 165 u4 rfl rfl⟩
theorem okX9_rescue : x_ok fX9_rescue 2 := ⟨by decide +kernel, by decide +kernel, by decide +kernel, by decide, x_mem 1 u1 rfl rfl, x_mem 18 u4 rfl rfl⟩
theorem okX9_rest : x_ok fX9_rest 2 := ⟨by decide +kernel, by decide +kernel, by decide +kernel, by decide, x_mem 1 u1 rfl rfl, x_mem 59 u3 rfl rfl⟩
theorem okX9_row : x_ok fX9_row 3 := ⟨by decide +kernel, by decide +kernel, by decide +kernel, by decide, x_mem 1 u1 rfl rfl, x_mem 239 u4 rfl rfl⟩
theorem okX9_settingCanBecome : x_ok fX9_settingCanBecome 2 := ⟨by decide +kernel, by decide +kernel, by decide +kernel, by decide, x_mem 1 u1 rfl rfl, x_mem 173 u2 rfl rfl⟩
theorem okX9_settingOf : x_ok fX9_settingOf 1 := ⟨by decide +kernel, by decide +kernel, by decide +kernel, by decide, x_mem 1 u1 rfl rfl, x_mem 194 u2 rfl rfl⟩
theorem okX9_shift : x_ok fX9_shift 5 := ⟨by decide +kernel, by decide +kernel, by decide +kernel, by decide, x_mem 1 u1 rfl rfl, x_mem 26 u5 rfl rfl⟩
theorem okX9_skill : x_ok fX9_skill 2 := ⟨by decide +kernel, by decide +kernel, by decide +kernel, by decide, x_mem 1 u1 rfl rfl, x_mem 65 u4 rfl rfl⟩
theorem okX9_start : x_ok fX9_start 1 := ⟨by decide +kernel, by decide +kernel, by decide +kernel, by decide, x_mem 1 u1 rfl rfl, x_mem 30 u4 rfl rfl⟩
theorem okX9_taken : x_ok fX9_taken 2 := ⟨by decide +kernel, by decide +kernel, by decide +kernel, by decide, x_mem 1 u1 rfl rfl, x_mem 36 u5 rfl rfl⟩
theorem okX9_then : x_ok fX9_then 3 := ⟨by decide +kernel, by decide +kernel, by decide +kernel, by decide, x_mem 1 u1 rfl rfl, x_mem 161 u3 rfl rfl⟩
theorem okX9_till : x_ok fX9_till 2 := ⟨by decide +kernel, by decide +kernel, by decide +kernel, by decide, x_mem 1 u1 rfl rfl, x_mem 142 u4 rfl rfl⟩
theorem okX9_trace : x_ok fX9_trace 1 := ⟨by decide +kernel, by decide +kernel, by decide +kernel, by decide, x_mem 1 u1 rfl rfl, x_mem 223 u4 rfl rfl⟩
theorem okX9_undo : x_ok fX9_undo 0 := ⟨by decide +kernel, by decide +kernel, by decide +kernel, by decide, x_mem 1 u1 rfl rfl, x_mem 161 u4 rfl rfl⟩
theorem okX9_valueOf : x_ok fX9_valueOf 2 := ⟨by decide +kernel, by decide +kernel, by decide +kernel, by decide, x_mem 1 u1 rfl rfl, x_mem 181 u2 rfl rfl⟩
theorem okX9_within : x_ok fX9_within 3 := ⟨by decide +kernel, by decide +kernel, by decide +kernel, by decide, x_mem 1 u1 rfl rfl, x_mem 106 u3 rfl rfl⟩
theorem flX9_10 : x_FL RX9 10 9 0 := ⟨RX9, TX9, 10, rfl, by decide, uw9, x_mem 74 u2 rfl rfl⟩
theorem fpX9_10 : x_FP RX9 10 9 0 true (.object "HoopWaist$Law") := ⟨RX9, TX9, 10, tyX9, rfl, by decide, uw9, x_mem 74 u2 rfl rfl, tyX9_ok, nmX9, rfl, by decide +kernel, fun _ => rfl⟩
theorem flX9_19 : x_FL RX9 19 9 1 := ⟨RX9, TX9, 10, rfl, by decide, uw9, x_mem 75 u2 rfl rfl⟩
theorem fpX9_19 : x_FP RX9 19 9 1 true (.object "HoopWaist$Reader") := ⟨RX9, TX9, 10, tyX9, rfl, by decide, uw9, x_mem 75 u2 rfl rfl, tyX9_ok, nmX9, rfl, by decide +kernel, fun _ => rfl⟩
theorem flX9_28 : x_FL RX9 28 9 2 := ⟨RX9, TX9, 10, rfl, by decide, uw9, x_mem 76 u2 rfl rfl⟩
theorem fpX9_28 : x_FP RX9 28 9 2 true (.object "HoopWaist$Ring") := ⟨RX9, TX9, 10, tyX9, rfl, by decide, uw9, x_mem 76 u2 rfl rfl, tyX9_ok, nmX9, rfl, by decide +kernel, fun _ => rfl⟩
theorem flX9_32 : x_FL RX9 32 9 3 := ⟨RX9, TX9, 10, rfl, by decide, uw9, x_mem 77 u2 rfl rfl⟩
theorem fpX9_32 : x_FP RX9 32 9 3 true (.object "HoopWaist$Ring") := ⟨RX9, TX9, 10, tyX9, rfl, by decide, uw9, x_mem 77 u2 rfl rfl, tyX9_ok, nmX9, rfl, by decide +kernel, fun _ => rfl⟩
theorem flX9_40 : x_FL RX9 40 9 4 := ⟨RX9, TX9, 10, rfl, by decide, uw9, x_mem 78 u2 rfl rfl⟩
theorem fpX9_40 : x_FP RX9 40 9 4 true (.object "HoopWaist$Thought") := ⟨RX9, TX9, 10, tyX9, rfl, by decide, uw9, x_mem 78 u2 rfl rfl, tyX9_ok, nmX9, rfl, by decide +kernel, fun _ => rfl⟩
theorem flX9_47 : x_FL RX9 47 9 5 := ⟨RX9, TX9, 10, rfl, by decide, uw9, x_mem 79 u2 rfl rfl⟩
theorem fpX9_47 : x_FP RX9 47 9 5 true (.object "HoopWaist$Field") := ⟨RX9, TX9, 10, tyX9, rfl, by decide, uw9, x_mem 79 u2 rfl rfl, tyX9_ok, nmX9, rfl, by decide +kernel, fun _ => rfl⟩
theorem flX9_54 : x_FL RX9 54 9 6 := ⟨RX9, TX9, 10, rfl, by decide, uw9, x_mem 80 u2 rfl rfl⟩
theorem fpX9_54 : x_FP RX9 54 9 6 true (.object "HoopWaist$Changes") := ⟨RX9, TX9, 10, tyX9, rfl, by decide, uw9, x_mem 80 u2 rfl rfl, tyX9_ok, nmX9, rfl, by decide +kernel, fun _ => rfl⟩
theorem flX9_61 : x_FL RX9 61 9 7 := ⟨RX9, TX9, 10, rfl, by decide, uw9, x_mem 81 u2 rfl rfl⟩
theorem fpX9_61 : x_FP RX9 61 9 7 true (.object "HoopWaist$Turns") := ⟨RX9, TX9, 10, tyX9, rfl, by decide, uw9, x_mem 81 u2 rfl rfl, tyX9_ok, nmX9, rfl, by decide +kernel, fun _ => rfl⟩
theorem flX9_67 : x_FL RX9 67 9 8 := ⟨RX9, TX9, 10, rfl, by decide, uw9, x_mem 82 u2 rfl rfl⟩
theorem fpX9_67 : x_FP RX9 67 9 8 true (.array (.object "HoopWaist$Shelf")) := ⟨RX9, TX9, 10, tyX9, rfl, by decide, uw9, x_mem 82 u2 rfl rfl, tyX9_ok, nmX9, rfl, by decide +kernel, fun _ => rfl⟩
theorem flX9_72 : x_FL RX9 72 9 9 := ⟨RX9, TX9, 10, rfl, by decide, uw9, x_mem 83 u2 rfl rfl⟩
theorem fpX9_72 : x_FP RX9 72 9 9 false .boolean := ⟨RX9, TX9, 10, tyX9, rfl, by decide, uw9, x_mem 83 u2 rfl rfl, tyX9_ok, nmX9, rfl, by decide +kernel, fun h => by cases h⟩
theorem flX9_121 : x_FL RX9 121 5 1 := ⟨RX5, TX5, 10, rfl, by decide, uw5, x_mem 120 u1 rfl rfl⟩
theorem flX9_137 : x_FL RX9 137 1 0 := ⟨RX1, TX1, 7, rfl, by decide, uw1, x_mem 199 u1 rfl rfl⟩
theorem flX9_141 : x_FL RX9 141 1 1 := ⟨RX1, TX1, 7, rfl, by decide, uw1, x_mem 201 u1 rfl rfl⟩
theorem flX9_147 : x_FL RX9 147 4 2 := ⟨RX4, TX4, 5, rfl, by decide, uw4, x_mem 63 u1 rfl rfl⟩
theorem fpX9_147 : x_FP RX9 147 4 2 false .int := ⟨RX4, TX4, 5, tyX4, rfl, by decide, uw4, x_mem 63 u1 rfl rfl, tyX4_ok, nmX4, rfl, by decide +kernel, fun h => by cases h⟩
theorem flX9_155 : x_FL RX9 155 4 1 := ⟨RX4, TX4, 5, rfl, by decide, uw4, x_mem 61 u1 rfl rfl⟩
theorem flX9_173 : x_FL RX9 173 5 8 := ⟨RX5, TX5, 10, rfl, by decide, uw5, x_mem 136 u1 rfl rfl⟩
theorem flX9_176 : x_FL RX9 176 5 9 := ⟨RX5, TX5, 10, rfl, by decide, uw5, x_mem 138 u1 rfl rfl⟩
theorem flX9_183 : x_FL RX9 183 2 2 := ⟨RX2, TX2, 5, rfl, by decide, uw2, x_mem 97 u1 rfl rfl⟩
theorem flX9_186 : x_FL RX9 186 2 3 := ⟨RX2, TX2, 5, rfl, by decide, uw2, x_mem 102 u1 rfl rfl⟩
theorem fpX9_186 : x_FP RX9 186 2 3 false .int := ⟨RX2, TX2, 5, tyX2, rfl, by decide, uw2, x_mem 102 u1 rfl rfl, tyX2_ok, nmX2, rfl, by decide +kernel, fun h => by cases h⟩
theorem flX9_189 : x_FL RX9 189 2 4 := ⟨RX2, TX2, 5, rfl, by decide, uw2, x_mem 106 u1 rfl rfl⟩
theorem flX9_201 : x_FL RX9 201 7 1 := ⟨RX7, TX7, 8, rfl, by decide, uw7, x_mem 168 u1 rfl rfl⟩
theorem flX9_202 : x_FL RX9 202 5 5 := ⟨RX5, TX5, 10, rfl, by decide, uw5, x_mem 129 u1 rfl rfl⟩
theorem fpX9_202 : x_FP RX9 202 5 5 false .int := ⟨RX5, TX5, 10, tyX5, rfl, by decide, uw5, x_mem 129 u1 rfl rfl, tyX5_ok, nmX5, rfl, by decide +kernel, fun h => by cases h⟩
theorem flX9_205 : x_FL RX9 205 5 6 := ⟨RX5, TX5, 10, rfl, by decide, uw5, x_mem 131 u1 rfl rfl⟩
theorem fpX9_205 : x_FP RX9 205 5 6 false .int := ⟨RX5, TX5, 10, tyX5, rfl, by decide, uw5, x_mem 131 u1 rfl rfl, tyX5_ok, nmX5, rfl, by decide +kernel, fun h => by cases h⟩
theorem flX9_208 : x_FL RX9 208 5 7 := ⟨RX5, TX5, 10, rfl, by decide, uw5, x_mem 134 u1 rfl rfl⟩
theorem fpX9_208 : x_FP RX9 208 5 7 false .int := ⟨RX5, TX5, 10, tyX5, rfl, by decide, uw5, x_mem 134 u1 rfl rfl, tyX5_ok, nmX5, rfl, by decide +kernel, fun h => by cases h⟩
theorem flX9_218 : x_FL RX9 218 5 2 := ⟨RX5, TX5, 10, rfl, by decide, uw5, x_mem 123 u1 rfl rfl⟩
theorem flX9_271 : x_FL RX9 271 1 2 := ⟨RX1, TX1, 7, rfl, by decide, uw1, x_mem 203 u1 rfl rfl⟩
theorem flX9_275 : x_FL RX9 275 1 3 := ⟨RX1, TX1, 7, rfl, by decide, uw1, x_mem 205 u1 rfl rfl⟩
theorem flX9_281 : x_FL RX9 281 1 4 := ⟨RX1, TX1, 7, rfl, by decide, uw1, x_mem 207 u1 rfl rfl⟩
theorem flX9_303 : x_FL RX9 303 5 3 := ⟨RX5, TX5, 10, rfl, by decide, uw5, x_mem 125 u1 rfl rfl⟩
theorem flX9_309 : x_FL RX9 309 0 4 := ⟨RX0, TX0, 6, rfl, by decide, uw0, x_mem 2 u2 rfl rfl⟩
theorem fpX9_309 : x_FP RX9 309 0 4 false .int := ⟨RX0, TX0, 6, tyX0, rfl, by decide, uw0, x_mem 2 u2 rfl rfl, tyX0_ok, nmX0, rfl, by decide +kernel, fun h => by cases h⟩
theorem flX9_312 : x_FL RX9 312 0 0 := ⟨RX0, TX0, 6, rfl, by decide, uw0, x_mem 234 u1 rfl rfl⟩
theorem flX9_315 : x_FL RX9 315 0 1 := ⟨RX0, TX0, 6, rfl, by decide, uw0, x_mem 236 u1 rfl rfl⟩
theorem flX9_318 : x_FL RX9 318 0 2 := ⟨RX0, TX0, 6, rfl, by decide, uw0, x_mem 238 u1 rfl rfl⟩
theorem flX9_321 : x_FL RX9 321 0 5 := ⟨RX0, TX0, 6, rfl, by decide, uw0, x_mem 4 u2 rfl rfl⟩
theorem flX9_324 : x_FL RX9 324 0 3 := ⟨RX0, TX0, 6, rfl, by decide, uw0, x_mem 0 u2 rfl rfl⟩
theorem flX9_334 : x_FL RX9 334 8 3 := ⟨RX8, TX8, 5, rfl, by decide, uw8, x_mem 31 u2 rfl rfl⟩
theorem fpX9_334 : x_FP RX9 334 8 3 false .int := ⟨RX8, TX8, 5, tyX8, rfl, by decide, uw8, x_mem 31 u2 rfl rfl, tyX8_ok, nmX8, rfl, by decide +kernel, fun h => by cases h⟩
theorem flX9_341 : x_FL RX9 341 8 1 := ⟨RX8, TX8, 5, rfl, by decide, uw8, x_mem 27 u2 rfl rfl⟩
theorem flX9_362 : x_FL RX9 362 6 4 := ⟨RX6, TX6, 5, rfl, by decide, uw6, x_mem 61 u2 rfl rfl⟩
theorem flX9_369 : x_FL RX9 369 6 2 := ⟨RX6, TX6, 5, rfl, by decide, uw6, x_mem 55 u2 rfl rfl⟩
theorem flX9_384 : x_FL RX9 384 6 1 := ⟨RX6, TX6, 5, rfl, by decide, uw6, x_mem 53 u2 rfl rfl⟩
theorem flX9_387 : x_FL RX9 387 8 0 := ⟨RX8, TX8, 5, rfl, by decide, uw8, x_mem 25 u2 rfl rfl⟩
theorem flX9_393 : x_FL RX9 393 8 2 := ⟨RX8, TX8, 5, rfl, by decide, uw8, x_mem 29 u2 rfl rfl⟩
theorem flX9_399 : x_FL RX9 399 6 3 := ⟨RX6, TX6, 5, rfl, by decide, uw6, x_mem 58 u2 rfl rfl⟩
theorem flX9_410 : x_FL RX9 410 5 4 := ⟨RX5, TX5, 10, rfl, by decide, uw5, x_mem 127 u1 rfl rfl⟩
theorem fpX9_410 : x_FP RX9 410 5 4 false .int := ⟨RX5, TX5, 10, tyX5, rfl, by decide, uw5, x_mem 127 u1 rfl rfl, tyX5_ok, nmX5, rfl, by decide +kernel, fun h => by cases h⟩
theorem flX9_413 : x_FL RX9 413 1 5 := ⟨RX1, TX1, 7, rfl, by decide, uw1, x_mem 209 u1 rfl rfl⟩
theorem fpX9_413 : x_FP RX9 413 1 5 false .int := ⟨RX1, TX1, 7, tyX1, rfl, by decide, uw1, x_mem 209 u1 rfl rfl, tyX1_ok, nmX1, rfl, by decide +kernel, fun h => by cases h⟩
theorem flX0_9 : x_FL RX0 9 0 0 := ⟨RX0, TX0, 6, rfl, by decide, uw0, x_mem 233 u1 rfl rfl⟩
theorem fpX0_9 : x_FP RX0 9 0 0 true (.array .int) := ⟨RX0, TX0, 6, tyX0, rfl, by decide, uw0, x_mem 233 u1 rfl rfl, tyX0_ok, nmX0, rfl, by decide +kernel, fun _ => rfl⟩
theorem flX0_13 : x_FL RX0 13 0 1 := ⟨RX0, TX0, 6, rfl, by decide, uw0, x_mem 235 u1 rfl rfl⟩
theorem fpX0_13 : x_FP RX0 13 0 1 true (.array .int) := ⟨RX0, TX0, 6, tyX0, rfl, by decide, uw0, x_mem 235 u1 rfl rfl, tyX0_ok, nmX0, rfl, by decide +kernel, fun _ => rfl⟩
theorem flX0_16 : x_FL RX0 16 0 2 := ⟨RX0, TX0, 6, rfl, by decide, uw0, x_mem 237 u1 rfl rfl⟩
theorem fpX0_16 : x_FP RX0 16 0 2 true (.array .int) := ⟨RX0, TX0, 6, tyX0, rfl, by decide, uw0, x_mem 237 u1 rfl rfl, tyX0_ok, nmX0, rfl, by decide +kernel, fun _ => rfl⟩
theorem flX0_19 : x_FL RX0 19 0 3 := ⟨RX0, TX0, 6, rfl, by decide, uw0, x_mem 239 u1 rfl rfl⟩
theorem fpX0_19 : x_FP RX0 19 0 3 true (.array .int) := ⟨RX0, TX0, 6, tyX0, rfl, by decide, uw0, x_mem 239 u1 rfl rfl, tyX0_ok, nmX0, rfl, by decide +kernel, fun _ => rfl⟩
theorem flX0_22 : x_FL RX0 22 0 4 := ⟨RX0, TX0, 6, rfl, by decide, uw0, x_mem 1 u2 rfl rfl⟩
theorem fpX0_22 : x_FP RX0 22 0 4 false .int := ⟨RX0, TX0, 6, tyX0, rfl, by decide, uw0, x_mem 1 u2 rfl rfl, tyX0_ok, nmX0, rfl, by decide +kernel, fun h => by cases h⟩
theorem fpX0_29 : x_FP RX0 29 0 5 false .int := ⟨RX0, TX0, 6, tyX0, rfl, by decide, uw0, x_mem 3 u2 rfl rfl, tyX0_ok, nmX0, rfl, by decide +kernel, fun h => by cases h⟩
theorem flX1_9 : x_FL RX1 9 1 0 := ⟨RX1, TX1, 7, rfl, by decide, uw1, x_mem 198 u1 rfl rfl⟩
theorem fpX1_9 : x_FP RX1 9 1 0 true (.array .int) := ⟨RX1, TX1, 7, tyX1, rfl, by decide, uw1, x_mem 198 u1 rfl rfl, tyX1_ok, nmX1, rfl, by decide +kernel, fun _ => rfl⟩
theorem flX1_15 : x_FL RX1 15 1 1 := ⟨RX1, TX1, 7, rfl, by decide, uw1, x_mem 200 u1 rfl rfl⟩
theorem fpX1_15 : x_FP RX1 15 1 1 true (.array .int) := ⟨RX1, TX1, 7, tyX1, rfl, by decide, uw1, x_mem 200 u1 rfl rfl, tyX1_ok, nmX1, rfl, by decide +kernel, fun _ => rfl⟩
theorem flX1_18 : x_FL RX1 18 1 2 := ⟨RX1, TX1, 7, rfl, by decide, uw1, x_mem 202 u1 rfl rfl⟩
theorem fpX1_18 : x_FP RX1 18 1 2 true (.array .boolean) := ⟨RX1, TX1, 7, tyX1, rfl, by decide, uw1, x_mem 202 u1 rfl rfl, tyX1_ok, nmX1, rfl, by decide +kernel, fun _ => rfl⟩
theorem flX1_22 : x_FL RX1 22 1 3 := ⟨RX1, TX1, 7, rfl, by decide, uw1, x_mem 204 u1 rfl rfl⟩
theorem fpX1_22 : x_FP RX1 22 1 3 true (.array .int) := ⟨RX1, TX1, 7, tyX1, rfl, by decide, uw1, x_mem 204 u1 rfl rfl, tyX1_ok, nmX1, rfl, by decide +kernel, fun _ => rfl⟩
theorem flX1_25 : x_FL RX1 25 1 4 := ⟨RX1, TX1, 7, rfl, by decide, uw1, x_mem 206 u1 rfl rfl⟩
theorem fpX1_25 : x_FP RX1 25 1 4 true (.array .int) := ⟨RX1, TX1, 7, tyX1, rfl, by decide, uw1, x_mem 206 u1 rfl rfl, tyX1_ok, nmX1, rfl, by decide +kernel, fun _ => rfl⟩
theorem flX1_28 : x_FL RX1 28 1 5 := ⟨RX1, TX1, 7, rfl, by decide, uw1, x_mem 208 u1 rfl rfl⟩
theorem fpX1_28 : x_FP RX1 28 1 5 false .int := ⟨RX1, TX1, 7, tyX1, rfl, by decide, uw1, x_mem 208 u1 rfl rfl, tyX1_ok, nmX1, rfl, by decide +kernel, fun h => by cases h⟩
theorem flX1_46 : x_FL RX1 46 1 6 := ⟨RX1, TX1, 7, rfl, by decide, uw1, x_mem 210 u1 rfl rfl⟩
theorem fpX1_46 : x_FP RX1 46 1 6 false .int := ⟨RX1, TX1, 7, tyX1, rfl, by decide, uw1, x_mem 210 u1 rfl rfl, tyX1_ok, nmX1, rfl, by decide +kernel, fun h => by cases h⟩
theorem flX2_9 : x_FL RX2 9 2 0 := ⟨RX2, TX2, 5, rfl, by decide, uw2, x_mem 90 u1 rfl rfl⟩
theorem fpX2_9 : x_FP RX2 9 2 0 false .int := ⟨RX2, TX2, 5, tyX2, rfl, by decide, uw2, x_mem 90 u1 rfl rfl, tyX2_ok, nmX2, rfl, by decide +kernel, fun h => by cases h⟩
theorem flX2_15 : x_FL RX2 15 2 1 := ⟨RX2, TX2, 5, rfl, by decide, uw2, x_mem 93 u1 rfl rfl⟩
theorem fpX2_15 : x_FP RX2 15 2 1 false .int := ⟨RX2, TX2, 5, tyX2, rfl, by decide, uw2, x_mem 93 u1 rfl rfl, tyX2_ok, nmX2, rfl, by decide +kernel, fun h => by cases h⟩
theorem flX2_22 : x_FL RX2 22 2 2 := ⟨RX2, TX2, 5, rfl, by decide, uw2, x_mem 96 u1 rfl rfl⟩
theorem fpX2_22 : x_FP RX2 22 2 2 false .int := ⟨RX2, TX2, 5, tyX2, rfl, by decide, uw2, x_mem 96 u1 rfl rfl, tyX2_ok, nmX2, rfl, by decide +kernel, fun h => by cases h⟩
theorem flX2_25 : x_FL RX2 25 2 3 := ⟨RX2, TX2, 5, rfl, by decide, uw2, x_mem 100 u1 rfl rfl⟩
theorem fpX2_25 : x_FP RX2 25 2 3 false .int := ⟨RX2, TX2, 5, tyX2, rfl, by decide, uw2, x_mem 100 u1 rfl rfl, tyX2_ok, nmX2, rfl, by decide +kernel, fun h => by cases h⟩
theorem flX2_28 : x_FL RX2 28 2 4 := ⟨RX2, TX2, 5, rfl, by decide, uw2, x_mem 103 u1 rfl rfl⟩
theorem fpX2_28 : x_FP RX2 28 2 4 false .int := ⟨RX2, TX2, 5, tyX2, rfl, by decide, uw2, x_mem 103 u1 rfl rfl, tyX2_ok, nmX2, rfl, by decide +kernel, fun h => by cases h⟩
theorem flX3_11 : x_FL RX3 11 3 0 := ⟨RX3, TX3, 6, rfl, by decide, uw3, x_mem 29 u1 rfl rfl⟩
theorem fpX3_11 : x_FP RX3 11 3 0 true (.array .int) := ⟨RX3, TX3, 6, tyX3, rfl, by decide, uw3, x_mem 29 u1 rfl rfl, tyX3_ok, nmX3, rfl, by decide +kernel, fun _ => rfl⟩
theorem flX3_15 : x_FL RX3 15 3 1 := ⟨RX3, TX3, 6, rfl, by decide, uw3, x_mem 30 u1 rfl rfl⟩
theorem fpX3_15 : x_FP RX3 15 3 1 true (.array .int) := ⟨RX3, TX3, 6, tyX3, rfl, by decide, uw3, x_mem 30 u1 rfl rfl, tyX3_ok, nmX3, rfl, by decide +kernel, fun _ => rfl⟩
theorem flX3_18 : x_FL RX3 18 3 2 := ⟨RX3, TX3, 6, rfl, by decide, uw3, x_mem 32 u1 rfl rfl⟩
theorem fpX3_18 : x_FP RX3 18 3 2 true (.array .int) := ⟨RX3, TX3, 6, tyX3, rfl, by decide, uw3, x_mem 32 u1 rfl rfl, tyX3_ok, nmX3, rfl, by decide +kernel, fun _ => rfl⟩
theorem flX3_21 : x_FL RX3 21 3 3 := ⟨RX3, TX3, 6, rfl, by decide, uw3, x_mem 33 u1 rfl rfl⟩
theorem fpX3_21 : x_FP RX3 21 3 3 true (.array .int) := ⟨RX3, TX3, 6, tyX3, rfl, by decide, uw3, x_mem 33 u1 rfl rfl, tyX3_ok, nmX3, rfl, by decide +kernel, fun _ => rfl⟩
theorem flX3_24 : x_FL RX3 24 3 4 := ⟨RX3, TX3, 6, rfl, by decide, uw3, x_mem 34 u1 rfl rfl⟩
theorem fpX3_24 : x_FP RX3 24 3 4 false .int := ⟨RX3, TX3, 6, tyX3, rfl, by decide, uw3, x_mem 34 u1 rfl rfl, tyX3_ok, nmX3, rfl, by decide +kernel, fun h => by cases h⟩
theorem flX3_48 : x_FL RX3 48 2 0 := ⟨RX2, TX2, 5, rfl, by decide, uw2, x_mem 91 u1 rfl rfl⟩
theorem flX3_51 : x_FL RX3 51 2 1 := ⟨RX2, TX2, 5, rfl, by decide, uw2, x_mem 94 u1 rfl rfl⟩
theorem flX3_54 : x_FL RX3 54 2 4 := ⟨RX2, TX2, 5, rfl, by decide, uw2, x_mem 104 u1 rfl rfl⟩
theorem flX3_64 : x_FL RX3 64 3 5 := ⟨RX3, TX3, 6, rfl, by decide, uw3, x_mem 36 u1 rfl rfl⟩
theorem fpX3_64 : x_FP RX3 64 3 5 false .int := ⟨RX3, TX3, 6, tyX3, rfl, by decide, uw3, x_mem 36 u1 rfl rfl, tyX3_ok, nmX3, rfl, by decide +kernel, fun h => by cases h⟩
theorem flX4_9 : x_FL RX4 9 4 0 := ⟨RX4, TX4, 5, rfl, by decide, uw4, x_mem 59 u1 rfl rfl⟩
theorem fpX4_9 : x_FP RX4 9 4 0 true (.array .int) := ⟨RX4, TX4, 5, tyX4, rfl, by decide, uw4, x_mem 59 u1 rfl rfl, tyX4_ok, nmX4, rfl, by decide +kernel, fun _ => rfl⟩
theorem flX4_16 : x_FL RX4 16 4 1 := ⟨RX4, TX4, 5, rfl, by decide, uw4, x_mem 60 u1 rfl rfl⟩
theorem fpX4_16 : x_FP RX4 16 4 1 true (.object "HoopWaist$Law") := ⟨RX4, TX4, 5, tyX4, rfl, by decide, uw4, x_mem 60 u1 rfl rfl, tyX4_ok, nmX4, rfl, by decide +kernel, fun _ => rfl⟩
theorem flX4_20 : x_FL RX4 20 4 2 := ⟨RX4, TX4, 5, rfl, by decide, uw4, x_mem 62 u1 rfl rfl⟩
theorem fpX4_20 : x_FP RX4 20 4 2 false .int := ⟨RX4, TX4, 5, tyX4, rfl, by decide, uw4, x_mem 62 u1 rfl rfl, tyX4_ok, nmX4, rfl, by decide +kernel, fun h => by cases h⟩
theorem flX4_24 : x_FL RX4 24 4 3 := ⟨RX4, TX4, 5, rfl, by decide, uw4, x_mem 64 u1 rfl rfl⟩
theorem fpX4_24 : x_FP RX4 24 4 3 false .int := ⟨RX4, TX4, 5, tyX4, rfl, by decide, uw4, x_mem 64 u1 rfl rfl, tyX4_ok, nmX4, rfl, by decide +kernel, fun h => by cases h⟩
theorem flX4_27 : x_FL RX4 27 4 4 := ⟨RX4, TX4, 5, rfl, by decide, uw4, x_mem 65 u1 rfl rfl⟩
theorem fpX4_27 : x_FP RX4 27 4 4 false .boolean := ⟨RX4, TX4, 5, tyX4, rfl, by decide, uw4, x_mem 65 u1 rfl rfl, tyX4_ok, nmX4, rfl, by decide +kernel, fun h => by cases h⟩
theorem fpX4_31 : x_FP RX4 31 3 4 false .int := ⟨RX3, TX3, 6, tyX3, rfl, by decide, uw3, x_mem 35 u1 rfl rfl, tyX3_ok, nmX3, rfl, by decide +kernel, fun h => by cases h⟩
theorem flX4_47 : x_FL RX4 47 3 1 := ⟨RX3, TX3, 6, rfl, by decide, uw3, x_mem 31 u1 rfl rfl⟩
theorem flX5_9 : x_FL RX5 9 5 0 := ⟨RX5, TX5, 10, rfl, by decide, uw5, x_mem 118 u1 rfl rfl⟩
theorem fpX5_9 : x_FP RX5 9 5 0 true (.object "HoopWaist$Law") := ⟨RX5, TX5, 10, tyX5, rfl, by decide, uw5, x_mem 118 u1 rfl rfl, tyX5_ok, nmX5, rfl, by decide +kernel, fun _ => rfl⟩
theorem flX5_17 : x_FL RX5 17 5 1 := ⟨RX5, TX5, 10, rfl, by decide, uw5, x_mem 119 u1 rfl rfl⟩
theorem fpX5_17 : x_FP RX5 17 5 1 true (.array (.object "HoopWaist$Hoop")) := ⟨RX5, TX5, 10, tyX5, rfl, by decide, uw5, x_mem 119 u1 rfl rfl, tyX5_ok, nmX5, rfl, by decide +kernel, fun _ => rfl⟩
theorem flX5_22 : x_FL RX5 22 5 4 := ⟨RX5, TX5, 10, rfl, by decide, uw5, x_mem 126 u1 rfl rfl⟩
theorem fpX5_22 : x_FP RX5 22 5 4 false .int := ⟨RX5, TX5, 10, tyX5, rfl, by decide, uw5, x_mem 126 u1 rfl rfl, tyX5_ok, nmX5, rfl, by decide +kernel, fun h => by cases h⟩
theorem flX5_26 : x_FL RX5 26 5 5 := ⟨RX5, TX5, 10, rfl, by decide, uw5, x_mem 128 u1 rfl rfl⟩
theorem fpX5_26 : x_FP RX5 26 5 5 false .int := ⟨RX5, TX5, 10, tyX5, rfl, by decide, uw5, x_mem 128 u1 rfl rfl, tyX5_ok, nmX5, rfl, by decide +kernel, fun h => by cases h⟩
theorem flX5_29 : x_FL RX5 29 5 7 := ⟨RX5, TX5, 10, rfl, by decide, uw5, x_mem 132 u1 rfl rfl⟩
theorem fpX5_29 : x_FP RX5 29 5 7 false .int := ⟨RX5, TX5, 10, tyX5, rfl, by decide, uw5, x_mem 132 u1 rfl rfl, tyX5_ok, nmX5, rfl, by decide +kernel, fun h => by cases h⟩
theorem flX5_32 : x_FL RX5 32 5 9 := ⟨RX5, TX5, 10, rfl, by decide, uw5, x_mem 137 u1 rfl rfl⟩
theorem fpX5_32 : x_FP RX5 32 5 9 false .int := ⟨RX5, TX5, 10, tyX5, rfl, by decide, uw5, x_mem 137 u1 rfl rfl, tyX5_ok, nmX5, rfl, by decide +kernel, fun h => by cases h⟩
theorem flX5_35 : x_FL RX5 35 5 2 := ⟨RX5, TX5, 10, rfl, by decide, uw5, x_mem 122 u1 rfl rfl⟩
theorem fpX5_35 : x_FP RX5 35 5 2 false .int := ⟨RX5, TX5, 10, tyX5, rfl, by decide, uw5, x_mem 122 u1 rfl rfl, tyX5_ok, nmX5, rfl, by decide +kernel, fun h => by cases h⟩
theorem flX5_42 : x_FL RX5 42 5 3 := ⟨RX5, TX5, 10, rfl, by decide, uw5, x_mem 124 u1 rfl rfl⟩
theorem fpX5_42 : x_FP RX5 42 5 3 false .int := ⟨RX5, TX5, 10, tyX5, rfl, by decide, uw5, x_mem 124 u1 rfl rfl, tyX5_ok, nmX5, rfl, by decide +kernel, fun h => by cases h⟩
theorem flX5_45 : x_FL RX5 45 5 6 := ⟨RX5, TX5, 10, rfl, by decide, uw5, x_mem 130 u1 rfl rfl⟩
theorem fpX5_45 : x_FP RX5 45 5 6 false .int := ⟨RX5, TX5, 10, tyX5, rfl, by decide, uw5, x_mem 130 u1 rfl rfl, tyX5_ok, nmX5, rfl, by decide +kernel, fun h => by cases h⟩
theorem flX5_48 : x_FL RX5 48 5 8 := ⟨RX5, TX5, 10, rfl, by decide, uw5, x_mem 135 u1 rfl rfl⟩
theorem fpX5_48 : x_FP RX5 48 5 8 false .int := ⟨RX5, TX5, 10, tyX5, rfl, by decide, uw5, x_mem 135 u1 rfl rfl, tyX5_ok, nmX5, rfl, by decide +kernel, fun h => by cases h⟩
theorem fpX5_58 : x_FP RX5 58 2 0 false .int := ⟨RX2, TX2, 5, tyX2, rfl, by decide, uw2, x_mem 92 u1 rfl rfl, tyX2_ok, nmX2, rfl, by decide +kernel, fun h => by cases h⟩
theorem flX5_61 : x_FL RX5 61 2 1 := ⟨RX2, TX2, 5, rfl, by decide, uw2, x_mem 95 u1 rfl rfl⟩
theorem fpX5_61 : x_FP RX5 61 2 1 false .int := ⟨RX2, TX2, 5, tyX2, rfl, by decide, uw2, x_mem 95 u1 rfl rfl, tyX2_ok, nmX2, rfl, by decide +kernel, fun h => by cases h⟩
theorem fpX5_67 : x_FP RX5 67 2 3 false .int := ⟨RX2, TX2, 5, tyX2, rfl, by decide, uw2, x_mem 101 u1 rfl rfl, tyX2_ok, nmX2, rfl, by decide +kernel, fun h => by cases h⟩
theorem flX5_73 : x_FL RX5 73 2 4 := ⟨RX2, TX2, 5, rfl, by decide, uw2, x_mem 105 u1 rfl rfl⟩
theorem flX5_124 : x_FL RX5 124 2 2 := ⟨RX2, TX2, 5, rfl, by decide, uw2, x_mem 99 u1 rfl rfl⟩
theorem flX6_9 : x_FL RX6 9 6 4 := ⟨RX6, TX6, 5, rfl, by decide, uw6, x_mem 59 u2 rfl rfl⟩
theorem fpX6_9 : x_FP RX6 9 6 4 true (.array .long) := ⟨RX6, TX6, 5, tyX6, rfl, by decide, uw6, x_mem 59 u2 rfl rfl, tyX6_ok, nmX6, rfl, by decide +kernel, fun _ => rfl⟩
theorem flX6_15 : x_FL RX6 15 6 0 := ⟨RX6, TX6, 5, rfl, by decide, uw6, x_mem 51 u2 rfl rfl⟩
theorem fpX6_15 : x_FP RX6 15 6 0 false .int := ⟨RX6, TX6, 5, tyX6, rfl, by decide, uw6, x_mem 51 u2 rfl rfl, tyX6_ok, nmX6, rfl, by decide +kernel, fun h => by cases h⟩
theorem flX6_23 : x_FL RX6 23 6 2 := ⟨RX6, TX6, 5, rfl, by decide, uw6, x_mem 54 u2 rfl rfl⟩
theorem fpX6_23 : x_FP RX6 23 6 2 false .int := ⟨RX6, TX6, 5, tyX6, rfl, by decide, uw6, x_mem 54 u2 rfl rfl, tyX6_ok, nmX6, rfl, by decide +kernel, fun h => by cases h⟩
theorem flX6_26 : x_FL RX6 26 6 3 := ⟨RX6, TX6, 5, rfl, by decide, uw6, x_mem 56 u2 rfl rfl⟩
theorem fpX6_26 : x_FP RX6 26 6 3 false .int := ⟨RX6, TX6, 5, tyX6, rfl, by decide, uw6, x_mem 56 u2 rfl rfl, tyX6_ok, nmX6, rfl, by decide +kernel, fun h => by cases h⟩
theorem fpX6_29 : x_FP RX6 29 6 1 false .int := ⟨RX6, TX6, 5, tyX6, rfl, by decide, uw6, x_mem 52 u2 rfl rfl, tyX6_ok, nmX6, rfl, by decide +kernel, fun h => by cases h⟩
theorem flX7_9 : x_FL RX7 9 7 0 := ⟨RX7, TX7, 8, rfl, by decide, uw7, x_mem 166 u1 rfl rfl⟩
theorem fpX7_9 : x_FP RX7 9 7 0 true (.object "HoopWaist$Ring") := ⟨RX7, TX7, 8, tyX7, rfl, by decide, uw7, x_mem 166 u1 rfl rfl, tyX7_ok, nmX7, rfl, by decide +kernel, fun _ => rfl⟩
theorem flX7_15 : x_FL RX7 15 7 1 := ⟨RX7, TX7, 8, rfl, by decide, uw7, x_mem 167 u1 rfl rfl⟩
theorem fpX7_15 : x_FP RX7 15 7 1 true (.object "HoopWaist$Ring") := ⟨RX7, TX7, 8, tyX7, rfl, by decide, uw7, x_mem 167 u1 rfl rfl, tyX7_ok, nmX7, rfl, by decide +kernel, fun _ => rfl⟩
theorem flX7_24 : x_FL RX7 24 7 2 := ⟨RX7, TX7, 8, rfl, by decide, uw7, x_mem 169 u1 rfl rfl⟩
theorem fpX7_24 : x_FP RX7 24 7 2 false .int := ⟨RX7, TX7, 8, tyX7, rfl, by decide, uw7, x_mem 169 u1 rfl rfl, tyX7_ok, nmX7, rfl, by decide +kernel, fun h => by cases h⟩
theorem flX7_28 : x_FL RX7 28 7 3 := ⟨RX7, TX7, 8, rfl, by decide, uw7, x_mem 170 u1 rfl rfl⟩
theorem fpX7_28 : x_FP RX7 28 7 3 false .int := ⟨RX7, TX7, 8, tyX7, rfl, by decide, uw7, x_mem 170 u1 rfl rfl, tyX7_ok, nmX7, rfl, by decide +kernel, fun h => by cases h⟩
theorem flX7_31 : x_FL RX7 31 7 4 := ⟨RX7, TX7, 8, rfl, by decide, uw7, x_mem 171 u1 rfl rfl⟩
theorem fpX7_31 : x_FP RX7 31 7 4 false .int := ⟨RX7, TX7, 8, tyX7, rfl, by decide, uw7, x_mem 171 u1 rfl rfl, tyX7_ok, nmX7, rfl, by decide +kernel, fun h => by cases h⟩
theorem flX7_34 : x_FL RX7 34 7 5 := ⟨RX7, TX7, 8, rfl, by decide, uw7, x_mem 172 u1 rfl rfl⟩
theorem fpX7_34 : x_FP RX7 34 7 5 false .int := ⟨RX7, TX7, 8, tyX7, rfl, by decide, uw7, x_mem 172 u1 rfl rfl, tyX7_ok, nmX7, rfl, by decide +kernel, fun h => by cases h⟩
theorem flX7_37 : x_FL RX7 37 7 6 := ⟨RX7, TX7, 8, rfl, by decide, uw7, x_mem 173 u1 rfl rfl⟩
theorem fpX7_37 : x_FP RX7 37 7 6 false .int := ⟨RX7, TX7, 8, tyX7, rfl, by decide, uw7, x_mem 173 u1 rfl rfl, tyX7_ok, nmX7, rfl, by decide +kernel, fun h => by cases h⟩
theorem flX7_40 : x_FL RX7 40 7 7 := ⟨RX7, TX7, 8, rfl, by decide, uw7, x_mem 174 u1 rfl rfl⟩
theorem fpX7_40 : x_FP RX7 40 7 7 false .int := ⟨RX7, TX7, 8, tyX7, rfl, by decide, uw7, x_mem 174 u1 rfl rfl, tyX7_ok, nmX7, rfl, by decide +kernel, fun h => by cases h⟩
theorem flX7_47 : x_FL RX7 47 5 7 := ⟨RX5, TX5, 10, rfl, by decide, uw5, x_mem 133 u1 rfl rfl⟩
theorem flX7_67 : x_FL RX7 67 5 1 := ⟨RX5, TX5, 10, rfl, by decide, uw5, x_mem 121 u1 rfl rfl⟩
theorem flX7_91 : x_FL RX7 91 6 3 := ⟨RX6, TX6, 5, rfl, by decide, uw6, x_mem 57 u2 rfl rfl⟩
theorem flX7_94 : x_FL RX7 94 2 2 := ⟨RX2, TX2, 5, rfl, by decide, uw2, x_mem 98 u1 rfl rfl⟩
theorem flX7_97 : x_FL RX7 97 6 4 := ⟨RX6, TX6, 5, rfl, by decide, uw6, x_mem 60 u2 rfl rfl⟩
theorem flX8_9 : x_FL RX8 9 8 0 := ⟨RX8, TX8, 5, rfl, by decide, uw8, x_mem 24 u2 rfl rfl⟩
theorem fpX8_9 : x_FP RX8 9 8 0 true (.array .int) := ⟨RX8, TX8, 5, tyX8, rfl, by decide, uw8, x_mem 24 u2 rfl rfl, tyX8_ok, nmX8, rfl, by decide +kernel, fun _ => rfl⟩
theorem flX8_15 : x_FL RX8 15 8 1 := ⟨RX8, TX8, 5, rfl, by decide, uw8, x_mem 26 u2 rfl rfl⟩
theorem fpX8_15 : x_FP RX8 15 8 1 true (.array .int) := ⟨RX8, TX8, 5, tyX8, rfl, by decide, uw8, x_mem 26 u2 rfl rfl, tyX8_ok, nmX8, rfl, by decide +kernel, fun _ => rfl⟩
theorem flX8_18 : x_FL RX8 18 8 2 := ⟨RX8, TX8, 5, rfl, by decide, uw8, x_mem 28 u2 rfl rfl⟩
theorem fpX8_18 : x_FP RX8 18 8 2 false .int := ⟨RX8, TX8, 5, tyX8, rfl, by decide, uw8, x_mem 28 u2 rfl rfl, tyX8_ok, nmX8, rfl, by decide +kernel, fun h => by cases h⟩
theorem slX8_30 : Cond.fieldLink RX8 30 RX8 "ABOVE" "[I" ∈ xU := x_mem 218 u4 rfl rfl
theorem flX8_33 : x_FL RX8 33 8 3 := ⟨RX8, TX8, 5, rfl, by decide, uw8, x_mem 30 u2 rfl rfl⟩
theorem fpX8_33 : x_FP RX8 33 8 3 false .int := ⟨RX8, TX8, 5, tyX8, rfl, by decide, uw8, x_mem 30 u2 rfl rfl, tyX8_ok, nmX8, rfl, by decide +kernel, fun h => by cases h⟩
theorem flX8_36 : x_FL RX8 36 8 4 := ⟨RX8, TX8, 5, rfl, by decide, uw8, x_mem 32 u2 rfl rfl⟩
theorem fpX8_36 : x_FP RX8 36 8 4 false .int := ⟨RX8, TX8, 5, tyX8, rfl, by decide, uw8, x_mem 32 u2 rfl rfl, tyX8_ok, nmX8, rfl, by decide +kernel, fun h => by cases h⟩
theorem slX8_50 : Cond.fieldLink RX8 50 RX8 "OWN" "[I" ∈ xU := x_mem 204 u4 rfl rfl
theorem flX10_9 : x_FL RX10 9 10 0 := ⟨RX10, TX10, 46, rfl, by decide, uw10, x_mem 54 u5 rfl rfl⟩
theorem fpX10_9 : x_FP RX10 9 10 0 true (.array .int) := ⟨RX10, TX10, 46, tyX10, rfl, by decide, uw10, x_mem 54 u5 rfl rfl, tyX10_ok, nmX10, rfl, by decide +kernel, fun _ => rfl⟩
theorem flX10_13 : x_FL RX10 13 10 1 := ⟨RX10, TX10, 46, rfl, by decide, uw10, x_mem 55 u5 rfl rfl⟩
theorem fpX10_13 : x_FP RX10 13 10 1 true (.array .int) := ⟨RX10, TX10, 46, tyX10, rfl, by decide, uw10, x_mem 55 u5 rfl rfl, tyX10_ok, nmX10, rfl, by decide +kernel, fun _ => rfl⟩
theorem flX10_16 : x_FL RX10 16 10 2 := ⟨RX10, TX10, 46, rfl, by decide, uw10, x_mem 56 u5 rfl rfl⟩
theorem fpX10_16 : x_FP RX10 16 10 2 true (.array .int) := ⟨RX10, TX10, 46, tyX10, rfl, by decide, uw10, x_mem 56 u5 rfl rfl, tyX10_ok, nmX10, rfl, by decide +kernel, fun _ => rfl⟩
theorem flX10_19 : x_FL RX10 19 10 3 := ⟨RX10, TX10, 46, rfl, by decide, uw10, x_mem 57 u5 rfl rfl⟩
theorem fpX10_19 : x_FP RX10 19 10 3 true (.array .int) := ⟨RX10, TX10, 46, tyX10, rfl, by decide, uw10, x_mem 57 u5 rfl rfl, tyX10_ok, nmX10, rfl, by decide +kernel, fun _ => rfl⟩
theorem flX10_22 : x_FL RX10 22 10 7 := ⟨RX10, TX10, 46, rfl, by decide, uw10, x_mem 61 u5 rfl rfl⟩
theorem fpX10_22 : x_FP RX10 22 10 7 true (.array .int) := ⟨RX10, TX10, 46, tyX10, rfl, by decide, uw10, x_mem 61 u5 rfl rfl, tyX10_ok, nmX10, rfl, by decide +kernel, fun _ => rfl⟩
theorem flX10_25 : x_FL RX10 25 10 8 := ⟨RX10, TX10, 46, rfl, by decide, uw10, x_mem 62 u5 rfl rfl⟩
theorem fpX10_25 : x_FP RX10 25 10 8 true (.array .int) := ⟨RX10, TX10, 46, tyX10, rfl, by decide, uw10, x_mem 62 u5 rfl rfl, tyX10_ok, nmX10, rfl, by decide +kernel, fun _ => rfl⟩
theorem flX10_28 : x_FL RX10 28 10 10 := ⟨RX10, TX10, 46, rfl, by decide, uw10, x_mem 64 u5 rfl rfl⟩
theorem fpX10_28 : x_FP RX10 28 10 10 true (.array .int) := ⟨RX10, TX10, 46, tyX10, rfl, by decide, uw10, x_mem 64 u5 rfl rfl, tyX10_ok, nmX10, rfl, by decide +kernel, fun _ => rfl⟩
theorem flX10_31 : x_FL RX10 31 10 12 := ⟨RX10, TX10, 46, rfl, by decide, uw10, x_mem 66 u5 rfl rfl⟩
theorem fpX10_31 : x_FP RX10 31 10 12 true (.array .int) := ⟨RX10, TX10, 46, tyX10, rfl, by decide, uw10, x_mem 66 u5 rfl rfl, tyX10_ok, nmX10, rfl, by decide +kernel, fun _ => rfl⟩
theorem flX10_34 : x_FL RX10 34 10 19 := ⟨RX10, TX10, 46, rfl, by decide, uw10, x_mem 73 u5 rfl rfl⟩
theorem fpX10_34 : x_FP RX10 34 10 19 true (.array .int) := ⟨RX10, TX10, 46, tyX10, rfl, by decide, uw10, x_mem 73 u5 rfl rfl, tyX10_ok, nmX10, rfl, by decide +kernel, fun _ => rfl⟩
theorem flX10_37 : x_FL RX10 37 10 20 := ⟨RX10, TX10, 46, rfl, by decide, uw10, x_mem 74 u5 rfl rfl⟩
theorem fpX10_37 : x_FP RX10 37 10 20 true (.array .int) := ⟨RX10, TX10, 46, tyX10, rfl, by decide, uw10, x_mem 74 u5 rfl rfl, tyX10_ok, nmX10, rfl, by decide +kernel, fun _ => rfl⟩
theorem flX10_40 : x_FL RX10 40 10 21 := ⟨RX10, TX10, 46, rfl, by decide, uw10, x_mem 75 u5 rfl rfl⟩
theorem fpX10_40 : x_FP RX10 40 10 21 true (.array .int) := ⟨RX10, TX10, 46, tyX10, rfl, by decide, uw10, x_mem 75 u5 rfl rfl, tyX10_ok, nmX10, rfl, by decide +kernel, fun _ => rfl⟩
theorem flX10_43 : x_FL RX10 43 10 22 := ⟨RX10, TX10, 46, rfl, by decide, uw10, x_mem 76 u5 rfl rfl⟩
theorem fpX10_43 : x_FP RX10 43 10 22 true (.array .int) := ⟨RX10, TX10, 46, tyX10, rfl, by decide, uw10, x_mem 76 u5 rfl rfl, tyX10_ok, nmX10, rfl, by decide +kernel, fun _ => rfl⟩
theorem flX10_46 : x_FL RX10 46 10 25 := ⟨RX10, TX10, 46, rfl, by decide, uw10, x_mem 79 u5 rfl rfl⟩
theorem fpX10_46 : x_FP RX10 46 10 25 false .int := ⟨RX10, TX10, 46, tyX10, rfl, by decide, uw10, x_mem 79 u5 rfl rfl, tyX10_ok, nmX10, rfl, by decide +kernel, fun h => by cases h⟩
theorem flX10_50 : x_FL RX10 50 10 27 := ⟨RX10, TX10, 46, rfl, by decide, uw10, x_mem 81 u5 rfl rfl⟩
theorem fpX10_50 : x_FP RX10 50 10 27 true (.array .int) := ⟨RX10, TX10, 46, tyX10, rfl, by decide, uw10, x_mem 81 u5 rfl rfl, tyX10_ok, nmX10, rfl, by decide +kernel, fun _ => rfl⟩
theorem flX10_53 : x_FL RX10 53 10 28 := ⟨RX10, TX10, 46, rfl, by decide, uw10, x_mem 82 u5 rfl rfl⟩
theorem fpX10_53 : x_FP RX10 53 10 28 true (.array .int) := ⟨RX10, TX10, 46, tyX10, rfl, by decide, uw10, x_mem 82 u5 rfl rfl, tyX10_ok, nmX10, rfl, by decide +kernel, fun _ => rfl⟩
theorem flX10_56 : x_FL RX10 56 10 29 := ⟨RX10, TX10, 46, rfl, by decide, uw10, x_mem 83 u5 rfl rfl⟩
theorem fpX10_56 : x_FP RX10 56 10 29 true (.array .boolean) := ⟨RX10, TX10, 46, tyX10, rfl, by decide, uw10, x_mem 83 u5 rfl rfl, tyX10_ok, nmX10, rfl, by decide +kernel, fun _ => rfl⟩
theorem flX10_60 : x_FL RX10 60 10 30 := ⟨RX10, TX10, 46, rfl, by decide, uw10, x_mem 84 u5 rfl rfl⟩
theorem fpX10_60 : x_FP RX10 60 10 30 true (.array .int) := ⟨RX10, TX10, 46, tyX10, rfl, by decide, uw10, x_mem 84 u5 rfl rfl, tyX10_ok, nmX10, rfl, by decide +kernel, fun _ => rfl⟩
theorem flX10_63 : x_FL RX10 63 10 31 := ⟨RX10, TX10, 46, rfl, by decide, uw10, x_mem 85 u5 rfl rfl⟩
theorem fpX10_63 : x_FP RX10 63 10 31 true (.array .int) := ⟨RX10, TX10, 46, tyX10, rfl, by decide, uw10, x_mem 85 u5 rfl rfl, tyX10_ok, nmX10, rfl, by decide +kernel, fun _ => rfl⟩
theorem flX10_66 : x_FL RX10 66 10 35 := ⟨RX10, TX10, 46, rfl, by decide, uw10, x_mem 89 u5 rfl rfl⟩
theorem fpX10_66 : x_FP RX10 66 10 35 true (.array .int) := ⟨RX10, TX10, 46, tyX10, rfl, by decide, uw10, x_mem 89 u5 rfl rfl, tyX10_ok, nmX10, rfl, by decide +kernel, fun _ => rfl⟩
theorem flX10_69 : x_FL RX10 69 10 37 := ⟨RX10, TX10, 46, rfl, by decide, uw10, x_mem 91 u5 rfl rfl⟩
theorem fpX10_69 : x_FP RX10 69 10 37 true (.array .int) := ⟨RX10, TX10, 46, tyX10, rfl, by decide, uw10, x_mem 91 u5 rfl rfl, tyX10_ok, nmX10, rfl, by decide +kernel, fun _ => rfl⟩
theorem flX10_72 : x_FL RX10 72 10 38 := ⟨RX10, TX10, 46, rfl, by decide, uw10, x_mem 92 u5 rfl rfl⟩
theorem fpX10_72 : x_FP RX10 72 10 38 true (.array .int) := ⟨RX10, TX10, 46, tyX10, rfl, by decide, uw10, x_mem 92 u5 rfl rfl, tyX10_ok, nmX10, rfl, by decide +kernel, fun _ => rfl⟩
theorem flX10_75 : x_FL RX10 75 10 42 := ⟨RX10, TX10, 46, rfl, by decide, uw10, x_mem 96 u5 rfl rfl⟩
theorem fpX10_75 : x_FP RX10 75 10 42 true (.array .int) := ⟨RX10, TX10, 46, tyX10, rfl, by decide, uw10, x_mem 96 u5 rfl rfl, tyX10_ok, nmX10, rfl, by decide +kernel, fun _ => rfl⟩
theorem flX10_78 : x_FL RX10 78 10 43 := ⟨RX10, TX10, 46, rfl, by decide, uw10, x_mem 97 u5 rfl rfl⟩
theorem fpX10_78 : x_FP RX10 78 10 43 true (.array .int) := ⟨RX10, TX10, 46, tyX10, rfl, by decide, uw10, x_mem 97 u5 rfl rfl, tyX10_ok, nmX10, rfl, by decide +kernel, fun _ => rfl⟩
theorem flX10_81 : x_FL RX10 81 10 44 := ⟨RX10, TX10, 46, rfl, by decide, uw10, x_mem 98 u5 rfl rfl⟩
theorem fpX10_81 : x_FP RX10 81 10 44 true (.array .long) := ⟨RX10, TX10, 46, tyX10, rfl, by decide, uw10, x_mem 98 u5 rfl rfl, tyX10_ok, nmX10, rfl, by decide +kernel, fun _ => rfl⟩
theorem flX10_85 : x_FL RX10 85 10 45 := ⟨RX10, TX10, 46, rfl, by decide, uw10, x_mem 99 u5 rfl rfl⟩
theorem fpX10_85 : x_FP RX10 85 10 45 true (.array .long) := ⟨RX10, TX10, 46, tyX10, rfl, by decide, uw10, x_mem 99 u5 rfl rfl, tyX10_ok, nmX10, rfl, by decide +kernel, fun _ => rfl⟩
theorem flX10_88 : x_FL RX10 88 10 13 := ⟨RX10, TX10, 46, rfl, by decide, uw10, x_mem 67 u5 rfl rfl⟩
theorem fpX10_88 : x_FP RX10 88 10 13 false .int := ⟨RX10, TX10, 46, tyX10, rfl, by decide, uw10, x_mem 67 u5 rfl rfl, tyX10_ok, nmX10, rfl, by decide +kernel, fun h => by cases h⟩
theorem flX10_91 : x_FL RX10 91 10 5 := ⟨RX10, TX10, 46, rfl, by decide, uw10, x_mem 59 u5 rfl rfl⟩
theorem fpX10_91 : x_FP RX10 91 10 5 false .int := ⟨RX10, TX10, 46, tyX10, rfl, by decide, uw10, x_mem 59 u5 rfl rfl, tyX10_ok, nmX10, rfl, by decide +kernel, fun h => by cases h⟩
theorem flX10_94 : x_FL RX10 94 10 4 := ⟨RX10, TX10, 46, rfl, by decide, uw10, x_mem 58 u5 rfl rfl⟩
theorem fpX10_94 : x_FP RX10 94 10 4 false .int := ⟨RX10, TX10, 46, tyX10, rfl, by decide, uw10, x_mem 58 u5 rfl rfl, tyX10_ok, nmX10, rfl, by decide +kernel, fun h => by cases h⟩
theorem flX10_109 : x_FL RX10 109 10 6 := ⟨RX10, TX10, 46, rfl, by decide, uw10, x_mem 60 u5 rfl rfl⟩
theorem fpX10_109 : x_FP RX10 109 10 6 false .int := ⟨RX10, TX10, 46, tyX10, rfl, by decide, uw10, x_mem 60 u5 rfl rfl, tyX10_ok, nmX10, rfl, by decide +kernel, fun h => by cases h⟩
theorem flX10_151 : x_FL RX10 151 10 9 := ⟨RX10, TX10, 46, rfl, by decide, uw10, x_mem 63 u5 rfl rfl⟩
theorem fpX10_151 : x_FP RX10 151 10 9 false .int := ⟨RX10, TX10, 46, tyX10, rfl, by decide, uw10, x_mem 63 u5 rfl rfl, tyX10_ok, nmX10, rfl, by decide +kernel, fun h => by cases h⟩
theorem flX10_162 : x_FL RX10 162 10 11 := ⟨RX10, TX10, 46, rfl, by decide, uw10, x_mem 65 u5 rfl rfl⟩
theorem fpX10_162 : x_FP RX10 162 10 11 false .int := ⟨RX10, TX10, 46, tyX10, rfl, by decide, uw10, x_mem 65 u5 rfl rfl, tyX10_ok, nmX10, rfl, by decide +kernel, fun h => by cases h⟩
theorem flX10_165 : x_FL RX10 165 10 15 := ⟨RX10, TX10, 46, rfl, by decide, uw10, x_mem 69 u5 rfl rfl⟩
theorem fpX10_165 : x_FP RX10 165 10 15 false .int := ⟨RX10, TX10, 46, tyX10, rfl, by decide, uw10, x_mem 69 u5 rfl rfl, tyX10_ok, nmX10, rfl, by decide +kernel, fun h => by cases h⟩
theorem flX10_168 : x_FL RX10 168 10 16 := ⟨RX10, TX10, 46, rfl, by decide, uw10, x_mem 70 u5 rfl rfl⟩
theorem fpX10_168 : x_FP RX10 168 10 16 false .int := ⟨RX10, TX10, 46, tyX10, rfl, by decide, uw10, x_mem 70 u5 rfl rfl, tyX10_ok, nmX10, rfl, by decide +kernel, fun h => by cases h⟩
theorem flX10_171 : x_FL RX10 171 10 14 := ⟨RX10, TX10, 46, rfl, by decide, uw10, x_mem 68 u5 rfl rfl⟩
theorem fpX10_171 : x_FP RX10 171 10 14 false .int := ⟨RX10, TX10, 46, tyX10, rfl, by decide, uw10, x_mem 68 u5 rfl rfl, tyX10_ok, nmX10, rfl, by decide +kernel, fun h => by cases h⟩
theorem flX10_174 : x_FL RX10 174 10 17 := ⟨RX10, TX10, 46, rfl, by decide, uw10, x_mem 71 u5 rfl rfl⟩
theorem fpX10_174 : x_FP RX10 174 10 17 false .int := ⟨RX10, TX10, 46, tyX10, rfl, by decide, uw10, x_mem 71 u5 rfl rfl, tyX10_ok, nmX10, rfl, by decide +kernel, fun h => by cases h⟩
theorem flX10_199 : x_FL RX10 199 10 18 := ⟨RX10, TX10, 46, rfl, by decide, uw10, x_mem 72 u5 rfl rfl⟩
theorem fpX10_199 : x_FP RX10 199 10 18 false .int := ⟨RX10, TX10, 46, tyX10, rfl, by decide, uw10, x_mem 72 u5 rfl rfl, tyX10_ok, nmX10, rfl, by decide +kernel, fun h => by cases h⟩
theorem flX10_237 : x_FL RX10 237 10 23 := ⟨RX10, TX10, 46, rfl, by decide, uw10, x_mem 77 u5 rfl rfl⟩
theorem fpX10_237 : x_FP RX10 237 10 23 false .int := ⟨RX10, TX10, 46, tyX10, rfl, by decide, uw10, x_mem 77 u5 rfl rfl, tyX10_ok, nmX10, rfl, by decide +kernel, fun h => by cases h⟩
theorem flX10_258 : x_FL RX10 258 10 24 := ⟨RX10, TX10, 46, rfl, by decide, uw10, x_mem 78 u5 rfl rfl⟩
theorem fpX10_258 : x_FP RX10 258 10 24 false .int := ⟨RX10, TX10, 46, tyX10, rfl, by decide, uw10, x_mem 78 u5 rfl rfl, tyX10_ok, nmX10, rfl, by decide +kernel, fun h => by cases h⟩
theorem flX10_273 : x_FL RX10 273 10 26 := ⟨RX10, TX10, 46, rfl, by decide, uw10, x_mem 80 u5 rfl rfl⟩
theorem fpX10_273 : x_FP RX10 273 10 26 false .int := ⟨RX10, TX10, 46, tyX10, rfl, by decide, uw10, x_mem 80 u5 rfl rfl, tyX10_ok, nmX10, rfl, by decide +kernel, fun h => by cases h⟩
theorem flX10_298 : x_FL RX10 298 10 32 := ⟨RX10, TX10, 46, rfl, by decide, uw10, x_mem 86 u5 rfl rfl⟩
theorem fpX10_298 : x_FP RX10 298 10 32 false .int := ⟨RX10, TX10, 46, tyX10, rfl, by decide, uw10, x_mem 86 u5 rfl rfl, tyX10_ok, nmX10, rfl, by decide +kernel, fun h => by cases h⟩
theorem flX10_327 : x_FL RX10 327 10 33 := ⟨RX10, TX10, 46, rfl, by decide, uw10, x_mem 87 u5 rfl rfl⟩
theorem fpX10_327 : x_FP RX10 327 10 33 false .boolean := ⟨RX10, TX10, 46, tyX10, rfl, by decide, uw10, x_mem 87 u5 rfl rfl, tyX10_ok, nmX10, rfl, by decide +kernel, fun h => by cases h⟩
theorem flX10_331 : x_FL RX10 331 10 34 := ⟨RX10, TX10, 46, rfl, by decide, uw10, x_mem 88 u5 rfl rfl⟩
theorem fpX10_331 : x_FP RX10 331 10 34 false .int := ⟨RX10, TX10, 46, tyX10, rfl, by decide, uw10, x_mem 88 u5 rfl rfl, tyX10_ok, nmX10, rfl, by decide +kernel, fun h => by cases h⟩
theorem flX10_334 : x_FL RX10 334 10 36 := ⟨RX10, TX10, 46, rfl, by decide, uw10, x_mem 90 u5 rfl rfl⟩
theorem fpX10_334 : x_FP RX10 334 10 36 false .int := ⟨RX10, TX10, 46, tyX10, rfl, by decide, uw10, x_mem 90 u5 rfl rfl, tyX10_ok, nmX10, rfl, by decide +kernel, fun h => by cases h⟩
theorem flX10_337 : x_FL RX10 337 10 39 := ⟨RX10, TX10, 46, rfl, by decide, uw10, x_mem 93 u5 rfl rfl⟩
theorem fpX10_337 : x_FP RX10 337 10 39 false .int := ⟨RX10, TX10, 46, tyX10, rfl, by decide, uw10, x_mem 93 u5 rfl rfl, tyX10_ok, nmX10, rfl, by decide +kernel, fun h => by cases h⟩
theorem flX10_346 : x_FL RX10 346 10 41 := ⟨RX10, TX10, 46, rfl, by decide, uw10, x_mem 95 u5 rfl rfl⟩
theorem fpX10_346 : x_FP RX10 346 10 41 false .int := ⟨RX10, TX10, 46, tyX10, rfl, by decide, uw10, x_mem 95 u5 rfl rfl, tyX10_ok, nmX10, rfl, by decide +kernel, fun h => by cases h⟩
theorem flX10_352 : x_FL RX10 352 10 40 := ⟨RX10, TX10, 46, rfl, by decide, uw10, x_mem 94 u5 rfl rfl⟩
theorem fpX10_352 : x_FP RX10 352 10 40 false .int := ⟨RX10, TX10, 46, tyX10, rfl, by decide, uw10, x_mem 94 u5 rfl rfl, tyX10_ok, nmX10, rfl, by decide +kernel, fun h => by cases h⟩
theorem obX9_1 : Cond.methodLink RX9 1 objectInit ∈ xU := x_mem 20 u1 rfl rfl
theorem mlX9_9 : x_MI RX9 9 fX3_init 0 := ⟨okX3_init, x_mem 25 u1 rfl rfl, x_mem 26 u1 rfl rfl, rfl, rfl⟩
theorem mlX9_18 : x_MI RX9 18 fX4_init 0 := ⟨okX4_init, x_mem 53 u1 rfl rfl, x_mem 54 u1 rfl rfl, rfl, rfl⟩
theorem mlX9_25 : x_MI RX9 25 fX5_init 1 := ⟨okX5_init, x_mem 79 u1 rfl rfl, x_mem 80 u1 rfl rfl, rfl, rfl⟩
theorem mlX9_37 : x_MI RX9 37 fX7_init 2 := ⟨okX7_init, x_mem 162 u1 rfl rfl, x_mem 163 u1 rfl rfl, rfl, rfl⟩
theorem mlX9_46 : x_MI RX9 46 fX1_init 0 := ⟨okX1_init, x_mem 194 u1 rfl rfl, x_mem 195 u1 rfl rfl, rfl, rfl⟩
theorem mlX9_53 : x_MI RX9 53 fX0_init 0 := ⟨okX0_init, x_mem 229 u1 rfl rfl, x_mem 230 u1 rfl rfl, rfl, rfl⟩
theorem mlX9_60 : x_MI RX9 60 fX8_init 0 := ⟨okX8_init, x_mem 20 u2 rfl rfl, x_mem 21 u2 rfl rfl, rfl, rfl⟩
theorem mlX9_71 : x_MI RX9 71 fX6_init 0 := ⟨okX6_init, x_mem 47 u2 rfl rfl, x_mem 48 u2 rfl rfl, rfl, rfl⟩
theorem mlX9_76 : x_MS RX9 76 fX9_isWeight 1 := ⟨okX9_isWeight, x_mem 109 u2 rfl rfl, x_mem 110 u2 rfl rfl⟩
theorem mlX9_80 : x_MV RX9 80 5 fX5_isFull 0 := ⟨okX5_isFull, ⟨TX5, 10, rfl⟩, x_mem 112 u2 rfl rfl, x_mem 113 u2 rfl rfl, x_mem 114 u2 rfl rfl⟩
theorem mlX9_84 : x_MV RX9 84 5 fX5_addHoop 3 := ⟨okX5_addHoop, ⟨TX5, 10, rfl⟩, x_mem 116 u2 rfl rfl, x_mem 117 u2 rfl rfl, x_mem 118 u2 rfl rfl⟩
theorem mlX9_88 : x_MS RX9 88 fX9_isShelf 1 := ⟨okX9_isShelf, x_mem 129 u2 rfl rfl, x_mem 130 u2 rfl rfl⟩
theorem mlX9_91 : x_MV RX9 91 6 fX6_isEmpty 0 := ⟨okX6_isEmpty, ⟨TX6, 5, rfl⟩, x_mem 132 u2 rfl rfl, x_mem 133 u2 rfl rfl, x_mem 134 u2 rfl rfl⟩
theorem mlX9_94 : x_MV RX9 94 6 fX6_hasBytes 0 := ⟨okX6_hasBytes, ⟨TX6, 5, rfl⟩, x_mem 136 u2 rfl rfl, x_mem 137 u2 rfl rfl, x_mem 138 u2 rfl rfl⟩
theorem mlX9_97 : x_MV RX9 97 9 fX9_hoopCame 2 := ⟨okX9_hoopCame, ⟨TX9, 10, rfl⟩, x_mem 144 u2 rfl rfl, x_mem 146 u2 rfl rfl, x_mem 0 uS rfl rfl⟩
theorem mlX9_101 : x_MV RX9 101 9 fX9_canBecome 3 := ⟨okX9_canBecome, ⟨TX9, 10, rfl⟩, x_mem 155 u2 rfl rfl, x_mem 157 u2 rfl rfl, x_mem 1 uS rfl rfl⟩
theorem mlX9_106 : x_MV RX9 106 9 fX9_valueOf 2 := ⟨okX9_valueOf, ⟨TX9, 10, rfl⟩, x_mem 178 u2 rfl rfl, x_mem 180 u2 rfl rfl, x_mem 3 uS rfl rfl⟩
theorem mlX9_110 : x_MV RX9 110 9 fX9_lay 3 := ⟨okX9_lay, ⟨TX9, 10, rfl⟩, x_mem 195 u2 rfl rfl, x_mem 197 u2 rfl rfl, x_mem 5 uS rfl rfl⟩
theorem mlX9_114 : x_MV RX9 114 0 fX0_note 4 := ⟨okX0_note, ⟨TX0, 6, rfl⟩, x_mem 204 u2 rfl rfl, x_mem 205 u2 rfl rfl, x_mem 206 u2 rfl rfl⟩
theorem mlX9_118 : x_MV RX9 118 5 fX5_has 1 := ⟨okX5_has, ⟨TX5, 10, rfl⟩, x_mem 159 u2 rfl rfl, x_mem 160 u2 rfl rfl, x_mem 161 u2 rfl rfl⟩
theorem mlX9_125 : x_MV RX9 125 2 fX2_told 1 := ⟨okX2_told, ⟨TX2, 5, rfl⟩, x_mem 182 u2 rfl rfl, x_mem 183 u2 rfl rfl, x_mem 184 u2 rfl rfl⟩
theorem mlX9_131 : x_MV RX9 131 9 fX9_settingOf 1 := ⟨okX9_settingOf, ⟨TX9, 10, rfl⟩, x_mem 191 u2 rfl rfl, x_mem 193 u2 rfl rfl, x_mem 4 uS rfl rfl⟩
theorem mlX9_134 : x_MS RX9 134 fX9_isGirl 1 := ⟨okX9_isGirl, x_mem 219 u2 rfl rfl, x_mem 220 u2 rfl rfl⟩
theorem mlX9_144 : x_MV RX9 144 4 fX4_takeIn 1 := ⟨okX4_takeIn, ⟨TX4, 5, rfl⟩, x_mem 226 u2 rfl rfl, x_mem 227 u2 rfl rfl, x_mem 228 u2 rfl rfl⟩
theorem mlX9_151 : x_MV RX9 151 4 fX4_readText 0 := ⟨okX4_readText, ⟨TX4, 5, rfl⟩, x_mem 234 u2 rfl rfl, x_mem 235 u2 rfl rfl, x_mem 236 u2 rfl rfl⟩
theorem mlX9_158 : x_MV RX9 158 3 fX3_copy 1 := ⟨okX3_copy, ⟨TX3, 6, rfl⟩, x_mem 40 u3 rfl rfl, x_mem 41 u3 rfl rfl, x_mem 42 u3 rfl rfl⟩
theorem mlX9_161 : x_MV RX9 161 5 fX5_tick 0 := ⟨okX5_tick, ⟨TX5, 10, rfl⟩, x_mem 49 u3 rfl rfl, x_mem 50 u3 rfl rfl, x_mem 51 u3 rfl rfl⟩
theorem mlX9_164 : x_MV RX9 164 5 fX5_upright 0 := ⟨okX5_upright, ⟨TX5, 10, rfl⟩, x_mem 145 u3 rfl rfl, x_mem 146 u3 rfl rfl, x_mem 147 u3 rfl rfl⟩
theorem mlX9_167 : x_MV RX9 167 2 fX2_lies 0 := ⟨okX2_lies, ⟨TX2, 5, rfl⟩, x_mem 166 u2 rfl rfl, x_mem 167 u2 rfl rfl, x_mem 168 u2 rfl rfl⟩
theorem mlX9_170 : x_MV RX9 170 2 fX2_raise 0 := ⟨okX2_raise, ⟨TX2, 5, rfl⟩, x_mem 153 u3 rfl rfl, x_mem 122 u2 rfl rfl, x_mem 123 u2 rfl rfl⟩
theorem mlX9_179 : x_MV RX9 179 7 fX7_behind 2 := ⟨okX7_behind, ⟨TX7, 8, rfl⟩, x_mem 162 u3 rfl rfl, x_mem 163 u3 rfl rfl, x_mem 164 u3 rfl rfl⟩
theorem mlX9_192 : x_MV RX9 192 7 fX7_begin 0 := ⟨okX7_begin, ⟨TX7, 8, rfl⟩, x_mem 194 u3 rfl rfl, x_mem 167 u3 rfl rfl, x_mem 168 u3 rfl rfl⟩
theorem mlX9_195 : x_MV RX9 195 7 fX7_fallOf 1 := ⟨okX7_fallOf, ⟨TX7, 8, rfl⟩, x_mem 195 u3 rfl rfl, x_mem 196 u3 rfl rfl, x_mem 197 u3 rfl rfl⟩
theorem mlX9_198 : x_MV RX9 198 7 fX7_lasting 0 := ⟨okX7_lasting, ⟨TX7, 8, rfl⟩, x_mem 204 u3 rfl rfl, x_mem 205 u3 rfl rfl, x_mem 206 u3 rfl rfl⟩
theorem mlX9_211 : x_MV RX9 211 7 fX7_leaveOut 1 := ⟨okX7_leaveOut, ⟨TX7, 8, rfl⟩, x_mem 221 u3 rfl rfl, x_mem 222 u3 rfl rfl, x_mem 223 u3 rfl rfl⟩
theorem mlX9_215 : x_MV RX9 215 7 fX7_caughtAgain 0 := ⟨okX7_caughtAgain, ⟨TX7, 8, rfl⟩, x_mem 225 u3 rfl rfl, x_mem 226 u3 rfl rfl, x_mem 227 u3 rfl rfl⟩
theorem mlX9_221 : x_MS RX9 221 fJ6_bitCount_0f7a4 1 := ⟨okJ6_bitCount_0f7a4, x_mem 237 u3 rfl rfl, x_mem 238 u3 rfl rfl⟩
theorem mlX9_226 : x_MV RX9 226 5 fX5_allUp 1 := ⟨okX5_allUp, ⟨TX5, 10, rfl⟩, x_mem 3 u4 rfl rfl, x_mem 4 u4 rfl rfl, x_mem 5 u4 rfl rfl⟩
theorem mlX9_229 : x_MV RX9 229 5 fX5_layAllBut 1 := ⟨okX5_layAllBut, ⟨TX5, 10, rfl⟩, x_mem 7 u4 rfl rfl, x_mem 8 u4 rfl rfl, x_mem 9 u4 rfl rfl⟩
theorem mmX9_232 : Cond.methodLink RX9 232 Lib.Math.min.name ∈ xU := x_mem 107 u3 rfl rfl
theorem mlX9_237 : x_MV RX9 237 7 fX7_addPush 3 := ⟨okX7_addPush, ⟨TX7, 8, rfl⟩, x_mem 19 u4 rfl rfl, x_mem 20 u4 rfl rfl, x_mem 21 u4 rfl rfl⟩
theorem mlX9_240 : x_MV RX9 240 7 fX7_isUpBehind 2 := ⟨okX7_isUpBehind, ⟨TX7, 8, rfl⟩, x_mem 23 u4 rfl rfl, x_mem 24 u4 rfl rfl, x_mem 25 u4 rfl rfl⟩
theorem mlX9_244 : x_MV RX9 244 6 fX6_bytesRefusal 0 := ⟨okX6_bytesRefusal, ⟨TX6, 5, rfl⟩, x_mem 35 u4 rfl rfl, x_mem 36 u4 rfl rfl, x_mem 37 u4 rfl rfl⟩
theorem mlX9_247 : x_MV RX9 247 7 fX7_lastingBy 1 := ⟨okX7_lastingBy, ⟨TX7, 8, rfl⟩, x_mem 41 u4 rfl rfl, x_mem 42 u4 rfl rfl, x_mem 43 u4 rfl rfl⟩
theorem mlX9_251 : x_MV RX9 251 7 fX7_firstUnlike 2 := ⟨okX7_firstUnlike, ⟨TX7, 8, rfl⟩, x_mem 54 u4 rfl rfl, x_mem 55 u4 rfl rfl, x_mem 56 u4 rfl rfl⟩
theorem mlX9_255 : x_MS RX9 255 fX9_isSkill 1 := ⟨okX9_isSkill, x_mem 174 u2 rfl rfl, x_mem 175 u2 rfl rfl⟩
theorem mlX9_258 : x_MV RX9 258 1 fX1_becomes 2 := ⟨okX1_becomes, ⟨TX1, 7, rfl⟩, x_mem 66 u4 rfl rfl, x_mem 67 u4 rfl rfl, x_mem 68 u4 rfl rfl⟩
theorem mlX9_262 : x_MS RX9 262 fX9_isMinutes 1 := ⟨okX9_isMinutes, x_mem 74 u4 rfl rfl, x_mem 75 u4 rfl rfl⟩
theorem mlX9_265 : x_MV RX9 265 1 fX1_play 2 := ⟨okX1_play, ⟨TX1, 7, rfl⟩, x_mem 77 u4 rfl rfl, x_mem 78 u4 rfl rfl, x_mem 79 u4 rfl rfl⟩
theorem mlX9_268 : x_MV RX9 268 1 fX1_howManyUp 0 := ⟨okX1_howManyUp, ⟨TX1, 7, rfl⟩, x_mem 101 u4 rfl rfl, x_mem 102 u4 rfl rfl, x_mem 103 u4 rfl rfl⟩
theorem mlX9_278 : x_MV RX9 278 1 fX1_longest 0 := ⟨okX1_longest, ⟨TX1, 7, rfl⟩, x_mem 113 u4 rfl rfl, x_mem 114 u4 rfl rfl, x_mem 115 u4 rfl rfl⟩
theorem mlX9_288 : x_MS RX9 288 fX9_greatestDivisor 2 := ⟨okX9_greatestDivisor, x_mem 122 u4 rfl rfl, x_mem 123 u4 rfl rfl⟩
theorem mmX9_291 : Cond.methodLink RX9 291 Lib.Math.max.name ∈ xU := x_mem 108 u3 rfl rfl
theorem mlX9_294 : x_MV RX9 294 1 fX1_learnMinute 1 := ⟨okX1_learnMinute, ⟨TX1, 7, rfl⟩, x_mem 130 u4 rfl rfl, x_mem 131 u4 rfl rfl, x_mem 132 u4 rfl rfl⟩
theorem mlX9_297 : x_MS RX9 297 fX1_minutesAt 1 := ⟨okX1_minutesAt, x_mem 143 u4 rfl rfl, x_mem 135 u4 rfl rfl⟩
theorem mlX9_300 : x_MV RX9 300 5 fX5_copy 1 := ⟨okX5_copy, ⟨TX5, 10, rfl⟩, x_mem 148 u4 rfl rfl, x_mem 171 u3 rfl rfl, x_mem 172 u3 rfl rfl⟩
theorem mlX9_306 : x_MV RX9 306 5 fX5_layBack 1 := ⟨okX5_layBack, ⟨TX5, 10, rfl⟩, x_mem 153 u4 rfl rfl, x_mem 154 u4 rfl rfl, x_mem 155 u4 rfl rfl⟩
theorem mlX9_327 : x_MS RX9 327 fX9_isKind 1 := ⟨okX9_isKind, x_mem 170 u4 rfl rfl, x_mem 171 u4 rfl rfl⟩
theorem mlX9_330 : x_MV RX9 330 8 fX8_isFull 0 := ⟨okX8_isFull, ⟨TX8, 5, rfl⟩, x_mem 173 u4 rfl rfl, x_mem 174 u4 rfl rfl, x_mem 175 u4 rfl rfl⟩
theorem mlX9_331 : x_MV RX9 331 8 fX8_addBody 1 := ⟨okX8_addBody, ⟨TX8, 5, rfl⟩, x_mem 177 u4 rfl rfl, x_mem 178 u4 rfl rfl, x_mem 179 u4 rfl rfl⟩
theorem mlX9_337 : x_MV RX9 337 8 fX8_has 1 := ⟨okX8_has, ⟨TX8, 5, rfl⟩, x_mem 186 u4 rfl rfl, x_mem 187 u4 rfl rfl, x_mem 188 u4 rfl rfl⟩
theorem mlX9_338 : x_MV RX9 338 8 fX8_perform 3 := ⟨okX8_perform, ⟨TX8, 5, rfl⟩, x_mem 190 u4 rfl rfl, x_mem 191 u4 rfl rfl, x_mem 192 u4 rfl rfl⟩
theorem mlX9_344 : x_MV RX9 344 6 fX6_holdNothing 0 := ⟨okX6_holdNothing, ⟨TX6, 5, rfl⟩, x_mem 228 u4 rfl rfl, x_mem 229 u4 rfl rfl, x_mem 230 u4 rfl rfl⟩
theorem mlX9_347 : x_MV RX9 347 6 fX6_holdTurn 1 := ⟨okX6_holdTurn, ⟨TX6, 5, rfl⟩, x_mem 232 u4 rfl rfl, x_mem 233 u4 rfl rfl, x_mem 234 u4 rfl rfl⟩
theorem mlX9_350 : x_MS RX9 350 fX6_isSort 1 := ⟨okX6_isSort, x_mem 0 u5 rfl rfl, x_mem 1 u5 rfl rfl⟩
theorem mlX9_353 : x_MV RX9 353 6 fX6_holdRow 2 := ⟨okX6_holdRow, ⟨TX6, 5, rfl⟩, x_mem 3 u5 rfl rfl, x_mem 4 u5 rfl rfl, x_mem 5 u5 rfl rfl⟩
theorem mlX9_356 : x_MV RX9 356 6 fX6_placeRefusal 1 := ⟨okX6_placeRefusal, ⟨TX6, 5, rfl⟩, x_mem 11 u5 rfl rfl, x_mem 12 u5 rfl rfl, x_mem 13 u5 rfl rfl⟩
theorem mlX9_359 : x_MV RX9 359 6 fX6_lay 2 := ⟨okX6_lay, ⟨TX6, 5, rfl⟩, x_mem 15 u5 rfl rfl, x_mem 16 u5 rfl rfl, x_mem 17 u5 rfl rfl⟩
theorem mlX9_366 : x_MV RX9 366 6 fX6_isRow 0 := ⟨okX6_isRow, ⟨TX6, 5, rfl⟩, x_mem 27 u5 rfl rfl, x_mem 141 u2 rfl rfl, x_mem 142 u2 rfl rfl⟩
theorem mlX9_372 : x_MV RX9 372 6 fX6_hasStretch 2 := ⟨okX6_hasStretch, ⟨TX6, 5, rfl⟩, x_mem 28 u5 rfl rfl, x_mem 29 u5 rfl rfl, x_mem 30 u5 rfl rfl⟩
theorem acX9_375 : Cond.methodLink RX9 375 arraycopyName ∈ xU := x_mem 32 u5 rfl rfl
theorem mlX9_381 : x_MV RX9 381 6 fX6_isTurn 0 := ⟨okX6_isTurn, ⟨TX6, 5, rfl⟩, x_mem 37 u5 rfl rfl, x_mem 38 u5 rfl rfl, x_mem 39 u5 rfl rfl⟩
theorem mlX9_390 : x_MS RX9 390 fX8_isUnder 2 := ⟨okX8_isUnder, x_mem 41 u5 rfl rfl, x_mem 42 u5 rfl rfl⟩
theorem mlX9_396 : x_MS RX9 396 fX9_rest 2 := ⟨okX9_rest, x_mem 125 u4 rfl rfl, x_mem 58 u3 rfl rfl⟩
theorem mlX9_400 : x_MS RX9 400 fX9_isPace 1 := ⟨okX9_isPace, x_mem 148 u2 rfl rfl, x_mem 149 u2 rfl rfl⟩
theorem mlX9_403 : x_MS RX9 403 fX9_hoopCanBecome 3 := ⟨okX9_hoopCanBecome, x_mem 163 u2 rfl rfl, x_mem 164 u2 rfl rfl⟩
theorem mlX9_407 : x_MV RX9 407 9 fX9_settingCanBecome 2 := ⟨okX9_settingCanBecome, ⟨TX9, 10, rfl⟩, x_mem 170 u2 rfl rfl, x_mem 172 u2 rfl rfl, x_mem 2 uS rfl rfl⟩
theorem mlX9_416 : x_MV RX9 416 2 fX2_become 2 := ⟨okX2_become, ⟨TX2, 5, rfl⟩, x_mem 199 u2 rfl rfl, x_mem 200 u2 rfl rfl, x_mem 201 u2 rfl rfl⟩
theorem obX0_1 : Cond.methodLink RX0 1 objectInit ∈ xU := x_mem 232 u1 rfl rfl
theorem mlX0_26 : x_MV RX0 26 0 fX0_forgetOldest 0 := ⟨okX0_forgetOldest, ⟨TX0, 6, rfl⟩, x_mem 208 u2 rfl rfl, x_mem 210 u2 rfl rfl, x_mem 6 uS rfl rfl⟩
theorem acX0_32 : Cond.methodLink RX0 32 arraycopyName ∈ xU := x_mem 212 u2 rfl rfl
theorem obX1_3 : Cond.methodLink RX1 3 objectInit ∈ xU := x_mem 197 u1 rfl rfl
theorem mmX1_32 : Cond.methodLink RX1 32 Lib.Math.max.name ∈ xU := x_mem 137 u4 rfl rfl
theorem mlX1_38 : x_MS RX1 38 fX1_minutesAt 1 := ⟨okX1_minutesAt, x_mem 134 u4 rfl rfl, x_mem 135 u4 rfl rfl⟩
theorem mlX1_42 : x_MV RX1 42 1 fX1_becomes 2 := ⟨okX1_becomes, ⟨TX1, 7, rfl⟩, x_mem 138 u4 rfl rfl, x_mem 67 u4 rfl rfl, x_mem 68 u4 rfl rfl⟩
theorem mlX1_49 : x_MV RX1 49 1 fX1_playMinute 1 := ⟨okX1_playMinute, ⟨TX1, 7, rfl⟩, x_mem 81 u4 rfl rfl, x_mem 83 u4 rfl rfl, x_mem 20 uS rfl rfl⟩
theorem mlX1_53 : x_MV RX1 53 1 fX1_draw 0 := ⟨okX1_draw, ⟨TX1, 7, rfl⟩, x_mem 85 u4 rfl rfl, x_mem 87 u4 rfl rfl, x_mem 21 uS rfl rfl⟩
theorem mlX1_57 : x_MV RX1 57 1 fX1_drop 3 := ⟨okX1_drop, ⟨TX1, 7, rfl⟩, x_mem 90 u4 rfl rfl, x_mem 92 u4 rfl rfl, x_mem 22 uS rfl rfl⟩
theorem mlX1_61 : x_MV RX1 61 1 fX1_knockFrom 2 := ⟨okX1_knockFrom, ⟨TX1, 7, rfl⟩, x_mem 94 u4 rfl rfl, x_mem 96 u4 rfl rfl, x_mem 23 uS rfl rfl⟩
theorem mlX1_64 : x_MS RX1 64 fX1_beside 2 := ⟨okX1_beside, x_mem 98 u4 rfl rfl, x_mem 99 u4 rfl rfl⟩
theorem obX2_3 : Cond.methodLink RX2 3 objectInit ∈ xU := x_mem 89 u1 rfl rfl
theorem mlX2_18 : x_MV RX2 18 2 fX2_copyWay 1 := ⟨okX2_copyWay, ⟨TX2, 5, rfl⟩, x_mem 178 u3 rfl rfl, x_mem 179 u3 rfl rfl, x_mem 180 u3 rfl rfl⟩
theorem mmX2_31 : Cond.methodLink RX2 31 Lib.Math.abs.name ∈ xU := x_mem 93 u3 rfl rfl
theorem mlX2_37 : x_MV RX2 37 2 fX2_need 0 := ⟨okX2_need, ⟨TX2, 5, rfl⟩, x_mem 186 u2 rfl rfl, x_mem 187 u2 rfl rfl, x_mem 188 u2 rfl rfl⟩
theorem mlX2_42 : x_MV RX2 42 2 fX2_lies 0 := ⟨okX2_lies, ⟨TX2, 5, rfl⟩, x_mem 203 u2 rfl rfl, x_mem 167 u2 rfl rfl, x_mem 168 u2 rfl rfl⟩
theorem mmX2_50 : Cond.methodLink RX2 50 Lib.Math.min.name ∈ xU := x_mem 83 u3 rfl rfl
theorem mlX2_53 : x_MV RX2 53 2 fX2_speed 0 := ⟨okX2_speed, ⟨TX2, 5, rfl⟩, x_mem 123 u3 rfl rfl, x_mem 90 u3 rfl rfl, x_mem 91 u3 rfl rfl⟩
theorem mmX2_60 : Cond.methodLink RX2 60 Lib.Math.max.name ∈ xU := x_mem 144 u3 rfl rfl
theorem obX3_3 : Cond.methodLink RX3 3 objectInit ∈ xU := x_mem 28 u1 rfl rfl
theorem acX3_28 : Cond.methodLink RX3 28 arraycopyName ∈ xU := x_mem 44 u3 rfl rfl
theorem mlX3_34 : x_MV RX3 34 2 fX2_farFrom 1 := ⟨okX2_farFrom, ⟨TX2, 5, rfl⟩, x_mem 76 u3 rfl rfl, x_mem 77 u3 rfl rfl, x_mem 78 u3 rfl rfl⟩
theorem mlX3_40 : x_MS RX3 40 fX3_withoutText 2 := ⟨okX3_withoutText, x_mem 86 u3 rfl rfl, x_mem 87 u3 rfl rfl⟩
theorem mlX3_44 : x_MV RX3 44 2 fX2_speed 0 := ⟨okX2_speed, ⟨TX2, 5, rfl⟩, x_mem 89 u3 rfl rfl, x_mem 90 u3 rfl rfl, x_mem 91 u3 rfl rfl⟩
theorem mlX3_57 : x_MV RX3 57 3 fX3_worth 0 := ⟨okX3_worth, ⟨TX3, 6, rfl⟩, x_mem 96 u3 rfl rfl, x_mem 98 u3 rfl rfl, x_mem 15 uS rfl rfl⟩
theorem mlX3_67 : x_MV RX3 67 3 fX3_pile 1 := ⟨okX3_pile, ⟨TX3, 6, rfl⟩, x_mem 100 u3 rfl rfl, x_mem 102 u3 rfl rfl, x_mem 16 uS rfl rfl⟩
theorem mlX3_71 : x_MV RX3 71 3 fX3_unpile 0 := ⟨okX3_unpile, ⟨TX3, 6, rfl⟩, x_mem 111 u3 rfl rfl, x_mem 113 u3 rfl rfl, x_mem 17 uS rfl rfl⟩
theorem mmX3_74 : Cond.methodLink RX3 74 Lib.Math.max.name ∈ xU := x_mem 115 u3 rfl rfl
theorem mlX3_79 : x_MS RX3 79 fX3_joined 3 := ⟨okX3_joined, x_mem 116 u3 rfl rfl, x_mem 117 u3 rfl rfl⟩
theorem obX4_1 : Cond.methodLink RX4 1 objectInit ∈ xU := x_mem 56 u1 rfl rfl
theorem mlX4_15 : x_MI RX4 15 fX3_init 0 := ⟨okX3_init, x_mem 58 u1 rfl rfl, x_mem 26 u1 rfl rfl, rfl, rfl⟩
theorem mlX4_32 : x_MV RX4 32 4 fX4_readLine 0 := ⟨okX4_readLine, ⟨TX4, 5, rfl⟩, x_mem 238 u2 rfl rfl, x_mem 0 u3 rfl rfl, x_mem 7 uS rfl rfl⟩
theorem mlX4_35 : x_MV RX4 35 4 fX4_takes 1 := ⟨okX4_takes, ⟨TX4, 5, rfl⟩, x_mem 32 u3 rfl rfl, x_mem 34 u3 rfl rfl, x_mem 13 uS rfl rfl⟩
theorem mlX4_39 : x_MV RX4 39 4 fX4_readChain 2 := ⟨okX4_readChain, ⟨TX4, 5, rfl⟩, x_mem 2 u3 rfl rfl, x_mem 4 u3 rfl rfl, x_mem 8 uS rfl rfl⟩
theorem mlX4_43 : x_MV RX4 43 3 fX3_add 2 := ⟨okX3_add, ⟨TX3, 6, rfl⟩, x_mem 21 u3 rfl rfl, x_mem 22 u3 rfl rfl, x_mem 23 u3 rfl rfl⟩
theorem mlX4_50 : x_MV RX4 50 4 fX4_readOperand 1 := ⟨okX4_readOperand, ⟨TX4, 5, rfl⟩, x_mem 6 u3 rfl rfl, x_mem 8 u3 rfl rfl, x_mem 9 uS rfl rfl⟩
theorem mlX4_54 : x_MV RX4 54 4 fX4_isJoin 1 := ⟨okX4_isJoin, ⟨TX4, 5, rfl⟩, x_mem 36 u3 rfl rfl, x_mem 38 u3 rfl rfl, x_mem 14 uS rfl rfl⟩
theorem mlX4_57 : x_MV RX4 57 4 fX4_next 0 := ⟨okX4_next, ⟨TX4, 5, rfl⟩, x_mem 10 u3 rfl rfl, x_mem 12 u3 rfl rfl, x_mem 10 uS rfl rfl⟩
theorem mlX4_61 : x_MS RX4 61 fX4_isDigit 1 := ⟨okX4_isDigit, x_mem 14 u3 rfl rfl, x_mem 15 u3 rfl rfl⟩
theorem mlX4_64 : x_MV RX4 64 4 fX4_readNumber 0 := ⟨okX4_readNumber, ⟨TX4, 5, rfl⟩, x_mem 17 u3 rfl rfl, x_mem 19 u3 rfl rfl, x_mem 11 uS rfl rfl⟩
theorem mlX4_67 : x_MS RX4 67 fX4_nameOf 1 := ⟨okX4_nameOf, x_mem 25 u3 rfl rfl, x_mem 26 u3 rfl rfl⟩
theorem mlX4_71 : x_MV RX4 71 4 fX4_readOpened 2 := ⟨okX4_readOpened, ⟨TX4, 5, rfl⟩, x_mem 28 u3 rfl rfl, x_mem 30 u3 rfl rfl, x_mem 12 uS rfl rfl⟩
theorem obX5_3 : Cond.methodLink RX5 3 objectInit ∈ xU := x_mem 82 u1 rfl rfl
theorem mlX5_21 : x_MI RX5 21 fX2_init 0 := ⟨okX2_init, x_mem 86 u1 rfl rfl, x_mem 87 u1 rfl rfl, rfl, rfl⟩
theorem mlX5_38 : x_MV RX5 38 2 fX2_copy 1 := ⟨okX2_copy, ⟨TX2, 5, rfl⟩, x_mem 174 u3 rfl rfl, x_mem 175 u3 rfl rfl, x_mem 176 u3 rfl rfl⟩
theorem mlX5_51 : x_MV RX5 51 2 fX2_copyWay 1 := ⟨okX2_copyWay, ⟨TX2, 5, rfl⟩, x_mem 157 u4 rfl rfl, x_mem 179 u3 rfl rfl, x_mem 180 u3 rfl rfl⟩
theorem mlX5_54 : x_MV RX5 54 5 fX5_isFull 0 := ⟨okX5_isFull, ⟨TX5, 10, rfl⟩, x_mem 120 u2 rfl rfl, x_mem 113 u2 rfl rfl, x_mem 114 u2 rfl rfl⟩
theorem mlX5_64 : x_MV RX5 64 2 fX2_raise 0 := ⟨okX2_raise, ⟨TX2, 5, rfl⟩, x_mem 121 u2 rfl rfl, x_mem 122 u2 rfl rfl, x_mem 123 u2 rfl rfl⟩
theorem mlX5_70 : x_MV RX5 70 2 fX2_lies 0 := ⟨okX2_lies, ⟨TX2, 5, rfl⟩, x_mem 71 u3 rfl rfl, x_mem 167 u2 rfl rfl, x_mem 168 u2 rfl rfl⟩
theorem mlX5_76 : x_MV RX5 76 2 fX2_drop 0 := ⟨okX2_drop, ⟨TX2, 5, rfl⟩, x_mem 11 u4 rfl rfl, x_mem 12 u4 rfl rfl, x_mem 13 u4 rfl rfl⟩
theorem mlX5_87 : x_MV RX5 87 5 fX5_isPushDue 0 := ⟨okX5_isPushDue, ⟨TX5, 10, rfl⟩, x_mem 53 u3 rfl rfl, x_mem 54 u3 rfl rfl, x_mem 55 u3 rfl rfl⟩
theorem mlX5_90 : x_MV RX5 90 5 fX5_goalInTurn 0 := ⟨okX5_goalInTurn, ⟨TX5, 10, rfl⟩, x_mem 60 u3 rfl rfl, x_mem 61 u3 rfl rfl, x_mem 62 u3 rfl rfl⟩
theorem mlX5_94 : x_MV RX5 94 5 fX5_push 2 := ⟨okX5_push, ⟨TX5, 10, rfl⟩, x_mem 67 u3 rfl rfl, x_mem 68 u3 rfl rfl, x_mem 69 u3 rfl rfl⟩
theorem mlX5_98 : x_MV RX5 98 5 fX5_settle 0 := ⟨okX5_settle, ⟨TX5, 10, rfl⟩, x_mem 125 u3 rfl rfl, x_mem 126 u3 rfl rfl, x_mem 127 u3 rfl rfl⟩
theorem mlX5_101 : x_MV RX5 101 3 fX3_more 3 := ⟨okX3_more, ⟨TX3, 6, rfl⟩, x_mem 72 u3 rfl rfl, x_mem 73 u3 rfl rfl, x_mem 74 u3 rfl rfl⟩
theorem mlX5_107 : x_MV RX5 107 2 fX2_quicken 1 := ⟨okX2_quicken, ⟨TX2, 5, rfl⟩, x_mem 119 u3 rfl rfl, x_mem 120 u3 rfl rfl, x_mem 121 u3 rfl rfl⟩
theorem mlX5_111 : x_MV RX5 111 2 fX2_move 0 := ⟨okX2_move, ⟨TX2, 5, rfl⟩, x_mem 129 u3 rfl rfl, x_mem 130 u3 rfl rfl, x_mem 131 u3 rfl rfl⟩
theorem mlX5_114 : x_MV RX5 114 5 fX5_cross 0 := ⟨okX5_cross, ⟨TX5, 10, rfl⟩, x_mem 133 u3 rfl rfl, x_mem 135 u3 rfl rfl, x_mem 18 uS rfl rfl⟩
theorem mlX5_117 : x_MV RX5 117 2 fX2_sankToLie 0 := ⟨okX2_sankToLie, ⟨TX2, 5, rfl⟩, x_mem 140 u3 rfl rfl, x_mem 141 u3 rfl rfl, x_mem 142 u3 rfl rfl⟩
theorem mlX5_120 : x_MS RX5 120 fX5_areCrossed 2 := ⟨okX5_areCrossed, x_mem 137 u3 rfl rfl, x_mem 138 u3 rfl rfl⟩
theorem obX6_3 : Cond.methodLink RX6 3 objectInit ∈ xU := x_mem 50 u2 rfl rfl
theorem mlX6_19 : x_MV RX6 19 6 fX6_isRow 0 := ⟨okX6_isRow, ⟨TX6, 5, rfl⟩, x_mem 140 u2 rfl rfl, x_mem 141 u2 rfl rfl, x_mem 142 u2 rfl rfl⟩
theorem mlX6_32 : x_MV RX6 32 6 fX6_isEmpty 0 := ⟨okX6_isEmpty, ⟨TX6, 5, rfl⟩, x_mem 39 u4 rfl rfl, x_mem 133 u2 rfl rfl, x_mem 134 u2 rfl rfl⟩
theorem mlX6_35 : x_MV RX6 35 6 fX6_hasBytes 0 := ⟨okX6_hasBytes, ⟨TX6, 5, rfl⟩, x_mem 40 u4 rfl rfl, x_mem 137 u2 rfl rfl, x_mem 138 u2 rfl rfl⟩
theorem obX7_3 : Cond.methodLink RX7 3 objectInit ∈ xU := x_mem 165 u1 rfl rfl
theorem mlX7_18 : x_MV RX7 18 5 fX5_copy 1 := ⟨okX5_copy, ⟨TX5, 10, rfl⟩, x_mem 170 u3 rfl rfl, x_mem 171 u3 rfl rfl, x_mem 172 u3 rfl rfl⟩
theorem mlX7_43 : x_MV RX7 43 5 fX5_isPushDue 0 := ⟨okX5_isPushDue, ⟨TX5, 10, rfl⟩, x_mem 186 u3 rfl rfl, x_mem 54 u3 rfl rfl, x_mem 55 u3 rfl rfl⟩
theorem mlX7_50 : x_MV RX7 50 5 fX5_goalInTurn 0 := ⟨okX5_goalInTurn, ⟨TX5, 10, rfl⟩, x_mem 187 u3 rfl rfl, x_mem 61 u3 rfl rfl, x_mem 62 u3 rfl rfl⟩
theorem mlX7_54 : x_MV RX7 54 5 fX5_push 2 := ⟨okX5_push, ⟨TX5, 10, rfl⟩, x_mem 188 u3 rfl rfl, x_mem 68 u3 rfl rfl, x_mem 69 u3 rfl rfl⟩
theorem mlX7_58 : x_MV RX7 58 5 fX5_settle 0 := ⟨okX5_settle, ⟨TX5, 10, rfl⟩, x_mem 189 u3 rfl rfl, x_mem 126 u3 rfl rfl, x_mem 127 u3 rfl rfl⟩
theorem mlX7_61 : x_MV RX7 61 7 fX7_begin 0 := ⟨okX7_begin, ⟨TX7, 8, rfl⟩, x_mem 166 u3 rfl rfl, x_mem 167 u3 rfl rfl, x_mem 168 u3 rfl rfl⟩
theorem mlX7_64 : x_MV RX7 64 7 fX7_step 0 := ⟨okX7_step, ⟨TX7, 8, rfl⟩, x_mem 182 u3 rfl rfl, x_mem 184 u3 rfl rfl, x_mem 19 uS rfl rfl⟩
theorem mlX7_71 : x_MV RX7 71 2 fX2_lies 0 := ⟨okX2_lies, ⟨TX2, 5, rfl⟩, x_mem 199 u3 rfl rfl, x_mem 167 u2 rfl rfl, x_mem 168 u2 rfl rfl⟩
theorem mlX7_76 : x_MV RX7 76 5 fX5_upright 0 := ⟨okX5_upright, ⟨TX5, 10, rfl⟩, x_mem 208 u3 rfl rfl, x_mem 146 u3 rfl rfl, x_mem 147 u3 rfl rfl⟩
theorem mlX7_79 : x_MV RX7 79 5 fX5_allHighest 0 := ⟨okX5_allHighest, ⟨TX5, 10, rfl⟩, x_mem 229 u3 rfl rfl, x_mem 230 u3 rfl rfl, x_mem 231 u3 rfl rfl⟩
theorem mlX7_82 : x_MV RX7 82 6 fX6_gapAt 1 := ⟨okX6_gapAt, ⟨TX6, 5, rfl⟩, x_mem 45 u4 rfl rfl, x_mem 46 u4 rfl rfl, x_mem 47 u4 rfl rfl⟩
theorem obX8_3 : Cond.methodLink RX8 3 objectInit ∈ xU := x_mem 23 u2 rfl rfl
theorem mlX8_22 : x_MV RX8 22 8 fX8_isFull 0 := ⟨okX8_isFull, ⟨TX8, 5, rfl⟩, x_mem 181 u4 rfl rfl, x_mem 174 u4 rfl rfl, x_mem 175 u4 rfl rfl⟩
theorem mlX8_39 : x_MV RX8 39 8 fX8_own 3 := ⟨okX8_own, ⟨TX8, 5, rfl⟩, x_mem 194 u4 rfl rfl, x_mem 196 u4 rfl rfl, x_mem 24 uS rfl rfl⟩
theorem mlX8_43 : x_MV RX8 43 8 fX8_has 1 := ⟨okX8_has, ⟨TX8, 5, rfl⟩, x_mem 198 u4 rfl rfl, x_mem 187 u4 rfl rfl, x_mem 188 u4 rfl rfl⟩
theorem mlX8_46 : x_MV RX8 46 8 fX8_runFrom 4 := ⟨okX8_runFrom, ⟨TX8, 5, rfl⟩, x_mem 199 u4 rfl rfl, x_mem 201 u4 rfl rfl, x_mem 25 uS rfl rfl⟩
theorem mlX8_53 : x_MV RX8 53 8 fX8_run 4 := ⟨okX8_run, ⟨TX8, 5, rfl⟩, x_mem 206 u4 rfl rfl, x_mem 208 u4 rfl rfl, x_mem 26 uS rfl rfl⟩
theorem mlX8_56 : x_MV RX8 56 8 fX8_note 1 := ⟨okX8_note, ⟨TX8, 5, rfl⟩, x_mem 210 u4 rfl rfl, x_mem 212 u4 rfl rfl, x_mem 27 uS rfl rfl⟩
theorem mlX8_60 : x_MV RX8 60 8 fX8_above 4 := ⟨okX8_above, ⟨TX8, 5, rfl⟩, x_mem 214 u4 rfl rfl, x_mem 216 u4 rfl rfl, x_mem 28 uS rfl rfl⟩
theorem mlL_9 : x_MI RL 9 fX9_init 0 := ⟨okX9_init, x_mem 17 u1 rfl rfl, x_mem 18 u1 rfl rfl, rfl, rfl⟩
theorem mlL_12 : x_MI RL 12 fX10_init 0 := ⟨okX10_init, x_mem 50 u5 rfl rfl, x_mem 51 u5 rfl rfl, rfl, rfl⟩
theorem mlL_13 : x_MV RL 13 9 fX9_hoop 1 := ⟨okX9_hoop, ⟨TX9, 10, rfl⟩, x_mem 105 u2 rfl rfl, x_mem 106 u2 rfl rfl, x_mem 107 u2 rfl rfl⟩
theorem mlL_17 : x_MV RL 17 10 fX10_hoop 1 := ⟨okX10_hoop, ⟨TX10, 46, rfl⟩, x_mem 210 u5 rfl rfl, x_mem 211 u5 rfl rfl, x_mem 212 u5 rfl rfl⟩
theorem mlL_18 : x_MV RL 18 9 fX9_hoops 3 := ⟨okX9_hoops, ⟨TX9, 10, rfl⟩, x_mem 125 u2 rfl rfl, x_mem 126 u2 rfl rfl, x_mem 127 u2 rfl rfl⟩
theorem mlL_22 : x_MV RL 22 10 fX10_hoops 3 := ⟨okX10_hoops, ⟨TX10, 46, rfl⟩, x_mem 224 u5 rfl rfl, x_mem 225 u5 rfl rfl, x_mem 226 u5 rfl rfl⟩
theorem mlL_23 : x_MV RL 23 9 fX9_mend 3 := ⟨okX9_mend, ⟨TX9, 10, rfl⟩, x_mem 151 u2 rfl rfl, x_mem 152 u2 rfl rfl, x_mem 153 u2 rfl rfl⟩
theorem mlL_26 : x_MV RL 26 10 fX10_mend 3 := ⟨okX10_mend, ⟨TX10, 46, rfl⟩, x_mem 232 u5 rfl rfl, x_mem 233 u5 rfl rfl, x_mem 234 u5 rfl rfl⟩
theorem mlL_27 : x_MV RL 27 9 fX9_of 2 := ⟨okX9_of, ⟨TX9, 10, rfl⟩, x_mem 215 u2 rfl rfl, x_mem 216 u2 rfl rfl, x_mem 217 u2 rfl rfl⟩
theorem mlL_31 : x_MV RL 31 10 fX10_of 2 := ⟨okX10_of, ⟨TX10, 46, rfl⟩, x_mem 8 u6 rfl rfl, x_mem 9 u6 rfl rfl, x_mem 10 u6 rfl rfl⟩
theorem mlL_32 : x_MV RL 32 9 fX9_feed 1 := ⟨okX9_feed, ⟨TX9, 10, rfl⟩, x_mem 222 u2 rfl rfl, x_mem 223 u2 rfl rfl, x_mem 224 u2 rfl rfl⟩
theorem mlL_35 : x_MV RL 35 10 fX10_feed 1 := ⟨okX10_feed, ⟨TX10, 46, rfl⟩, x_mem 20 u6 rfl rfl, x_mem 21 u6 rfl rfl, x_mem 22 u6 rfl rfl⟩
theorem mlL_36 : x_MV RL 36 9 fX9_law 0 := ⟨okX9_law, ⟨TX9, 10, rfl⟩, x_mem 230 u2 rfl rfl, x_mem 231 u2 rfl rfl, x_mem 232 u2 rfl rfl⟩
theorem mlL_40 : x_MV RL 40 10 fX10_law 0 := ⟨okX10_law, ⟨TX10, 46, rfl⟩, x_mem 25 u6 rfl rfl, x_mem 26 u6 rfl rfl, x_mem 27 u6 rfl rfl⟩
theorem mlL_41 : x_MV RL 41 9 fX9_go 1 := ⟨okX9_go, ⟨TX9, 10, rfl⟩, x_mem 45 u3 rfl rfl, x_mem 46 u3 rfl rfl, x_mem 47 u3 rfl rfl⟩
theorem mlL_44 : x_MV RL 44 10 fX10_go 1 := ⟨okX10_go, ⟨TX10, 46, rfl⟩, x_mem 72 u6 rfl rfl, x_mem 73 u6 rfl rfl, x_mem 74 u6 rfl rfl⟩
theorem mlL_45 : x_MV RL 45 9 fX9_lift 1 := ⟨okX9_lift, ⟨TX9, 10, rfl⟩, x_mem 149 u3 rfl rfl, x_mem 150 u3 rfl rfl, x_mem 151 u3 rfl rfl⟩
theorem mlL_48 : x_MV RL 48 10 fX10_lift 1 := ⟨okX10_lift, ⟨TX10, 46, rfl⟩, x_mem 126 u6 rfl rfl, x_mem 127 u6 rfl rfl, x_mem 128 u6 rfl rfl⟩
theorem mlL_49 : x_MV RL 49 9 fX9_led 1 := ⟨okX9_led, ⟨TX9, 10, rfl⟩, x_mem 154 u3 rfl rfl, x_mem 155 u3 rfl rfl, x_mem 156 u3 rfl rfl⟩
theorem mlL_52 : x_MV RL 52 10 fX10_led 1 := ⟨okX10_led, ⟨TX10, 46, rfl⟩, x_mem 130 u6 rfl rfl, x_mem 131 u6 rfl rfl, x_mem 132 u6 rfl rfl⟩
theorem mlL_53 : x_MV RL 53 9 fX9_then 3 := ⟨okX9_then, ⟨TX9, 10, rfl⟩, x_mem 158 u3 rfl rfl, x_mem 159 u3 rfl rfl, x_mem 160 u3 rfl rfl⟩
theorem mlL_56 : x_MV RL 56 10 fX10_then 3 := ⟨okX10_then, ⟨TX10, 46, rfl⟩, x_mem 134 u6 rfl rfl, x_mem 135 u6 rfl rfl, x_mem 136 u6 rfl rfl⟩
theorem mlL_57 : x_MV RL 57 9 fX9_falls 1 := ⟨okX9_falls, ⟨TX9, 10, rfl⟩, x_mem 190 u3 rfl rfl, x_mem 191 u3 rfl rfl, x_mem 192 u3 rfl rfl⟩
theorem mlL_60 : x_MV RL 60 10 fX10_falls 1 := ⟨okX10_falls, ⟨TX10, 46, rfl⟩, x_mem 138 u6 rfl rfl, x_mem 139 u6 rfl rfl, x_mem 140 u6 rfl rfl⟩
theorem mlL_61 : x_MV RL 61 9 fX9_lasts 0 := ⟨okX9_lasts, ⟨TX9, 10, rfl⟩, x_mem 200 u3 rfl rfl, x_mem 201 u3 rfl rfl, x_mem 202 u3 rfl rfl⟩
theorem mlL_64 : x_MV RL 64 10 fX10_lasts 0 := ⟨okX10_lasts, ⟨TX10, 46, rfl⟩, x_mem 146 u6 rfl rfl, x_mem 147 u6 rfl rfl, x_mem 148 u6 rfl rfl⟩
theorem mlL_65 : x_MV RL 65 9 fX9_beatFor 1 := ⟨okX9_beatFor, ⟨TX9, 10, rfl⟩, x_mem 209 u3 rfl rfl, x_mem 210 u3 rfl rfl, x_mem 211 u3 rfl rfl⟩
theorem mlL_68 : x_MV RL 68 10 fX10_beatFor 1 := ⟨okX10_beatFor, ⟨TX10, 46, rfl⟩, x_mem 154 u6 rfl rfl, x_mem 155 u6 rfl rfl, x_mem 156 u6 rfl rfl⟩
theorem mlL_69 : x_MV RL 69 9 fX9_leastPush 1 := ⟨okX9_leastPush, ⟨TX9, 10, rfl⟩, x_mem 213 u3 rfl rfl, x_mem 214 u3 rfl rfl, x_mem 215 u3 rfl rfl⟩
theorem mlL_72 : x_MV RL 72 10 fX10_leastPush 1 := ⟨okX10_leastPush, ⟨TX10, 46, rfl⟩, x_mem 159 u6 rfl rfl, x_mem 160 u6 rfl rfl, x_mem 161 u6 rfl rfl⟩
theorem mlL_73 : x_MV RL 73 9 fX9_mistake 2 := ⟨okX9_mistake, ⟨TX9, 10, rfl⟩, x_mem 217 u3 rfl rfl, x_mem 218 u3 rfl rfl, x_mem 219 u3 rfl rfl⟩
theorem mlL_76 : x_MV RL 76 10 fX10_mistake 2 := ⟨okX10_mistake, ⟨TX10, 46, rfl⟩, x_mem 163 u6 rfl rfl, x_mem 164 u6 rfl rfl, x_mem 165 u6 rfl rfl⟩
theorem mlL_77 : x_MV RL 77 9 fX9_held 1 := ⟨okX9_held, ⟨TX9, 10, rfl⟩, x_mem 233 u3 rfl rfl, x_mem 234 u3 rfl rfl, x_mem 235 u3 rfl rfl⟩
theorem mlL_80 : x_MV RL 80 10 fX10_held 1 := ⟨okX10_held, ⟨TX10, 46, rfl⟩, x_mem 172 u6 rfl rfl, x_mem 173 u6 rfl rfl, x_mem 174 u6 rfl rfl⟩
theorem mlL_81 : x_MV RL 81 9 fX9_rescue 2 := ⟨okX9_rescue, ⟨TX9, 10, rfl⟩, x_mem 15 u4 rfl rfl, x_mem 16 u4 rfl rfl, x_mem 17 u4 rfl rfl⟩
theorem mlL_84 : x_MV RL 84 10 fX10_rescue 2 := ⟨okX10_rescue, ⟨TX10, 46, rfl⟩, x_mem 176 u6 rfl rfl, x_mem 177 u6 rfl rfl, x_mem 178 u6 rfl rfl⟩
theorem mlL_85 : x_MV RL 85 9 fX9_start 1 := ⟨okX9_start, ⟨TX9, 10, rfl⟩, x_mem 27 u4 rfl rfl, x_mem 28 u4 rfl rfl, x_mem 29 u4 rfl rfl⟩
theorem mlL_88 : x_MV RL 88 10 fX10_start 1 := ⟨okX10_start, ⟨TX10, 46, rfl⟩, x_mem 184 u6 rfl rfl, x_mem 185 u6 rfl rfl, x_mem 186 u6 rfl rfl⟩
theorem mlL_89 : x_MV RL 89 9 fX9_music 1 := ⟨okX9_music, ⟨TX9, 10, rfl⟩, x_mem 31 u4 rfl rfl, x_mem 32 u4 rfl rfl, x_mem 33 u4 rfl rfl⟩
theorem mlL_92 : x_MV RL 92 10 fX10_music 1 := ⟨okX10_music, ⟨TX10, 46, rfl⟩, x_mem 188 u6 rfl rfl, x_mem 189 u6 rfl rfl, x_mem 190 u6 rfl rfl⟩
theorem mlL_93 : x_MV RL 93 9 fX9_judge 2 := ⟨okX9_judge, ⟨TX9, 10, rfl⟩, x_mem 50 u4 rfl rfl, x_mem 51 u4 rfl rfl, x_mem 52 u4 rfl rfl⟩
theorem mlL_96 : x_MV RL 96 10 fX10_judge 2 := ⟨okX10_judge, ⟨TX10, 46, rfl⟩, x_mem 197 u6 rfl rfl, x_mem 198 u6 rfl rfl, x_mem 199 u6 rfl rfl⟩
theorem mlL_97 : x_MV RL 97 9 fX9_begun 3 := ⟨okX9_begun, ⟨TX9, 10, rfl⟩, x_mem 58 u4 rfl rfl, x_mem 59 u4 rfl rfl, x_mem 60 u4 rfl rfl⟩
theorem mlL_100 : x_MV RL 100 10 fX10_begun 3 := ⟨okX10_begun, ⟨TX10, 46, rfl⟩, x_mem 205 u6 rfl rfl, x_mem 206 u6 rfl rfl, x_mem 207 u6 rfl rfl⟩
theorem mlL_101 : x_MV RL 101 9 fX9_skill 2 := ⟨okX9_skill, ⟨TX9, 10, rfl⟩, x_mem 62 u4 rfl rfl, x_mem 63 u4 rfl rfl, x_mem 64 u4 rfl rfl⟩
theorem mlL_104 : x_MV RL 104 10 fX10_skill 2 := ⟨okX10_skill, ⟨TX10, 46, rfl⟩, x_mem 209 u6 rfl rfl, x_mem 210 u6 rfl rfl, x_mem 211 u6 rfl rfl⟩
theorem mlL_105 : x_MV RL 105 9 fX9_left 3 := ⟨okX9_left, ⟨TX9, 10, rfl⟩, x_mem 70 u4 rfl rfl, x_mem 71 u4 rfl rfl, x_mem 72 u4 rfl rfl⟩
theorem mlL_108 : x_MV RL 108 10 fX10_left 3 := ⟨okX10_left, ⟨TX10, 46, rfl⟩, x_mem 217 u6 rfl rfl, x_mem 218 u6 rfl rfl, x_mem 219 u6 rfl rfl⟩
theorem mlL_109 : x_MV RL 109 9 fX9_knocked 3 := ⟨okX9_knocked, ⟨TX9, 10, rfl⟩, x_mem 105 u4 rfl rfl, x_mem 106 u4 rfl rfl, x_mem 107 u4 rfl rfl⟩
theorem mlL_112 : x_MV RL 112 10 fX10_knocked 3 := ⟨okX10_knocked, ⟨TX10, 46, rfl⟩, x_mem 238 u6 rfl rfl, x_mem 239 u6 rfl rfl, x_mem 0 u7 rfl rfl⟩
theorem mlL_113 : x_MV RL 113 9 fX9_last 2 := ⟨okX9_last, ⟨TX9, 10, rfl⟩, x_mem 109 u4 rfl rfl, x_mem 110 u4 rfl rfl, x_mem 111 u4 rfl rfl⟩
theorem mlL_116 : x_MV RL 116 10 fX10_last 2 := ⟨okX10_last, ⟨TX10, 46, rfl⟩, x_mem 2 u7 rfl rfl, x_mem 3 u7 rfl rfl, x_mem 4 u7 rfl rfl⟩
theorem mlL_117 : x_MV RL 117 9 fX9_alone 3 := ⟨okX9_alone, ⟨TX9, 10, rfl⟩, x_mem 117 u4 rfl rfl, x_mem 118 u4 rfl rfl, x_mem 119 u4 rfl rfl⟩
theorem mlL_121 : x_MV RL 121 10 fX10_alone 3 := ⟨okX10_alone, ⟨TX10, 46, rfl⟩, x_mem 6 u7 rfl rfl, x_mem 7 u7 rfl rfl, x_mem 8 u7 rfl rfl⟩
theorem mlL_122 : x_MV RL 122 9 fX9_learn 2 := ⟨okX9_learn, ⟨TX9, 10, rfl⟩, x_mem 126 u4 rfl rfl, x_mem 127 u4 rfl rfl, x_mem 128 u4 rfl rfl⟩
theorem mlL_125 : x_MV RL 125 10 fX10_learn 2 := ⟨okX10_learn, ⟨TX10, 46, rfl⟩, x_mem 12 u7 rfl rfl, x_mem 13 u7 rfl rfl, x_mem 14 u7 rfl rfl⟩
theorem mlL_126 : x_MV RL 126 9 fX9_till 2 := ⟨okX9_till, ⟨TX9, 10, rfl⟩, x_mem 139 u4 rfl rfl, x_mem 140 u4 rfl rfl, x_mem 141 u4 rfl rfl⟩
theorem mlL_129 : x_MV RL 129 10 fX10_till 2 := ⟨okX10_till, ⟨TX10, 46, rfl⟩, x_mem 20 u7 rfl rfl, x_mem 21 u7 rfl rfl, x_mem 22 u7 rfl rfl⟩
theorem mlL_130 : x_MV RL 130 9 fX9_image 0 := ⟨okX9_image, ⟨TX9, 10, rfl⟩, x_mem 144 u4 rfl rfl, x_mem 145 u4 rfl rfl, x_mem 146 u4 rfl rfl⟩
theorem mlL_133 : x_MV RL 133 10 fX10_image 0 := ⟨okX10_image, ⟨TX10, 46, rfl⟩, x_mem 24 u7 rfl rfl, x_mem 25 u7 rfl rfl, x_mem 26 u7 rfl rfl⟩
theorem mlL_134 : x_MV RL 134 9 fX9_back 0 := ⟨okX9_back, ⟨TX9, 10, rfl⟩, x_mem 149 u4 rfl rfl, x_mem 150 u4 rfl rfl, x_mem 151 u4 rfl rfl⟩
theorem mlL_137 : x_MV RL 137 10 fX10_back 0 := ⟨okX10_back, ⟨TX10, 46, rfl⟩, x_mem 28 u7 rfl rfl, x_mem 29 u7 rfl rfl, x_mem 30 u7 rfl rfl⟩
theorem mlL_138 : x_MV RL 138 9 fX9_undo 0 := ⟨okX9_undo, ⟨TX9, 10, rfl⟩, x_mem 158 u4 rfl rfl, x_mem 159 u4 rfl rfl, x_mem 160 u4 rfl rfl⟩
theorem mlL_141 : x_MV RL 141 10 fX10_undo 0 := ⟨okX10_undo, ⟨TX10, 46, rfl⟩, x_mem 193 u5 rfl rfl, x_mem 194 u5 rfl rfl, x_mem 195 u5 rfl rfl⟩
theorem mlL_142 : x_MV RL 142 9 fX9_redo 0 := ⟨okX9_redo, ⟨TX9, 10, rfl⟩, x_mem 162 u4 rfl rfl, x_mem 163 u4 rfl rfl, x_mem 164 u4 rfl rfl⟩
theorem mlL_145 : x_MV RL 145 10 fX10_redo 0 := ⟨okX10_redo, ⟨TX10, 46, rfl⟩, x_mem 206 u5 rfl rfl, x_mem 207 u5 rfl rfl, x_mem 208 u5 rfl rfl⟩
theorem mlL_146 : x_MV RL 146 9 fX9_body 1 := ⟨okX9_body, ⟨TX9, 10, rfl⟩, x_mem 166 u4 rfl rfl, x_mem 167 u4 rfl rfl, x_mem 168 u4 rfl rfl⟩
theorem mlL_149 : x_MV RL 149 10 fX10_body 1 := ⟨okX10_body, ⟨TX10, 46, rfl⟩, x_mem 32 u7 rfl rfl, x_mem 33 u7 rfl rfl, x_mem 34 u7 rfl rfl⟩
theorem mlL_150 : x_MV RL 150 9 fX9_act 3 := ⟨okX9_act, ⟨TX9, 10, rfl⟩, x_mem 182 u4 rfl rfl, x_mem 183 u4 rfl rfl, x_mem 184 u4 rfl rfl⟩
theorem mlL_153 : x_MV RL 153 10 fX10_act 3 := ⟨okX10_act, ⟨TX10, 46, rfl⟩, x_mem 36 u7 rfl rfl, x_mem 37 u7 rfl rfl, x_mem 38 u7 rfl rfl⟩
theorem mlL_154 : x_MV RL 154 9 fX9_trace 1 := ⟨okX9_trace, ⟨TX9, 10, rfl⟩, x_mem 220 u4 rfl rfl, x_mem 221 u4 rfl rfl, x_mem 222 u4 rfl rfl⟩
theorem mlL_157 : x_MV RL 157 10 fX10_trace 1 := ⟨okX10_trace, ⟨TX10, 46, rfl⟩, x_mem 64 u7 rfl rfl, x_mem 65 u7 rfl rfl, x_mem 66 u7 rfl rfl⟩
theorem mlL_158 : x_MV RL 158 9 fX9_keep 2 := ⟨okX9_keep, ⟨TX9, 10, rfl⟩, x_mem 224 u4 rfl rfl, x_mem 225 u4 rfl rfl, x_mem 226 u4 rfl rfl⟩
theorem mlL_161 : x_MV RL 161 10 fX10_keep 2 := ⟨okX10_keep, ⟨TX10, 46, rfl⟩, x_mem 68 u7 rfl rfl, x_mem 69 u7 rfl rfl, x_mem 70 u7 rfl rfl⟩
theorem mlL_162 : x_MV RL 162 9 fX9_row 3 := ⟨okX9_row, ⟨TX9, 10, rfl⟩, x_mem 236 u4 rfl rfl, x_mem 237 u4 rfl rfl, x_mem 238 u4 rfl rfl⟩
theorem mlL_165 : x_MV RL 165 10 fX10_row 3 := ⟨okX10_row, ⟨TX10, 46, rfl⟩, x_mem 72 u7 rfl rfl, x_mem 73 u7 rfl rfl, x_mem 74 u7 rfl rfl⟩
theorem mlL_168 : x_MV RL 168 9 fX9_put 3 := ⟨okX9_put, ⟨TX9, 10, rfl⟩, x_mem 7 u5 rfl rfl, x_mem 8 u5 rfl rfl, x_mem 9 u5 rfl rfl⟩
theorem mlL_172 : x_MV RL 172 10 fX10_put 3 := ⟨okX10_put, ⟨TX10, 46, rfl⟩, x_mem 76 u7 rfl rfl, x_mem 77 u7 rfl rfl, x_mem 78 u7 rfl rfl⟩
theorem mlL_173 : x_MV RL 173 9 fX9_element 2 := ⟨okX9_element, ⟨TX9, 10, rfl⟩, x_mem 19 u5 rfl rfl, x_mem 20 u5 rfl rfl, x_mem 21 u5 rfl rfl⟩
theorem mlL_177 : x_MV RL 177 10 fX10_element 2 := ⟨okX10_element, ⟨TX10, 46, rfl⟩, x_mem 87 u7 rfl rfl, x_mem 88 u7 rfl rfl, x_mem 89 u7 rfl rfl⟩
theorem mlL_178 : x_MV RL 178 9 fX9_shift 5 := ⟨okX9_shift, ⟨TX9, 10, rfl⟩, x_mem 23 u5 rfl rfl, x_mem 24 u5 rfl rfl, x_mem 25 u5 rfl rfl⟩
theorem mlL_182 : x_MV RL 182 10 fX10_shift 5 := ⟨okX10_shift, ⟨TX10, 46, rfl⟩, x_mem 91 u7 rfl rfl, x_mem 92 u7 rfl rfl, x_mem 93 u7 rfl rfl⟩
theorem mlL_183 : x_MV RL 183 9 fX9_taken 2 := ⟨okX9_taken, ⟨TX9, 10, rfl⟩, x_mem 33 u5 rfl rfl, x_mem 34 u5 rfl rfl, x_mem 35 u5 rfl rfl⟩
theorem mlL_186 : x_MV RL 186 10 fX10_taken 2 := ⟨okX10_taken, ⟨TX10, 46, rfl⟩, x_mem 95 u7 rfl rfl, x_mem 96 u7 rfl rfl, x_mem 97 u7 rfl rfl⟩
theorem mlL_187 : x_MV RL 187 9 fX9_count 1 := ⟨okX9_count, ⟨TX9, 10, rfl⟩, x_mem 44 u5 rfl rfl, x_mem 45 u5 rfl rfl, x_mem 46 u5 rfl rfl⟩
theorem mlL_190 : x_MV RL 190 10 fX10_count 1 := ⟨okX10_count, ⟨TX10, 46, rfl⟩, x_mem 106 u7 rfl rfl, x_mem 107 u7 rfl rfl, x_mem 108 u7 rfl rfl⟩
theorem obX10_3 : Cond.methodLink RX10 3 objectInit ∈ xU := x_mem 53 u5 rfl rfl
theorem mlX10_101 : x_MS RX10 101 fX10_within 3 := ⟨okX10_within, x_mem 203 u5 rfl rfl, x_mem 204 u5 rfl rfl⟩
theorem mlX10_105 : x_MV RX10 105 10 fX10_lays 2 := ⟨okX10_lays, ⟨TX10, 46, rfl⟩, x_mem 197 u5 rfl rfl, x_mem 199 u5 rfl rfl, x_mem 29 uS rfl rfl⟩
theorem mlX10_118 : x_MS RX10 118 fX10_isOne 3 := ⟨okX10_isOne, x_mem 215 u5 rfl rfl, x_mem 216 u5 rfl rfl⟩
theorem mlX10_121 : x_MV RX10 121 10 fX10_adds 3 := ⟨okX10_adds, ⟨TX10, 46, rfl⟩, x_mem 220 u5 rfl rfl, x_mem 222 u5 rfl rfl, x_mem 30 uS rfl rfl⟩
theorem mlX10_125 : x_MS RX10 125 fX10_isShelf 1 := ⟨okX10_isShelf, x_mem 228 u5 rfl rfl, x_mem 229 u5 rfl rfl⟩
theorem mlX10_133 : x_MV RX10 133 10 fX10_isHoop 1 := ⟨okX10_isHoop, ⟨TX10, 46, rfl⟩, x_mem 237 u5 rfl rfl, x_mem 239 u5 rfl rfl, x_mem 31 uS rfl rfl⟩
theorem mlX10_136 : x_MV RX10 136 10 fX10_becomes 2 := ⟨okX10_becomes, ⟨TX10, 46, rfl⟩, x_mem 1 u6 rfl rfl, x_mem 3 u6 rfl rfl, x_mem 32 uS rfl rfl⟩
theorem mlX10_145 : x_MV RX10 145 10 fX10_needOf 1 := ⟨okX10_needOf, ⟨TX10, 46, rfl⟩, x_mem 12 u6 rfl rfl, x_mem 14 u6 rfl rfl, x_mem 33 uS rfl rfl⟩
theorem mlX10_177 : x_MV RX10 177 10 fX10_byteAt 0 := ⟨okX10_byteAt, ⟨TX10, 46, rfl⟩, x_mem 57 u6 rfl rfl, x_mem 59 u6 rfl rfl, x_mem 41 uS rfl rfl⟩
theorem mlX10_181 : x_MV RX10 181 10 fX10_both 0 := ⟨okX10_both, ⟨TX10, 46, rfl⟩, x_mem 37 u6 rfl rfl, x_mem 39 u6 rfl rfl, x_mem 36 uS rfl rfl⟩
theorem mlX10_184 : x_MV RX10 184 10 fX10_takes 1 := ⟨okX10_takes, ⟨TX10, 46, rfl⟩, x_mem 65 u6 rfl rfl, x_mem 67 u6 rfl rfl, x_mem 43 uS rfl rfl⟩
theorem mlX10_187 : x_MV RX10 187 10 fX10_compared 0 := ⟨okX10_compared, ⟨TX10, 46, rfl⟩, x_mem 41 u6 rfl rfl, x_mem 43 u6 rfl rfl, x_mem 37 uS rfl rfl⟩
theorem mlX10_190 : x_MV RX10 190 10 fX10_sums 0 := ⟨okX10_sums, ⟨TX10, 46, rfl⟩, x_mem 45 u6 rfl rfl, x_mem 47 u6 rfl rfl, x_mem 38 uS rfl rfl⟩
theorem mlX10_193 : x_MV RX10 193 10 fX10_product 0 := ⟨okX10_product, ⟨TX10, 46, rfl⟩, x_mem 49 u6 rfl rfl, x_mem 51 u6 rfl rfl, x_mem 39 uS rfl rfl⟩
theorem mlX10_196 : x_MV RX10 196 10 fX10_one 0 := ⟨okX10_one, ⟨TX10, 46, rfl⟩, x_mem 53 u6 rfl rfl, x_mem 55 u6 rfl rfl, x_mem 40 uS rfl rfl⟩
theorem mlX10_202 : x_MV RX10 202 10 fX10_wrong 0 := ⟨okX10_wrong, ⟨TX10, 46, rfl⟩, x_mem 61 u6 rfl rfl, x_mem 63 u6 rfl rfl, x_mem 42 uS rfl rfl⟩
theorem mlX10_205 : x_MV RX10 205 10 fX10_either 0 := ⟨okX10_either, ⟨TX10, 46, rfl⟩, x_mem 33 u6 rfl rfl, x_mem 35 u6 rfl rfl, x_mem 35 uS rfl rfl⟩
theorem mlX10_208 : x_MS RX10 208 fX10_nameOf 1 := ⟨okX10_nameOf, x_mem 69 u6 rfl rfl, x_mem 70 u6 rfl rfl⟩
theorem mlX10_211 : x_MV RX10 211 10 fX10_workOut 2 := ⟨okX10_workOut, ⟨TX10, 46, rfl⟩, x_mem 29 u6 rfl rfl, x_mem 31 u6 rfl rfl, x_mem 34 uS rfl rfl⟩
theorem mlX10_214 : x_MS RX10 214 fX10_isIn 2 := ⟨okX10_isIn, x_mem 85 u6 rfl rfl, x_mem 86 u6 rfl rfl⟩
theorem mlX10_218 : x_MS RX10 218 fX10_sizeOf 1 := ⟨okX10_sizeOf, x_mem 108 u6 rfl rfl, x_mem 109 u6 rfl rfl⟩
theorem mlX10_221 : x_MV RX10 221 10 fX10_gained 3 := ⟨okX10_gained, ⟨TX10, 46, rfl⟩, x_mem 111 u6 rfl rfl, x_mem 113 u6 rfl rfl, x_mem 51 uS rfl rfl⟩
theorem mlX10_225 : x_MV RX10 225 10 fX10_becomesPace 2 := ⟨okX10_becomesPace, ⟨TX10, 46, rfl⟩, x_mem 115 u6 rfl rfl, x_mem 117 u6 rfl rfl, x_mem 52 uS rfl rfl⟩
theorem mlX10_228 : x_MV RX10 228 10 fX10_isPush 1 := ⟨okX10_isPush, ⟨TX10, 46, rfl⟩, x_mem 96 u6 rfl rfl, x_mem 98 u6 rfl rfl, x_mem 48 uS rfl rfl⟩
theorem mlX10_231 : x_MV RX10 231 10 fX10_toOf 1 := ⟨okX10_toOf, ⟨TX10, 46, rfl⟩, x_mem 100 u6 rfl rfl, x_mem 102 u6 rfl rfl, x_mem 49 uS rfl rfl⟩
theorem mlX10_234 : x_MV RX10 234 10 fX10_pushes 2 := ⟨okX10_pushes, ⟨TX10, 46, rfl⟩, x_mem 104 u6 rfl rfl, x_mem 106 u6 rfl rfl, x_mem 50 uS rfl rfl⟩
theorem mlX10_240 : x_MV RX10 240 10 fX10_turns 1 := ⟨okX10_turns, ⟨TX10, 46, rfl⟩, x_mem 119 u6 rfl rfl, x_mem 121 u6 rfl rfl, x_mem 53 uS rfl rfl⟩
theorem mlX10_246 : x_MV RX10 246 10 fX10_upNow 0 := ⟨okX10_upNow, ⟨TX10, 46, rfl⟩, x_mem 77 u6 rfl rfl, x_mem 79 u6 rfl rfl, x_mem 44 uS rfl rfl⟩
theorem mlX10_249 : x_MV RX10 249 10 fX10_begins1 1 := ⟨okX10_begins1, ⟨TX10, 46, rfl⟩, x_mem 81 u6 rfl rfl, x_mem 83 u6 rfl rfl, x_mem 45 uS rfl rfl⟩
theorem mlX10_252 : x_MV RX10 252 10 fX10_lyingOf 1 := ⟨okX10_lyingOf, ⟨TX10, 46, rfl⟩, x_mem 88 u6 rfl rfl, x_mem 90 u6 rfl rfl, x_mem 46 uS rfl rfl⟩
theorem mlX10_255 : x_MV RX10 255 10 fX10_tickGoes 1 := ⟨okX10_tickGoes, ⟨TX10, 46, rfl⟩, x_mem 92 u6 rfl rfl, x_mem 94 u6 rfl rfl, x_mem 47 uS rfl rfl⟩
theorem mlX10_261 : x_MS RX10 261 fX10_bitsOf 1 := ⟨okX10_bitsOf, x_mem 123 u6 rfl rfl, x_mem 124 u6 rfl rfl⟩
theorem mlX10_264 : x_MV RX10 264 10 fX10_fallOf 1 := ⟨okX10_fallOf, ⟨TX10, 46, rfl⟩, x_mem 142 u6 rfl rfl, x_mem 144 u6 rfl rfl, x_mem 54 uS rfl rfl⟩
theorem mlX10_267 : x_MV RX10 267 10 fX10_lastsOf 1 := ⟨okX10_lastsOf, ⟨TX10, 46, rfl⟩, x_mem 150 u6 rfl rfl, x_mem 152 u6 rfl rfl, x_mem 55 uS rfl rfl⟩
theorem mlX10_270 : x_MV RX10 270 10 fX10_lasts 0 := ⟨okX10_lasts, ⟨TX10, 46, rfl⟩, x_mem 158 u6 rfl rfl, x_mem 147 u6 rfl rfl, x_mem 148 u6 rfl rfl⟩
theorem mlX10_278 : x_MV RX10 278 10 fX10_mistaken 1 := ⟨okX10_mistaken, ⟨TX10, 46, rfl⟩, x_mem 168 u6 rfl rfl, x_mem 170 u6 rfl rfl, x_mem 56 uS rfl rfl⟩
theorem mlX10_281 : x_MV RX10 281 10 fX10_fallWith 4 := ⟨okX10_fallWith, ⟨TX10, 46, rfl⟩, x_mem 180 u6 rfl rfl, x_mem 182 u6 rfl rfl, x_mem 57 uS rfl rfl⟩
theorem mlX10_285 : x_MV RX10 285 10 fX10_rowIs 1 := ⟨okX10_rowIs, ⟨TX10, 46, rfl⟩, x_mem 192 u6 rfl rfl, x_mem 194 u6 rfl rfl, x_mem 58 uS rfl rfl⟩
theorem mlX10_290 : x_MV RX10 290 10 fX10_firstFalse 2 := ⟨okX10_firstFalse, ⟨TX10, 46, rfl⟩, x_mem 201 u6 rfl rfl, x_mem 203 u6 rfl rfl, x_mem 59 uS rfl rfl⟩
theorem mlX10_293 : x_MS RX10 293 fX10_isGirl 1 := ⟨okX10_isGirl, x_mem 213 u6 rfl rfl, x_mem 214 u6 rfl rfl⟩
theorem mlX10_302 : x_MV RX10 302 10 fX10_draws 0 := ⟨okX10_draws, ⟨TX10, 46, rfl⟩, x_mem 226 u6 rfl rfl, x_mem 228 u6 rfl rfl, x_mem 61 uS rfl rfl⟩
theorem mlX10_305 : x_MV RX10 305 10 fX10_drops 3 := ⟨okX10_drops, ⟨TX10, 46, rfl⟩, x_mem 231 u6 rfl rfl, x_mem 233 u6 rfl rfl, x_mem 62 uS rfl rfl⟩
theorem mlX10_308 : x_MS RX10 308 fX10_besideOf 2 := ⟨okX10_besideOf, x_mem 235 u6 rfl rfl, x_mem 236 u6 rfl rfl⟩
theorem mlX10_313 : x_MV RX10 313 10 fX10_field 2 := ⟨okX10_field, ⟨TX10, 46, rfl⟩, x_mem 222 u6 rfl rfl, x_mem 224 u6 rfl rfl, x_mem 60 uS rfl rfl⟩
theorem mlX10_324 : x_MS RX10 324 fX10_needsOf 1 := ⟨okX10_needsOf, x_mem 17 u7 rfl rfl, x_mem 18 u7 rfl rfl⟩
theorem mlX10_340 : x_MV RX10 340 10 fX10_begins 1 := ⟨okX10_begins, ⟨TX10, 46, rfl⟩, x_mem 48 u7 rfl rfl, x_mem 50 u7 rfl rfl, x_mem 65 uS rfl rfl⟩
theorem mlX10_343 : x_MV RX10 343 10 fX10_pushesAs 2 := ⟨okX10_pushesAs, ⟨TX10, 46, rfl⟩, x_mem 44 u7 rfl rfl, x_mem 46 u7 rfl rfl, x_mem 64 uS rfl rfl⟩
theorem mlX10_349 : x_MV RX10 349 10 fX10_turnsAs 2 := ⟨okX10_turnsAs, ⟨TX10, 46, rfl⟩, x_mem 52 u7 rfl rfl, x_mem 54 u7 rfl rfl, x_mem 66 uS rfl rfl⟩
theorem mlX10_355 : x_MV RX10 355 10 fX10_sinksAs 2 := ⟨okX10_sinksAs, ⟨TX10, 46, rfl⟩, x_mem 56 u7 rfl rfl, x_mem 58 u7 rfl rfl, x_mem 67 uS rfl rfl⟩
theorem mlX10_358 : x_MV RX10 358 10 fX10_tellsAs 2 := ⟨okX10_tellsAs, ⟨TX10, 46, rfl⟩, x_mem 60 u7 rfl rfl, x_mem 62 u7 rfl rfl, x_mem 68 uS rfl rfl⟩
theorem mlX10_361 : x_MV RX10 361 10 fX10_isBody 1 := ⟨okX10_isBody, ⟨TX10, 46, rfl⟩, x_mem 40 u7 rfl rfl, x_mem 42 u7 rfl rfl, x_mem 63 uS rfl rfl⟩
theorem mlX10_364 : x_MV RX10 364 10 fX10_refusal 2 := ⟨okX10_refusal, ⟨TX10, 46, rfl⟩, x_mem 80 u7 rfl rfl, x_mem 82 u7 rfl rfl, x_mem 69 uS rfl rfl⟩
theorem mlX10_367 : x_MS RX10 367 fX10_asSort 2 := ⟨okX10_asSort, x_mem 84 u7 rfl rfl, x_mem 85 u7 rfl rfl⟩
theorem mlX10_371 : x_MV RX10 371 10 fX10_kindOf 1 := ⟨okX10_kindOf, ⟨TX10, 46, rfl⟩, x_mem 99 u7 rfl rfl, x_mem 101 u7 rfl rfl, x_mem 70 uS rfl rfl⟩
theorem mlX10_374 : x_MS RX10 374 fX10_above 1 := ⟨okX10_above, x_mem 103 u7 rfl rfl, x_mem 104 u7 rfl rfl⟩
theorem mlX2_56 : x_MN RX2 56 fX9_within 3 := ⟨okX9_within, ⟨"HoopWaist", List.mem_of_getElem? (i := 0) rfl⟩, x_mem 105 u3 rfl rfl⟩
theorem mlX3_60 : x_MN RX3 60 fX9_within 3 := ⟨okX9_within, ⟨"HoopWaist", List.mem_of_getElem? (i := 1) rfl⟩, x_mem 105 u3 rfl rfl⟩
theorem mlX5_79 : x_MN RX5 79 fX9_rest 2 := ⟨okX9_rest, ⟨"HoopWaist", List.mem_of_getElem? (i := 2) rfl⟩, x_mem 58 u3 rfl rfl⟩
theorem mlX5_83 : x_MN RX5 83 fX9_goalOf 1 := ⟨okX9_goalOf, ⟨"HoopWaist", List.mem_of_getElem? (i := 3) rfl⟩, x_mem 65 u3 rfl rfl⟩
theorem mlX7_88 : x_MN RX7 88 fX9_goalOf 1 := ⟨okX9_goalOf, ⟨"HoopWaist", List.mem_of_getElem? (i := 4) rfl⟩, x_mem 65 u3 rfl rfl⟩
theorem mlX8_26 : x_MN RX8 26 fX9_isKind 1 := ⟨okX9_isKind, ⟨"HoopWaist", List.mem_of_getElem? (i := 5) rfl⟩, x_mem 171 u4 rfl rfl⟩
theorem coX9_105 : Cond.constant RX9 105 (-2000000000) ∈ xU := x_mem 177 u2 rfl rfl
theorem coX1_67 : Cond.constant RX1 67 (1103515245) ∈ xU := x_mem 89 u4 rfl rfl
theorem coX2_41 : Cond.constant RX2 41 (-2000000000) ∈ xU := x_mem 190 u2 rfl rfl
theorem coX10_140 : Cond.constant RX10 140 (-2000000000) ∈ xU := x_mem 5 u6 rfl rfl
theorem coX10_301 : Cond.constant RX10 301 (1103515245) ∈ xU := x_mem 230 u6 rfl rfl
theorem coJ6_265 : Cond.constant RJ6 265 (1431655765) ∈ xU := x_mem 0 u4 rfl rfl
theorem coJ6_266 : Cond.constant RJ6 266 (858993459) ∈ xU := x_mem 1 u4 rfl rfl
theorem coJ6_267 : Cond.constant RJ6 267 (252645135) ∈ xU := x_mem 2 u4 rfl rfl
theorem coX9_286 : Cond.constantLong RX9 286 (-9223372036854775808) ∈ xU := x_mem 121 u4 rfl rfl
theorem coL_166 : Cond.constantLong RL 166 (4294967295) ∈ xU := x_mem 110 u7 rfl rfl
theorem coX10_97 : Cond.constantLong RX10 97 (10) ∈ xU := x_mem 201 u5 rfl rfl
theorem coX10_99 : Cond.constantLong RX10 99 (14) ∈ xU := x_mem 202 u5 rfl rfl
theorem coX10_112 : Cond.constantLong RX10 112 (9) ∈ xU := x_mem 218 u5 rfl rfl
theorem coX10_114 : Cond.constantLong RX10 114 (-9) ∈ xU := x_mem 219 u5 rfl rfl
theorem coX10_116 : Cond.constantLong RX10 116 (4) ∈ xU := x_mem 214 u5 rfl rfl
theorem coX10_129 : Cond.constantLong RX10 129 (5) ∈ xU := x_mem 231 u5 rfl rfl
theorem coX10_131 : Cond.constantLong RX10 131 (2) ∈ xU := x_mem 236 u5 rfl rfl
theorem coX10_141 : Cond.constantLong RX10 141 (3) ∈ xU := x_mem 6 u6 rfl rfl
theorem coX10_143 : Cond.constantLong RX10 143 (7) ∈ xU := x_mem 7 u6 rfl rfl
theorem coX10_149 : Cond.constantLong RX10 149 (15) ∈ xU := x_mem 16 u6 rfl rfl
theorem coX10_154 : Cond.constantLong RX10 154 (20) ∈ xU := x_mem 17 u6 rfl rfl
theorem coX10_156 : Cond.constantLong RX10 156 (21) ∈ xU := x_mem 18 u6 rfl rfl
theorem coX10_158 : Cond.constantLong RX10 158 (24) ∈ xU := x_mem 19 u6 rfl rfl
theorem coX10_160 : Cond.constantLong RX10 160 (255) ∈ xU := x_mem 24 u6 rfl rfl
theorem coX10_244 : Cond.constantLong RX10 244 (200) ∈ xU := x_mem 76 u6 rfl rfl
theorem coX10_276 : Cond.constantLong RX10 276 (40) ∈ xU := x_mem 167 u6 rfl rfl
theorem coX10_288 : Cond.constantLong RX10 288 (-1) ∈ xU := x_mem 196 u6 rfl rfl
theorem coX10_296 : Cond.constantLong RX10 296 (12) ∈ xU := x_mem 216 u6 rfl rfl
theorem coX10_311 : Cond.constantLong RX10 311 (30) ∈ xU := x_mem 221 u6 rfl rfl
theorem coX10_316 : Cond.constantLong RX10 316 (8) ∈ xU := x_mem 10 u7 rfl rfl
theorem coX10_320 : Cond.constantLong RX10 320 (-9223372036854775808) ∈ xU := x_mem 11 u7 rfl rfl
theorem coX10_322 : Cond.constantLong RX10 322 (99) ∈ xU := x_mem 16 u7 rfl rfl
theorem nwX9_7 : x_NW RX9 7 3 6 [some none, some none, some none, some none, none, none] := ⟨RX3, TX3, tyX3, rfl, uw3, tyX3_ok, x_mem 23 u1 rfl rfl, x_mem 24 u1 rfl rfl, x_mem 2 u1 rfl rfl, by decide +kernel⟩
theorem nwX9_16 : x_NW RX9 16 4 5 [some none, some none, none, none, none] := ⟨RX4, TX4, tyX4, rfl, uw4, tyX4_ok, x_mem 51 u1 rfl rfl, x_mem 52 u1 rfl rfl, x_mem 3 u1 rfl rfl, by decide +kernel⟩
theorem nwX9_23 : x_NW RX9 23 5 10 [some none, some none, none, none, none, none, none, none, none, none] := ⟨RX5, TX5, tyX5, rfl, uw5, tyX5_ok, x_mem 77 u1 rfl rfl, x_mem 78 u1 rfl rfl, x_mem 4 u1 rfl rfl, by decide +kernel⟩
theorem nwX9_35 : x_NW RX9 35 7 8 [some none, some none, none, none, none, none, none, none] := ⟨RX7, TX7, tyX7, rfl, uw7, tyX7_ok, x_mem 160 u1 rfl rfl, x_mem 161 u1 rfl rfl, x_mem 6 u1 rfl rfl, by decide +kernel⟩
theorem nwX9_44 : x_NW RX9 44 1 7 [some none, some none, some none, some none, some none, none, none] := ⟨RX1, TX1, tyX1, rfl, uw1, tyX1_ok, x_mem 192 u1 rfl rfl, x_mem 193 u1 rfl rfl, x_mem 7 u1 rfl rfl, by decide +kernel⟩
theorem nwX9_51 : x_NW RX9 51 0 6 [some none, some none, some none, some none, none, none] := ⟨RX0, TX0, tyX0, rfl, uw0, tyX0_ok, x_mem 227 u1 rfl rfl, x_mem 228 u1 rfl rfl, x_mem 8 u1 rfl rfl, by decide +kernel⟩
theorem nwX9_58 : x_NW RX9 58 8 5 [some none, some none, none, none, none] := ⟨RX8, TX8, tyX8, rfl, uw8, tyX8_ok, x_mem 18 u2 rfl rfl, x_mem 19 u2 rfl rfl, x_mem 9 u1 rfl rfl, by decide +kernel⟩
theorem nwX9_65 : x_NW RX9 65 6 5 [none, none, none, none, some none] := ⟨RX6, TX6, tyX6, rfl, uw6, tyX6_ok, x_mem 44 u2 rfl rfl, x_mem 46 u2 rfl rfl, x_mem 10 u1 rfl rfl, by decide +kernel⟩
theorem klX9_65 : Cond.classLink RX9 65 RX6 ∈ xU := x_mem 44 u2 rfl rfl
theorem nwX4_13 : x_NW RX4 13 3 6 [some none, some none, some none, some none, none, none] := ⟨RX3, TX3, tyX3, rfl, uw3, tyX3_ok, x_mem 57 u1 rfl rfl, x_mem 24 u1 rfl rfl, x_mem 2 u1 rfl rfl, by decide +kernel⟩
theorem nwX5_15 : x_NW RX5 15 2 5 [none, none, none, none, none] := ⟨RX2, TX2, tyX2, rfl, uw2, tyX2_ok, x_mem 83 u1 rfl rfl, x_mem 85 u1 rfl rfl, x_mem 5 u1 rfl rfl, by decide +kernel⟩
theorem klX5_15 : Cond.classLink RX5 15 RX2 ∈ xU := x_mem 83 u1 rfl rfl
theorem nwL_7 : x_NW RL 7 9 10 [some none, some none, some none, some none, some none, some none, some none, some none, some none, none] := ⟨RX9, TX9, tyX9, rfl, uw9, tyX9_ok, x_mem 15 u1 rfl rfl, x_mem 16 u1 rfl rfl, x_mem 1 u1 rfl rfl, by decide +kernel⟩
theorem nwL_10 : x_NW RL 10 10 46 [some none, some none, some none, some none, none, none, none, some none, some none, none, some none, none, some none, none, none, none, none, none, none, some none, some none, some none, some none, none, none, none, none, some none, some none, some none, some none, some none, none, none, none, some none, none, some none, some none, none, none, none, some none, some none, some none, some none] := ⟨RX10, TX10, tyX10, rfl, uw10, tyX10_ok, x_mem 48 u5 rfl rfl, x_mem 49 u5 rfl rfl, x_mem 11 u1 rfl rfl, by decide +kernel⟩
theorem ua_int : Cond.arrayClass .int ∈ xU := x_mem 50 u1 rfl rfl
theorem ua_boolean : Cond.arrayClass .boolean ∈ xU := x_mem 226 u1 rfl rfl
theorem ua_long : Cond.arrayClass .long ∈ xU := x_mem 73 u2 rfl rfl
theorem uj_oi : Cond.instanceMethod objectInit ∈ xU := x_mem 21 u1 rfl rfl
theorem uj_oc : Cond.code objectInit ⟨#[0xb1]⟩ 1 none ∈ xU := x_mem 22 u1 rfl rfl
theorem uj_max : Cond.static Lib.Math.max.name ∈ xU := x_mem 109 u3 rfl rfl
theorem uj_maxc : Cond.code Lib.Math.max.name Lib.Math.max.code 2 (some .int) ∈ xU := x_mem 110 u3 rfl rfl
theorem uj_min : Cond.static Lib.Math.min.name ∈ xU := x_mem 84 u3 rfl rfl
theorem uj_minc : Cond.code Lib.Math.min.name Lib.Math.min.code 2 (some .int) ∈ xU := x_mem 85 u3 rfl rfl
theorem uj_abs : Cond.static Lib.Math.abs.name ∈ xU := x_mem 94 u3 rfl rfl
theorem uj_absc : Cond.code Lib.Math.abs.name Lib.Math.abs.code 1 (some .int) ∈ xU := x_mem 95 u3 rfl rfl
theorem uj_mi : Cond.initialized "java/lang/Math" ∈ xU := x_mem 13 u1 rfl rfl
theorem uj_an : Cond.native arraycopyName ∈ xU := x_mem 214 u2 rfl rfl
theorem uj_as : Cond.static arraycopyName ∈ xU := x_mem 213 u2 rfl rfl
theorem uj_ai : Cond.initialized "java/lang/System" ∈ xU := x_mem 12 u1 rfl rfl
