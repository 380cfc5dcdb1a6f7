/-! the rows agree with the bytes -/
theorem zt_X0_init : zk_code 0 cX0_init 1 none true zp_X0_init zp_X0_init_0 = true := by decide +kernel
theorem zt_X0_timesWind : zk_code 0 cX0_timesWind 1 (some .int) false zp_X0_timesWind zp_X0_timesWind_0 = true := by decide +kernel
theorem zt_X0_timesNumber : zk_code 0 cX0_timesNumber 1 (some .int) false zp_X0_timesNumber zp_X0_timesNumber_0 = true := by decide +kernel
theorem zt_X0_firstOf : zk_code 0 cX0_firstOf 2 (some .int) false zp_X0_firstOf zp_X0_firstOf_0 = true := by decide +kernel
theorem zt_X0_wayBy : zk_code 0 cX0_wayBy 3 (some .int) false zp_X0_wayBy zp_X0_wayBy_0 = true := by decide +kernel
theorem zt_X0_lawsLeft : zk_code 0 cX0_lawsLeft 3 (some .int) false zp_X0_lawsLeft zp_X0_lawsLeft_0 = true := by decide +kernel
theorem zt_X0_suits : zk_code 0 cX0_suits 3 (some .boolean) false zp_X0_suits zp_X0_suits_0 = true := by decide +kernel
theorem zt_X0_mostLeft : zk_code 0 cX0_mostLeft 8 (some .int) false zp_X0_mostLeft zp_X0_mostLeft_0 = true := by decide +kernel
theorem zt_X1_init : zk_code 1 cX1_init 1 none true zp_X1_init zp_X1_init_0 = true := by decide +kernel
theorem zt_X1_isTalk : zk_code 1 cX1_isTalk 2 (some .boolean) false zp_X1_isTalk zp_X1_isTalk_0 = true := by decide +kernel
theorem zt_X1_peopleLeft : zk_code 1 cX1_peopleLeft 4 (some .int) false zp_X1_peopleLeft zp_X1_peopleLeft_0 = true := by decide +kernel
theorem zt_X1_suits : zk_code 1 cX1_suits 4 (some .boolean) false zp_X1_suits zp_X1_suits_0 = true := by decide +kernel
theorem zt_X1_isSo : zk_code 1 cX1_isSo 4 (some .boolean) false zp_X1_isSo zp_X1_isSo_0 = true := by decide +kernel
theorem zt_X1_mostLeft : zk_code 1 cX1_mostLeft 7 (some .int) false zp_X1_mostLeft zp_X1_mostLeft_0 = true := by decide +kernel
theorem zt_X2_init : zk_code 2 cX2_init 2 none true zp_X2_init zp_X2_init_0 = true := by decide +kernel
theorem zt_X2_size : zk_code 2 cX2_size 1 (some .int) false zp_X2_size zp_X2_size_0 = true := by decide +kernel
theorem zt_X2_add : zk_code 2 cX2_add 5 (some .int) false zp_X2_add zp_X2_add_0 = true := by decide +kernel
theorem zt_X2_at : zk_code 2 cX2_at 4 (some .int) false zp_X2_at zp_X2_at_0 = true := by decide +kernel
theorem zt_X2_isFull : zk_code 2 cX2_isFull 1 (some .boolean) false zp_X2_isFull zp_X2_isFull_0 = true := by decide +kernel
theorem zt_X2_empty : zk_code 2 cX2_empty 2 (some .int) false zp_X2_empty zp_X2_empty_0 = true := by decide +kernel
theorem zt_X3_init : zk_code 3 cX3_init 2 none true zp_X3_init zp_X3_init_0 = true := by decide +kernel
theorem zt_X3_size : zk_code 3 cX3_size 1 (some .int) false zp_X3_size zp_X3_size_0 = true := by decide +kernel
theorem zt_X3_push : zk_code 3 cX3_push 3 none false zp_X3_push zp_X3_push_0 = true := by decide +kernel
theorem zt_X3_pop : zk_code 3 cX3_pop 3 (some .int) false zp_X3_pop zp_X3_pop_0 = true := by decide +kernel
theorem zt_X3_deedAt : zk_code 3 cX3_deedAt 3 (some (.object "ConfettiMinutes$Town")) false zp_X3_deedAt zp_X3_deedAt_0 = true := by decide +kernel
theorem zt_X3_store : zk_code 3 cX3_store 3 (some .boolean) false zp_X3_store zp_X3_store_0 = true := by decide +kernel
theorem zt_X3_bringBack : zk_code 3 cX3_bringBack 3 (some .boolean) false zp_X3_bringBack zp_X3_bringBack_0 = true := by decide +kernel
theorem zt_X3_forgetAll : zk_code 3 cX3_forgetAll 1 none false zp_X3_forgetAll zp_X3_forgetAll_0 = true := by decide +kernel
theorem zt_X4_init : zk_code 4 cX4_init 1 none true zp_X4_init zp_X4_init_0 = true := by decide +kernel
theorem zt_X4_size : zk_code 4 cX4_size 1 (some .int) false zp_X4_size zp_X4_size_0 = true := by decide +kernel
theorem zt_X4_at : zk_code 4 cX4_at 2 (some .long) false zp_X4_at zp_X4_at_0 = true := by decide +kernel
theorem zt_X4_clear : zk_code 4 cX4_clear 1 none false zp_X4_clear zp_X4_clear_0 = true := by decide +kernel
theorem zt_X4_add : zk_code 4 cX4_add 3 none false zp_X4_add zp_X4_add_0 = true := by decide +kernel
theorem zt_X4_tell : zk_code 4 cX4_tell 3 none false zp_X4_tell zp_X4_tell_0 = true := by decide +kernel
theorem zt_X4_tell_ : zk_code 4 cX4_tell_ 5 none false zp_X4_tell_ zp_X4_tell__0 = true := by decide +kernel
theorem zt_X4_tellFraction : zk_code 4 cX4_tellFraction 12 none false zp_X4_tellFraction zp_X4_tellFraction_0 = true := by decide +kernel
theorem zt_X5_init : zk_code 5 cX5_init 1 none true zp_X5_init zp_X5_init_0 = true := by decide +kernel
theorem zt_X5_read : zk_code 5 cX5_read 6 (some .int) false zp_X5_read zp_X5_read_0 = true := by decide +kernel
theorem zt_X5_drift : zk_code 5 cX5_drift 4 (some .int) false zp_X5_drift zp_X5_drift_0 = true := by decide +kernel
theorem zt_X5_learn : zk_code 5 cX5_learn 5 none false zp_X5_learn zp_X5_learn_0 = true := by decide +kernel
theorem zt_X5_worth : zk_code 5 cX5_worth 3 (some .int) false zp_X5_worth zp_X5_worth_0 = true := by decide +kernel
theorem zt_X5_takesThing : zk_code 5 cX5_takesThing 4 (some .boolean) false zp_X5_takesThing zp_X5_takesThing_0 = true := by decide +kernel
theorem zt_X5_takesBehind : zk_code 5 cX5_takesBehind 3 (some .boolean) false zp_X5_takesBehind zp_X5_takesBehind_0 = true := by decide +kernel
theorem zt_X5_takesDigit : zk_code 5 cX5_takesDigit 2 (some .boolean) false zp_X5_takesDigit zp_X5_takesDigit_0 = true := by decide +kernel
theorem zt_X5_closes : zk_code 5 cX5_closes 1 (some .boolean) false zp_X5_closes zp_X5_closes_0 = true := by decide +kernel
theorem zt_X5_release : zk_code 5 cX5_release 3 none false zp_X5_release zp_X5_release_0 = true := by decide +kernel
theorem zt_X5_hold : zk_code 5 cX5_hold 2 none false zp_X5_hold zp_X5_hold_0 = true := by decide +kernel
theorem zt_X5_emit : zk_code 5 cX5_emit 2 none false zp_X5_emit zp_X5_emit_0 = true := by decide +kernel
theorem zt_X5_isDigit : zk_code 5 cX5_isDigit 1 (some .boolean) false zp_X5_isDigit zp_X5_isDigit_0 = true := by decide +kernel
theorem zt_X5_strengthOf : zk_code 5 cX5_strengthOf 1 (some .int) false zp_X5_strengthOf zp_X5_strengthOf_0 = true := by decide +kernel
theorem zt_X5_joined : zk_code 5 cX5_joined 3 (some .int) false zp_X5_joined zp_X5_joined_0 = true := by decide +kernel
theorem zt_X6_init : zk_code 6 cX6_init 1 none true zp_X6_init zp_X6_init_0 = true := by decide +kernel
theorem zt_X6_length : zk_code 6 cX6_length 1 (some .int) false zp_X6_length zp_X6_length_0 = true := by decide +kernel
theorem zt_X6_append : zk_code 6 cX6_append 3 (some .int) false zp_X6_append zp_X6_append_0 = true := by decide +kernel
theorem zt_X6_cut : zk_code 6 cX6_cut 2 (some .boolean) false zp_X6_cut zp_X6_cut_0 = true := by decide +kernel
theorem zt_X6_take : zk_code 6 cX6_take 2 (some .int) false zp_X6_take zp_X6_take_0 = true := by decide +kernel
theorem zt_X6_at : zk_code 6 cX6_at 2 (some .char) false zp_X6_at zp_X6_at_0 = true := by decide +kernel
theorem zt_X6_digitAt : zk_code 6 cX6_digitAt 2 (some .int) false zp_X6_digitAt zp_X6_digitAt_0 = true := by decide +kernel
theorem zt_X6_faultOfLines : zk_code 6 cX6_faultOfLines 9 (some .int) false zp_X6_faultOfLines zp_X6_faultOfLines_0 = true := by decide +kernel
theorem zt_X6_faultOfWedding : zk_code 6 cX6_faultOfWedding 6 (some .int) false zp_X6_faultOfWedding zp_X6_faultOfWedding_0 = true := by decide +kernel
theorem zt_X6_actLength : zk_code 6 cX6_actLength 2 (some .int) false zp_X6_actLength zp_X6_actLength_0 = true := by decide +kernel
theorem zt_X6_shapeOf : zk_code 6 cX6_shapeOf 1 (some (.object "java/lang/String")) false zp_X6_shapeOf zp_X6_shapeOf_0 = true := by decide +kernel
theorem zt_X6_suits : zk_code 6 cX6_suits 2 (some .boolean) false zp_X6_suits zp_X6_suits_0 = true := by decide +kernel
theorem zt_X7_init : zk_code 7 cX7_init 1 none true zp_X7_init zp_X7_init_0 = true := by decide +kernel
theorem zt_X7_lawsHeld : zk_code 7 cX7_lawsHeld 4 (some .int) false zp_X7_lawsHeld zp_X7_lawsHeld_0 = true := by decide +kernel
theorem zt_X7_hittingSet : zk_code 7 cX7_hittingSet 5 (some .int) false zp_X7_hittingSet zp_X7_hittingSet_0 = true := by decide +kernel
theorem zt_X7_hitsAll : zk_code 7 cX7_hitsAll 3 (some .boolean) false zp_X7_hitsAll zp_X7_hitsAll_0 = true := by decide +kernel
theorem zt_X7_weighAwards : zk_code 7 cX7_weighAwards 6 (some .int) false zp_X7_weighAwards zp_X7_weighAwards_0 = true := by decide +kernel
theorem zt_X7_tellAwards : zk_code 7 cX7_tellAwards 6 none false zp_X7_tellAwards zp_X7_tellAwards_0 = true := by decide +kernel
theorem zt_X7_worth : zk_code 7 cX7_worth 5 (some .int) false zp_X7_worth zp_X7_worth_0 = true := by decide +kernel
theorem zt_X7_bestOf : zk_code 7 cX7_bestOf 4 (some .int) false zp_X7_bestOf zp_X7_bestOf_0 = true := by decide +kernel
theorem zt_X7_richest : zk_code 7 cX7_richest 6 (some .int) false zp_X7_richest zp_X7_richest_0 = true := by decide +kernel
theorem zt_X7_weigh : zk_code 7 cX7_weigh 3 none false zp_X7_weigh zp_X7_weigh_0 = true := by decide +kernel
theorem zt_X7_swings : zk_code 7 cX7_swings 5 (some .int) false zp_X7_swings zp_X7_swings_0 = true := by decide +kernel
theorem zt_X7_isLeast : zk_code 7 cX7_isLeast 3 (some .boolean) false zp_X7_isLeast zp_X7_isLeast_0 = true := by decide +kernel
theorem zt_X7_prevails : zk_code 7 cX7_prevails 4 (some .boolean) false zp_X7_prevails zp_X7_prevails_0 = true := by decide +kernel
theorem zt_X8_init : zk_code 8 cX8_init 1 none true zp_X8_init zp_X8_init_0 = true := by decide +kernel
theorem zt_X8_windsLeft : zk_code 8 cX8_windsLeft 6 (some .int) false zp_X8_windsLeft zp_X8_windsLeft_0 = true := by decide +kernel
theorem zt_X8_suits : zk_code 8 cX8_suits 7 (some .boolean) false zp_X8_suits zp_X8_suits_0 = true := by decide +kernel
theorem zt_X8_mostLeft : zk_code 8 cX8_mostLeft 9 (some .int) false zp_X8_mostLeft zp_X8_mostLeft_0 = true := by decide +kernel
theorem zt_X9_init : zk_code 9 cX9_init 2 none true zp_X9_init zp_X9_init_0 = true := by decide +kernel
theorem zt_X9_become : zk_code 9 cX9_become 2 none false zp_X9_become zp_X9_become_0 = true := by decide +kernel
theorem zt_X9_addLaw : zk_code 9 cX9_addLaw 2 none false zp_X9_addLaw zp_X9_addLaw_0 = true := by decide +kernel
theorem zt_X9_addOne : zk_code 9 cX9_addOne 2 none false zp_X9_addOne zp_X9_addOne_0 = true := by decide +kernel
theorem zt_X9_hasLaw : zk_code 9 cX9_hasLaw 2 (some .boolean) false zp_X9_hasLaw zp_X9_hasLaw_0 = true := by decide +kernel
theorem zt_X9_hasOne : zk_code 9 cX9_hasOne 2 (some .boolean) false zp_X9_hasOne zp_X9_hasOne_0 = true := by decide +kernel
theorem zt_X9_hasBit : zk_code 9 cX9_hasBit 3 (some .boolean) false zp_X9_hasBit zp_X9_hasBit_0 = true := by decide +kernel
theorem zt_X9_isCarried : zk_code 9 cX9_isCarried 2 (some .boolean) false zp_X9_isCarried zp_X9_isCarried_0 = true := by decide +kernel
theorem zt_X9_isFlung : zk_code 9 cX9_isFlung 2 (some .boolean) false zp_X9_isFlung zp_X9_isFlung_0 = true := by decide +kernel
theorem zt_X9_bitsOf : zk_code 9 cX9_bitsOf 2 (some .int) false zp_X9_bitsOf zp_X9_bitsOf_0 = true := by decide +kernel
theorem zt_X9_streetOf : zk_code 9 cX9_streetOf 2 (some .int) false zp_X9_streetOf zp_X9_streetOf_0 = true := by decide +kernel
theorem zt_X9_placeOf : zk_code 9 cX9_placeOf 2 (some .int) false zp_X9_placeOf zp_X9_placeOf_0 = true := by decide +kernel
theorem zt_X9_settle : zk_code 9 cX9_settle 3 none false zp_X9_settle zp_X9_settle_0 = true := by decide +kernel
theorem zt_X9_lay : zk_code 9 cX9_lay 3 none false zp_X9_lay zp_X9_lay_0 = true := by decide +kernel
theorem zt_X9_lies : zk_code 9 cX9_lies 2 (some .boolean) false zp_X9_lies zp_X9_lies_0 = true := by decide +kernel
theorem zt_X9_isHeld : zk_code 9 cX9_isHeld 3 (some .boolean) false zp_X9_isHeld zp_X9_isHeld_0 = true := by decide +kernel
theorem zt_X9_lyingCount : zk_code 9 cX9_lyingCount 3 (some .int) false zp_X9_lyingCount zp_X9_lyingCount_0 = true := by decide +kernel
theorem zt_X9_heldCount : zk_code 9 cX9_heldCount 3 (some .int) false zp_X9_heldCount zp_X9_heldCount_0 = true := by decide +kernel
theorem zt_X9_bitsAt : zk_code 9 cX9_bitsAt 4 (some .int) false zp_X9_bitsAt zp_X9_bitsAt_0 = true := by decide +kernel
theorem zt_X9_lyingOf : zk_code 9 cX9_lyingOf 4 (some .int) false zp_X9_lyingOf zp_X9_lyingOf_0 = true := by decide +kernel
theorem zt_X9_heldOf : zk_code 9 cX9_heldOf 4 (some .int) false zp_X9_heldOf zp_X9_heldOf_0 = true := by decide +kernel
theorem zt_X9_heldBy : zk_code 9 cX9_heldBy 2 (some .int) false zp_X9_heldBy zp_X9_heldBy_0 = true := by decide +kernel
theorem zt_X9_heldByOf : zk_code 9 cX9_heldByOf 5 (some .int) false zp_X9_heldByOf zp_X9_heldByOf_0 = true := by decide +kernel
theorem zt_X9_holdersOf : zk_code 9 cX9_holdersOf 4 (some .int) false zp_X9_holdersOf zp_X9_holdersOf_0 = true := by decide +kernel
theorem zt_X9_hasRight : zk_code 9 cX9_hasRight 3 (some .boolean) false zp_X9_hasRight zp_X9_hasRight_0 = true := by decide +kernel
theorem zt_X9_rightHolder : zk_code 9 cX9_rightHolder 3 (some .int) false zp_X9_rightHolder zp_X9_rightHolder_0 = true := by decide +kernel
theorem zt_X9_rightsOf : zk_code 9 cX9_rightsOf 4 (some .int) false zp_X9_rightsOf zp_X9_rightsOf_0 = true := by decide +kernel
theorem zt_X9_rightCount : zk_code 9 cX9_rightCount 3 (some .int) false zp_X9_rightCount zp_X9_rightCount_0 = true := by decide +kernel
theorem zt_X9_carry : zk_code 9 cX9_carry 2 (some .int) false zp_X9_carry zp_X9_carry_0 = true := by decide +kernel
theorem zt_X9_fling : zk_code 9 cX9_fling 3 (some .int) false zp_X9_fling zp_X9_fling_0 = true := by decide +kernel
theorem zt_X9_scatter : zk_code 9 cX9_scatter 3 none false zp_X9_scatter zp_X9_scatter_0 = true := by decide +kernel
theorem zt_X9_layAll : zk_code 9 cX9_layAll 4 none false zp_X9_layAll zp_X9_layAll_0 = true := by decide +kernel
theorem zt_X9_sweep : zk_code 9 cX9_sweep 3 (some .int) false zp_X9_sweep zp_X9_sweep_0 = true := by decide +kernel
theorem zt_X9_walk : zk_code 9 cX9_walk 4 (some .int) false zp_X9_walk zp_X9_walk_0 = true := by decide +kernel
theorem zt_X9_give : zk_code 9 cX9_give 7 (some .int) false zp_X9_give zp_X9_give_0 = true := by decide +kernel
theorem zt_X9_letFall : zk_code 9 cX9_letFall 4 (some .int) false zp_X9_letFall zp_X9_letFall_0 = true := by decide +kernel
theorem zt_X9_turnWind : zk_code 9 cX9_turnWind 3 (some .int) false zp_X9_turnWind zp_X9_turnWind_0 = true := by decide +kernel
theorem zt_X9_pickUp : zk_code 9 cX9_pickUp 4 (some .int) false zp_X9_pickUp zp_X9_pickUp_0 = true := by decide +kernel
theorem zt_X10_init : zk_code 10 cX10_init 1 none true zp_X10_init zp_X10_init_0 = true := by decide +kernel
theorem zt_X10_passDays : zk_code 10 cX10_passDays 7 (some .int) false zp_X10_passDays zp_X10_passDays_0 = true := by decide +kernel
theorem zt_X10_passYears : zk_code 10 cX10_passYears 9 (some .int) false zp_X10_passYears zp_X10_passYears_0 = true := by decide +kernel
theorem zt_X10_countCrowd : zk_code 10 cX10_countCrowd 4 none false zp_X10_countCrowd zp_X10_countCrowd_0 = true := by decide +kernel
theorem zt_X10_landingOf : zk_code 10 cX10_landingOf 7 (some .int) false zp_X10_landingOf zp_X10_landingOf_0 = true := by decide +kernel
theorem zt_X10_blow : zk_code 10 cX10_blow 4 none false zp_X10_blow zp_X10_blow_0 = true := by decide +kernel
theorem zt_X10_draw : zk_code 10 cX10_draw 2 (some .int) false zp_X10_draw zp_X10_draw_0 = true := by decide +kernel
theorem zt_X11_init : zk_code 11 cX11_init 1 none true zp_X11_init zp_X11_init_0 = true := by decide +kernel
theorem zt_X11_sign : zk_code 11 cX11_sign 2 (some .int) false zp_X11_sign zp_X11_sign_0 = true := by decide +kernel
theorem zt_X11_end : zk_code 11 cX11_end 2 (some .boolean) false zp_X11_end zp_X11_end_0 = true := by decide +kernel
theorem zt_X11_laws : zk_code 11 cX11_laws 1 (some .int) false zp_X11_laws zp_X11_laws_0 = true := by decide +kernel
theorem zt_X11_people : zk_code 11 cX11_people 1 (some .int) false zp_X11_people zp_X11_people_0 = true := by decide +kernel
theorem zt_X11_rule : zk_code 11 cX11_rule 3 (some .int) false zp_X11_rule zp_X11_rule_0 = true := by decide +kernel
theorem zt_X11_law : zk_code 11 cX11_law 3 (some .int) false zp_X11_law zp_X11_law_0 = true := by decide +kernel
theorem zt_X11_bit : zk_code 11 cX11_bit 3 (some .int) false zp_X11_bit zp_X11_bit_0 = true := by decide +kernel
theorem zt_X11_one : zk_code 11 cX11_one 3 (some .int) false zp_X11_one zp_X11_one_0 = true := by decide +kernel
theorem zt_X11_sheet : zk_code 11 cX11_sheet 9 (some .int) false zp_X11_sheet zp_X11_sheet_0 = true := by decide +kernel
theorem zt_X11_carries : zk_code 11 cX11_carries 2 (some .int) false zp_X11_carries zp_X11_carries_0 = true := by decide +kernel
theorem zt_X11_flings : zk_code 11 cX11_flings 3 (some .int) false zp_X11_flings zp_X11_flings_0 = true := by decide +kernel
theorem zt_X11_sweeps : zk_code 11 cX11_sweeps 2 (some .int) false zp_X11_sweeps zp_X11_sweeps_0 = true := by decide +kernel
theorem zt_X11_days : zk_code 11 cX11_days 3 (some .int) false zp_X11_days zp_X11_days_0 = true := by decide +kernel
theorem zt_X11_walks : zk_code 11 cX11_walks 3 (some .int) false zp_X11_walks zp_X11_walks_0 = true := by decide +kernel
theorem zt_X11_gives : zk_code 11 cX11_gives 4 (some .int) false zp_X11_gives zp_X11_gives_0 = true := by decide +kernel
theorem zt_X11_falls : zk_code 11 cX11_falls 2 (some .int) false zp_X11_falls zp_X11_falls_0 = true := by decide +kernel
theorem zt_X11_wind : zk_code 11 cX11_wind 2 (some .int) false zp_X11_wind zp_X11_wind_0 = true := by decide +kernel
theorem zt_X11_wedding : zk_code 11 cX11_wedding 7 (some .int) false zp_X11_wedding zp_X11_wedding_0 = true := by decide +kernel
theorem zt_X11_undo : zk_code 11 cX11_undo 1 (some .int) false zp_X11_undo zp_X11_undo_0 = true := by decide +kernel
theorem zt_X11_later : zk_code 11 cX11_later 4 (some .int) false zp_X11_later zp_X11_later_0 = true := by decide +kernel
theorem zt_X11_when : zk_code 11 cX11_when 4 (some .int) false zp_X11_when zp_X11_when_0 = true := by decide +kernel
theorem zt_X11_clean : zk_code 11 cX11_clean 2 (some .int) false zp_X11_clean zp_X11_clean_0 = true := by decide +kernel
theorem zt_X11_drifts : zk_code 11 cX11_drifts 4 (some .int) false zp_X11_drifts zp_X11_drifts_0 = true := by decide +kernel
theorem zt_X11_aims : zk_code 11 cX11_aims 7 (some .int) false zp_X11_aims zp_X11_aims_0 = true := by decide +kernel
theorem zt_X11_prays : zk_code 11 cX11_prays 8 (some .int) false zp_X11_prays zp_X11_prays_0 = true := by decide +kernel
theorem zt_X11_seeks : zk_code 11 cX11_seeks 9 (some .int) false zp_X11_seeks zp_X11_seeks_0 = true := by decide +kernel
theorem zt_X11_whole : zk_code 11 cX11_whole 3 (some .int) false zp_X11_whole zp_X11_whole_0 = true := by decide +kernel
theorem zt_X11_quorum : zk_code 11 cX11_quorum 2 (some .int) false zp_X11_quorum zp_X11_quorum_0 = true := by decide +kernel
theorem zt_X11_awards : zk_code 11 cX11_awards 2 (some .int) false zp_X11_awards zp_X11_awards_0 = true := by decide +kernel
theorem zt_X11_needs : zk_code 11 cX11_needs 5 (some .int) false zp_X11_needs zp_X11_needs_0 = true := by decide +kernel
theorem zt_X11_line : zk_code 11 cX11_line 4 (some .int) false zp_X11_line zp_X11_line_0 = true := by decide +kernel
theorem zt_X11_power : zk_code 11 cX11_power 3 (some .int) false zp_X11_power zp_X11_power_0 = true := by decide +kernel
theorem zt_X11_least : zk_code 11 cX11_least 3 (some .int) false zp_X11_least zp_X11_least_0 = true := by decide +kernel
theorem zt_X11_seen : zk_code 11 cX11_seen 4 (some .int) false zp_X11_seen zp_X11_seen_0 = true := by decide +kernel
theorem zt_X11_forget : zk_code 11 cX11_forget 1 (some .int) false zp_X11_forget zp_X11_forget_0 = true := by decide +kernel
theorem zt_X11_guess : zk_code 11 cX11_guess 2 (some .int) false zp_X11_guess zp_X11_guess_0 = true := by decide +kernel
theorem zt_X11_looks : zk_code 11 cX11_looks 6 (some .int) false zp_X11_looks zp_X11_looks_0 = true := by decide +kernel
theorem zt_X11_heard : zk_code 11 cX11_heard 3 (some .int) false zp_X11_heard zp_X11_heard_0 = true := by decide +kernel
theorem zt_X11_denies : zk_code 11 cX11_denies 1 (some .int) false zp_X11_denies zp_X11_denies_0 = true := by decide +kernel
theorem zt_X11_fits : zk_code 11 cX11_fits 2 (some .int) false zp_X11_fits zp_X11_fits_0 = true := by decide +kernel
theorem zt_X11_asks : zk_code 11 cX11_asks 8 (some .int) false zp_X11_asks zp_X11_asks_0 = true := by decide +kernel
theorem zt_X11_odds : zk_code 11 cX11_odds 8 (some .int) false zp_X11_odds zp_X11_odds_0 = true := by decide +kernel
theorem zt_X11_went : zk_code 11 cX11_went 5 (some .int) false zp_X11_went zp_X11_went_0 = true := by decide +kernel
theorem zt_X11_clears : zk_code 11 cX11_clears 1 (some .int) false zp_X11_clears zp_X11_clears_0 = true := by decide +kernel
theorem zt_X11_scatters : zk_code 11 cX11_scatters 3 (some .int) false zp_X11_scatters zp_X11_scatters_0 = true := by decide +kernel
theorem zt_X11_tries : zk_code 11 cX11_tries 7 (some .int) false zp_X11_tries zp_X11_tries_0 = true := by decide +kernel
theorem zt_X11_handfuls : zk_code 11 cX11_handfuls 2 (some .int) false zp_X11_handfuls zp_X11_handfuls_0 = true := by decide +kernel
theorem zt_X11_other : zk_code 11 cX11_other 5 (some .int) false zp_X11_other zp_X11_other_0 = true := by decide +kernel
theorem zt_X11_grasps : zk_code 11 cX11_grasps 5 (some .int) false zp_X11_grasps zp_X11_grasps_0 = true := by decide +kernel
theorem zt_X11_years : zk_code 11 cX11_years 4 (some .int) false zp_X11_years zp_X11_years_0 = true := by decide +kernel
theorem zt_X11_keep : zk_code 11 cX11_keep 2 (some .boolean) false zp_X11_keep zp_X11_keep_0 = true := by decide +kernel
theorem zt_X11_again : zk_code 11 cX11_again 2 (some .boolean) false zp_X11_again zp_X11_again_0 = true := by decide +kernel
theorem zt_X11_count : zk_code 11 cX11_count 2 (some .int) false zp_X11_count zp_X11_count_0 = true := by decide +kernel
theorem zt_X11_row : zk_code 11 cX11_row 2 (some .long) false zp_X11_row zp_X11_row_0 = true := by decide +kernel
theorem zt_X11_countKept : zk_code 11 cX11_countKept 2 (some .int) false zp_X11_countKept zp_X11_countKept_0 = true := by decide +kernel
theorem zt_X11_readLines : zk_code 11 cX11_readLines 7 (some .int) false zp_X11_readLines zp_X11_readLines_0 = true := by decide +kernel
theorem zt_X11_noted : zk_code 11 cX11_noted 2 (some .int) false zp_X11_noted zp_X11_noted_0 = true := by decide +kernel
theorem zt_X11_doAct : zk_code 11 cX11_doAct 4 (some .int) false zp_X11_doAct zp_X11_doAct_0 = true := by decide +kernel
theorem zt_X11_dreamOf : zk_code 11 cX11_dreamOf 3 none false zp_X11_dreamOf zp_X11_dreamOf_0 = true := by decide +kernel
theorem zt_X11_streetTold : zk_code 11 cX11_streetTold 2 (some .int) false zp_X11_streetTold zp_X11_streetTold_0 = true := by decide +kernel
theorem zt_X11_waysOfLoss : zk_code 11 cX11_waysOfLoss 5 (some .int) false zp_X11_waysOfLoss zp_X11_waysOfLoss_0 = true := by decide +kernel
theorem zt_X11_winningHandful : zk_code 11 cX11_winningHandful 5 (some .int) false zp_X11_winningHandful zp_X11_winningHandful_0 = true := by decide +kernel
theorem zt_X11_handfulOutOf : zk_code 11 cX11_handfulOutOf 4 (some .int) false zp_X11_handfulOutOf zp_X11_handfulOutOf_0 = true := by decide +kernel
theorem zt_X11_isContent : zk_code 11 cX11_isContent 4 (some .boolean) false zp_X11_isContent zp_X11_isContent_0 = true := by decide +kernel
theorem zt_X11_grasped : zk_code 11 cX11_grasped 3 (some .int) false zp_X11_grasped zp_X11_grasped_0 = true := by decide +kernel
theorem zt_X11_isWithin : zk_code 11 cX11_isWithin 3 (some .boolean) false zp_X11_isWithin zp_X11_isWithin_0 = true := by decide +kernel
theorem zt_X11_clamp : zk_code 11 cX11_clamp 3 (some .int) false zp_X11_clamp zp_X11_clamp_0 = true := by decide +kernel
theorem zt_X11_slotOf : zk_code 11 cX11_slotOf 2 (some .int) false zp_X11_slotOf zp_X11_slotOf_0 = true := by decide +kernel
theorem zt_X12_refuse : zk_code 12 cX12_refuse 1 (some .int) false zp_X12_refuse zp_X12_refuse_0 = true := by decide +kernel
theorem zt_X12_in : zk_code 12 cX12_in 6 (some .boolean) false zp_X12_in zp_X12_in_0 = true := by decide +kernel
theorem zt_X12_has : zk_code 12 cX12_has 2 (some .boolean) false zp_X12_has zp_X12_has_0 = true := by decide +kernel
theorem zt_X12_flag : zk_code 12 cX12_flag 1 (some .int) false zp_X12_flag zp_X12_flag_0 = true := by decide +kernel
theorem zt_X12_common : zk_code 12 cX12_common 4 (some .long) false zp_X12_common zp_X12_common_0 = true := by decide +kernel
theorem zt_X12_enters : zk_code 12 cX12_enters 3 none false zp_X12_enters zp_X12_enters_0 = true := by decide +kernel
theorem zt_X12_entersFraction : zk_code 12 cX12_entersFraction 7 (some .int) false zp_X12_entersFraction zp_X12_entersFraction_0 = true := by decide +kernel
theorem zt_X12_init : zk_code 12 cX12_init 2 none true zp_X12_init zp_X12_init_0 = true := by decide +kernel
theorem zt_X12_isLaw : zk_code 12 cX12_isLaw 2 (some .boolean) false zp_X12_isLaw zp_X12_isLaw_0 = true := by decide +kernel
theorem zt_X12_isBit : zk_code 12 cX12_isBit 3 (some .boolean) false zp_X12_isBit zp_X12_isBit_0 = true := by decide +kernel
theorem zt_X12_isOne : zk_code 12 cX12_isOne 2 (some .boolean) false zp_X12_isOne zp_X12_isOne_0 = true := by decide +kernel
theorem zt_X12_all : zk_code 12 cX12_all 1 (some .int) false zp_X12_all zp_X12_all_0 = true := by decide +kernel
theorem zt_X12_lies : zk_code 12 cX12_lies 2 (some .boolean) false zp_X12_lies zp_X12_lies_0 = true := by decide +kernel
theorem zt_X12_isHeldBy : zk_code 12 cX12_isHeldBy 3 (some .boolean) false zp_X12_isHeldBy zp_X12_isHeldBy_0 = true := by decide +kernel
theorem zt_X12_heldOf : zk_code 12 cX12_heldOf 5 (some .int) false zp_X12_heldOf zp_X12_heldOf_0 = true := by decide +kernel
theorem zt_X12_heldBy : zk_code 12 cX12_heldBy 4 (some .int) false zp_X12_heldBy zp_X12_heldBy_0 = true := by decide +kernel
theorem zt_X12_heldMany : zk_code 12 cX12_heldMany 4 (some .int) false zp_X12_heldMany zp_X12_heldMany_0 = true := by decide +kernel
theorem zt_X12_lieMany : zk_code 12 cX12_lieMany 3 (some .int) false zp_X12_lieMany zp_X12_lieMany_0 = true := by decide +kernel
theorem zt_X12_hasRight : zk_code 12 cX12_hasRight 4 (some .boolean) false zp_X12_hasRight zp_X12_hasRight_0 = true := by decide +kernel
theorem zt_X12_rights : zk_code 12 cX12_rights 5 (some .int) false zp_X12_rights zp_X12_rights_0 = true := by decide +kernel
theorem zt_X12_copies : zk_code 12 cX12_copies 3 none false zp_X12_copies zp_X12_copies_0 = true := by decide +kernel
theorem zt_X12_sign : zk_code 12 cX12_sign 3 (some .int) false zp_X12_sign zp_X12_sign_0 = true := by decide +kernel
theorem zt_X12_end : zk_code 12 cX12_end 2 (some .boolean) false zp_X12_end zp_X12_end_0 = true := by decide +kernel
theorem zt_X12_begins : zk_code 12 cX12_begins 3 (some .int) false zp_X12_begins zp_X12_begins_0 = true := by decide +kernel
theorem zt_X12_takes : zk_code 12 cX12_takes 3 (some .boolean) false zp_X12_takes zp_X12_takes_0 = true := by decide +kernel
theorem zt_X12_isDigit : zk_code 12 cX12_isDigit 1 (some .boolean) false zp_X12_isDigit zp_X12_isDigit_0 = true := by decide +kernel
theorem zt_X12_takesOf : zk_code 12 cX12_takesOf 3 (some .int) false zp_X12_takesOf zp_X12_takesOf_0 = true := by decide +kernel
theorem zt_X12_number : zk_code 12 cX12_number 4 (some .int) false zp_X12_number zp_X12_number_0 = true := by decide +kernel
theorem zt_X12_digitIn : zk_code 12 cX12_digitIn 3 (some .int) false zp_X12_digitIn zp_X12_digitIn_0 = true := by decide +kernel
theorem zt_X12_faultOf : zk_code 12 cX12_faultOf 5 (some .int) false zp_X12_faultOf zp_X12_faultOf_0 = true := by decide +kernel
theorem zt_X12_readsLines : zk_code 12 cX12_readsLines 8 (some .int) false zp_X12_readsLines zp_X12_readsLines_0 = true := by decide +kernel
theorem zt_X12_came : zk_code 12 cX12_came 1 (some .int) false zp_X12_came zp_X12_came_0 = true := by decide +kernel
theorem zt_X12_laws : zk_code 12 cX12_laws 3 (some .int) false zp_X12_laws zp_X12_laws_0 = true := by decide +kernel
theorem zt_X12_people : zk_code 12 cX12_people 3 (some .int) false zp_X12_people zp_X12_people_0 = true := by decide +kernel
theorem zt_X12_codes : zk_code 12 cX12_codes 2 none false zp_X12_codes zp_X12_codes_0 = true := by decide +kernel
theorem zt_X12_readsThing : zk_code 12 cX12_readsThing 2 (some .boolean) false zp_X12_readsThing zp_X12_readsThing_0 = true := by decide +kernel
theorem zt_X12_readsRank : zk_code 12 cX12_readsRank 4 (some .boolean) false zp_X12_readsRank zp_X12_readsRank_0 = true := by decide +kernel
theorem zt_X12_readsRule : zk_code 12 cX12_readsRule 3 (some .int) false zp_X12_readsRule zp_X12_readsRule_0 = true := by decide +kernel
theorem zt_X12_laysCode : zk_code 12 cX12_laysCode 4 none false zp_X12_laysCode zp_X12_laysCode_0 = true := by decide +kernel
theorem zt_X12_rule : zk_code 12 cX12_rule 2 (some .int) false zp_X12_rule zp_X12_rule_0 = true := by decide +kernel
theorem zt_X12_worked : zk_code 12 cX12_worked 3 (some .int) false zp_X12_worked zp_X12_worked_0 = true := by decide +kernel
theorem zt_X12_ruled : zk_code 12 cX12_ruled 4 (some .int) false zp_X12_ruled zp_X12_ruled_0 = true := by decide +kernel
theorem zt_X12_lyingIn : zk_code 12 cX12_lyingIn 4 (some .int) false zp_X12_lyingIn zp_X12_lyingIn_0 = true := by decide +kernel
theorem zt_X12_blown : zk_code 12 cX12_blown 5 (some .int) false zp_X12_blown zp_X12_blown_0 = true := by decide +kernel
theorem zt_X12_ownerOf : zk_code 12 cX12_ownerOf 4 (some .int) false zp_X12_ownerOf zp_X12_ownerOf_0 = true := by decide +kernel
theorem zt_X12_law : zk_code 12 cX12_law 6 (some .int) false zp_X12_law zp_X12_law_0 = true := by decide +kernel
theorem zt_X12_bit : zk_code 12 cX12_bit 3 (some .int) false zp_X12_bit zp_X12_bit_0 = true := by decide +kernel
theorem zt_X12_rightsOf : zk_code 12 cX12_rightsOf 4 (some .int) false zp_X12_rightsOf zp_X12_rightsOf_0 = true := by decide +kernel
theorem zt_X12_one : zk_code 12 cX12_one 3 (some .int) false zp_X12_one zp_X12_one_0 = true := by decide +kernel
theorem zt_X12_sheet : zk_code 12 cX12_sheet 9 (some .int) false zp_X12_sheet zp_X12_sheet_0 = true := by decide +kernel
theorem zt_X12_putsBy : zk_code 12 cX12_putsBy 2 none false zp_X12_putsBy zp_X12_putsBy_0 = true := by decide +kernel
theorem zt_X12_adds : zk_code 12 cX12_adds 3 (some .int) false zp_X12_adds zp_X12_adds_0 = true := by decide +kernel
theorem zt_X12_counted : zk_code 12 cX12_counted 2 (some .int) false zp_X12_counted zp_X12_counted_0 = true := by decide +kernel
theorem zt_X12_undo : zk_code 12 cX12_undo 2 (some .int) false zp_X12_undo zp_X12_undo_0 = true := by decide +kernel
theorem zt_X12_dayGoes : zk_code 12 cX12_dayGoes 5 (some .int) false zp_X12_dayGoes zp_X12_dayGoes_0 = true := by decide +kernel
theorem zt_X12_goesOn : zk_code 12 cX12_goesOn 5 (some .int) false zp_X12_goesOn zp_X12_goesOn_0 = true := by decide +kernel
theorem zt_X12_carriesOne : zk_code 12 cX12_carriesOne 2 (some .int) false zp_X12_carriesOne zp_X12_carriesOne_0 = true := by decide +kernel
theorem zt_X12_fallsIn : zk_code 12 cX12_fallsIn 5 none false zp_X12_fallsIn zp_X12_fallsIn_0 = true := by decide +kernel
theorem zt_X12_flingsOne : zk_code 12 cX12_flingsOne 3 (some .int) false zp_X12_flingsOne zp_X12_flingsOne_0 = true := by decide +kernel
theorem zt_X12_sweepsOne : zk_code 12 cX12_sweepsOne 4 (some .int) false zp_X12_sweepsOne zp_X12_sweepsOne_0 = true := by decide +kernel
theorem zt_X12_walksOne : zk_code 12 cX12_walksOne 4 (some .int) false zp_X12_walksOne zp_X12_walksOne_0 = true := by decide +kernel
theorem zt_X12_goesFrom : zk_code 12 cX12_goesFrom 8 (some .int) false zp_X12_goesFrom zp_X12_goesFrom_0 = true := by decide +kernel
theorem zt_X12_givesAll : zk_code 12 cX12_givesAll 5 (some .int) false zp_X12_givesAll zp_X12_givesAll_0 = true := by decide +kernel
theorem zt_X12_fallsFrom : zk_code 12 cX12_fallsFrom 2 (some .int) false zp_X12_fallsFrom zp_X12_fallsFrom_0 = true := by decide +kernel
theorem zt_X12_windTo : zk_code 12 cX12_windTo 3 (some .int) false zp_X12_windTo zp_X12_windTo_0 = true := by decide +kernel
theorem zt_X12_carries : zk_code 12 cX12_carries 2 (some .int) false zp_X12_carries zp_X12_carries_0 = true := by decide +kernel
theorem zt_X12_flings : zk_code 12 cX12_flings 3 (some .int) false zp_X12_flings zp_X12_flings_0 = true := by decide +kernel
theorem zt_X12_sweeps : zk_code 12 cX12_sweeps 2 (some .int) false zp_X12_sweeps zp_X12_sweeps_0 = true := by decide +kernel
theorem zt_X12_days : zk_code 12 cX12_days 3 (some .int) false zp_X12_days zp_X12_days_0 = true := by decide +kernel
theorem zt_X12_walks : zk_code 12 cX12_walks 3 (some .int) false zp_X12_walks zp_X12_walks_0 = true := by decide +kernel
theorem zt_X12_gives : zk_code 12 cX12_gives 4 (some .int) false zp_X12_gives zp_X12_gives_0 = true := by decide +kernel
theorem zt_X12_falls : zk_code 12 cX12_falls 2 (some .int) false zp_X12_falls zp_X12_falls_0 = true := by decide +kernel
theorem zt_X12_wind : zk_code 12 cX12_wind 2 (some .int) false zp_X12_wind zp_X12_wind_0 = true := by decide +kernel
theorem zt_X12_readsAct : zk_code 12 cX12_readsAct 4 (some .boolean) false zp_X12_readsAct zp_X12_readsAct_0 = true := by decide +kernel
theorem zt_X12_does : zk_code 12 cX12_does 3 (some .boolean) false zp_X12_does zp_X12_does_0 = true := by decide +kernel
theorem zt_X12_wedding : zk_code 12 cX12_wedding 5 (some .int) false zp_X12_wedding zp_X12_wedding_0 = true := by decide +kernel
theorem zt_X12_later : zk_code 12 cX12_later 4 (some .int) false zp_X12_later zp_X12_later_0 = true := by decide +kernel
theorem zt_X12_when : zk_code 12 cX12_when 4 (some .int) false zp_X12_when zp_X12_when_0 = true := by decide +kernel
theorem zt_X12_clean : zk_code 12 cX12_clean 2 (some .int) false zp_X12_clean zp_X12_clean_0 = true := by decide +kernel
theorem zt_X12_drifts : zk_code 12 cX12_drifts 4 (some .int) false zp_X12_drifts zp_X12_drifts_0 = true := by decide +kernel
theorem zt_X12_aims : zk_code 12 cX12_aims 8 (some .int) false zp_X12_aims zp_X12_aims_0 = true := by decide +kernel
theorem zt_X12_heldWith : zk_code 12 cX12_heldWith 5 (some .int) false zp_X12_heldWith zp_X12_heldWith_0 = true := by decide +kernel
theorem zt_X12_prays : zk_code 12 cX12_prays 5 (some .int) false zp_X12_prays zp_X12_prays_0 = true := by decide +kernel
theorem zt_X12_seeks : zk_code 12 cX12_seeks 8 (some .int) false zp_X12_seeks zp_X12_seeks_0 = true := by decide +kernel
theorem zt_X12_whole : zk_code 12 cX12_whole 4 (some .int) false zp_X12_whole zp_X12_whole_0 = true := by decide +kernel
theorem zt_X12_holdersOf : zk_code 12 cX12_holdersOf 4 (some .int) false zp_X12_holdersOf zp_X12_holdersOf_0 = true := by decide +kernel
theorem zt_X12_holdsOfAll : zk_code 12 cX12_holdsOfAll 4 (some .boolean) false zp_X12_holdsOfAll zp_X12_holdsOfAll_0 = true := by decide +kernel
theorem zt_X12_quorum : zk_code 12 cX12_quorum 4 (some .int) false zp_X12_quorum zp_X12_quorum_0 = true := by decide +kernel
theorem zt_X12_awardsFrom : zk_code 12 cX12_awardsFrom 5 none false zp_X12_awardsFrom zp_X12_awardsFrom_0 = true := by decide +kernel
theorem zt_X12_awards : zk_code 12 cX12_awards 2 (some .int) false zp_X12_awards zp_X12_awards_0 = true := by decide +kernel
theorem zt_X12_needs : zk_code 12 cX12_needs 6 (some .int) false zp_X12_needs zp_X12_needs_0 = true := by decide +kernel
theorem zt_X12_line : zk_code 12 cX12_line 3 (some .int) false zp_X12_line zp_X12_line_0 = true := by decide +kernel
theorem zt_X12_carriesIt : zk_code 12 cX12_carriesIt 4 (some .boolean) false zp_X12_carriesIt zp_X12_carriesIt_0 = true := by decide +kernel
theorem zt_X12_power : zk_code 12 cX12_power 4 (some .int) false zp_X12_power zp_X12_power_0 = true := by decide +kernel
theorem zt_X12_least : zk_code 12 cX12_least 5 (some .int) false zp_X12_least zp_X12_least_0 = true := by decide +kernel
theorem zt_X12_seen : zk_code 12 cX12_seen 4 (some .int) false zp_X12_seen zp_X12_seen_0 = true := by decide +kernel
theorem zt_X12_forget : zk_code 12 cX12_forget 2 (some .int) false zp_X12_forget zp_X12_forget_0 = true := by decide +kernel
theorem zt_X12_winds : zk_code 12 cX12_winds 5 (some .int) false zp_X12_winds zp_X12_winds_0 = true := by decide +kernel
theorem zt_X12_guess : zk_code 12 cX12_guess 2 (some .int) false zp_X12_guess zp_X12_guess_0 = true := by decide +kernel
theorem zt_X12_looks : zk_code 12 cX12_looks 9 (some .int) false zp_X12_looks zp_X12_looks_0 = true := by decide +kernel
theorem zt_X12_highest : zk_code 12 cX12_highest 1 (some .int) false zp_X12_highest zp_X12_highest_0 = true := by decide +kernel
theorem zt_X12_heard : zk_code 12 cX12_heard 3 (some .int) false zp_X12_heard zp_X12_heard_0 = true := by decide +kernel
theorem zt_X12_denies : zk_code 12 cX12_denies 2 (some .int) false zp_X12_denies zp_X12_denies_0 = true := by decide +kernel
theorem zt_X12_isSo : zk_code 12 cX12_isSo 4 (some .boolean) false zp_X12_isSo zp_X12_isSo_0 = true := by decide +kernel
theorem zt_X12_fitting : zk_code 12 cX12_fitting 5 (some .int) false zp_X12_fitting zp_X12_fitting_0 = true := by decide +kernel
theorem zt_X12_fits : zk_code 12 cX12_fits 2 (some .int) false zp_X12_fits zp_X12_fits_0 = true := by decide +kernel
theorem zt_X12_asks : zk_code 12 cX12_asks 8 (some .int) false zp_X12_asks zp_X12_asks_0 = true := by decide +kernel
theorem zt_X12_odds : zk_code 12 cX12_odds 13 (some .int) false zp_X12_odds zp_X12_odds_0 = true := by decide +kernel
theorem zt_X12_went : zk_code 12 cX12_went 4 (some .int) false zp_X12_went zp_X12_went_0 = true := by decide +kernel
theorem zt_X12_clears : zk_code 12 cX12_clears 2 (some .int) false zp_X12_clears zp_X12_clears_0 = true := by decide +kernel
theorem zt_X12_goesBy : zk_code 12 cX12_goesBy 3 (some .int) false zp_X12_goesBy zp_X12_goesBy_0 = true := by decide +kernel
theorem zt_X12_isScatter : zk_code 12 cX12_isScatter 4 (some .boolean) false zp_X12_isScatter zp_X12_isScatter_0 = true := by decide +kernel
theorem zt_X12_scatters : zk_code 12 cX12_scatters 4 (some .int) false zp_X12_scatters zp_X12_scatters_0 = true := by decide +kernel
theorem zt_X12_tries : zk_code 12 cX12_tries 8 (some .int) false zp_X12_tries zp_X12_tries_0 = true := by decide +kernel
theorem zt_X12_handfuls : zk_code 12 cX12_handfuls 5 (some .int) false zp_X12_handfuls zp_X12_handfuls_0 = true := by decide +kernel
theorem zt_X12_other : zk_code 12 cX12_other 6 (some .int) false zp_X12_other zp_X12_other_0 = true := by decide +kernel
theorem zt_X12_gets : zk_code 12 cX12_gets 3 (some .int) false zp_X12_gets zp_X12_gets_0 = true := by decide +kernel
theorem zt_X12_isRest : zk_code 12 cX12_isRest 5 (some .boolean) false zp_X12_isRest zp_X12_isRest_0 = true := by decide +kernel
theorem zt_X12_grasps : zk_code 12 cX12_grasps 5 (some .int) false zp_X12_grasps zp_X12_grasps_0 = true := by decide +kernel
theorem zt_X12_draws : zk_code 12 cX12_draws 2 (some .int) false zp_X12_draws zp_X12_draws_0 = true := by decide +kernel
theorem zt_X12_years : zk_code 12 cX12_years 7 (some .int) false zp_X12_years zp_X12_years_0 = true := by decide +kernel
theorem zt_X12_keep : zk_code 12 cX12_keep 3 (some .boolean) false zp_X12_keep zp_X12_keep_0 = true := by decide +kernel
theorem zt_X12_again : zk_code 12 cX12_again 3 (some .boolean) false zp_X12_again zp_X12_again_0 = true := by decide +kernel
theorem zt_X12_count : zk_code 12 cX12_count 2 (some .int) false zp_X12_count zp_X12_count_0 = true := by decide +kernel
theorem zt_X12_row : zk_code 12 cX12_row 2 (some .long) false zp_X12_row zp_X12_row_0 = true := by decide +kernel
theorem zt_J6_bitCount_0f7a4 : zk_code 13 cJ6_bitCount_0f7a4 1 (some .int) false zp_J6_bitCount_0f7a4 zp_J6_bitCount_0f7a4_0 = true := by decide +kernel
