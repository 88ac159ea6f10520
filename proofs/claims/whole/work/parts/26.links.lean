abbrev MX6_init : sm_M := (yX6_init, cX6_init, 2, none)
abbrev MX2_init : sm_M := (yX2_init, cX2_init, 1, none)
abbrev MX0_init : sm_M := (yX0_init, cX0_init, 2, none)
abbrev MX1_init : sm_M := (yX1_init, cX1_init, 1, none)
abbrev MX5_init : sm_M := (yX5_init, cX5_init, 3, none)
abbrev MX3_init : sm_M := (yX3_init, cX3_init, 1, none)
abbrev MX6_ridge : sm_M := (yX6_ridge, cX6_ridge, 7, (some .int))
abbrev MX6_isSheet : sm_M := (yX6_isSheet, cX6_isSheet, 1, (some .boolean))
abbrev MX6_isLane : sm_M := (yX6_isLane, cX6_isLane, 1, (some .boolean))
abbrev MX3_faultOfRow : sm_M := (yX3_faultOfRow, cX3_faultOfRow, 5, (some .int))
abbrev MX3_faultOfLane : sm_M := (yX3_faultOfLane, cX3_faultOfLane, 2, (some .int))
abbrev MX3_isThere : sm_M := (yX3_isThere, cX3_isThere, 1, (some .boolean))
abbrev MX3_hasCells : sm_M := (yX3_hasCells, cX3_hasCells, 3, (some .boolean))
abbrev MX6_faulted : sm_M := (yX6_faulted, cX6_faulted, 2, (some .int))
abbrev MX4_init : sm_M := (yX4_init, cX4_init, 4, none)
abbrev MX4_readInto : sm_M := (yX4_readInto, cX4_readInto, 2, (some .boolean))
abbrev MX2_clear : sm_M := (yX2_clear, cX2_clear, 1, none)
abbrev MX4_takes : sm_M := (yX4_takes, cX4_takes, 2, (some .boolean))
abbrev MX4_readInns : sm_M := (yX4_readInns, cX4_readInns, 4, (some .boolean))
abbrev MX4_takeKind : sm_M := (yX4_takeKind, cX4_takeKind, 1, (some .int))
abbrev MX4_takeDigit : sm_M := (yX4_takeDigit, cX4_takeDigit, 3, (some .int))
abbrev MX4_readNights : sm_M := (yX4_readNights, cX4_readNights, 4, (some .boolean))
abbrev MX4_readGuests : sm_M := (yX4_readGuests, cX4_readGuests, 4, (some .boolean))
abbrev MX4_place : sm_M := (yX4_place, cX4_place, 1, (some .int))
abbrev MX2_become : sm_M := (yX2_become, cX2_become, 2, none)
abbrev MX1_clear : sm_M := (yX1_clear, cX1_clear, 1, none)
abbrev MX6_ofInn : sm_M := (yX6_ofInn, cX6_ofInn, 3, (some .int))
abbrev MX2_hasInn : sm_M := (yX2_hasInn, cX2_hasInn, 2, (some .boolean))
abbrev MX2_keepsBy : sm_M := (yX2_keepsBy, cX2_keepsBy, 3, (some .int))
abbrev MX6_ofGuest : sm_M := (yX6_ofGuest, cX6_ofGuest, 3, (some .int))
abbrev MX2_hasGuest : sm_M := (yX2_hasGuest, cX2_hasGuest, 2, (some .boolean))
abbrev MX6_ofNight : sm_M := (yX6_ofNight, cX6_ofNight, 3, (some .int))
abbrev MX2_stands : sm_M := (yX2_stands, cX2_stands, 1, (some .boolean))
abbrev MX2_hasNight : sm_M := (yX2_hasNight, cX2_hasNight, 2, (some .boolean))
abbrev MX6_rule : sm_M := (yX6_rule, cX6_rule, 3, (some .int))
abbrev MX6_fall : sm_M := (yX6_fall, cX6_fall, 4, (some .int))
abbrev MX6_gust : sm_M := (yX6_gust, cX6_gust, 5, (some .int))
abbrev MX6_lodge : sm_M := (yX6_lodge, cX6_lodge, 4, (some .int))
abbrev MX6_sweep : sm_M := (yX6_sweep, cX6_sweep, 5, (some .int))
abbrev MX2_sweepOver : sm_M := (yX2_sweepOver, cX2_sweepOver, 6, (some .int))
abbrev MJ9_min_7cf53 : sm_M := (yJ9_min_7cf53, cJ9_min_7cf53, 2, (some .int))
abbrev MX6_where : sm_M := (yX6_where, cX6_where, 3, (some .int))
abbrev MX2_countsNights : sm_M := (yX2_countsNights, cX2_countsNights, 2, (some .boolean))
abbrev MX0_run : sm_M := (yX0_run, cX0_run, 3, none)
abbrev MX0_begin : sm_M := (yX0_begin, cX0_begin, 2, none)
abbrev MX0_pass : sm_M := (yX0_pass, cX0_pass, 10, none)
abbrev MX0_snow : sm_M := (yX0_snow, cX0_snow, 5, none)
abbrev MJ9_max_7cf53 : sm_M := (yJ9_max_7cf53, cJ9_max_7cf53, 2, (some .int))
abbrev MX2_roomBy : sm_M := (yX2_roomBy, cX2_roomBy, 4, (some .int))
abbrev MX0_keptOf : sm_M := (yX0_keptOf, cX0_keptOf, 5, (some .int))
abbrev MJ6_bitCount_0f7a4 : sm_M := (yJ6_bitCount_0f7a4, cJ6_bitCount_0f7a4, 1, (some .int))
abbrev MX0_withoutLeast : sm_M := (yX0_withoutLeast, cX0_withoutLeast, 4, (some .int))
abbrev MX0_placeOf : sm_M := (yX0_placeOf, cX0_placeOf, 4, (some .int))
abbrev MX0_isAt : sm_M := (yX0_isAt, cX0_isAt, 4, (some .boolean))
abbrev MX6_deep : sm_M := (yX6_deep, cX6_deep, 3, (some .int))
abbrev MX6_beds : sm_M := (yX6_beds, cX6_beds, 3, (some .int))
abbrev MX2_hasInnOrRoad : sm_M := (yX2_hasInnOrRoad, cX2_hasInnOrRoad, 2, (some .boolean))
abbrev MX6_list : sm_M := (yX6_list, cX6_list, 7, (some .int))
abbrev MX6_firstElsewhere : sm_M := (yX6_firstElsewhere, cX6_firstElsewhere, 6, (some .int))
abbrev MX6_meet : sm_M := (yX6_meet, cX6_meet, 3, (some .int))
abbrev MX2_membersOf : sm_M := (yX2_membersOf, cX2_membersOf, 4, (some .int))
abbrev MX0_firstMeeting : sm_M := (yX0_firstMeeting, cX0_firstMeeting, 4, (some .int))
abbrev MX0_isMeeting : sm_M := (yX0_isMeeting, cX0_isMeeting, 4, (some .boolean))
abbrev MX6_least : sm_M := (yX6_least, cX6_least, 3, (some .int))
abbrev MX5_leastSweep : sm_M := (yX5_leastSweep, cX5_leastSweep, 6, (some .int))
abbrev MX0_leaveRoadEmpty : sm_M := (yX0_leaveRoadEmpty, cX0_leaveRoadEmpty, 3, (some .boolean))
abbrev MX0_onRoad : sm_M := (yX0_onRoad, cX0_onRoad, 2, (some .int))
abbrev MX5_sweepEmptiesRoad : sm_M := (yX5_sweepEmptiesRoad, cX5_sweepEmptiesRoad, 5, (some .boolean))
abbrev MX6_turn : sm_M := (yX6_turn, cX6_turn, 4, (some .int))
abbrev MX5_firstTurn : sm_M := (yX5_firstTurn, cX5_firstTurn, 4, (some .int))
abbrev MX6_corks : sm_M := (yX6_corks, cX6_corks, 2, (some .int))
abbrev MX5_innsThatCork : sm_M := (yX5_innsThatCork, cX5_innsThatCork, 5, (some .int))
abbrev MX5_manyOnRoad : sm_M := (yX5_manyOnRoad, cX5_manyOnRoad, 2, (some .int))
abbrev MX6_reading : sm_M := (yX6_reading, cX6_reading, 4, (some .int))
abbrev MX1_add : sm_M := (yX1_add, cX1_add, 4, (some .int))
abbrev MX6_back : sm_M := (yX6_back, cX6_back, 2, (some .int))
abbrev MX6_rules : sm_M := (yX6_rules, cX6_rules, 1, (some .int))
abbrev MX5_rulesThatFit : sm_M := (yX5_rulesThatFit, cX5_rulesThatFit, 3, (some .int))
abbrev MX5_bitIfFit : sm_M := (yX5_bitIfFit, cX5_bitIfFit, 2, (some .int))
abbrev MX1_areSo : sm_M := (yX1_areSo, cX1_areSo, 3, (some .boolean))
abbrev MX6_kinds : sm_M := (yX6_kinds, cX6_kinds, 2, (some .int))
abbrev MX5_kindsThatFit : sm_M := (yX5_kindsThatFit, cX5_kindsThatFit, 4, (some .int))
abbrev MX6_depths : sm_M := (yX6_depths, cX6_depths, 2, (some .int))
abbrev MX5_depthsThatFit : sm_M := (yX5_depthsThatFit, cX5_depthsThatFit, 4, (some .int))
abbrev MX6_falls : sm_M := (yX6_falls, cX6_falls, 2, (some .int))
abbrev MX5_fallsThatFit : sm_M := (yX5_fallsThatFit, cX5_fallsThatFit, 4, (some .int))
abbrev MX6_odds : sm_M := (yX6_odds, cX6_odds, 8, (some .long))
abbrev MX5_windsThatMeet : sm_M := (yX5_windsThatMeet, cX5_windsThatMeet, 3, (some .int))
abbrev MX5_meetingWinds : sm_M := (yX5_meetingWinds, cX5_meetingWinds, 6, (some .int))
abbrev MX6_sheet : sm_M := (yX6_sheet, cX6_sheet, 4, (some .int))
abbrev MX3_renew : sm_M := (yX3_renew, cX3_renew, 4, none)
abbrev MX6_lose : sm_M := (yX6_lose, cX6_lose, 3, (some .int))
abbrev MX3_clear : sm_M := (yX3_clear, cX3_clear, 1, none)
abbrev MX6_put : sm_M := (yX6_put, cX6_put, 4, (some .int))
abbrev MX3_hasCell : sm_M := (yX3_hasCell, cX3_hasCell, 2, (some .boolean))
abbrev MX3_write : sm_M := (yX3_write, cX3_write, 3, none)
abbrev MX6_cell : sm_M := (yX6_cell, cX6_cell, 4, (some .long))
abbrev MX3_faultOfCell : sm_M := (yX3_faultOfCell, cX3_faultOfCell, 4, (some .int))
abbrev MX6_copy : sm_M := (yX6_copy, cX6_copy, 8, (some .int))
abbrev MX6_tell : sm_M := (yX6_tell, cX6_tell, 2, (some .int))
abbrev MX6_castleTelling : sm_M := (yX6_castleTelling, cX6_castleTelling, 2, (some .int))
abbrev MX6_beginBody : sm_M := (yX6_beginBody, cX6_beginBody, 2, none)
abbrev MX6_lodgeTelling : sm_M := (yX6_lodgeTelling, cX6_lodgeTelling, 2, (some .int))
abbrev MX6_innTelling : sm_M := (yX6_innTelling, cX6_innTelling, 2, (some .int))
abbrev MX6_light : sm_M := (yX6_light, cX6_light, 2, (some .int))
abbrev MX6_castleLight : sm_M := (yX6_castleLight, cX6_castleLight, 1, (some .int))
abbrev MX6_lentLight : sm_M := (yX6_lentLight, cX6_lentLight, 2, (some .int))
abbrev MX6_as : sm_M := (yX6_as, cX6_as, 3, (some .int))
abbrev MX6_trace : sm_M := (yX6_trace, cX6_trace, 1, (some .int))
abbrev MX6_fault : sm_M := (yX6_fault, cX6_fault, 1, (some .int))
abbrev MX6_many : sm_M := (yX6_many, cX6_many, 2, (some .int))
abbrev MX7_init : sm_M := (yX7_init, cX7_init, 2, none)
abbrev MX7_ridge : sm_M := (yX7_ridge, cX7_ridge, 7, (some .int))
abbrev MX7_noSheet : sm_M := (yX7_noSheet, cX7_noSheet, 1, (some .boolean))
abbrev MX7_in : sm_M := (yX7_in, cX7_in, 6, (some .boolean))
abbrev MX7_refused : sm_M := (yX7_refused, cX7_refused, 2, (some .int))
abbrev MX7_cellsBarred : sm_M := (yX7_cellsBarred, cX7_cellsBarred, 6, (some .int))
abbrev MX7_failed : sm_M := (yX7_failed, cX7_failed, 2, (some .int))
abbrev MX7_isBeyond : sm_M := (yX7_isBeyond, cX7_isBeyond, 4, (some .boolean))
abbrev MX7_readsRidge : sm_M := (yX7_readsRidge, cX7_readsRidge, 4, (some .boolean))
abbrev MX7_codeAt : sm_M := (yX7_codeAt, cX7_codeAt, 3, (some .int))
abbrev MX7_readsInn : sm_M := (yX7_readsInn, cX7_readsInn, 5, (some .boolean))
abbrev MX7_figure : sm_M := (yX7_figure, cX7_figure, 7, (some .int))
abbrev MX7_readsNight : sm_M := (yX7_readsNight, cX7_readsNight, 5, (some .boolean))
abbrev MX7_readsGuest : sm_M := (yX7_readsGuest, cX7_readsGuest, 5, (some .boolean))
abbrev MX7_ofInn : sm_M := (yX7_ofInn, cX7_ofInn, 3, (some .int))
abbrev MX7_noInn : sm_M := (yX7_noInn, cX7_noInn, 2, (some .boolean))
abbrev MX7_keepsBy : sm_M := (yX7_keepsBy, cX7_keepsBy, 4, (some .int))
abbrev MX7_ofGuest : sm_M := (yX7_ofGuest, cX7_ofGuest, 3, (some .int))
abbrev MX7_noGuest : sm_M := (yX7_noGuest, cX7_noGuest, 2, (some .boolean))
abbrev MX7_ofNight : sm_M := (yX7_ofNight, cX7_ofNight, 3, (some .int))
abbrev MX7_noNight : sm_M := (yX7_noNight, cX7_noNight, 2, (some .boolean))
abbrev MX7_rule : sm_M := (yX7_rule, cX7_rule, 3, (some .int))
abbrev MX7_fall : sm_M := (yX7_fall, cX7_fall, 4, (some .int))
abbrev MX7_gust : sm_M := (yX7_gust, cX7_gust, 4, (some .int))
abbrev MX7_lodge : sm_M := (yX7_lodge, cX7_lodge, 4, (some .int))
abbrev MX7_sweep : sm_M := (yX7_sweep, cX7_sweep, 5, (some .int))
abbrev MX7_swept : sm_M := (yX7_swept, cX7_swept, 6, (some .int))
abbrev MX7_where : sm_M := (yX7_where, cX7_where, 3, (some .int))
abbrev MX7_goNights : sm_M := (yX7_goNights, cX7_goNights, 3, none)
abbrev MX7_begin : sm_M := (yX7_begin, cX7_begin, 2, none)
abbrev MX7_goNight : sm_M := (yX7_goNight, cX7_goNight, 5, none)
abbrev MX7_passOn : sm_M := (yX7_passOn, cX7_passOn, 6, none)
abbrev MX7_deep : sm_M := (yX7_deep, cX7_deep, 3, (some .int))
abbrev MX7_beds : sm_M := (yX7_beds, cX7_beds, 3, (some .int))
abbrev MX7_inBeds : sm_M := (yX7_inBeds, cX7_inBeds, 4, (some .int))
abbrev MX7_list : sm_M := (yX7_list, cX7_list, 8, (some .int))
abbrev MX7_meet : sm_M := (yX7_meet, cX7_meet, 2, (some .int))
abbrev MX7_noFamily : sm_M := (yX7_noFamily, cX7_noFamily, 4, (some .boolean))
abbrev MX7_meetsIn : sm_M := (yX7_meetsIn, cX7_meetsIn, 5, (some .int))
abbrev MX7_isTogether : sm_M := (yX7_isTogether, cX7_isTogether, 5, (some .boolean))
abbrev MX7_least : sm_M := (yX7_least, cX7_least, 7, (some .int))
abbrev MX7_isNobodyOut : sm_M := (yX7_isNobodyOut, cX7_isNobodyOut, 4, (some .boolean))
abbrev MX7_isBy : sm_M := (yX7_isBy, cX7_isBy, 8, (some .boolean))
abbrev MX7_turn : sm_M := (yX7_turn, cX7_turn, 5, (some .int))
abbrev MX7_corks : sm_M := (yX7_corks, cX7_corks, 5, (some .int))
abbrev MX7_bits : sm_M := (yX7_bits, cX7_bits, 3, (some .int))
abbrev MX7_reading : sm_M := (yX7_reading, cX7_reading, 4, (some .int))
abbrev MX7_back : sm_M := (yX7_back, cX7_back, 2, (some .int))
abbrev MX7_rules : sm_M := (yX7_rules, cX7_rules, 4, (some .int))
abbrev MX7_areSo : sm_M := (yX7_areSo, cX7_areSo, 4, (some .boolean))
abbrev MX7_kinds : sm_M := (yX7_kinds, cX7_kinds, 5, (some .int))
abbrev MX7_depths : sm_M := (yX7_depths, cX7_depths, 5, (some .int))
abbrev MX7_falls : sm_M := (yX7_falls, cX7_falls, 5, (some .int))
abbrev MX7_odds : sm_M := (yX7_odds, cX7_odds, 8, (some .long))
abbrev MX7_lost : sm_M := (yX7_lost, cX7_lost, 0, (some .long))
abbrev MX7_blow : sm_M := (yX7_blow, cX7_blow, 4, none)
abbrev MX7_share : sm_M := (yX7_share, cX7_share, 11, (some .long))
abbrev MX7_sheet : sm_M := (yX7_sheet, cX7_sheet, 5, (some .int))
abbrev MX7_lose : sm_M := (yX7_lose, cX7_lose, 3, (some .int))
abbrev MX7_put : sm_M := (yX7_put, cX7_put, 4, (some .int))
abbrev MX7_noCell : sm_M := (yX7_noCell, cX7_noCell, 3, (some .int))
abbrev MX7_cell : sm_M := (yX7_cell, cX7_cell, 4, (some .long))
abbrev MX7_failedLong : sm_M := (yX7_failedLong, cX7_failedLong, 2, (some .long))
abbrev MX7_copy : sm_M := (yX7_copy, cX7_copy, 7, (some .int))
abbrev MX7_tell : sm_M := (yX7_tell, cX7_tell, 4, (some .int))
abbrev MX7_traced : sm_M := (yX7_traced, cX7_traced, 2, none)
abbrev MX7_light : sm_M := (yX7_light, cX7_light, 2, (some .int))
abbrev MX7_as : sm_M := (yX7_as, cX7_as, 3, (some .int))
abbrev MX7_trace : sm_M := (yX7_trace, cX7_trace, 1, (some .int))
abbrev MX7_fault : sm_M := (yX7_fault, cX7_fault, 1, (some .int))
abbrev MX7_many : sm_M := (yX7_many, cX7_many, 2, (some .int))
set_option maxRecDepth 100000 in
theorem lbX6_init : sm_LB MX6_init 0 := ⟨by decide, List.mem_of_getElem? (i := 65) rfl, List.mem_of_getElem? (i := 50) rfl, by decide +kernel, by decide⟩
set_option maxRecDepth 100000 in
theorem lbX2_init : sm_LB MX2_init 0 := ⟨by decide, List.mem_of_getElem? (i := 75) rfl, List.mem_of_getElem? (i := 51) rfl, by decide +kernel, by decide⟩
set_option maxRecDepth 100000 in
theorem lbX0_init : sm_LB MX0_init 1 := ⟨by decide, List.mem_of_getElem? (i := 150) rfl, List.mem_of_getElem? (i := 52) rfl, by decide +kernel, by decide⟩
set_option maxRecDepth 100000 in
theorem lbX1_init : sm_LB MX1_init 0 := ⟨by decide, List.mem_of_getElem? (i := 173) rfl, List.mem_of_getElem? (i := 53) rfl, by decide +kernel, by decide⟩
set_option maxRecDepth 100000 in
theorem lbX5_init : sm_LB MX5_init 2 := ⟨by decide, List.mem_of_getElem? (i := 193) rfl, List.mem_of_getElem? (i := 54) rfl, by decide +kernel, by decide⟩
set_option maxRecDepth 100000 in
theorem lbX3_init : sm_LB MX3_init 0 := ⟨by decide, List.mem_of_getElem? (i := 215) rfl, List.mem_of_getElem? (i := 55) rfl, by decide +kernel, by decide⟩
set_option maxRecDepth 100000 in
theorem lbX6_ridge : sm_LB MX6_ridge 4 := ⟨by decide, List.mem_of_getElem? (i := 258) rfl, List.mem_of_getElem? (i := 50) rfl, by decide +kernel, by decide⟩
set_option maxRecDepth 100000 in
theorem lbX6_isSheet : sm_LB MX6_isSheet 1 := ⟨by decide, List.mem_of_getElem? (i := 261) rfl, List.mem_of_getElem? (i := 50) rfl, by decide +kernel, by decide⟩
set_option maxRecDepth 100000 in
theorem lbX6_isLane : sm_LB MX6_isLane 1 := ⟨by decide, List.mem_of_getElem? (i := 264) rfl, List.mem_of_getElem? (i := 50) rfl, by decide +kernel, by decide⟩
set_option maxRecDepth 100000 in
theorem lbX3_faultOfRow : sm_LB MX3_faultOfRow 3 := ⟨by decide, List.mem_of_getElem? (i := 268) rfl, List.mem_of_getElem? (i := 55) rfl, by decide +kernel, by decide⟩
set_option maxRecDepth 100000 in
theorem lbX3_faultOfLane : sm_LB MX3_faultOfLane 1 := ⟨by decide, List.mem_of_getElem? (i := 272) rfl, List.mem_of_getElem? (i := 55) rfl, by decide +kernel, by decide⟩
set_option maxRecDepth 100000 in
theorem lbX3_isThere : sm_LB MX3_isThere 0 := ⟨by decide, List.mem_of_getElem? (i := 276) rfl, List.mem_of_getElem? (i := 55) rfl, by decide +kernel, by decide⟩
set_option maxRecDepth 100000 in
theorem lbX3_hasCells : sm_LB MX3_hasCells 2 := ⟨by decide, List.mem_of_getElem? (i := 280) rfl, List.mem_of_getElem? (i := 55) rfl, by decide +kernel, by decide⟩
set_option maxRecDepth 100000 in
theorem lbX6_faulted : sm_LB MX6_faulted 1 := ⟨by decide, List.mem_of_getElem? (i := 284) rfl, List.mem_of_getElem? (i := 50) rfl, by decide +kernel, by decide⟩
set_option maxRecDepth 100000 in
theorem lbX4_init : sm_LB MX4_init 3 := ⟨by decide, List.mem_of_getElem? (i := 289) rfl, List.mem_of_getElem? (i := 57) rfl, by decide +kernel, by decide⟩
set_option maxRecDepth 100000 in
theorem lbX4_readInto : sm_LB MX4_readInto 1 := ⟨by decide, List.mem_of_getElem? (i := 307) rfl, List.mem_of_getElem? (i := 57) rfl, by decide +kernel, by decide⟩
set_option maxRecDepth 100000 in
theorem lbX2_clear : sm_LB MX2_clear 0 := ⟨by decide, List.mem_of_getElem? (i := 311) rfl, List.mem_of_getElem? (i := 51) rfl, by decide +kernel, by decide⟩
set_option maxRecDepth 100000 in
theorem lbX4_takes : sm_LB MX4_takes 1 := ⟨by decide, List.mem_of_getElem? (i := 315) rfl, List.mem_of_getElem? (i := 57) rfl, by decide +kernel, by decide⟩
set_option maxRecDepth 100000 in
theorem lbX4_readInns : sm_LB MX4_readInns 1 := ⟨by decide, List.mem_of_getElem? (i := 319) rfl, List.mem_of_getElem? (i := 57) rfl, by decide +kernel, by decide⟩
set_option maxRecDepth 100000 in
theorem lbX4_takeKind : sm_LB MX4_takeKind 0 := ⟨by decide, List.mem_of_getElem? (i := 323) rfl, List.mem_of_getElem? (i := 57) rfl, by decide +kernel, by decide⟩
set_option maxRecDepth 100000 in
theorem lbX4_takeDigit : sm_LB MX4_takeDigit 1 := ⟨by decide, List.mem_of_getElem? (i := 327) rfl, List.mem_of_getElem? (i := 57) rfl, by decide +kernel, by decide⟩
set_option maxRecDepth 100000 in
theorem lbX4_readNights : sm_LB MX4_readNights 1 := ⟨by decide, List.mem_of_getElem? (i := 331) rfl, List.mem_of_getElem? (i := 57) rfl, by decide +kernel, by decide⟩
set_option maxRecDepth 100000 in
theorem lbX4_readGuests : sm_LB MX4_readGuests 1 := ⟨by decide, List.mem_of_getElem? (i := 335) rfl, List.mem_of_getElem? (i := 57) rfl, by decide +kernel, by decide⟩
set_option maxRecDepth 100000 in
theorem lbX4_place : sm_LB MX4_place 0 := ⟨by decide, List.mem_of_getElem? (i := 339) rfl, List.mem_of_getElem? (i := 57) rfl, by decide +kernel, by decide⟩
set_option maxRecDepth 100000 in
theorem lbX2_become : sm_LB MX2_become 1 := ⟨by decide, List.mem_of_getElem? (i := 343) rfl, List.mem_of_getElem? (i := 51) rfl, by decide +kernel, by decide⟩
set_option maxRecDepth 100000 in
theorem lbX1_clear : sm_LB MX1_clear 0 := ⟨by decide, List.mem_of_getElem? (i := 350) rfl, List.mem_of_getElem? (i := 53) rfl, by decide +kernel, by decide⟩
set_option maxRecDepth 100000 in
theorem lbX6_ofInn : sm_LB MX6_ofInn 2 := ⟨by decide, List.mem_of_getElem? (i := 354) rfl, List.mem_of_getElem? (i := 50) rfl, by decide +kernel, by decide⟩
set_option maxRecDepth 100000 in
theorem lbX2_hasInn : sm_LB MX2_hasInn 1 := ⟨by decide, List.mem_of_getElem? (i := 358) rfl, List.mem_of_getElem? (i := 51) rfl, by decide +kernel, by decide⟩
set_option maxRecDepth 100000 in
theorem lbX2_keepsBy : sm_LB MX2_keepsBy 2 := ⟨by decide, List.mem_of_getElem? (i := 362) rfl, List.mem_of_getElem? (i := 51) rfl, by decide +kernel, by decide⟩
set_option maxRecDepth 100000 in
theorem lbX6_ofGuest : sm_LB MX6_ofGuest 2 := ⟨by decide, List.mem_of_getElem? (i := 366) rfl, List.mem_of_getElem? (i := 50) rfl, by decide +kernel, by decide⟩
set_option maxRecDepth 100000 in
theorem lbX2_hasGuest : sm_LB MX2_hasGuest 1 := ⟨by decide, List.mem_of_getElem? (i := 370) rfl, List.mem_of_getElem? (i := 51) rfl, by decide +kernel, by decide⟩
set_option maxRecDepth 100000 in
theorem lbX6_ofNight : sm_LB MX6_ofNight 2 := ⟨by decide, List.mem_of_getElem? (i := 374) rfl, List.mem_of_getElem? (i := 50) rfl, by decide +kernel, by decide⟩
set_option maxRecDepth 100000 in
theorem lbX2_stands : sm_LB MX2_stands 0 := ⟨by decide, List.mem_of_getElem? (i := 378) rfl, List.mem_of_getElem? (i := 51) rfl, by decide +kernel, by decide⟩
set_option maxRecDepth 100000 in
theorem lbX2_hasNight : sm_LB MX2_hasNight 1 := ⟨by decide, List.mem_of_getElem? (i := 382) rfl, List.mem_of_getElem? (i := 51) rfl, by decide +kernel, by decide⟩
set_option maxRecDepth 100000 in
theorem lbX6_rule : sm_LB MX6_rule 1 := ⟨by decide, List.mem_of_getElem? (i := 386) rfl, List.mem_of_getElem? (i := 50) rfl, by decide +kernel, by decide⟩
set_option maxRecDepth 100000 in
theorem lbX6_fall : sm_LB MX6_fall 2 := ⟨by decide, List.mem_of_getElem? (i := 390) rfl, List.mem_of_getElem? (i := 50) rfl, by decide +kernel, by decide⟩
set_option maxRecDepth 100000 in
theorem lbX6_gust : sm_LB MX6_gust 2 := ⟨by decide, List.mem_of_getElem? (i := 394) rfl, List.mem_of_getElem? (i := 50) rfl, by decide +kernel, by decide⟩
set_option maxRecDepth 100000 in
theorem lbX6_lodge : sm_LB MX6_lodge 2 := ⟨by decide, List.mem_of_getElem? (i := 398) rfl, List.mem_of_getElem? (i := 50) rfl, by decide +kernel, by decide⟩
set_option maxRecDepth 100000 in
theorem lbX6_sweep : sm_LB MX6_sweep 3 := ⟨by decide, List.mem_of_getElem? (i := 402) rfl, List.mem_of_getElem? (i := 50) rfl, by decide +kernel, by decide⟩
set_option maxRecDepth 100000 in
theorem lbX2_sweepOver : sm_LB MX2_sweepOver 3 := ⟨by decide, List.mem_of_getElem? (i := 406) rfl, List.mem_of_getElem? (i := 51) rfl, by decide +kernel, by decide⟩
set_option maxRecDepth 100000 in
theorem lbX6_where : sm_LB MX6_where 2 := ⟨by decide, List.mem_of_getElem? (i := 413) rfl, List.mem_of_getElem? (i := 50) rfl, by decide +kernel, by decide⟩
set_option maxRecDepth 100000 in
theorem lbX2_countsNights : sm_LB MX2_countsNights 1 := ⟨by decide, List.mem_of_getElem? (i := 417) rfl, List.mem_of_getElem? (i := 51) rfl, by decide +kernel, by decide⟩
set_option maxRecDepth 100000 in
theorem lbX0_run : sm_LB MX0_run 1 := ⟨by decide, List.mem_of_getElem? (i := 421) rfl, List.mem_of_getElem? (i := 52) rfl, by decide +kernel, by decide⟩
set_option maxRecDepth 100000 in
theorem lbX0_begin : sm_LB MX0_begin 0 := ⟨by decide, List.mem_of_getElem? (i := 425) rfl, List.mem_of_getElem? (i := 52) rfl, by decide +kernel, by decide⟩
set_option maxRecDepth 100000 in
theorem lbX0_pass : sm_LB MX0_pass 2 := ⟨by decide, List.mem_of_getElem? (i := 429) rfl, List.mem_of_getElem? (i := 52) rfl, by decide +kernel, by decide⟩
set_option maxRecDepth 100000 in
theorem lbX0_snow : sm_LB MX0_snow 1 := ⟨by decide, List.mem_of_getElem? (i := 433) rfl, List.mem_of_getElem? (i := 52) rfl, by decide +kernel, by decide⟩
set_option maxRecDepth 100000 in
theorem lbX2_roomBy : sm_LB MX2_roomBy 2 := ⟨by decide, List.mem_of_getElem? (i := 441) rfl, List.mem_of_getElem? (i := 51) rfl, by decide +kernel, by decide⟩
set_option maxRecDepth 100000 in
theorem lbX0_keptOf : sm_LB MX0_keptOf 2 := ⟨by decide, List.mem_of_getElem? (i := 446) rfl, List.mem_of_getElem? (i := 52) rfl, by decide +kernel, by decide⟩
set_option maxRecDepth 100000 in
theorem lbJ6_bitCount_0f7a4 : sm_LB MJ6_bitCount_0f7a4 1 := ⟨by decide, List.mem_of_getElem? (i := 449) rfl, List.mem_of_getElem? (i := 60) rfl, by decide +kernel, by decide⟩
set_option maxRecDepth 100000 in
theorem lbX0_withoutLeast : sm_LB MX0_withoutLeast 2 := ⟨by decide, List.mem_of_getElem? (i := 455) rfl, List.mem_of_getElem? (i := 52) rfl, by decide +kernel, by decide⟩
set_option maxRecDepth 100000 in
theorem lbX0_placeOf : sm_LB MX0_placeOf 2 := ⟨by decide, List.mem_of_getElem? (i := 459) rfl, List.mem_of_getElem? (i := 52) rfl, by decide +kernel, by decide⟩
set_option maxRecDepth 100000 in
theorem lbX0_isAt : sm_LB MX0_isAt 3 := ⟨by decide, List.mem_of_getElem? (i := 463) rfl, List.mem_of_getElem? (i := 52) rfl, by decide +kernel, by decide⟩
set_option maxRecDepth 100000 in
theorem lbX6_deep : sm_LB MX6_deep 2 := ⟨by decide, List.mem_of_getElem? (i := 467) rfl, List.mem_of_getElem? (i := 50) rfl, by decide +kernel, by decide⟩
set_option maxRecDepth 100000 in
theorem lbX6_beds : sm_LB MX6_beds 2 := ⟨by decide, List.mem_of_getElem? (i := 471) rfl, List.mem_of_getElem? (i := 50) rfl, by decide +kernel, by decide⟩
set_option maxRecDepth 100000 in
theorem lbX2_hasInnOrRoad : sm_LB MX2_hasInnOrRoad 1 := ⟨by decide, List.mem_of_getElem? (i := 475) rfl, List.mem_of_getElem? (i := 51) rfl, by decide +kernel, by decide⟩
set_option maxRecDepth 100000 in
theorem lbX6_list : sm_LB MX6_list 5 := ⟨by decide, List.mem_of_getElem? (i := 480) rfl, List.mem_of_getElem? (i := 50) rfl, by decide +kernel, by decide⟩
set_option maxRecDepth 100000 in
theorem lbX6_firstElsewhere : sm_LB MX6_firstElsewhere 4 := ⟨by decide, List.mem_of_getElem? (i := 484) rfl, List.mem_of_getElem? (i := 50) rfl, by decide +kernel, by decide⟩
set_option maxRecDepth 100000 in
theorem lbX6_meet : sm_LB MX6_meet 1 := ⟨by decide, List.mem_of_getElem? (i := 488) rfl, List.mem_of_getElem? (i := 50) rfl, by decide +kernel, by decide⟩
set_option maxRecDepth 100000 in
theorem lbX2_membersOf : sm_LB MX2_membersOf 1 := ⟨by decide, List.mem_of_getElem? (i := 492) rfl, List.mem_of_getElem? (i := 51) rfl, by decide +kernel, by decide⟩
set_option maxRecDepth 100000 in
theorem lbX0_firstMeeting : sm_LB MX0_firstMeeting 2 := ⟨by decide, List.mem_of_getElem? (i := 496) rfl, List.mem_of_getElem? (i := 52) rfl, by decide +kernel, by decide⟩
set_option maxRecDepth 100000 in
theorem lbX0_isMeeting : sm_LB MX0_isMeeting 2 := ⟨by decide, List.mem_of_getElem? (i := 500) rfl, List.mem_of_getElem? (i := 52) rfl, by decide +kernel, by decide⟩
set_option maxRecDepth 100000 in
theorem lbX6_least : sm_LB MX6_least 2 := ⟨by decide, List.mem_of_getElem? (i := 504) rfl, List.mem_of_getElem? (i := 50) rfl, by decide +kernel, by decide⟩
set_option maxRecDepth 100000 in
theorem lbX5_leastSweep : sm_LB MX5_leastSweep 2 := ⟨by decide, List.mem_of_getElem? (i := 508) rfl, List.mem_of_getElem? (i := 54) rfl, by decide +kernel, by decide⟩
set_option maxRecDepth 100000 in
theorem lbX0_leaveRoadEmpty : sm_LB MX0_leaveRoadEmpty 1 := ⟨by decide, List.mem_of_getElem? (i := 513) rfl, List.mem_of_getElem? (i := 52) rfl, by decide +kernel, by decide⟩
set_option maxRecDepth 100000 in
theorem lbX0_onRoad : sm_LB MX0_onRoad 1 := ⟨by decide, List.mem_of_getElem? (i := 517) rfl, List.mem_of_getElem? (i := 52) rfl, by decide +kernel, by decide⟩
set_option maxRecDepth 100000 in
theorem lbX5_sweepEmptiesRoad : sm_LB MX5_sweepEmptiesRoad 4 := ⟨by decide, List.mem_of_getElem? (i := 521) rfl, List.mem_of_getElem? (i := 54) rfl, by decide +kernel, by decide⟩
set_option maxRecDepth 100000 in
theorem lbX6_turn : sm_LB MX6_turn 2 := ⟨by decide, List.mem_of_getElem? (i := 527) rfl, List.mem_of_getElem? (i := 50) rfl, by decide +kernel, by decide⟩
set_option maxRecDepth 100000 in
theorem lbX5_firstTurn : sm_LB MX5_firstTurn 2 := ⟨by decide, List.mem_of_getElem? (i := 531) rfl, List.mem_of_getElem? (i := 54) rfl, by decide +kernel, by decide⟩
set_option maxRecDepth 100000 in
theorem lbX6_corks : sm_LB MX6_corks 1 := ⟨by decide, List.mem_of_getElem? (i := 536) rfl, List.mem_of_getElem? (i := 50) rfl, by decide +kernel, by decide⟩
set_option maxRecDepth 100000 in
theorem lbX5_innsThatCork : sm_LB MX5_innsThatCork 1 := ⟨by decide, List.mem_of_getElem? (i := 540) rfl, List.mem_of_getElem? (i := 54) rfl, by decide +kernel, by decide⟩
set_option maxRecDepth 100000 in
theorem lbX5_manyOnRoad : sm_LB MX5_manyOnRoad 1 := ⟨by decide, List.mem_of_getElem? (i := 544) rfl, List.mem_of_getElem? (i := 54) rfl, by decide +kernel, by decide⟩
set_option maxRecDepth 100000 in
theorem lbX6_reading : sm_LB MX6_reading 3 := ⟨by decide, List.mem_of_getElem? (i := 551) rfl, List.mem_of_getElem? (i := 50) rfl, by decide +kernel, by decide⟩
set_option maxRecDepth 100000 in
theorem lbX1_add : sm_LB MX1_add 3 := ⟨by decide, List.mem_of_getElem? (i := 555) rfl, List.mem_of_getElem? (i := 53) rfl, by decide +kernel, by decide⟩
set_option maxRecDepth 100000 in
theorem lbX6_back : sm_LB MX6_back 1 := ⟨by decide, List.mem_of_getElem? (i := 559) rfl, List.mem_of_getElem? (i := 50) rfl, by decide +kernel, by decide⟩
set_option maxRecDepth 100000 in
theorem lbX6_rules : sm_LB MX6_rules 0 := ⟨by decide, List.mem_of_getElem? (i := 563) rfl, List.mem_of_getElem? (i := 50) rfl, by decide +kernel, by decide⟩
set_option maxRecDepth 100000 in
theorem lbX5_rulesThatFit : sm_LB MX5_rulesThatFit 0 := ⟨by decide, List.mem_of_getElem? (i := 567) rfl, List.mem_of_getElem? (i := 54) rfl, by decide +kernel, by decide⟩
set_option maxRecDepth 100000 in
theorem lbX5_bitIfFit : sm_LB MX5_bitIfFit 1 := ⟨by decide, List.mem_of_getElem? (i := 571) rfl, List.mem_of_getElem? (i := 54) rfl, by decide +kernel, by decide⟩
set_option maxRecDepth 100000 in
theorem lbX1_areSo : sm_LB MX1_areSo 1 := ⟨by decide, List.mem_of_getElem? (i := 575) rfl, List.mem_of_getElem? (i := 53) rfl, by decide +kernel, by decide⟩
set_option maxRecDepth 100000 in
theorem lbX6_kinds : sm_LB MX6_kinds 1 := ⟨by decide, List.mem_of_getElem? (i := 580) rfl, List.mem_of_getElem? (i := 50) rfl, by decide +kernel, by decide⟩
set_option maxRecDepth 100000 in
theorem lbX5_kindsThatFit : sm_LB MX5_kindsThatFit 1 := ⟨by decide, List.mem_of_getElem? (i := 584) rfl, List.mem_of_getElem? (i := 54) rfl, by decide +kernel, by decide⟩
set_option maxRecDepth 100000 in
theorem lbX6_depths : sm_LB MX6_depths 1 := ⟨by decide, List.mem_of_getElem? (i := 588) rfl, List.mem_of_getElem? (i := 50) rfl, by decide +kernel, by decide⟩
set_option maxRecDepth 100000 in
theorem lbX5_depthsThatFit : sm_LB MX5_depthsThatFit 1 := ⟨by decide, List.mem_of_getElem? (i := 592) rfl, List.mem_of_getElem? (i := 54) rfl, by decide +kernel, by decide⟩
set_option maxRecDepth 100000 in
theorem lbX6_falls : sm_LB MX6_falls 1 := ⟨by decide, List.mem_of_getElem? (i := 596) rfl, List.mem_of_getElem? (i := 50) rfl, by decide +kernel, by decide⟩
set_option maxRecDepth 100000 in
theorem lbX5_fallsThatFit : sm_LB MX5_fallsThatFit 1 := ⟨by decide, List.mem_of_getElem? (i := 600) rfl, List.mem_of_getElem? (i := 54) rfl, by decide +kernel, by decide⟩
set_option maxRecDepth 100000 in
theorem lbX6_odds : sm_LB MX6_odds 3 := ⟨by decide, List.mem_of_getElem? (i := 604) rfl, List.mem_of_getElem? (i := 50) rfl, by decide +kernel, by decide⟩
set_option maxRecDepth 100000 in
theorem lbX5_windsThatMeet : sm_LB MX5_windsThatMeet 2 := ⟨by decide, List.mem_of_getElem? (i := 609) rfl, List.mem_of_getElem? (i := 54) rfl, by decide +kernel, by decide⟩
set_option maxRecDepth 100000 in
theorem lbX5_meetingWinds : sm_LB MX5_meetingWinds 4 := ⟨by decide, List.mem_of_getElem? (i := 613) rfl, List.mem_of_getElem? (i := 54) rfl, by decide +kernel, by decide⟩
set_option maxRecDepth 100000 in
theorem lbX6_sheet : sm_LB MX6_sheet 3 := ⟨by decide, List.mem_of_getElem? (i := 619) rfl, List.mem_of_getElem? (i := 50) rfl, by decide +kernel, by decide⟩
set_option maxRecDepth 100000 in
theorem lbX3_renew : sm_LB MX3_renew 2 := ⟨by decide, List.mem_of_getElem? (i := 623) rfl, List.mem_of_getElem? (i := 55) rfl, by decide +kernel, by decide⟩
set_option maxRecDepth 100000 in
theorem lbX6_lose : sm_LB MX6_lose 1 := ⟨by decide, List.mem_of_getElem? (i := 627) rfl, List.mem_of_getElem? (i := 50) rfl, by decide +kernel, by decide⟩
set_option maxRecDepth 100000 in
theorem lbX3_clear : sm_LB MX3_clear 0 := ⟨by decide, List.mem_of_getElem? (i := 632) rfl, List.mem_of_getElem? (i := 55) rfl, by decide +kernel, by decide⟩
set_option maxRecDepth 100000 in
theorem lbX6_put : sm_LB MX6_put 3 := ⟨by decide, List.mem_of_getElem? (i := 636) rfl, List.mem_of_getElem? (i := 50) rfl, by decide +kernel, by decide⟩
set_option maxRecDepth 100000 in
theorem lbX3_hasCell : sm_LB MX3_hasCell 1 := ⟨by decide, List.mem_of_getElem? (i := 640) rfl, List.mem_of_getElem? (i := 55) rfl, by decide +kernel, by decide⟩
set_option maxRecDepth 100000 in
theorem lbX3_write : sm_LB MX3_write 2 := ⟨by decide, List.mem_of_getElem? (i := 644) rfl, List.mem_of_getElem? (i := 55) rfl, by decide +kernel, by decide⟩
set_option maxRecDepth 100000 in
theorem lbX6_cell : sm_LB MX6_cell 3 := ⟨by decide, List.mem_of_getElem? (i := 648) rfl, List.mem_of_getElem? (i := 50) rfl, by decide +kernel, by decide⟩
set_option maxRecDepth 100000 in
theorem lbX3_faultOfCell : sm_LB MX3_faultOfCell 2 := ⟨by decide, List.mem_of_getElem? (i := 652) rfl, List.mem_of_getElem? (i := 55) rfl, by decide +kernel, by decide⟩
set_option maxRecDepth 100000 in
theorem lbX6_copy : sm_LB MX6_copy 5 := ⟨by decide, List.mem_of_getElem? (i := 657) rfl, List.mem_of_getElem? (i := 50) rfl, by decide +kernel, by decide⟩
set_option maxRecDepth 100000 in
theorem lbX6_tell : sm_LB MX6_tell 1 := ⟨by decide, List.mem_of_getElem? (i := 663) rfl, List.mem_of_getElem? (i := 50) rfl, by decide +kernel, by decide⟩
set_option maxRecDepth 100000 in
theorem lbX6_castleTelling : sm_LB MX6_castleTelling 1 := ⟨by decide, List.mem_of_getElem? (i := 667) rfl, List.mem_of_getElem? (i := 50) rfl, by decide +kernel, by decide⟩
set_option maxRecDepth 100000 in
theorem lbX6_beginBody : sm_LB MX6_beginBody 1 := ⟨by decide, List.mem_of_getElem? (i := 671) rfl, List.mem_of_getElem? (i := 50) rfl, by decide +kernel, by decide⟩
set_option maxRecDepth 100000 in
theorem lbX6_lodgeTelling : sm_LB MX6_lodgeTelling 1 := ⟨by decide, List.mem_of_getElem? (i := 675) rfl, List.mem_of_getElem? (i := 50) rfl, by decide +kernel, by decide⟩
set_option maxRecDepth 100000 in
theorem lbX6_innTelling : sm_LB MX6_innTelling 1 := ⟨by decide, List.mem_of_getElem? (i := 679) rfl, List.mem_of_getElem? (i := 50) rfl, by decide +kernel, by decide⟩
set_option maxRecDepth 100000 in
theorem lbX6_light : sm_LB MX6_light 1 := ⟨by decide, List.mem_of_getElem? (i := 683) rfl, List.mem_of_getElem? (i := 50) rfl, by decide +kernel, by decide⟩
set_option maxRecDepth 100000 in
theorem lbX6_castleLight : sm_LB MX6_castleLight 0 := ⟨by decide, List.mem_of_getElem? (i := 687) rfl, List.mem_of_getElem? (i := 50) rfl, by decide +kernel, by decide⟩
set_option maxRecDepth 100000 in
theorem lbX6_lentLight : sm_LB MX6_lentLight 1 := ⟨by decide, List.mem_of_getElem? (i := 691) rfl, List.mem_of_getElem? (i := 50) rfl, by decide +kernel, by decide⟩
set_option maxRecDepth 100000 in
theorem lbX6_as : sm_LB MX6_as 2 := ⟨by decide, List.mem_of_getElem? (i := 695) rfl, List.mem_of_getElem? (i := 50) rfl, by decide +kernel, by decide⟩
set_option maxRecDepth 100000 in
theorem lbX6_trace : sm_LB MX6_trace 0 := ⟨by decide, List.mem_of_getElem? (i := 699) rfl, List.mem_of_getElem? (i := 50) rfl, by decide +kernel, by decide⟩
set_option maxRecDepth 100000 in
theorem lbX6_fault : sm_LB MX6_fault 0 := ⟨by decide, List.mem_of_getElem? (i := 703) rfl, List.mem_of_getElem? (i := 50) rfl, by decide +kernel, by decide⟩
set_option maxRecDepth 100000 in
theorem lbX6_many : sm_LB MX6_many 1 := ⟨by decide, List.mem_of_getElem? (i := 707) rfl, List.mem_of_getElem? (i := 50) rfl, by decide +kernel, by decide⟩
set_option maxRecDepth 100000 in
theorem lbX7_init : sm_LB MX7_init 0 := ⟨by decide, List.mem_of_getElem? (i := 712) rfl, List.mem_of_getElem? (i := 56) rfl, by decide +kernel, by decide⟩
set_option maxRecDepth 100000 in
theorem lbX7_ridge : sm_LB MX7_ridge 4 := ⟨by decide, List.mem_of_getElem? (i := 820) rfl, List.mem_of_getElem? (i := 56) rfl, by decide +kernel, by decide⟩
set_option maxRecDepth 100000 in
theorem lbX7_noSheet : sm_LB MX7_noSheet 1 := ⟨by decide, List.mem_of_getElem? (i := 823) rfl, List.mem_of_getElem? (i := 56) rfl, by decide +kernel, by decide⟩
set_option maxRecDepth 100000 in
theorem lbX7_in : sm_LB MX7_in 3 := ⟨by decide, List.mem_of_getElem? (i := 827) rfl, List.mem_of_getElem? (i := 56) rfl, by decide +kernel, by decide⟩
set_option maxRecDepth 100000 in
theorem lbX7_refused : sm_LB MX7_refused 1 := ⟨by decide, List.mem_of_getElem? (i := 831) rfl, List.mem_of_getElem? (i := 56) rfl, by decide +kernel, by decide⟩
set_option maxRecDepth 100000 in
theorem lbX7_cellsBarred : sm_LB MX7_cellsBarred 4 := ⟨by decide, List.mem_of_getElem? (i := 836) rfl, List.mem_of_getElem? (i := 56) rfl, by decide +kernel, by decide⟩
set_option maxRecDepth 100000 in
theorem lbX7_failed : sm_LB MX7_failed 1 := ⟨by decide, List.mem_of_getElem? (i := 840) rfl, List.mem_of_getElem? (i := 56) rfl, by decide +kernel, by decide⟩
set_option maxRecDepth 100000 in
theorem lbX7_isBeyond : sm_LB MX7_isBeyond 3 := ⟨by decide, List.mem_of_getElem? (i := 843) rfl, List.mem_of_getElem? (i := 56) rfl, by decide +kernel, by decide⟩
set_option maxRecDepth 100000 in
theorem lbX7_readsRidge : sm_LB MX7_readsRidge 2 := ⟨by decide, List.mem_of_getElem? (i := 847) rfl, List.mem_of_getElem? (i := 56) rfl, by decide +kernel, by decide⟩
set_option maxRecDepth 100000 in
theorem lbX7_codeAt : sm_LB MX7_codeAt 2 := ⟨by decide, List.mem_of_getElem? (i := 851) rfl, List.mem_of_getElem? (i := 56) rfl, by decide +kernel, by decide⟩
set_option maxRecDepth 100000 in
theorem lbX7_readsInn : sm_LB MX7_readsInn 2 := ⟨by decide, List.mem_of_getElem? (i := 855) rfl, List.mem_of_getElem? (i := 56) rfl, by decide +kernel, by decide⟩
set_option maxRecDepth 100000 in
theorem lbX7_figure : sm_LB MX7_figure 4 := ⟨by decide, List.mem_of_getElem? (i := 859) rfl, List.mem_of_getElem? (i := 56) rfl, by decide +kernel, by decide⟩
set_option maxRecDepth 100000 in
theorem lbX7_readsNight : sm_LB MX7_readsNight 2 := ⟨by decide, List.mem_of_getElem? (i := 863) rfl, List.mem_of_getElem? (i := 56) rfl, by decide +kernel, by decide⟩
set_option maxRecDepth 100000 in
theorem lbX7_readsGuest : sm_LB MX7_readsGuest 2 := ⟨by decide, List.mem_of_getElem? (i := 867) rfl, List.mem_of_getElem? (i := 56) rfl, by decide +kernel, by decide⟩
set_option maxRecDepth 100000 in
theorem lbX7_ofInn : sm_LB MX7_ofInn 2 := ⟨by decide, List.mem_of_getElem? (i := 871) rfl, List.mem_of_getElem? (i := 56) rfl, by decide +kernel, by decide⟩
set_option maxRecDepth 100000 in
theorem lbX7_noInn : sm_LB MX7_noInn 1 := ⟨by decide, List.mem_of_getElem? (i := 875) rfl, List.mem_of_getElem? (i := 56) rfl, by decide +kernel, by decide⟩
set_option maxRecDepth 100000 in
theorem lbX7_keepsBy : sm_LB MX7_keepsBy 2 := ⟨by decide, List.mem_of_getElem? (i := 879) rfl, List.mem_of_getElem? (i := 56) rfl, by decide +kernel, by decide⟩
set_option maxRecDepth 100000 in
theorem lbX7_ofGuest : sm_LB MX7_ofGuest 2 := ⟨by decide, List.mem_of_getElem? (i := 883) rfl, List.mem_of_getElem? (i := 56) rfl, by decide +kernel, by decide⟩
set_option maxRecDepth 100000 in
theorem lbX7_noGuest : sm_LB MX7_noGuest 1 := ⟨by decide, List.mem_of_getElem? (i := 887) rfl, List.mem_of_getElem? (i := 56) rfl, by decide +kernel, by decide⟩
set_option maxRecDepth 100000 in
theorem lbX7_ofNight : sm_LB MX7_ofNight 2 := ⟨by decide, List.mem_of_getElem? (i := 891) rfl, List.mem_of_getElem? (i := 56) rfl, by decide +kernel, by decide⟩
set_option maxRecDepth 100000 in
theorem lbX7_noNight : sm_LB MX7_noNight 1 := ⟨by decide, List.mem_of_getElem? (i := 895) rfl, List.mem_of_getElem? (i := 56) rfl, by decide +kernel, by decide⟩
set_option maxRecDepth 100000 in
theorem lbX7_rule : sm_LB MX7_rule 1 := ⟨by decide, List.mem_of_getElem? (i := 899) rfl, List.mem_of_getElem? (i := 56) rfl, by decide +kernel, by decide⟩
set_option maxRecDepth 100000 in
theorem lbX7_fall : sm_LB MX7_fall 2 := ⟨by decide, List.mem_of_getElem? (i := 903) rfl, List.mem_of_getElem? (i := 56) rfl, by decide +kernel, by decide⟩
set_option maxRecDepth 100000 in
theorem lbX7_gust : sm_LB MX7_gust 2 := ⟨by decide, List.mem_of_getElem? (i := 908) rfl, List.mem_of_getElem? (i := 56) rfl, by decide +kernel, by decide⟩
set_option maxRecDepth 100000 in
theorem lbX7_lodge : sm_LB MX7_lodge 2 := ⟨by decide, List.mem_of_getElem? (i := 912) rfl, List.mem_of_getElem? (i := 56) rfl, by decide +kernel, by decide⟩
set_option maxRecDepth 100000 in
theorem lbX7_sweep : sm_LB MX7_sweep 3 := ⟨by decide, List.mem_of_getElem? (i := 916) rfl, List.mem_of_getElem? (i := 56) rfl, by decide +kernel, by decide⟩
set_option maxRecDepth 100000 in
theorem lbX7_swept : sm_LB MX7_swept 3 := ⟨by decide, List.mem_of_getElem? (i := 921) rfl, List.mem_of_getElem? (i := 56) rfl, by decide +kernel, by decide⟩
set_option maxRecDepth 100000 in
theorem lbX7_where : sm_LB MX7_where 2 := ⟨by decide, List.mem_of_getElem? (i := 925) rfl, List.mem_of_getElem? (i := 56) rfl, by decide +kernel, by decide⟩
set_option maxRecDepth 100000 in
theorem lbX7_goNights : sm_LB MX7_goNights 1 := ⟨by decide, List.mem_of_getElem? (i := 929) rfl, List.mem_of_getElem? (i := 56) rfl, by decide +kernel, by decide⟩
set_option maxRecDepth 100000 in
theorem lbX7_begin : sm_LB MX7_begin 0 := ⟨by decide, List.mem_of_getElem? (i := 933) rfl, List.mem_of_getElem? (i := 56) rfl, by decide +kernel, by decide⟩
set_option maxRecDepth 100000 in
theorem lbX7_goNight : sm_LB MX7_goNight 1 := ⟨by decide, List.mem_of_getElem? (i := 937) rfl, List.mem_of_getElem? (i := 56) rfl, by decide +kernel, by decide⟩
set_option maxRecDepth 100000 in
theorem lbX7_passOn : sm_LB MX7_passOn 2 := ⟨by decide, List.mem_of_getElem? (i := 941) rfl, List.mem_of_getElem? (i := 56) rfl, by decide +kernel, by decide⟩
set_option maxRecDepth 100000 in
theorem lbX7_deep : sm_LB MX7_deep 2 := ⟨by decide, List.mem_of_getElem? (i := 945) rfl, List.mem_of_getElem? (i := 56) rfl, by decide +kernel, by decide⟩
set_option maxRecDepth 100000 in
theorem lbX7_beds : sm_LB MX7_beds 2 := ⟨by decide, List.mem_of_getElem? (i := 949) rfl, List.mem_of_getElem? (i := 56) rfl, by decide +kernel, by decide⟩
set_option maxRecDepth 100000 in
theorem lbX7_inBeds : sm_LB MX7_inBeds 1 := ⟨by decide, List.mem_of_getElem? (i := 953) rfl, List.mem_of_getElem? (i := 56) rfl, by decide +kernel, by decide⟩
set_option maxRecDepth 100000 in
theorem lbX7_list : sm_LB MX7_list 5 := ⟨by decide, List.mem_of_getElem? (i := 957) rfl, List.mem_of_getElem? (i := 56) rfl, by decide +kernel, by decide⟩
set_option maxRecDepth 100000 in
theorem lbX7_meet : sm_LB MX7_meet 1 := ⟨by decide, List.mem_of_getElem? (i := 961) rfl, List.mem_of_getElem? (i := 56) rfl, by decide +kernel, by decide⟩
set_option maxRecDepth 100000 in
theorem lbX7_noFamily : sm_LB MX7_noFamily 1 := ⟨by decide, List.mem_of_getElem? (i := 965) rfl, List.mem_of_getElem? (i := 56) rfl, by decide +kernel, by decide⟩
set_option maxRecDepth 100000 in
theorem lbX7_meetsIn : sm_LB MX7_meetsIn 2 := ⟨by decide, List.mem_of_getElem? (i := 969) rfl, List.mem_of_getElem? (i := 56) rfl, by decide +kernel, by decide⟩
set_option maxRecDepth 100000 in
theorem lbX7_isTogether : sm_LB MX7_isTogether 1 := ⟨by decide, List.mem_of_getElem? (i := 973) rfl, List.mem_of_getElem? (i := 56) rfl, by decide +kernel, by decide⟩
set_option maxRecDepth 100000 in
theorem lbX7_least : sm_LB MX7_least 2 := ⟨by decide, List.mem_of_getElem? (i := 977) rfl, List.mem_of_getElem? (i := 56) rfl, by decide +kernel, by decide⟩
set_option maxRecDepth 100000 in
theorem lbX7_isNobodyOut : sm_LB MX7_isNobodyOut 1 := ⟨by decide, List.mem_of_getElem? (i := 981) rfl, List.mem_of_getElem? (i := 56) rfl, by decide +kernel, by decide⟩
set_option maxRecDepth 100000 in
theorem lbX7_isBy : sm_LB MX7_isBy 4 := ⟨by decide, List.mem_of_getElem? (i := 985) rfl, List.mem_of_getElem? (i := 56) rfl, by decide +kernel, by decide⟩
set_option maxRecDepth 100000 in
theorem lbX7_turn : sm_LB MX7_turn 2 := ⟨by decide, List.mem_of_getElem? (i := 989) rfl, List.mem_of_getElem? (i := 56) rfl, by decide +kernel, by decide⟩
set_option maxRecDepth 100000 in
theorem lbX7_corks : sm_LB MX7_corks 1 := ⟨by decide, List.mem_of_getElem? (i := 993) rfl, List.mem_of_getElem? (i := 56) rfl, by decide +kernel, by decide⟩
set_option maxRecDepth 100000 in
theorem lbX7_bits : sm_LB MX7_bits 1 := ⟨by decide, List.mem_of_getElem? (i := 996) rfl, List.mem_of_getElem? (i := 56) rfl, by decide +kernel, by decide⟩
set_option maxRecDepth 100000 in
theorem lbX7_reading : sm_LB MX7_reading 3 := ⟨by decide, List.mem_of_getElem? (i := 1000) rfl, List.mem_of_getElem? (i := 56) rfl, by decide +kernel, by decide⟩
set_option maxRecDepth 100000 in
theorem lbX7_back : sm_LB MX7_back 1 := ⟨by decide, List.mem_of_getElem? (i := 1004) rfl, List.mem_of_getElem? (i := 56) rfl, by decide +kernel, by decide⟩
set_option maxRecDepth 100000 in
theorem lbX7_rules : sm_LB MX7_rules 0 := ⟨by decide, List.mem_of_getElem? (i := 1008) rfl, List.mem_of_getElem? (i := 56) rfl, by decide +kernel, by decide⟩
set_option maxRecDepth 100000 in
theorem lbX7_areSo : sm_LB MX7_areSo 0 := ⟨by decide, List.mem_of_getElem? (i := 1012) rfl, List.mem_of_getElem? (i := 56) rfl, by decide +kernel, by decide⟩
set_option maxRecDepth 100000 in
theorem lbX7_kinds : sm_LB MX7_kinds 1 := ⟨by decide, List.mem_of_getElem? (i := 1016) rfl, List.mem_of_getElem? (i := 56) rfl, by decide +kernel, by decide⟩
set_option maxRecDepth 100000 in
theorem lbX7_depths : sm_LB MX7_depths 1 := ⟨by decide, List.mem_of_getElem? (i := 1020) rfl, List.mem_of_getElem? (i := 56) rfl, by decide +kernel, by decide⟩
set_option maxRecDepth 100000 in
theorem lbX7_falls : sm_LB MX7_falls 1 := ⟨by decide, List.mem_of_getElem? (i := 1024) rfl, List.mem_of_getElem? (i := 56) rfl, by decide +kernel, by decide⟩
set_option maxRecDepth 100000 in
theorem lbX7_odds : sm_LB MX7_odds 3 := ⟨by decide, List.mem_of_getElem? (i := 1028) rfl, List.mem_of_getElem? (i := 56) rfl, by decide +kernel, by decide⟩
set_option maxRecDepth 100000 in
theorem lbX7_lost : sm_LB MX7_lost 0 := ⟨by decide, List.mem_of_getElem? (i := 1031) rfl, List.mem_of_getElem? (i := 56) rfl, by decide +kernel, by decide⟩
set_option maxRecDepth 100000 in
theorem lbX7_blow : sm_LB MX7_blow 2 := ⟨by decide, List.mem_of_getElem? (i := 1036) rfl, List.mem_of_getElem? (i := 56) rfl, by decide +kernel, by decide⟩
set_option maxRecDepth 100000 in
theorem lbX7_share : sm_LB MX7_share 3 := ⟨by decide, List.mem_of_getElem? (i := 1039) rfl, List.mem_of_getElem? (i := 56) rfl, by decide +kernel, by decide⟩
set_option maxRecDepth 100000 in
theorem lbX7_sheet : sm_LB MX7_sheet 3 := ⟨by decide, List.mem_of_getElem? (i := 1043) rfl, List.mem_of_getElem? (i := 56) rfl, by decide +kernel, by decide⟩
set_option maxRecDepth 100000 in
theorem lbX7_lose : sm_LB MX7_lose 1 := ⟨by decide, List.mem_of_getElem? (i := 1047) rfl, List.mem_of_getElem? (i := 56) rfl, by decide +kernel, by decide⟩
set_option maxRecDepth 100000 in
theorem lbX7_put : sm_LB MX7_put 3 := ⟨by decide, List.mem_of_getElem? (i := 1051) rfl, List.mem_of_getElem? (i := 56) rfl, by decide +kernel, by decide⟩
set_option maxRecDepth 100000 in
theorem lbX7_noCell : sm_LB MX7_noCell 2 := ⟨by decide, List.mem_of_getElem? (i := 1055) rfl, List.mem_of_getElem? (i := 56) rfl, by decide +kernel, by decide⟩
set_option maxRecDepth 100000 in
theorem lbX7_cell : sm_LB MX7_cell 3 := ⟨by decide, List.mem_of_getElem? (i := 1059) rfl, List.mem_of_getElem? (i := 56) rfl, by decide +kernel, by decide⟩
set_option maxRecDepth 100000 in
theorem lbX7_failedLong : sm_LB MX7_failedLong 1 := ⟨by decide, List.mem_of_getElem? (i := 1063) rfl, List.mem_of_getElem? (i := 56) rfl, by decide +kernel, by decide⟩
set_option maxRecDepth 100000 in
theorem lbX7_copy : sm_LB MX7_copy 5 := ⟨by decide, List.mem_of_getElem? (i := 1067) rfl, List.mem_of_getElem? (i := 56) rfl, by decide +kernel, by decide⟩
set_option maxRecDepth 100000 in
theorem lbX7_tell : sm_LB MX7_tell 1 := ⟨by decide, List.mem_of_getElem? (i := 1071) rfl, List.mem_of_getElem? (i := 56) rfl, by decide +kernel, by decide⟩
set_option maxRecDepth 100000 in
theorem lbX7_traced : sm_LB MX7_traced 1 := ⟨by decide, List.mem_of_getElem? (i := 1075) rfl, List.mem_of_getElem? (i := 56) rfl, by decide +kernel, by decide⟩
set_option maxRecDepth 100000 in
theorem lbX7_light : sm_LB MX7_light 1 := ⟨by decide, List.mem_of_getElem? (i := 1079) rfl, List.mem_of_getElem? (i := 56) rfl, by decide +kernel, by decide⟩
set_option maxRecDepth 100000 in
theorem lbX7_as : sm_LB MX7_as 2 := ⟨by decide, List.mem_of_getElem? (i := 1083) rfl, List.mem_of_getElem? (i := 56) rfl, by decide +kernel, by decide⟩
set_option maxRecDepth 100000 in
theorem lbX7_trace : sm_LB MX7_trace 0 := ⟨by decide, List.mem_of_getElem? (i := 1087) rfl, List.mem_of_getElem? (i := 56) rfl, by decide +kernel, by decide⟩
set_option maxRecDepth 100000 in
theorem lbX7_fault : sm_LB MX7_fault 0 := ⟨by decide, List.mem_of_getElem? (i := 1091) rfl, List.mem_of_getElem? (i := 56) rfl, by decide +kernel, by decide⟩
set_option maxRecDepth 100000 in
theorem lbX7_many : sm_LB MX7_many 1 := ⟨by decide, List.mem_of_getElem? (i := 1095) rfl, List.mem_of_getElem? (i := 56) rfl, by decide +kernel, by decide⟩
set_option maxRecDepth 100000 in
theorem fX2_9 : sm_FI RX2 9 2 0 := ⟨rfl, by decide, by decide +kernel, List.mem_of_getElem? (i := 77) rfl⟩
set_option maxRecDepth 100000 in
theorem fX5_41 : sm_FI RX5 41 2 0 := ⟨rfl, by decide, by decide +kernel, List.mem_of_getElem? (i := 78) rfl⟩
set_option maxRecDepth 100000 in
theorem fX0_39 : sm_FI RX0 39 2 0 := ⟨rfl, by decide, by decide +kernel, List.mem_of_getElem? (i := 79) rfl⟩
set_option maxRecDepth 100000 in
theorem fX4_49 : sm_FI RX4 49 2 0 := ⟨rfl, by decide, by decide +kernel, List.mem_of_getElem? (i := 80) rfl⟩
set_option maxRecDepth 100000 in
theorem fX6_249 : sm_FI RX6 249 2 0 := ⟨rfl, by decide, by decide +kernel, List.mem_of_getElem? (i := 81) rfl⟩
set_option maxRecDepth 100000 in
theorem fX2_15 : sm_FR RX2 15 2 1 := ⟨rfl, by decide, by decide +kernel, List.mem_of_getElem? (i := 82) rfl⟩
set_option maxRecDepth 100000 in
theorem fX6_100 : sm_FR RX6 100 2 1 := ⟨rfl, by decide, by decide +kernel, List.mem_of_getElem? (i := 83) rfl⟩
set_option maxRecDepth 100000 in
theorem fX4_60 : sm_FR RX4 60 2 1 := ⟨rfl, by decide, by decide +kernel, List.mem_of_getElem? (i := 84) rfl⟩
set_option maxRecDepth 100000 in
theorem fX5_92 : sm_FR RX5 92 2 1 := ⟨rfl, by decide, by decide +kernel, List.mem_of_getElem? (i := 85) rfl⟩
set_option maxRecDepth 100000 in
theorem fX2_19 : sm_FR RX2 19 2 2 := ⟨rfl, by decide, by decide +kernel, List.mem_of_getElem? (i := 86) rfl⟩
set_option maxRecDepth 100000 in
theorem fX5_52 : sm_FR RX5 52 2 2 := ⟨rfl, by decide, by decide +kernel, List.mem_of_getElem? (i := 87) rfl⟩
set_option maxRecDepth 100000 in
theorem fX0_43 : sm_FR RX0 43 2 2 := ⟨rfl, by decide, by decide +kernel, List.mem_of_getElem? (i := 88) rfl⟩
set_option maxRecDepth 100000 in
theorem fX6_104 : sm_FR RX6 104 2 2 := ⟨rfl, by decide, by decide +kernel, List.mem_of_getElem? (i := 89) rfl⟩
set_option maxRecDepth 100000 in
theorem fX4_63 : sm_FR RX4 63 2 2 := ⟨rfl, by decide, by decide +kernel, List.mem_of_getElem? (i := 90) rfl⟩
set_option maxRecDepth 100000 in
theorem fX2_22 : sm_FI RX2 22 2 3 := ⟨rfl, by decide, by decide +kernel, List.mem_of_getElem? (i := 91) rfl⟩
set_option maxRecDepth 100000 in
theorem fX4_66 : sm_FI RX4 66 2 3 := ⟨rfl, by decide, by decide +kernel, List.mem_of_getElem? (i := 92) rfl⟩
set_option maxRecDepth 100000 in
theorem fX5_98 : sm_FI RX5 98 2 3 := ⟨rfl, by decide, by decide +kernel, List.mem_of_getElem? (i := 93) rfl⟩
set_option maxRecDepth 100000 in
theorem fX6_164 : sm_FI RX6 164 2 3 := ⟨rfl, by decide, by decide +kernel, List.mem_of_getElem? (i := 94) rfl⟩
set_option maxRecDepth 100000 in
theorem fX2_25 : sm_FR RX2 25 2 4 := ⟨rfl, by decide, by decide +kernel, List.mem_of_getElem? (i := 95) rfl⟩
set_option maxRecDepth 100000 in
theorem fX0_30 : sm_FR RX0 30 2 4 := ⟨rfl, by decide, by decide +kernel, List.mem_of_getElem? (i := 96) rfl⟩
set_option maxRecDepth 100000 in
theorem fX5_64 : sm_FR RX5 64 2 4 := ⟨rfl, by decide, by decide +kernel, List.mem_of_getElem? (i := 97) rfl⟩
set_option maxRecDepth 100000 in
theorem fX6_127 : sm_FR RX6 127 2 4 := ⟨rfl, by decide, by decide +kernel, List.mem_of_getElem? (i := 98) rfl⟩
set_option maxRecDepth 100000 in
theorem fX4_69 : sm_FR RX4 69 2 4 := ⟨rfl, by decide, by decide +kernel, List.mem_of_getElem? (i := 99) rfl⟩
set_option maxRecDepth 100000 in
theorem fX2_28 : sm_FR RX2 28 2 5 := ⟨rfl, by decide, by decide +kernel, List.mem_of_getElem? (i := 100) rfl⟩
set_option maxRecDepth 100000 in
theorem fX0_61 : sm_FR RX0 61 2 5 := ⟨rfl, by decide, by decide +kernel, List.mem_of_getElem? (i := 101) rfl⟩
set_option maxRecDepth 100000 in
theorem fX6_130 : sm_FR RX6 130 2 5 := ⟨rfl, by decide, by decide +kernel, List.mem_of_getElem? (i := 102) rfl⟩
set_option maxRecDepth 100000 in
theorem fX4_72 : sm_FR RX4 72 2 5 := ⟨rfl, by decide, by decide +kernel, List.mem_of_getElem? (i := 103) rfl⟩
set_option maxRecDepth 100000 in
theorem fX5_95 : sm_FR RX5 95 2 5 := ⟨rfl, by decide, by decide +kernel, List.mem_of_getElem? (i := 104) rfl⟩
set_option maxRecDepth 100000 in
theorem fX2_31 : sm_FI RX2 31 2 6 := ⟨rfl, by decide, by decide +kernel, List.mem_of_getElem? (i := 105) rfl⟩
set_option maxRecDepth 100000 in
theorem fX6_94 : sm_FI RX6 94 2 6 := ⟨rfl, by decide, by decide +kernel, List.mem_of_getElem? (i := 106) rfl⟩
set_option maxRecDepth 100000 in
theorem fX0_45 : sm_FI RX0 45 2 6 := ⟨rfl, by decide, by decide +kernel, List.mem_of_getElem? (i := 107) rfl⟩
set_option maxRecDepth 100000 in
theorem fX4_75 : sm_FI RX4 75 2 6 := ⟨rfl, by decide, by decide +kernel, List.mem_of_getElem? (i := 108) rfl⟩
set_option maxRecDepth 100000 in
theorem fX2_34 : sm_FR RX2 34 2 7 := ⟨rfl, by decide, by decide +kernel, List.mem_of_getElem? (i := 109) rfl⟩
set_option maxRecDepth 100000 in
theorem fX6_114 : sm_FR RX6 114 2 7 := ⟨rfl, by decide, by decide +kernel, List.mem_of_getElem? (i := 110) rfl⟩
set_option maxRecDepth 100000 in
theorem fX4_78 : sm_FR RX4 78 2 7 := ⟨rfl, by decide, by decide +kernel, List.mem_of_getElem? (i := 111) rfl⟩
set_option maxRecDepth 100000 in
theorem fX2_37 : sm_FR RX2 37 2 8 := ⟨rfl, by decide, by decide +kernel, List.mem_of_getElem? (i := 112) rfl⟩
set_option maxRecDepth 100000 in
theorem fX0_47 : sm_FR RX0 47 2 8 := ⟨rfl, by decide, by decide +kernel, List.mem_of_getElem? (i := 113) rfl⟩
set_option maxRecDepth 100000 in
theorem fX6_117 : sm_FR RX6 117 2 8 := ⟨rfl, by decide, by decide +kernel, List.mem_of_getElem? (i := 114) rfl⟩
set_option maxRecDepth 100000 in
theorem fX4_81 : sm_FR RX4 81 2 8 := ⟨rfl, by decide, by decide +kernel, List.mem_of_getElem? (i := 115) rfl⟩
set_option maxRecDepth 100000 in
theorem fX2_40 : sm_FI RX2 40 2 9 := ⟨rfl, by decide, by decide +kernel, List.mem_of_getElem? (i := 116) rfl⟩
set_option maxRecDepth 100000 in
theorem fX0_78 : sm_FI RX0 78 2 9 := ⟨rfl, by decide, by decide +kernel, List.mem_of_getElem? (i := 117) rfl⟩
set_option maxRecDepth 100000 in
theorem fX6_133 : sm_FI RX6 133 2 9 := ⟨rfl, by decide, by decide +kernel, List.mem_of_getElem? (i := 118) rfl⟩
set_option maxRecDepth 100000 in
theorem fX5_86 : sm_FI RX5 86 2 9 := ⟨rfl, by decide, by decide +kernel, List.mem_of_getElem? (i := 119) rfl⟩
set_option maxRecDepth 100000 in
theorem fX2_43 : sm_FI RX2 43 2 10 := ⟨rfl, by decide, by decide +kernel, List.mem_of_getElem? (i := 120) rfl⟩
set_option maxRecDepth 100000 in
theorem fX5_71 : sm_FI RX5 71 2 10 := ⟨rfl, by decide, by decide +kernel, List.mem_of_getElem? (i := 121) rfl⟩
set_option maxRecDepth 100000 in
theorem fX0_23 : sm_FR RX0 23 0 0 := ⟨rfl, by decide, by decide +kernel, List.mem_of_getElem? (i := 154) rfl⟩
set_option maxRecDepth 100000 in
theorem fX0_11 : sm_FR RX0 11 0 1 := ⟨rfl, by decide, by decide +kernel, List.mem_of_getElem? (i := 155) rfl⟩
set_option maxRecDepth 100000 in
theorem fX6_149 : sm_FR RX6 149 0 1 := ⟨rfl, by decide, by decide +kernel, List.mem_of_getElem? (i := 156) rfl⟩
set_option maxRecDepth 100000 in
theorem fX0_16 : sm_FR RX0 16 0 2 := ⟨rfl, by decide, by decide +kernel, List.mem_of_getElem? (i := 157) rfl⟩
set_option maxRecDepth 100000 in
theorem fX6_155 : sm_FR RX6 155 0 2 := ⟨rfl, by decide, by decide +kernel, List.mem_of_getElem? (i := 158) rfl⟩
set_option maxRecDepth 100000 in
theorem fX0_19 : sm_FR RX0 19 0 3 := ⟨rfl, by decide, by decide +kernel, List.mem_of_getElem? (i := 159) rfl⟩
set_option maxRecDepth 100000 in
theorem fX1_9 : sm_FI RX1 9 1 0 := ⟨rfl, by decide, by decide +kernel, List.mem_of_getElem? (i := 175) rfl⟩
set_option maxRecDepth 100000 in
theorem fX6_178 : sm_FI RX6 178 1 0 := ⟨rfl, by decide, by decide +kernel, List.mem_of_getElem? (i := 176) rfl⟩
set_option maxRecDepth 100000 in
theorem fX1_15 : sm_FR RX1 15 1 1 := ⟨rfl, by decide, by decide +kernel, List.mem_of_getElem? (i := 177) rfl⟩
set_option maxRecDepth 100000 in
theorem fX1_19 : sm_FR RX1 19 1 2 := ⟨rfl, by decide, by decide +kernel, List.mem_of_getElem? (i := 178) rfl⟩
set_option maxRecDepth 100000 in
theorem fX1_22 : sm_FR RX1 22 1 3 := ⟨rfl, by decide, by decide +kernel, List.mem_of_getElem? (i := 179) rfl⟩
set_option maxRecDepth 100000 in
theorem fX5_27 : sm_FR RX5 27 5 0 := ⟨rfl, by decide, by decide +kernel, List.mem_of_getElem? (i := 199) rfl⟩
set_option maxRecDepth 100000 in
theorem fX5_30 : sm_FR RX5 30 5 1 := ⟨rfl, by decide, by decide +kernel, List.mem_of_getElem? (i := 200) rfl⟩
set_option maxRecDepth 100000 in
theorem fX5_12 : sm_FR RX5 12 5 2 := ⟨rfl, by decide, by decide +kernel, List.mem_of_getElem? (i := 201) rfl⟩
set_option maxRecDepth 100000 in
theorem fX5_23 : sm_FR RX5 23 5 3 := ⟨rfl, by decide, by decide +kernel, List.mem_of_getElem? (i := 202) rfl⟩
set_option maxRecDepth 100000 in
theorem fX3_9 : sm_FR RX3 9 3 0 := ⟨rfl, by decide, by decide +kernel, List.mem_of_getElem? (i := 217) rfl⟩
set_option maxRecDepth 100000 in
theorem fX4_15 : sm_FR RX4 15 3 0 := ⟨rfl, by decide, by decide +kernel, List.mem_of_getElem? (i := 218) rfl⟩
set_option maxRecDepth 100000 in
theorem fX6_218 : sm_FR RX6 218 3 0 := ⟨rfl, by decide, by decide +kernel, List.mem_of_getElem? (i := 219) rfl⟩
set_option maxRecDepth 100000 in
theorem fX3_15 : sm_FI RX3 15 3 1 := ⟨rfl, by decide, by decide +kernel, List.mem_of_getElem? (i := 220) rfl⟩
set_option maxRecDepth 100000 in
theorem fX6_221 : sm_FI RX6 221 3 1 := ⟨rfl, by decide, by decide +kernel, List.mem_of_getElem? (i := 221) rfl⟩
set_option maxRecDepth 100000 in
theorem fX3_19 : sm_FI RX3 19 3 2 := ⟨rfl, by decide, by decide +kernel, List.mem_of_getElem? (i := 222) rfl⟩
set_option maxRecDepth 100000 in
theorem fX6_13 : sm_FR RX6 13 6 0 := ⟨rfl, by decide, by decide +kernel, List.mem_of_getElem? (i := 230) rfl⟩
set_option maxRecDepth 100000 in
theorem fX6_20 : sm_FR RX6 20 6 1 := ⟨rfl, by decide, by decide +kernel, List.mem_of_getElem? (i := 231) rfl⟩
set_option maxRecDepth 100000 in
theorem fX6_24 : sm_FR RX6 24 6 2 := ⟨rfl, by decide, by decide +kernel, List.mem_of_getElem? (i := 232) rfl⟩
set_option maxRecDepth 100000 in
theorem fX6_32 : sm_FR RX6 32 6 3 := ⟨rfl, by decide, by decide +kernel, List.mem_of_getElem? (i := 233) rfl⟩
set_option maxRecDepth 100000 in
theorem fX6_39 : sm_FR RX6 39 6 4 := ⟨rfl, by decide, by decide +kernel, List.mem_of_getElem? (i := 234) rfl⟩
set_option maxRecDepth 100000 in
theorem fX6_48 : sm_FR RX6 48 6 5 := ⟨rfl, by decide, by decide +kernel, List.mem_of_getElem? (i := 235) rfl⟩
set_option maxRecDepth 100000 in
theorem fX6_52 : sm_FI RX6 52 6 6 := ⟨rfl, by decide, by decide +kernel, List.mem_of_getElem? (i := 236) rfl⟩
set_option maxRecDepth 100000 in
theorem fX6_56 : sm_FI RX6 56 6 7 := ⟨rfl, by decide, by decide +kernel, List.mem_of_getElem? (i := 237) rfl⟩
set_option maxRecDepth 100000 in
theorem fX4_21 : sm_FR RX4 21 4 0 := ⟨rfl, by decide, by decide +kernel, List.mem_of_getElem? (i := 291) rfl⟩
set_option maxRecDepth 100000 in
theorem fX4_24 : sm_FI RX4 24 4 1 := ⟨rfl, by decide, by decide +kernel, List.mem_of_getElem? (i := 292) rfl⟩
set_option maxRecDepth 100000 in
theorem fX4_27 : sm_FI RX4 27 4 2 := ⟨rfl, by decide, by decide +kernel, List.mem_of_getElem? (i := 293) rfl⟩
set_option maxRecDepth 100000 in
theorem fX4_9 : sm_FI RX4 9 4 3 := ⟨rfl, by decide, by decide +kernel, List.mem_of_getElem? (i := 294) rfl⟩
set_option maxRecDepth 100000 in
theorem fX7_79 : sm_FI RX7 79 7 0 := ⟨rfl, by decide, by decide +kernel, List.mem_of_getElem? (i := 714) rfl⟩
set_option maxRecDepth 100000 in
theorem fX7_86 : sm_FI RX7 86 7 1 := ⟨rfl, by decide, by decide +kernel, List.mem_of_getElem? (i := 715) rfl⟩
set_option maxRecDepth 100000 in
theorem fX7_7 : sm_FR RX7 7 7 2 := ⟨rfl, by decide, by decide +kernel, List.mem_of_getElem? (i := 716) rfl⟩
set_option maxRecDepth 100000 in
theorem fX7_13 : sm_FR RX7 13 7 3 := ⟨rfl, by decide, by decide +kernel, List.mem_of_getElem? (i := 717) rfl⟩
set_option maxRecDepth 100000 in
theorem fX7_96 : sm_FI RX7 96 7 4 := ⟨rfl, by decide, by decide +kernel, List.mem_of_getElem? (i := 718) rfl⟩
set_option maxRecDepth 100000 in
theorem fX7_16 : sm_FR RX7 16 7 5 := ⟨rfl, by decide, by decide +kernel, List.mem_of_getElem? (i := 719) rfl⟩
set_option maxRecDepth 100000 in
theorem fX7_19 : sm_FR RX7 19 7 6 := ⟨rfl, by decide, by decide +kernel, List.mem_of_getElem? (i := 720) rfl⟩
set_option maxRecDepth 100000 in
theorem fX7_93 : sm_FI RX7 93 7 7 := ⟨rfl, by decide, by decide +kernel, List.mem_of_getElem? (i := 721) rfl⟩
set_option maxRecDepth 100000 in
theorem fX7_22 : sm_FR RX7 22 7 8 := ⟨rfl, by decide, by decide +kernel, List.mem_of_getElem? (i := 722) rfl⟩
set_option maxRecDepth 100000 in
theorem fX7_25 : sm_FR RX7 25 7 9 := ⟨rfl, by decide, by decide +kernel, List.mem_of_getElem? (i := 723) rfl⟩
set_option maxRecDepth 100000 in
theorem fX7_153 : sm_FI RX7 153 7 10 := ⟨rfl, by decide, by decide +kernel, List.mem_of_getElem? (i := 724) rfl⟩
set_option maxRecDepth 100000 in
theorem fX7_73 : sm_FI RX7 73 7 11 := ⟨rfl, by decide, by decide +kernel, List.mem_of_getElem? (i := 725) rfl⟩
set_option maxRecDepth 100000 in
theorem fX7_99 : sm_FI RX7 99 7 12 := ⟨rfl, by decide, by decide +kernel, List.mem_of_getElem? (i := 726) rfl⟩
set_option maxRecDepth 100000 in
theorem fX7_106 : sm_FI RX7 106 7 13 := ⟨rfl, by decide, by decide +kernel, List.mem_of_getElem? (i := 727) rfl⟩
set_option maxRecDepth 100000 in
theorem fX7_113 : sm_FI RX7 113 7 14 := ⟨rfl, by decide, by decide +kernel, List.mem_of_getElem? (i := 728) rfl⟩
set_option maxRecDepth 100000 in
theorem fX7_116 : sm_FI RX7 116 7 15 := ⟨rfl, by decide, by decide +kernel, List.mem_of_getElem? (i := 729) rfl⟩
set_option maxRecDepth 100000 in
theorem fX7_28 : sm_FR RX7 28 7 16 := ⟨rfl, by decide, by decide +kernel, List.mem_of_getElem? (i := 730) rfl⟩
set_option maxRecDepth 100000 in
theorem fX7_31 : sm_FR RX7 31 7 17 := ⟨rfl, by decide, by decide +kernel, List.mem_of_getElem? (i := 731) rfl⟩
set_option maxRecDepth 100000 in
theorem fX7_34 : sm_FR RX7 34 7 18 := ⟨rfl, by decide, by decide +kernel, List.mem_of_getElem? (i := 732) rfl⟩
set_option maxRecDepth 100000 in
theorem fX7_37 : sm_FR RX7 37 7 19 := ⟨rfl, by decide, by decide +kernel, List.mem_of_getElem? (i := 733) rfl⟩
set_option maxRecDepth 100000 in
theorem fX7_40 : sm_FR RX7 40 7 20 := ⟨rfl, by decide, by decide +kernel, List.mem_of_getElem? (i := 734) rfl⟩
set_option maxRecDepth 100000 in
theorem fX7_43 : sm_FR RX7 43 7 21 := ⟨rfl, by decide, by decide +kernel, List.mem_of_getElem? (i := 735) rfl⟩
set_option maxRecDepth 100000 in
theorem fX7_46 : sm_FR RX7 46 7 22 := ⟨rfl, by decide, by decide +kernel, List.mem_of_getElem? (i := 736) rfl⟩
set_option maxRecDepth 100000 in
theorem fX7_49 : sm_FR RX7 49 7 23 := ⟨rfl, by decide, by decide +kernel, List.mem_of_getElem? (i := 737) rfl⟩
set_option maxRecDepth 100000 in
theorem fX7_179 : sm_FI RX7 179 7 24 := ⟨rfl, by decide, by decide +kernel, List.mem_of_getElem? (i := 738) rfl⟩
set_option maxRecDepth 100000 in
theorem fX7_156 : sm_FI RX7 156 7 25 := ⟨rfl, by decide, by decide +kernel, List.mem_of_getElem? (i := 739) rfl⟩
set_option maxRecDepth 100000 in
theorem fX7_52 : sm_FR RX7 52 7 26 := ⟨rfl, by decide, by decide +kernel, List.mem_of_getElem? (i := 740) rfl⟩
set_option maxRecDepth 100000 in
theorem fX7_55 : sm_FR RX7 55 7 27 := ⟨rfl, by decide, by decide +kernel, List.mem_of_getElem? (i := 741) rfl⟩
set_option maxRecDepth 100000 in
theorem fX7_58 : sm_FR RX7 58 7 28 := ⟨rfl, by decide, by decide +kernel, List.mem_of_getElem? (i := 742) rfl⟩
set_option maxRecDepth 100000 in
theorem fX7_61 : sm_FR RX7 61 7 29 := ⟨rfl, by decide, by decide +kernel, List.mem_of_getElem? (i := 743) rfl⟩
set_option maxRecDepth 100000 in
theorem fX7_64 : sm_FR RX7 64 7 30 := ⟨rfl, by decide, by decide +kernel, List.mem_of_getElem? (i := 744) rfl⟩
set_option maxRecDepth 100000 in
theorem fX7_67 : sm_FR RX7 67 7 31 := ⟨rfl, by decide, by decide +kernel, List.mem_of_getElem? (i := 745) rfl⟩
set_option maxRecDepth 100000 in
theorem fX7_70 : sm_FR RX7 70 7 32 := ⟨rfl, by decide, by decide +kernel, List.mem_of_getElem? (i := 746) rfl⟩
set_option maxRecDepth 100000 in
theorem fX7_238 : sm_FI RX7 238 7 33 := ⟨rfl, by decide, by decide +kernel, List.mem_of_getElem? (i := 747) rfl⟩
set_option maxRecDepth 100000 in
theorem lL_9 : sm_LI RL 9 MX6_init 0 := ⟨lbX6_init, List.mem_of_getElem? (i := 63) rfl, List.mem_of_getElem? (i := 64) rfl, rfl, rfl⟩
set_option maxRecDepth 100000 in
theorem lX6_19 : sm_LN RX6 19 MX2_init 0 := ⟨lbX2_init, List.mem_of_getElem? (i := 73) rfl, List.mem_of_getElem? (i := 74) rfl, rfl, rfl⟩
set_option maxRecDepth 100000 in
theorem lX6_29 : sm_LI RX6 29 MX0_init 1 := ⟨lbX0_init, List.mem_of_getElem? (i := 148) rfl, List.mem_of_getElem? (i := 149) rfl, rfl, rfl⟩
set_option maxRecDepth 100000 in
theorem lX6_38 : sm_LN RX6 38 MX1_init 0 := ⟨lbX1_init, List.mem_of_getElem? (i := 171) rfl, List.mem_of_getElem? (i := 172) rfl, rfl, rfl⟩
set_option maxRecDepth 100000 in
theorem lX6_45 : sm_LI RX6 45 MX5_init 2 := ⟨lbX5_init, List.mem_of_getElem? (i := 191) rfl, List.mem_of_getElem? (i := 192) rfl, rfl, rfl⟩
set_option maxRecDepth 100000 in
theorem lX5_11 : sm_LN RX5 11 MX2_init 0 := ⟨lbX2_init, List.mem_of_getElem? (i := 196) rfl, List.mem_of_getElem? (i := 74) rfl, rfl, rfl⟩
set_option maxRecDepth 100000 in
theorem lX5_20 : sm_LI RX5 20 MX0_init 1 := ⟨lbX0_init, List.mem_of_getElem? (i := 198) rfl, List.mem_of_getElem? (i := 149) rfl, rfl, rfl⟩
set_option maxRecDepth 100000 in
theorem lX6_59 : sm_LN RX6 59 MX3_init 0 := ⟨lbX3_init, List.mem_of_getElem? (i := 213) rfl, List.mem_of_getElem? (i := 214) rfl, rfl, rfl⟩
set_option maxRecDepth 100000 in
theorem lL_13 : sm_LV RL 13 MX6_ridge 4 := ⟨lbX6_ridge, List.mem_of_getElem? (i := 255) rfl, List.mem_of_getElem? (i := 256) rfl, List.mem_of_getElem? (i := 257) rfl⟩
set_option maxRecDepth 100000 in
theorem lX6_60 : sm_LS RX6 60 MX6_isSheet 1 := ⟨lbX6_isSheet, List.mem_of_getElem? (i := 259) rfl, List.mem_of_getElem? (i := 260) rfl⟩
set_option maxRecDepth 100000 in
theorem lX6_64 : sm_LS RX6 64 MX6_isLane 1 := ⟨lbX6_isLane, List.mem_of_getElem? (i := 262) rfl, List.mem_of_getElem? (i := 263) rfl⟩
set_option maxRecDepth 100000 in
theorem lX6_67 : sm_LV RX6 67 MX3_faultOfRow 3 := ⟨lbX3_faultOfRow, List.mem_of_getElem? (i := 265) rfl, List.mem_of_getElem? (i := 266) rfl, List.mem_of_getElem? (i := 267) rfl⟩
set_option maxRecDepth 100000 in
theorem lX3_22 : sm_LV RX3 22 MX3_faultOfLane 1 := ⟨lbX3_faultOfLane, List.mem_of_getElem? (i := 269) rfl, List.mem_of_getElem? (i := 271) rfl, List.mem_of_getElem? (i := 0) rfl⟩
set_option maxRecDepth 100000 in
theorem lX3_34 : sm_LV RX3 34 MX3_isThere 0 := ⟨lbX3_isThere, List.mem_of_getElem? (i := 273) rfl, List.mem_of_getElem? (i := 274) rfl, List.mem_of_getElem? (i := 275) rfl⟩
set_option maxRecDepth 100000 in
theorem lX3_30 : sm_LV RX3 30 MX3_hasCells 2 := ⟨lbX3_hasCells, List.mem_of_getElem? (i := 277) rfl, List.mem_of_getElem? (i := 278) rfl, List.mem_of_getElem? (i := 279) rfl⟩
set_option maxRecDepth 100000 in
theorem lX6_71 : sm_LV RX6 71 MX6_faulted 1 := ⟨lbX6_faulted, List.mem_of_getElem? (i := 281) rfl, List.mem_of_getElem? (i := 283) rfl, List.mem_of_getElem? (i := 1) rfl⟩
set_option maxRecDepth 100000 in
theorem lX6_77 : sm_LI RX6 77 MX4_init 3 := ⟨lbX4_init, List.mem_of_getElem? (i := 287) rfl, List.mem_of_getElem? (i := 288) rfl, rfl, rfl⟩
set_option maxRecDepth 100000 in
theorem lX6_80 : sm_LV RX6 80 MX4_readInto 1 := ⟨lbX4_readInto, List.mem_of_getElem? (i := 304) rfl, List.mem_of_getElem? (i := 305) rfl, List.mem_of_getElem? (i := 306) rfl⟩
set_option maxRecDepth 100000 in
theorem lX4_30 : sm_LV RX4 30 MX2_clear 0 := ⟨lbX2_clear, List.mem_of_getElem? (i := 308) rfl, List.mem_of_getElem? (i := 309) rfl, List.mem_of_getElem? (i := 310) rfl⟩
set_option maxRecDepth 100000 in
theorem lX4_35 : sm_LV RX4 35 MX4_takes 1 := ⟨lbX4_takes, List.mem_of_getElem? (i := 312) rfl, List.mem_of_getElem? (i := 314) rfl, List.mem_of_getElem? (i := 2) rfl⟩
set_option maxRecDepth 100000 in
theorem lX4_39 : sm_LV RX4 39 MX4_readInns 1 := ⟨lbX4_readInns, List.mem_of_getElem? (i := 316) rfl, List.mem_of_getElem? (i := 318) rfl, List.mem_of_getElem? (i := 3) rfl⟩
set_option maxRecDepth 100000 in
theorem lX4_52 : sm_LV RX4 52 MX4_takeKind 0 := ⟨lbX4_takeKind, List.mem_of_getElem? (i := 320) rfl, List.mem_of_getElem? (i := 322) rfl, List.mem_of_getElem? (i := 4) rfl⟩
set_option maxRecDepth 100000 in
theorem lX4_56 : sm_LV RX4 56 MX4_takeDigit 1 := ⟨lbX4_takeDigit, List.mem_of_getElem? (i := 324) rfl, List.mem_of_getElem? (i := 326) rfl, List.mem_of_getElem? (i := 5) rfl⟩
set_option maxRecDepth 100000 in
theorem lX4_43 : sm_LV RX4 43 MX4_readNights 1 := ⟨lbX4_readNights, List.mem_of_getElem? (i := 328) rfl, List.mem_of_getElem? (i := 330) rfl, List.mem_of_getElem? (i := 6) rfl⟩
set_option maxRecDepth 100000 in
theorem lX4_46 : sm_LV RX4 46 MX4_readGuests 1 := ⟨lbX4_readGuests, List.mem_of_getElem? (i := 332) rfl, List.mem_of_getElem? (i := 334) rfl, List.mem_of_getElem? (i := 7) rfl⟩
set_option maxRecDepth 100000 in
theorem lX6_84 : sm_LV RX6 84 MX4_place 0 := ⟨lbX4_place, List.mem_of_getElem? (i := 336) rfl, List.mem_of_getElem? (i := 337) rfl, List.mem_of_getElem? (i := 338) rfl⟩
set_option maxRecDepth 100000 in
theorem lX6_88 : sm_LV RX6 88 MX2_become 1 := ⟨lbX2_become, List.mem_of_getElem? (i := 340) rfl, List.mem_of_getElem? (i := 341) rfl, List.mem_of_getElem? (i := 342) rfl⟩
set_option maxRecDepth 100000 in
theorem lX6_91 : sm_LV RX6 91 MX1_clear 0 := ⟨lbX1_clear, List.mem_of_getElem? (i := 347) rfl, List.mem_of_getElem? (i := 348) rfl, List.mem_of_getElem? (i := 349) rfl⟩
set_option maxRecDepth 100000 in
theorem lL_18 : sm_LV RL 18 MX6_ofInn 2 := ⟨lbX6_ofInn, List.mem_of_getElem? (i := 351) rfl, List.mem_of_getElem? (i := 352) rfl, List.mem_of_getElem? (i := 353) rfl⟩
set_option maxRecDepth 100000 in
theorem lX6_97 : sm_LV RX6 97 MX2_hasInn 1 := ⟨lbX2_hasInn, List.mem_of_getElem? (i := 355) rfl, List.mem_of_getElem? (i := 356) rfl, List.mem_of_getElem? (i := 357) rfl⟩
set_option maxRecDepth 100000 in
theorem lX6_107 : sm_LV RX6 107 MX2_keepsBy 2 := ⟨lbX2_keepsBy, List.mem_of_getElem? (i := 359) rfl, List.mem_of_getElem? (i := 360) rfl, List.mem_of_getElem? (i := 361) rfl⟩
set_option maxRecDepth 100000 in
theorem lL_23 : sm_LV RL 23 MX6_ofGuest 2 := ⟨lbX6_ofGuest, List.mem_of_getElem? (i := 363) rfl, List.mem_of_getElem? (i := 364) rfl, List.mem_of_getElem? (i := 365) rfl⟩
set_option maxRecDepth 100000 in
theorem lX6_111 : sm_LV RX6 111 MX2_hasGuest 1 := ⟨lbX2_hasGuest, List.mem_of_getElem? (i := 367) rfl, List.mem_of_getElem? (i := 368) rfl, List.mem_of_getElem? (i := 369) rfl⟩
set_option maxRecDepth 100000 in
theorem lL_27 : sm_LV RL 27 MX6_ofNight 2 := ⟨lbX6_ofNight, List.mem_of_getElem? (i := 371) rfl, List.mem_of_getElem? (i := 372) rfl, List.mem_of_getElem? (i := 373) rfl⟩
set_option maxRecDepth 100000 in
theorem lX6_120 : sm_LV RX6 120 MX2_stands 0 := ⟨lbX2_stands, List.mem_of_getElem? (i := 375) rfl, List.mem_of_getElem? (i := 376) rfl, List.mem_of_getElem? (i := 377) rfl⟩
set_option maxRecDepth 100000 in
theorem lX6_124 : sm_LV RX6 124 MX2_hasNight 1 := ⟨lbX2_hasNight, List.mem_of_getElem? (i := 379) rfl, List.mem_of_getElem? (i := 380) rfl, List.mem_of_getElem? (i := 381) rfl⟩
set_option maxRecDepth 100000 in
theorem lL_31 : sm_LV RL 31 MX6_rule 1 := ⟨lbX6_rule, List.mem_of_getElem? (i := 383) rfl, List.mem_of_getElem? (i := 384) rfl, List.mem_of_getElem? (i := 385) rfl⟩
set_option maxRecDepth 100000 in
theorem lL_36 : sm_LV RL 36 MX6_fall 2 := ⟨lbX6_fall, List.mem_of_getElem? (i := 387) rfl, List.mem_of_getElem? (i := 388) rfl, List.mem_of_getElem? (i := 389) rfl⟩
set_option maxRecDepth 100000 in
theorem lL_40 : sm_LV RL 40 MX6_gust 2 := ⟨lbX6_gust, List.mem_of_getElem? (i := 391) rfl, List.mem_of_getElem? (i := 392) rfl, List.mem_of_getElem? (i := 393) rfl⟩
set_option maxRecDepth 100000 in
theorem lL_45 : sm_LV RL 45 MX6_lodge 2 := ⟨lbX6_lodge, List.mem_of_getElem? (i := 395) rfl, List.mem_of_getElem? (i := 396) rfl, List.mem_of_getElem? (i := 397) rfl⟩
set_option maxRecDepth 100000 in
theorem lL_49 : sm_LV RL 49 MX6_sweep 3 := ⟨lbX6_sweep, List.mem_of_getElem? (i := 399) rfl, List.mem_of_getElem? (i := 400) rfl, List.mem_of_getElem? (i := 401) rfl⟩
set_option maxRecDepth 100000 in
theorem lX6_136 : sm_LV RX6 136 MX2_sweepOver 3 := ⟨lbX2_sweepOver, List.mem_of_getElem? (i := 403) rfl, List.mem_of_getElem? (i := 404) rfl, List.mem_of_getElem? (i := 405) rfl⟩
set_option maxRecDepth 100000 in
theorem lL_54 : sm_LV RL 54 MX6_where 2 := ⟨lbX6_where, List.mem_of_getElem? (i := 410) rfl, List.mem_of_getElem? (i := 411) rfl, List.mem_of_getElem? (i := 412) rfl⟩
set_option maxRecDepth 100000 in
theorem lX6_139 : sm_LV RX6 139 MX2_countsNights 1 := ⟨lbX2_countsNights, List.mem_of_getElem? (i := 414) rfl, List.mem_of_getElem? (i := 415) rfl, List.mem_of_getElem? (i := 416) rfl⟩
set_option maxRecDepth 100000 in
theorem lX6_142 : sm_LV RX6 142 MX0_run 1 := ⟨lbX0_run, List.mem_of_getElem? (i := 418) rfl, List.mem_of_getElem? (i := 419) rfl, List.mem_of_getElem? (i := 420) rfl⟩
set_option maxRecDepth 100000 in
theorem lX0_27 : sm_LV RX0 27 MX0_begin 0 := ⟨lbX0_begin, List.mem_of_getElem? (i := 422) rfl, List.mem_of_getElem? (i := 423) rfl, List.mem_of_getElem? (i := 424) rfl⟩
set_option maxRecDepth 100000 in
theorem lX0_35 : sm_LV RX0 35 MX0_pass 2 := ⟨lbX0_pass, List.mem_of_getElem? (i := 426) rfl, List.mem_of_getElem? (i := 427) rfl, List.mem_of_getElem? (i := 428) rfl⟩
set_option maxRecDepth 100000 in
theorem lX0_50 : sm_LV RX0 50 MX0_snow 1 := ⟨lbX0_snow, List.mem_of_getElem? (i := 430) rfl, List.mem_of_getElem? (i := 432) rfl, List.mem_of_getElem? (i := 8) rfl⟩
set_option maxRecDepth 100000 in
theorem lX0_54 : sm_LV RX0 54 MX2_roomBy 2 := ⟨lbX2_roomBy, List.mem_of_getElem? (i := 438) rfl, List.mem_of_getElem? (i := 439) rfl, List.mem_of_getElem? (i := 440) rfl⟩
set_option maxRecDepth 100000 in
theorem lX2_56 : sm_LV RX2 56 MX2_keepsBy 2 := ⟨lbX2_keepsBy, List.mem_of_getElem? (i := 442) rfl, List.mem_of_getElem? (i := 360) rfl, List.mem_of_getElem? (i := 361) rfl⟩
set_option maxRecDepth 100000 in
theorem lX0_58 : sm_LV RX0 58 MX0_keptOf 2 := ⟨lbX0_keptOf, List.mem_of_getElem? (i := 443) rfl, List.mem_of_getElem? (i := 445) rfl, List.mem_of_getElem? (i := 9) rfl⟩
set_option maxRecDepth 100000 in
theorem lX0_72 : sm_LS RX0 72 MJ6_bitCount_0f7a4 1 := ⟨lbJ6_bitCount_0f7a4, List.mem_of_getElem? (i := 447) rfl, List.mem_of_getElem? (i := 448) rfl⟩
set_option maxRecDepth 100000 in
theorem lX0_81 : sm_LS RX0 81 MX0_withoutLeast 2 := ⟨lbX0_withoutLeast, List.mem_of_getElem? (i := 453) rfl, List.mem_of_getElem? (i := 454) rfl⟩
set_option maxRecDepth 100000 in
theorem lX6_146 : sm_LV RX6 146 MX0_placeOf 2 := ⟨lbX0_placeOf, List.mem_of_getElem? (i := 456) rfl, List.mem_of_getElem? (i := 457) rfl, List.mem_of_getElem? (i := 458) rfl⟩
set_option maxRecDepth 100000 in
theorem lX0_84 : sm_LV RX0 84 MX0_isAt 3 := ⟨lbX0_isAt, List.mem_of_getElem? (i := 460) rfl, List.mem_of_getElem? (i := 461) rfl, List.mem_of_getElem? (i := 462) rfl⟩
set_option maxRecDepth 100000 in
theorem lL_58 : sm_LV RL 58 MX6_deep 2 := ⟨lbX6_deep, List.mem_of_getElem? (i := 464) rfl, List.mem_of_getElem? (i := 465) rfl, List.mem_of_getElem? (i := 466) rfl⟩
set_option maxRecDepth 100000 in
theorem lL_62 : sm_LV RL 62 MX6_beds 2 := ⟨lbX6_beds, List.mem_of_getElem? (i := 468) rfl, List.mem_of_getElem? (i := 469) rfl, List.mem_of_getElem? (i := 470) rfl⟩
set_option maxRecDepth 100000 in
theorem lX6_152 : sm_LV RX6 152 MX2_hasInnOrRoad 1 := ⟨lbX2_hasInnOrRoad, List.mem_of_getElem? (i := 472) rfl, List.mem_of_getElem? (i := 473) rfl, List.mem_of_getElem? (i := 474) rfl⟩
set_option maxRecDepth 100000 in
theorem lX2_52 : sm_LV RX2 52 MX2_stands 0 := ⟨lbX2_stands, List.mem_of_getElem? (i := 476) rfl, List.mem_of_getElem? (i := 376) rfl, List.mem_of_getElem? (i := 377) rfl⟩
set_option maxRecDepth 100000 in
theorem lL_66 : sm_LV RL 66 MX6_list 5 := ⟨lbX6_list, List.mem_of_getElem? (i := 477) rfl, List.mem_of_getElem? (i := 478) rfl, List.mem_of_getElem? (i := 479) rfl⟩
set_option maxRecDepth 100000 in
theorem lX6_157 : sm_LV RX6 157 MX6_firstElsewhere 4 := ⟨lbX6_firstElsewhere, List.mem_of_getElem? (i := 481) rfl, List.mem_of_getElem? (i := 483) rfl, List.mem_of_getElem? (i := 10) rfl⟩
set_option maxRecDepth 100000 in
theorem lL_71 : sm_LV RL 71 MX6_meet 1 := ⟨lbX6_meet, List.mem_of_getElem? (i := 485) rfl, List.mem_of_getElem? (i := 486) rfl, List.mem_of_getElem? (i := 487) rfl⟩
set_option maxRecDepth 100000 in
theorem lX6_161 : sm_LV RX6 161 MX2_membersOf 1 := ⟨lbX2_membersOf, List.mem_of_getElem? (i := 489) rfl, List.mem_of_getElem? (i := 490) rfl, List.mem_of_getElem? (i := 491) rfl⟩
set_option maxRecDepth 100000 in
theorem lX6_166 : sm_LV RX6 166 MX0_firstMeeting 2 := ⟨lbX0_firstMeeting, List.mem_of_getElem? (i := 493) rfl, List.mem_of_getElem? (i := 494) rfl, List.mem_of_getElem? (i := 495) rfl⟩
set_option maxRecDepth 100000 in
theorem lX0_88 : sm_LV RX0 88 MX0_isMeeting 2 := ⟨lbX0_isMeeting, List.mem_of_getElem? (i := 497) rfl, List.mem_of_getElem? (i := 498) rfl, List.mem_of_getElem? (i := 499) rfl⟩
set_option maxRecDepth 100000 in
theorem lL_75 : sm_LV RL 75 MX6_least 2 := ⟨lbX6_least, List.mem_of_getElem? (i := 501) rfl, List.mem_of_getElem? (i := 502) rfl, List.mem_of_getElem? (i := 503) rfl⟩
set_option maxRecDepth 100000 in
theorem lX6_169 : sm_LV RX6 169 MX5_leastSweep 2 := ⟨lbX5_leastSweep, List.mem_of_getElem? (i := 505) rfl, List.mem_of_getElem? (i := 506) rfl, List.mem_of_getElem? (i := 507) rfl⟩
set_option maxRecDepth 100000 in
theorem lX5_34 : sm_LV RX5 34 MX2_become 1 := ⟨lbX2_become, List.mem_of_getElem? (i := 509) rfl, List.mem_of_getElem? (i := 341) rfl, List.mem_of_getElem? (i := 342) rfl⟩
set_option maxRecDepth 100000 in
theorem lX5_37 : sm_LV RX5 37 MX0_leaveRoadEmpty 1 := ⟨lbX0_leaveRoadEmpty, List.mem_of_getElem? (i := 510) rfl, List.mem_of_getElem? (i := 511) rfl, List.mem_of_getElem? (i := 512) rfl⟩
set_option maxRecDepth 100000 in
theorem lX0_92 : sm_LV RX0 92 MX0_onRoad 1 := ⟨lbX0_onRoad, List.mem_of_getElem? (i := 514) rfl, List.mem_of_getElem? (i := 515) rfl, List.mem_of_getElem? (i := 516) rfl⟩
set_option maxRecDepth 100000 in
theorem lX5_45 : sm_LV RX5 45 MX5_sweepEmptiesRoad 4 := ⟨lbX5_sweepEmptiesRoad, List.mem_of_getElem? (i := 518) rfl, List.mem_of_getElem? (i := 520) rfl, List.mem_of_getElem? (i := 11) rfl⟩
set_option maxRecDepth 100000 in
theorem lX5_49 : sm_LV RX5 49 MX2_hasInn 1 := ⟨lbX2_hasInn, List.mem_of_getElem? (i := 522) rfl, List.mem_of_getElem? (i := 356) rfl, List.mem_of_getElem? (i := 357) rfl⟩
set_option maxRecDepth 100000 in
theorem lX5_56 : sm_LV RX5 56 MX2_sweepOver 3 := ⟨lbX2_sweepOver, List.mem_of_getElem? (i := 523) rfl, List.mem_of_getElem? (i := 404) rfl, List.mem_of_getElem? (i := 405) rfl⟩
set_option maxRecDepth 100000 in
theorem lL_79 : sm_LV RL 79 MX6_turn 2 := ⟨lbX6_turn, List.mem_of_getElem? (i := 524) rfl, List.mem_of_getElem? (i := 525) rfl, List.mem_of_getElem? (i := 526) rfl⟩
set_option maxRecDepth 100000 in
theorem lX6_172 : sm_LV RX6 172 MX5_firstTurn 2 := ⟨lbX5_firstTurn, List.mem_of_getElem? (i := 528) rfl, List.mem_of_getElem? (i := 529) rfl, List.mem_of_getElem? (i := 530) rfl⟩
set_option maxRecDepth 100000 in
theorem lX5_60 : sm_LV RX5 60 MX0_firstMeeting 2 := ⟨lbX0_firstMeeting, List.mem_of_getElem? (i := 532) rfl, List.mem_of_getElem? (i := 494) rfl, List.mem_of_getElem? (i := 495) rfl⟩
set_option maxRecDepth 100000 in
theorem lL_83 : sm_LV RL 83 MX6_corks 1 := ⟨lbX6_corks, List.mem_of_getElem? (i := 533) rfl, List.mem_of_getElem? (i := 534) rfl, List.mem_of_getElem? (i := 535) rfl⟩
set_option maxRecDepth 100000 in
theorem lX6_175 : sm_LV RX6 175 MX5_innsThatCork 1 := ⟨lbX5_innsThatCork, List.mem_of_getElem? (i := 537) rfl, List.mem_of_getElem? (i := 538) rfl, List.mem_of_getElem? (i := 539) rfl⟩
set_option maxRecDepth 100000 in
theorem lX5_67 : sm_LV RX5 67 MX5_manyOnRoad 1 := ⟨lbX5_manyOnRoad, List.mem_of_getElem? (i := 541) rfl, List.mem_of_getElem? (i := 543) rfl, List.mem_of_getElem? (i := 12) rfl⟩
set_option maxRecDepth 100000 in
theorem lX5_74 : sm_LV RX5 74 MX0_run 1 := ⟨lbX0_run, List.mem_of_getElem? (i := 545) rfl, List.mem_of_getElem? (i := 419) rfl, List.mem_of_getElem? (i := 420) rfl⟩
set_option maxRecDepth 100000 in
theorem lX5_78 : sm_LV RX5 78 MX0_onRoad 1 := ⟨lbX0_onRoad, List.mem_of_getElem? (i := 546) rfl, List.mem_of_getElem? (i := 515) rfl, List.mem_of_getElem? (i := 516) rfl⟩
set_option maxRecDepth 100000 in
theorem lX5_81 : sm_LS RX5 81 MJ6_bitCount_0f7a4 1 := ⟨lbJ6_bitCount_0f7a4, List.mem_of_getElem? (i := 547) rfl, List.mem_of_getElem? (i := 448) rfl⟩
set_option maxRecDepth 100000 in
theorem lL_87 : sm_LV RL 87 MX6_reading 3 := ⟨lbX6_reading, List.mem_of_getElem? (i := 548) rfl, List.mem_of_getElem? (i := 549) rfl, List.mem_of_getElem? (i := 550) rfl⟩
set_option maxRecDepth 100000 in
theorem lX6_181 : sm_LV RX6 181 MX1_add 3 := ⟨lbX1_add, List.mem_of_getElem? (i := 552) rfl, List.mem_of_getElem? (i := 553) rfl, List.mem_of_getElem? (i := 554) rfl⟩
set_option maxRecDepth 100000 in
theorem lL_92 : sm_LV RL 92 MX6_back 1 := ⟨lbX6_back, List.mem_of_getElem? (i := 556) rfl, List.mem_of_getElem? (i := 557) rfl, List.mem_of_getElem? (i := 558) rfl⟩
set_option maxRecDepth 100000 in
theorem lL_96 : sm_LV RL 96 MX6_rules 0 := ⟨lbX6_rules, List.mem_of_getElem? (i := 560) rfl, List.mem_of_getElem? (i := 561) rfl, List.mem_of_getElem? (i := 562) rfl⟩
set_option maxRecDepth 100000 in
theorem lX6_184 : sm_LV RX6 184 MX5_rulesThatFit 0 := ⟨lbX5_rulesThatFit, List.mem_of_getElem? (i := 564) rfl, List.mem_of_getElem? (i := 565) rfl, List.mem_of_getElem? (i := 566) rfl⟩
set_option maxRecDepth 100000 in
theorem lX5_89 : sm_LV RX5 89 MX5_bitIfFit 1 := ⟨lbX5_bitIfFit, List.mem_of_getElem? (i := 568) rfl, List.mem_of_getElem? (i := 570) rfl, List.mem_of_getElem? (i := 13) rfl⟩
set_option maxRecDepth 100000 in
theorem lX5_100 : sm_LV RX5 100 MX1_areSo 1 := ⟨lbX1_areSo, List.mem_of_getElem? (i := 572) rfl, List.mem_of_getElem? (i := 573) rfl, List.mem_of_getElem? (i := 574) rfl⟩
set_option maxRecDepth 100000 in
theorem lX1_25 : sm_LV RX1 25 MX0_isAt 3 := ⟨lbX0_isAt, List.mem_of_getElem? (i := 576) rfl, List.mem_of_getElem? (i := 461) rfl, List.mem_of_getElem? (i := 462) rfl⟩
set_option maxRecDepth 100000 in
theorem lL_101 : sm_LV RL 101 MX6_kinds 1 := ⟨lbX6_kinds, List.mem_of_getElem? (i := 577) rfl, List.mem_of_getElem? (i := 578) rfl, List.mem_of_getElem? (i := 579) rfl⟩
set_option maxRecDepth 100000 in
theorem lX6_187 : sm_LV RX6 187 MX5_kindsThatFit 1 := ⟨lbX5_kindsThatFit, List.mem_of_getElem? (i := 581) rfl, List.mem_of_getElem? (i := 582) rfl, List.mem_of_getElem? (i := 583) rfl⟩
set_option maxRecDepth 100000 in
theorem lL_105 : sm_LV RL 105 MX6_depths 1 := ⟨lbX6_depths, List.mem_of_getElem? (i := 585) rfl, List.mem_of_getElem? (i := 586) rfl, List.mem_of_getElem? (i := 587) rfl⟩
set_option maxRecDepth 100000 in
theorem lX6_190 : sm_LV RX6 190 MX5_depthsThatFit 1 := ⟨lbX5_depthsThatFit, List.mem_of_getElem? (i := 589) rfl, List.mem_of_getElem? (i := 590) rfl, List.mem_of_getElem? (i := 591) rfl⟩
set_option maxRecDepth 100000 in
theorem lL_109 : sm_LV RL 109 MX6_falls 1 := ⟨lbX6_falls, List.mem_of_getElem? (i := 593) rfl, List.mem_of_getElem? (i := 594) rfl, List.mem_of_getElem? (i := 595) rfl⟩
set_option maxRecDepth 100000 in
theorem lX6_193 : sm_LV RX6 193 MX5_fallsThatFit 1 := ⟨lbX5_fallsThatFit, List.mem_of_getElem? (i := 597) rfl, List.mem_of_getElem? (i := 598) rfl, List.mem_of_getElem? (i := 599) rfl⟩
set_option maxRecDepth 100000 in
theorem lL_113 : sm_LV RL 113 MX6_odds 3 := ⟨lbX6_odds, List.mem_of_getElem? (i := 601) rfl, List.mem_of_getElem? (i := 602) rfl, List.mem_of_getElem? (i := 603) rfl⟩
set_option maxRecDepth 100000 in
theorem lX6_198 : sm_LV RX6 198 MX5_windsThatMeet 2 := ⟨lbX5_windsThatMeet, List.mem_of_getElem? (i := 606) rfl, List.mem_of_getElem? (i := 607) rfl, List.mem_of_getElem? (i := 608) rfl⟩
set_option maxRecDepth 100000 in
theorem lX5_106 : sm_LV RX5 106 MX0_begin 0 := ⟨lbX0_begin, List.mem_of_getElem? (i := 610) rfl, List.mem_of_getElem? (i := 423) rfl, List.mem_of_getElem? (i := 424) rfl⟩
set_option maxRecDepth 100000 in
theorem lX5_109 : sm_LS RX5 109 MX5_meetingWinds 4 := ⟨lbX5_meetingWinds, List.mem_of_getElem? (i := 611) rfl, List.mem_of_getElem? (i := 612) rfl⟩
set_option maxRecDepth 100000 in
theorem lX5_113 : sm_LV RX5 113 MX0_pass 2 := ⟨lbX0_pass, List.mem_of_getElem? (i := 614) rfl, List.mem_of_getElem? (i := 427) rfl, List.mem_of_getElem? (i := 428) rfl⟩
set_option maxRecDepth 100000 in
theorem lX5_117 : sm_LV RX5 117 MX0_isMeeting 2 := ⟨lbX0_isMeeting, List.mem_of_getElem? (i := 615) rfl, List.mem_of_getElem? (i := 498) rfl, List.mem_of_getElem? (i := 499) rfl⟩
set_option maxRecDepth 100000 in
theorem lL_118 : sm_LV RL 118 MX6_sheet 3 := ⟨lbX6_sheet, List.mem_of_getElem? (i := 616) rfl, List.mem_of_getElem? (i := 617) rfl, List.mem_of_getElem? (i := 618) rfl⟩
set_option maxRecDepth 100000 in
theorem lX6_201 : sm_LV RX6 201 MX3_renew 2 := ⟨lbX3_renew, List.mem_of_getElem? (i := 620) rfl, List.mem_of_getElem? (i := 621) rfl, List.mem_of_getElem? (i := 622) rfl⟩
set_option maxRecDepth 100000 in
theorem lL_122 : sm_LV RL 122 MX6_lose 1 := ⟨lbX6_lose, List.mem_of_getElem? (i := 624) rfl, List.mem_of_getElem? (i := 625) rfl, List.mem_of_getElem? (i := 626) rfl⟩
set_option maxRecDepth 100000 in
theorem lX6_205 : sm_LV RX6 205 MX3_isThere 0 := ⟨lbX3_isThere, List.mem_of_getElem? (i := 628) rfl, List.mem_of_getElem? (i := 274) rfl, List.mem_of_getElem? (i := 275) rfl⟩
set_option maxRecDepth 100000 in
theorem lX6_208 : sm_LV RX6 208 MX3_clear 0 := ⟨lbX3_clear, List.mem_of_getElem? (i := 629) rfl, List.mem_of_getElem? (i := 630) rfl, List.mem_of_getElem? (i := 631) rfl⟩
set_option maxRecDepth 100000 in
theorem lL_126 : sm_LV RL 126 MX6_put 3 := ⟨lbX6_put, List.mem_of_getElem? (i := 633) rfl, List.mem_of_getElem? (i := 634) rfl, List.mem_of_getElem? (i := 635) rfl⟩
set_option maxRecDepth 100000 in
theorem lX6_209 : sm_LV RX6 209 MX3_hasCell 1 := ⟨lbX3_hasCell, List.mem_of_getElem? (i := 637) rfl, List.mem_of_getElem? (i := 638) rfl, List.mem_of_getElem? (i := 639) rfl⟩
set_option maxRecDepth 100000 in
theorem lX6_212 : sm_LV RX6 212 MX3_write 2 := ⟨lbX3_write, List.mem_of_getElem? (i := 641) rfl, List.mem_of_getElem? (i := 642) rfl, List.mem_of_getElem? (i := 643) rfl⟩
set_option maxRecDepth 100000 in
theorem lL_130 : sm_LV RL 130 MX6_cell 3 := ⟨lbX6_cell, List.mem_of_getElem? (i := 645) rfl, List.mem_of_getElem? (i := 646) rfl, List.mem_of_getElem? (i := 647) rfl⟩
set_option maxRecDepth 100000 in
theorem lX6_215 : sm_LV RX6 215 MX3_faultOfCell 2 := ⟨lbX3_faultOfCell, List.mem_of_getElem? (i := 649) rfl, List.mem_of_getElem? (i := 650) rfl, List.mem_of_getElem? (i := 651) rfl⟩
set_option maxRecDepth 100000 in
theorem lX3_26 : sm_LV RX3 26 MX3_hasCell 1 := ⟨lbX3_hasCell, List.mem_of_getElem? (i := 653) rfl, List.mem_of_getElem? (i := 638) rfl, List.mem_of_getElem? (i := 639) rfl⟩
set_option maxRecDepth 100000 in
theorem lL_134 : sm_LV RL 134 MX6_copy 5 := ⟨lbX6_copy, List.mem_of_getElem? (i := 654) rfl, List.mem_of_getElem? (i := 655) rfl, List.mem_of_getElem? (i := 656) rfl⟩
set_option maxRecDepth 100000 in
theorem lX6_224 : sm_LV RX6 224 MX3_hasCells 2 := ⟨lbX3_hasCells, List.mem_of_getElem? (i := 658) rfl, List.mem_of_getElem? (i := 278) rfl, List.mem_of_getElem? (i := 279) rfl⟩
set_option maxRecDepth 100000 in
theorem lL_138 : sm_LV RL 138 MX6_tell 1 := ⟨lbX6_tell, List.mem_of_getElem? (i := 660) rfl, List.mem_of_getElem? (i := 661) rfl, List.mem_of_getElem? (i := 662) rfl⟩
set_option maxRecDepth 100000 in
theorem lX6_234 : sm_LV RX6 234 MX6_castleTelling 1 := ⟨lbX6_castleTelling, List.mem_of_getElem? (i := 664) rfl, List.mem_of_getElem? (i := 666) rfl, List.mem_of_getElem? (i := 14) rfl⟩
set_option maxRecDepth 100000 in
theorem lX6_252 : sm_LV RX6 252 MX6_beginBody 1 := ⟨lbX6_beginBody, List.mem_of_getElem? (i := 668) rfl, List.mem_of_getElem? (i := 670) rfl, List.mem_of_getElem? (i := 15) rfl⟩
set_option maxRecDepth 100000 in
theorem lX6_237 : sm_LV RX6 237 MX6_lodgeTelling 1 := ⟨lbX6_lodgeTelling, List.mem_of_getElem? (i := 672) rfl, List.mem_of_getElem? (i := 674) rfl, List.mem_of_getElem? (i := 16) rfl⟩
set_option maxRecDepth 100000 in
theorem lX6_240 : sm_LV RX6 240 MX6_innTelling 1 := ⟨lbX6_innTelling, List.mem_of_getElem? (i := 676) rfl, List.mem_of_getElem? (i := 678) rfl, List.mem_of_getElem? (i := 17) rfl⟩
set_option maxRecDepth 100000 in
theorem lL_142 : sm_LV RL 142 MX6_light 1 := ⟨lbX6_light, List.mem_of_getElem? (i := 680) rfl, List.mem_of_getElem? (i := 681) rfl, List.mem_of_getElem? (i := 682) rfl⟩
set_option maxRecDepth 100000 in
theorem lX6_243 : sm_LV RX6 243 MX6_castleLight 0 := ⟨lbX6_castleLight, List.mem_of_getElem? (i := 684) rfl, List.mem_of_getElem? (i := 686) rfl, List.mem_of_getElem? (i := 18) rfl⟩
set_option maxRecDepth 100000 in
theorem lX6_246 : sm_LV RX6 246 MX6_lentLight 1 := ⟨lbX6_lentLight, List.mem_of_getElem? (i := 688) rfl, List.mem_of_getElem? (i := 690) rfl, List.mem_of_getElem? (i := 19) rfl⟩
set_option maxRecDepth 100000 in
theorem lL_146 : sm_LV RL 146 MX6_as 2 := ⟨lbX6_as, List.mem_of_getElem? (i := 692) rfl, List.mem_of_getElem? (i := 693) rfl, List.mem_of_getElem? (i := 694) rfl⟩
set_option maxRecDepth 100000 in
theorem lL_150 : sm_LV RL 150 MX6_trace 0 := ⟨lbX6_trace, List.mem_of_getElem? (i := 696) rfl, List.mem_of_getElem? (i := 697) rfl, List.mem_of_getElem? (i := 698) rfl⟩
set_option maxRecDepth 100000 in
theorem lL_154 : sm_LV RL 154 MX6_fault 0 := ⟨lbX6_fault, List.mem_of_getElem? (i := 700) rfl, List.mem_of_getElem? (i := 701) rfl, List.mem_of_getElem? (i := 702) rfl⟩
set_option maxRecDepth 100000 in
theorem lL_158 : sm_LV RL 158 MX6_many 1 := ⟨lbX6_many, List.mem_of_getElem? (i := 704) rfl, List.mem_of_getElem? (i := 705) rfl, List.mem_of_getElem? (i := 706) rfl⟩
set_option maxRecDepth 100000 in
theorem lL_12 : sm_LI RL 12 MX7_init 0 := ⟨lbX7_init, List.mem_of_getElem? (i := 710) rfl, List.mem_of_getElem? (i := 711) rfl, rfl, rfl⟩
set_option maxRecDepth 100000 in
theorem lL_17 : sm_LV RL 17 MX7_ridge 4 := ⟨lbX7_ridge, List.mem_of_getElem? (i := 817) rfl, List.mem_of_getElem? (i := 818) rfl, List.mem_of_getElem? (i := 819) rfl⟩
set_option maxRecDepth 100000 in
theorem lX7_137 : sm_LS RX7 137 MX7_noSheet 1 := ⟨lbX7_noSheet, List.mem_of_getElem? (i := 821) rfl, List.mem_of_getElem? (i := 822) rfl⟩
set_option maxRecDepth 100000 in
theorem lX7_89 : sm_LS RX7 89 MX7_in 3 := ⟨lbX7_in, List.mem_of_getElem? (i := 825) rfl, List.mem_of_getElem? (i := 826) rfl⟩
set_option maxRecDepth 100000 in
theorem lX7_141 : sm_LV RX7 141 MX7_refused 1 := ⟨lbX7_refused, List.mem_of_getElem? (i := 828) rfl, List.mem_of_getElem? (i := 830) rfl, List.mem_of_getElem? (i := 20) rfl⟩
set_option maxRecDepth 100000 in
theorem lX7_146 : sm_LV RX7 146 MX7_cellsBarred 4 := ⟨lbX7_cellsBarred, List.mem_of_getElem? (i := 833) rfl, List.mem_of_getElem? (i := 835) rfl, List.mem_of_getElem? (i := 21) rfl⟩
set_option maxRecDepth 100000 in
theorem lX7_129 : sm_LV RX7 129 MX7_failed 1 := ⟨lbX7_failed, List.mem_of_getElem? (i := 837) rfl, List.mem_of_getElem? (i := 839) rfl, List.mem_of_getElem? (i := 22) rfl⟩
set_option maxRecDepth 100000 in
theorem lX7_133 : sm_LS RX7 133 MX7_isBeyond 3 := ⟨lbX7_isBeyond, List.mem_of_getElem? (i := 841) rfl, List.mem_of_getElem? (i := 842) rfl⟩
set_option maxRecDepth 100000 in
theorem lX7_150 : sm_LV RX7 150 MX7_readsRidge 2 := ⟨lbX7_readsRidge, List.mem_of_getElem? (i := 844) rfl, List.mem_of_getElem? (i := 846) rfl, List.mem_of_getElem? (i := 23) rfl⟩
set_option maxRecDepth 100000 in
theorem lX7_102 : sm_LV RX7 102 MX7_codeAt 2 := ⟨lbX7_codeAt, List.mem_of_getElem? (i := 848) rfl, List.mem_of_getElem? (i := 850) rfl, List.mem_of_getElem? (i := 24) rfl⟩
set_option maxRecDepth 100000 in
theorem lX7_119 : sm_LV RX7 119 MX7_readsInn 2 := ⟨lbX7_readsInn, List.mem_of_getElem? (i := 852) rfl, List.mem_of_getElem? (i := 854) rfl, List.mem_of_getElem? (i := 25) rfl⟩
set_option maxRecDepth 100000 in
theorem lX7_109 : sm_LV RX7 109 MX7_figure 4 := ⟨lbX7_figure, List.mem_of_getElem? (i := 856) rfl, List.mem_of_getElem? (i := 858) rfl, List.mem_of_getElem? (i := 26) rfl⟩
set_option maxRecDepth 100000 in
theorem lX7_123 : sm_LV RX7 123 MX7_readsNight 2 := ⟨lbX7_readsNight, List.mem_of_getElem? (i := 860) rfl, List.mem_of_getElem? (i := 862) rfl, List.mem_of_getElem? (i := 27) rfl⟩
set_option maxRecDepth 100000 in
theorem lX7_126 : sm_LV RX7 126 MX7_readsGuest 2 := ⟨lbX7_readsGuest, List.mem_of_getElem? (i := 864) rfl, List.mem_of_getElem? (i := 866) rfl, List.mem_of_getElem? (i := 28) rfl⟩
set_option maxRecDepth 100000 in
theorem lL_22 : sm_LV RL 22 MX7_ofInn 2 := ⟨lbX7_ofInn, List.mem_of_getElem? (i := 868) rfl, List.mem_of_getElem? (i := 869) rfl, List.mem_of_getElem? (i := 870) rfl⟩
set_option maxRecDepth 100000 in
theorem lX7_159 : sm_LV RX7 159 MX7_noInn 1 := ⟨lbX7_noInn, List.mem_of_getElem? (i := 872) rfl, List.mem_of_getElem? (i := 874) rfl, List.mem_of_getElem? (i := 29) rfl⟩
set_option maxRecDepth 100000 in
theorem lX7_162 : sm_LV RX7 162 MX7_keepsBy 2 := ⟨lbX7_keepsBy, List.mem_of_getElem? (i := 876) rfl, List.mem_of_getElem? (i := 878) rfl, List.mem_of_getElem? (i := 30) rfl⟩
set_option maxRecDepth 100000 in
theorem lL_26 : sm_LV RL 26 MX7_ofGuest 2 := ⟨lbX7_ofGuest, List.mem_of_getElem? (i := 880) rfl, List.mem_of_getElem? (i := 881) rfl, List.mem_of_getElem? (i := 882) rfl⟩
set_option maxRecDepth 100000 in
theorem lX7_165 : sm_LV RX7 165 MX7_noGuest 1 := ⟨lbX7_noGuest, List.mem_of_getElem? (i := 884) rfl, List.mem_of_getElem? (i := 886) rfl, List.mem_of_getElem? (i := 31) rfl⟩
set_option maxRecDepth 100000 in
theorem lL_30 : sm_LV RL 30 MX7_ofNight 2 := ⟨lbX7_ofNight, List.mem_of_getElem? (i := 888) rfl, List.mem_of_getElem? (i := 889) rfl, List.mem_of_getElem? (i := 890) rfl⟩
set_option maxRecDepth 100000 in
theorem lX7_168 : sm_LV RX7 168 MX7_noNight 1 := ⟨lbX7_noNight, List.mem_of_getElem? (i := 892) rfl, List.mem_of_getElem? (i := 894) rfl, List.mem_of_getElem? (i := 32) rfl⟩
set_option maxRecDepth 100000 in
theorem lL_35 : sm_LV RL 35 MX7_rule 1 := ⟨lbX7_rule, List.mem_of_getElem? (i := 896) rfl, List.mem_of_getElem? (i := 897) rfl, List.mem_of_getElem? (i := 898) rfl⟩
set_option maxRecDepth 100000 in
theorem lL_39 : sm_LV RL 39 MX7_fall 2 := ⟨lbX7_fall, List.mem_of_getElem? (i := 900) rfl, List.mem_of_getElem? (i := 901) rfl, List.mem_of_getElem? (i := 902) rfl⟩
set_option maxRecDepth 100000 in
theorem lL_44 : sm_LV RL 44 MX7_gust 2 := ⟨lbX7_gust, List.mem_of_getElem? (i := 905) rfl, List.mem_of_getElem? (i := 906) rfl, List.mem_of_getElem? (i := 907) rfl⟩
set_option maxRecDepth 100000 in
theorem lL_48 : sm_LV RL 48 MX7_lodge 2 := ⟨lbX7_lodge, List.mem_of_getElem? (i := 909) rfl, List.mem_of_getElem? (i := 910) rfl, List.mem_of_getElem? (i := 911) rfl⟩
set_option maxRecDepth 100000 in
theorem lL_53 : sm_LV RL 53 MX7_sweep 3 := ⟨lbX7_sweep, List.mem_of_getElem? (i := 913) rfl, List.mem_of_getElem? (i := 914) rfl, List.mem_of_getElem? (i := 915) rfl⟩
set_option maxRecDepth 100000 in
theorem lX7_175 : sm_LV RX7 175 MX7_swept 3 := ⟨lbX7_swept, List.mem_of_getElem? (i := 918) rfl, List.mem_of_getElem? (i := 920) rfl, List.mem_of_getElem? (i := 33) rfl⟩
set_option maxRecDepth 100000 in
theorem lL_57 : sm_LV RL 57 MX7_where 2 := ⟨lbX7_where, List.mem_of_getElem? (i := 922) rfl, List.mem_of_getElem? (i := 923) rfl, List.mem_of_getElem? (i := 924) rfl⟩
set_option maxRecDepth 100000 in
theorem lX7_193 : sm_LV RX7 193 MX7_goNights 1 := ⟨lbX7_goNights, List.mem_of_getElem? (i := 926) rfl, List.mem_of_getElem? (i := 928) rfl, List.mem_of_getElem? (i := 34) rfl⟩
set_option maxRecDepth 100000 in
theorem lX7_186 : sm_LV RX7 186 MX7_begin 0 := ⟨lbX7_begin, List.mem_of_getElem? (i := 930) rfl, List.mem_of_getElem? (i := 932) rfl, List.mem_of_getElem? (i := 35) rfl⟩
set_option maxRecDepth 100000 in
theorem lX7_189 : sm_LV RX7 189 MX7_goNight 1 := ⟨lbX7_goNight, List.mem_of_getElem? (i := 934) rfl, List.mem_of_getElem? (i := 936) rfl, List.mem_of_getElem? (i := 36) rfl⟩
set_option maxRecDepth 100000 in
theorem lX7_182 : sm_LV RX7 182 MX7_passOn 2 := ⟨lbX7_passOn, List.mem_of_getElem? (i := 938) rfl, List.mem_of_getElem? (i := 940) rfl, List.mem_of_getElem? (i := 37) rfl⟩
set_option maxRecDepth 100000 in
theorem lL_61 : sm_LV RL 61 MX7_deep 2 := ⟨lbX7_deep, List.mem_of_getElem? (i := 942) rfl, List.mem_of_getElem? (i := 943) rfl, List.mem_of_getElem? (i := 944) rfl⟩
set_option maxRecDepth 100000 in
theorem lL_65 : sm_LV RL 65 MX7_beds 2 := ⟨lbX7_beds, List.mem_of_getElem? (i := 946) rfl, List.mem_of_getElem? (i := 947) rfl, List.mem_of_getElem? (i := 948) rfl⟩
set_option maxRecDepth 100000 in
theorem lX7_196 : sm_LV RX7 196 MX7_inBeds 1 := ⟨lbX7_inBeds, List.mem_of_getElem? (i := 950) rfl, List.mem_of_getElem? (i := 952) rfl, List.mem_of_getElem? (i := 38) rfl⟩
set_option maxRecDepth 100000 in
theorem lL_70 : sm_LV RL 70 MX7_list 5 := ⟨lbX7_list, List.mem_of_getElem? (i := 954) rfl, List.mem_of_getElem? (i := 955) rfl, List.mem_of_getElem? (i := 956) rfl⟩
set_option maxRecDepth 100000 in
theorem lL_74 : sm_LV RL 74 MX7_meet 1 := ⟨lbX7_meet, List.mem_of_getElem? (i := 958) rfl, List.mem_of_getElem? (i := 959) rfl, List.mem_of_getElem? (i := 960) rfl⟩
set_option maxRecDepth 100000 in
theorem lX7_202 : sm_LV RX7 202 MX7_noFamily 1 := ⟨lbX7_noFamily, List.mem_of_getElem? (i := 962) rfl, List.mem_of_getElem? (i := 964) rfl, List.mem_of_getElem? (i := 39) rfl⟩
set_option maxRecDepth 100000 in
theorem lX7_205 : sm_LV RX7 205 MX7_meetsIn 2 := ⟨lbX7_meetsIn, List.mem_of_getElem? (i := 966) rfl, List.mem_of_getElem? (i := 968) rfl, List.mem_of_getElem? (i := 40) rfl⟩
set_option maxRecDepth 100000 in
theorem lX7_199 : sm_LV RX7 199 MX7_isTogether 1 := ⟨lbX7_isTogether, List.mem_of_getElem? (i := 970) rfl, List.mem_of_getElem? (i := 972) rfl, List.mem_of_getElem? (i := 41) rfl⟩
set_option maxRecDepth 100000 in
theorem lL_78 : sm_LV RL 78 MX7_least 2 := ⟨lbX7_least, List.mem_of_getElem? (i := 974) rfl, List.mem_of_getElem? (i := 975) rfl, List.mem_of_getElem? (i := 976) rfl⟩
set_option maxRecDepth 100000 in
theorem lX7_208 : sm_LV RX7 208 MX7_isNobodyOut 1 := ⟨lbX7_isNobodyOut, List.mem_of_getElem? (i := 978) rfl, List.mem_of_getElem? (i := 980) rfl, List.mem_of_getElem? (i := 42) rfl⟩
set_option maxRecDepth 100000 in
theorem lX7_211 : sm_LV RX7 211 MX7_isBy 4 := ⟨lbX7_isBy, List.mem_of_getElem? (i := 982) rfl, List.mem_of_getElem? (i := 984) rfl, List.mem_of_getElem? (i := 43) rfl⟩
set_option maxRecDepth 100000 in
theorem lL_82 : sm_LV RL 82 MX7_turn 2 := ⟨lbX7_turn, List.mem_of_getElem? (i := 986) rfl, List.mem_of_getElem? (i := 987) rfl, List.mem_of_getElem? (i := 988) rfl⟩
set_option maxRecDepth 100000 in
theorem lL_86 : sm_LV RL 86 MX7_corks 1 := ⟨lbX7_corks, List.mem_of_getElem? (i := 990) rfl, List.mem_of_getElem? (i := 991) rfl, List.mem_of_getElem? (i := 992) rfl⟩
set_option maxRecDepth 100000 in
theorem lX7_215 : sm_LS RX7 215 MX7_bits 1 := ⟨lbX7_bits, List.mem_of_getElem? (i := 994) rfl, List.mem_of_getElem? (i := 995) rfl⟩
set_option maxRecDepth 100000 in
theorem lL_91 : sm_LV RL 91 MX7_reading 3 := ⟨lbX7_reading, List.mem_of_getElem? (i := 997) rfl, List.mem_of_getElem? (i := 998) rfl, List.mem_of_getElem? (i := 999) rfl⟩
set_option maxRecDepth 100000 in
theorem lL_95 : sm_LV RL 95 MX7_back 1 := ⟨lbX7_back, List.mem_of_getElem? (i := 1001) rfl, List.mem_of_getElem? (i := 1002) rfl, List.mem_of_getElem? (i := 1003) rfl⟩
set_option maxRecDepth 100000 in
theorem lL_100 : sm_LV RL 100 MX7_rules 0 := ⟨lbX7_rules, List.mem_of_getElem? (i := 1005) rfl, List.mem_of_getElem? (i := 1006) rfl, List.mem_of_getElem? (i := 1007) rfl⟩
set_option maxRecDepth 100000 in
theorem lX7_218 : sm_LV RX7 218 MX7_areSo 0 := ⟨lbX7_areSo, List.mem_of_getElem? (i := 1009) rfl, List.mem_of_getElem? (i := 1011) rfl, List.mem_of_getElem? (i := 44) rfl⟩
set_option maxRecDepth 100000 in
theorem lL_104 : sm_LV RL 104 MX7_kinds 1 := ⟨lbX7_kinds, List.mem_of_getElem? (i := 1013) rfl, List.mem_of_getElem? (i := 1014) rfl, List.mem_of_getElem? (i := 1015) rfl⟩
set_option maxRecDepth 100000 in
theorem lL_108 : sm_LV RL 108 MX7_depths 1 := ⟨lbX7_depths, List.mem_of_getElem? (i := 1017) rfl, List.mem_of_getElem? (i := 1018) rfl, List.mem_of_getElem? (i := 1019) rfl⟩
set_option maxRecDepth 100000 in
theorem lL_112 : sm_LV RL 112 MX7_falls 1 := ⟨lbX7_falls, List.mem_of_getElem? (i := 1021) rfl, List.mem_of_getElem? (i := 1022) rfl, List.mem_of_getElem? (i := 1023) rfl⟩
set_option maxRecDepth 100000 in
theorem lL_117 : sm_LV RL 117 MX7_odds 3 := ⟨lbX7_odds, List.mem_of_getElem? (i := 1025) rfl, List.mem_of_getElem? (i := 1026) rfl, List.mem_of_getElem? (i := 1027) rfl⟩
set_option maxRecDepth 100000 in
theorem lX7_82 : sm_LS RX7 82 MX7_lost 0 := ⟨lbX7_lost, List.mem_of_getElem? (i := 1029) rfl, List.mem_of_getElem? (i := 1030) rfl⟩
set_option maxRecDepth 100000 in
theorem lX7_222 : sm_LV RX7 222 MX7_blow 2 := ⟨lbX7_blow, List.mem_of_getElem? (i := 1033) rfl, List.mem_of_getElem? (i := 1035) rfl, List.mem_of_getElem? (i := 45) rfl⟩
set_option maxRecDepth 100000 in
theorem lX7_225 : sm_LS RX7 225 MX7_share 3 := ⟨lbX7_share, List.mem_of_getElem? (i := 1037) rfl, List.mem_of_getElem? (i := 1038) rfl⟩
set_option maxRecDepth 100000 in
theorem lL_121 : sm_LV RL 121 MX7_sheet 3 := ⟨lbX7_sheet, List.mem_of_getElem? (i := 1040) rfl, List.mem_of_getElem? (i := 1041) rfl, List.mem_of_getElem? (i := 1042) rfl⟩
set_option maxRecDepth 100000 in
theorem lL_125 : sm_LV RL 125 MX7_lose 1 := ⟨lbX7_lose, List.mem_of_getElem? (i := 1044) rfl, List.mem_of_getElem? (i := 1045) rfl, List.mem_of_getElem? (i := 1046) rfl⟩
set_option maxRecDepth 100000 in
theorem lL_129 : sm_LV RL 129 MX7_put 3 := ⟨lbX7_put, List.mem_of_getElem? (i := 1048) rfl, List.mem_of_getElem? (i := 1049) rfl, List.mem_of_getElem? (i := 1050) rfl⟩
set_option maxRecDepth 100000 in
theorem lX7_231 : sm_LV RX7 231 MX7_noCell 2 := ⟨lbX7_noCell, List.mem_of_getElem? (i := 1052) rfl, List.mem_of_getElem? (i := 1054) rfl, List.mem_of_getElem? (i := 46) rfl⟩
set_option maxRecDepth 100000 in
theorem lL_133 : sm_LV RL 133 MX7_cell 3 := ⟨lbX7_cell, List.mem_of_getElem? (i := 1056) rfl, List.mem_of_getElem? (i := 1057) rfl, List.mem_of_getElem? (i := 1058) rfl⟩
set_option maxRecDepth 100000 in
theorem lX7_234 : sm_LV RX7 234 MX7_failedLong 1 := ⟨lbX7_failedLong, List.mem_of_getElem? (i := 1060) rfl, List.mem_of_getElem? (i := 1062) rfl, List.mem_of_getElem? (i := 47) rfl⟩
set_option maxRecDepth 100000 in
theorem lL_137 : sm_LV RL 137 MX7_copy 5 := ⟨lbX7_copy, List.mem_of_getElem? (i := 1064) rfl, List.mem_of_getElem? (i := 1065) rfl, List.mem_of_getElem? (i := 1066) rfl⟩
set_option maxRecDepth 100000 in
theorem lL_141 : sm_LV RL 141 MX7_tell 1 := ⟨lbX7_tell, List.mem_of_getElem? (i := 1068) rfl, List.mem_of_getElem? (i := 1069) rfl, List.mem_of_getElem? (i := 1070) rfl⟩
set_option maxRecDepth 100000 in
theorem lX7_241 : sm_LV RX7 241 MX7_traced 1 := ⟨lbX7_traced, List.mem_of_getElem? (i := 1072) rfl, List.mem_of_getElem? (i := 1074) rfl, List.mem_of_getElem? (i := 48) rfl⟩
set_option maxRecDepth 100000 in
theorem lL_145 : sm_LV RL 145 MX7_light 1 := ⟨lbX7_light, List.mem_of_getElem? (i := 1076) rfl, List.mem_of_getElem? (i := 1077) rfl, List.mem_of_getElem? (i := 1078) rfl⟩
set_option maxRecDepth 100000 in
theorem lL_149 : sm_LV RL 149 MX7_as 2 := ⟨lbX7_as, List.mem_of_getElem? (i := 1080) rfl, List.mem_of_getElem? (i := 1081) rfl, List.mem_of_getElem? (i := 1082) rfl⟩
set_option maxRecDepth 100000 in
theorem lL_153 : sm_LV RL 153 MX7_trace 0 := ⟨lbX7_trace, List.mem_of_getElem? (i := 1084) rfl, List.mem_of_getElem? (i := 1085) rfl, List.mem_of_getElem? (i := 1086) rfl⟩
set_option maxRecDepth 100000 in
theorem lL_157 : sm_LV RL 157 MX7_fault 0 := ⟨lbX7_fault, List.mem_of_getElem? (i := 1088) rfl, List.mem_of_getElem? (i := 1089) rfl, List.mem_of_getElem? (i := 1090) rfl⟩
set_option maxRecDepth 100000 in
theorem lL_161 : sm_LV RL 161 MX7_many 1 := ⟨lbX7_many, List.mem_of_getElem? (i := 1092) rfl, List.mem_of_getElem? (i := 1093) rfl, List.mem_of_getElem? (i := 1094) rfl⟩
set_option maxRecDepth 100000 in
theorem nL_7 : sm_LC RL 7 6 := ⟨rfl, List.mem_of_getElem? (i := 61) rfl, List.mem_of_getElem? (i := 62) rfl, List.mem_of_getElem? (i := 50) rfl⟩
set_option maxRecDepth 100000 in
theorem oX6_3 : Cond.methodLink RX6 3 objectInit ∈ lw_tbl := List.mem_of_getElem? (i := 66) rfl
set_option maxRecDepth 100000 in
theorem nX6_11 : Cond.classLink RX6 11 "SnowInns$Sheet" ∈ lw_tbl := List.mem_of_getElem? (i := 69) rfl
set_option maxRecDepth 100000 in
theorem nX6_17 : sm_LC RX6 17 2 := ⟨rfl, List.mem_of_getElem? (i := 71) rfl, List.mem_of_getElem? (i := 72) rfl, List.mem_of_getElem? (i := 51) rfl⟩
set_option maxRecDepth 100000 in
theorem oX2_3 : Cond.methodLink RX2 3 objectInit ∈ lw_tbl := List.mem_of_getElem? (i := 76) rfl
set_option maxRecDepth 100000 in
theorem nX6_27 : sm_LC RX6 27 0 := ⟨rfl, List.mem_of_getElem? (i := 146) rfl, List.mem_of_getElem? (i := 147) rfl, List.mem_of_getElem? (i := 52) rfl⟩
set_option maxRecDepth 100000 in
theorem oX0_3 : Cond.methodLink RX0 3 objectInit ∈ lw_tbl := List.mem_of_getElem? (i := 151) rfl
set_option maxRecDepth 100000 in
theorem nX0_9 : Cond.classLink RX0 9 "[[I" ∈ lw_tbl := List.mem_of_getElem? (i := 152) rfl
set_option maxRecDepth 100000 in
theorem nX6_36 : sm_LC RX6 36 1 := ⟨rfl, List.mem_of_getElem? (i := 169) rfl, List.mem_of_getElem? (i := 170) rfl, List.mem_of_getElem? (i := 53) rfl⟩
set_option maxRecDepth 100000 in
theorem oX1_3 : Cond.methodLink RX1 3 objectInit ∈ lw_tbl := List.mem_of_getElem? (i := 174) rfl
set_option maxRecDepth 100000 in
theorem nX6_43 : sm_LC RX6 43 5 := ⟨rfl, List.mem_of_getElem? (i := 189) rfl, List.mem_of_getElem? (i := 190) rfl, List.mem_of_getElem? (i := 54) rfl⟩
set_option maxRecDepth 100000 in
theorem oX5_3 : Cond.methodLink RX5 3 objectInit ∈ lw_tbl := List.mem_of_getElem? (i := 194) rfl
set_option maxRecDepth 100000 in
theorem nX5_9 : sm_LC RX5 9 2 := ⟨rfl, List.mem_of_getElem? (i := 195) rfl, List.mem_of_getElem? (i := 72) rfl, List.mem_of_getElem? (i := 51) rfl⟩
set_option maxRecDepth 100000 in
theorem nX5_18 : sm_LC RX5 18 0 := ⟨rfl, List.mem_of_getElem? (i := 197) rfl, List.mem_of_getElem? (i := 147) rfl, List.mem_of_getElem? (i := 52) rfl⟩
set_option maxRecDepth 100000 in
theorem oX3_3 : Cond.methodLink RX3 3 objectInit ∈ lw_tbl := List.mem_of_getElem? (i := 216) rfl
set_option maxRecDepth 100000 in
theorem nX6_75 : sm_LC RX6 75 4 := ⟨rfl, List.mem_of_getElem? (i := 285) rfl, List.mem_of_getElem? (i := 286) rfl, List.mem_of_getElem? (i := 57) rfl⟩
set_option maxRecDepth 100000 in
theorem oX4_3 : Cond.methodLink RX4 3 objectInit ∈ lw_tbl := List.mem_of_getElem? (i := 290) rfl
set_option maxRecDepth 100000 in
theorem jX2_46 : Cond.methodLink RX2 46 arraycopyName ∈ lw_tbl := List.mem_of_getElem? (i := 344) rfl
set_option maxRecDepth 100000 in
theorem jX2_60 : Cond.methodLink RX2 60 Lib.Math.min.name ∈ lw_tbl := List.mem_of_getElem? (i := 407) rfl
set_option maxRecDepth 100000 in
theorem jX0_64 : Cond.methodLink RX0 64 Lib.Math.min.name ∈ lw_tbl := List.mem_of_getElem? (i := 434) rfl
set_option maxRecDepth 100000 in
theorem jX0_69 : Cond.methodLink RX0 69 Lib.Math.max.name ∈ lw_tbl := List.mem_of_getElem? (i := 435) rfl
set_option maxRecDepth 100000 in
theorem kJ6_265 : Cond.constant RJ6 265 (1431655765) ∈ lw_tbl := List.mem_of_getElem? (i := 450) rfl
set_option maxRecDepth 100000 in
theorem kJ6_266 : Cond.constant RJ6 266 (858993459) ∈ lw_tbl := List.mem_of_getElem? (i := 451) rfl
set_option maxRecDepth 100000 in
theorem kJ6_267 : Cond.constant RJ6 267 (252645135) ∈ lw_tbl := List.mem_of_getElem? (i := 452) rfl
set_option maxRecDepth 100000 in
theorem kX6_196 : Cond.constantLong RX6 196 (-9223372036854775808) ∈ lw_tbl := List.mem_of_getElem? (i := 605) rfl
set_option maxRecDepth 100000 in
theorem jX6_228 : Cond.methodLink RX6 228 arraycopyName ∈ lw_tbl := List.mem_of_getElem? (i := 659) rfl
set_option maxRecDepth 100000 in
theorem nL_10 : sm_LC RL 10 7 := ⟨rfl, List.mem_of_getElem? (i := 708) rfl, List.mem_of_getElem? (i := 709) rfl, List.mem_of_getElem? (i := 56) rfl⟩
set_option maxRecDepth 100000 in
theorem oX7_1 : Cond.methodLink RX7 1 objectInit ∈ lw_tbl := List.mem_of_getElem? (i := 713) rfl
set_option maxRecDepth 100000 in
theorem kX7_229 : Cond.constantLong RX7 229 (3) ∈ lw_tbl := List.mem_of_getElem? (i := 824) rfl
set_option maxRecDepth 100000 in
theorem kX7_144 : Cond.constantLong RX7 144 (2) ∈ lw_tbl := List.mem_of_getElem? (i := 832) rfl
set_option maxRecDepth 100000 in
theorem kX7_171 : Cond.constantLong RX7 171 (5) ∈ lw_tbl := List.mem_of_getElem? (i := 904) rfl
set_option maxRecDepth 100000 in
theorem kX7_173 : Cond.constantLong RX7 173 (9) ∈ lw_tbl := List.mem_of_getElem? (i := 917) rfl
set_option maxRecDepth 100000 in
theorem kX7_77 : Cond.constantLong RX7 77 (-9223372036854775808) ∈ lw_tbl := List.mem_of_getElem? (i := 1032) rfl
