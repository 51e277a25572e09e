abbrev mdX0_init : Md := (yX0_init, cX0_init, 1, none, { frames := 1, cells := 1, slots := 16, locals := 21 })
abbrev mdX0_renew : Md := (yX0_renew, cX0_renew, 2, none, { frames := 0, cells := 0, slots := 0, locals := 0 })
abbrev mdX0_take : Md := (yX0_take, cX0_take, 2, none, { frames := 1, cells := 0, slots := 0, locals := 26 })
abbrev mdX0_hasCell : Md := (yX0_hasCell, cX0_hasCell, 2, (some .boolean), { frames := 0, cells := 0, slots := 0, locals := 0 })
abbrev mdX0_hasWallPlace : Md := (yX0_hasWallPlace, cX0_hasWallPlace, 2, (some .boolean), { frames := 0, cells := 0, slots := 0, locals := 0 })
abbrev mdX0_openingBehind : Md := (yX0_openingBehind, cX0_openingBehind, 2, (some .int), { frames := 1, cells := 0, slots := 0, locals := 21 })
abbrev mdX0_raiseWall : Md := (yX0_raiseWall, cX0_raiseWall, 2, none, { frames := 1, cells := 0, slots := 0, locals := 21 })
abbrev mdX0_breakWall : Md := (yX0_breakWall, cX0_breakWall, 2, none, { frames := 1, cells := 0, slots := 0, locals := 21 })
abbrev mdX0_widen : Md := (yX0_widen, cX0_widen, 2, none, { frames := 1, cells := 0, slots := 0, locals := 21 })
abbrev mdX0_deepen : Md := (yX0_deepen, cX0_deepen, 3, none, { frames := 1, cells := 0, slots := 0, locals := 21 })
abbrev mdX0_fact : Md := (yX0_fact, cX0_fact, 2, (some .int), { frames := 1, cells := 0, slots := 0, locals := 21 })
abbrev mdX0_mixInto : Md := (yX0_mixInto, cX0_mixInto, 6, (some .long), { frames := 2, cells := 0, slots := 0, locals := 42 })
abbrev mdX1_init : Md := (yX1_init, cX1_init, 1, none, { frames := 1, cells := 0, slots := 0, locals := 21 })
abbrev mdX1_build : Md := (yX1_build, cX1_build, 6, none, { frames := 0, cells := 0, slots := 0, locals := 0 })
abbrev mdX1_take : Md := (yX1_take, cX1_take, 2, none, { frames := 0, cells := 0, slots := 0, locals := 0 })
abbrev mdX1_rest : Md := (yX1_rest, cX1_rest, 1, none, { frames := 0, cells := 0, slots := 0, locals := 0 })
abbrev mdX1_strain : Md := (yX1_strain, cX1_strain, 2, (some .int), { frames := 0, cells := 0, slots := 0, locals := 0 })
abbrev mdX1_ride : Md := (yX1_ride, cX1_ride, 5, none, { frames := 1, cells := 0, slots := 0, locals := 21 })
abbrev mdX1_ridden : Md := (yX1_ridden, cX1_ridden, 2, (some .int), { frames := 0, cells := 0, slots := 0, locals := 0 })
abbrev mdX1_mixInto : Md := (yX1_mixInto, cX1_mixInto, 3, (some .long), { frames := 1, cells := 0, slots := 0, locals := 23 })
abbrev mdX1_mixRideInto : Md := (yX1_mixRideInto, cX1_mixRideInto, 3, (some .long), { frames := 1, cells := 0, slots := 0, locals := 23 })
abbrev mdX2_init : Md := (yX2_init, cX2_init, 1, none, { frames := 1, cells := 1, slots := 400, locals := 21 })
abbrev mdX2_look : Md := (yX2_look, cX2_look, 4, none, { frames := 2, cells := 0, slots := 0, locals := 42 })
abbrev mdX2_cross : Md := (yX2_cross, cX2_cross, 2, none, { frames := 1, cells := 0, slots := 0, locals := 21 })
abbrev mdX2_lastLoud : Md := (yX2_lastLoud, cX2_lastLoud, 2, (some .int), { frames := 0, cells := 0, slots := 0, locals := 0 })
abbrev mdX2_haveBeat : Md := (yX2_haveBeat, cX2_haveBeat, 1, (some .boolean), { frames := 0, cells := 0, slots := 0, locals := 0 })
abbrev mdX2_cutBeat : Md := (yX2_cutBeat, cX2_cutBeat, 1, (some .int), { frames := 1, cells := 0, slots := 0, locals := 20 })
abbrev mdX3_init : Md := (yX3_init, cX3_init, 1, none, { frames := 1, cells := 0, slots := 0, locals := 21 })
abbrev mdX3_tell : Md := (yX3_tell, cX3_tell, 4, none, { frames := 2, cells := 0, slots := 0, locals := 46 })
abbrev mdX3_divisor : Md := (yX3_divisor, cX3_divisor, 6, (some .int), { frames := 1, cells := 0, slots := 0, locals := 21 })
abbrev mdX4_init : Md := (yX4_init, cX4_init, 1, none, { frames := 1, cells := 1, slots := 100, locals := 21 })
abbrev mdX4_renew : Md := (yX4_renew, cX4_renew, 3, none, { frames := 1, cells := 0, slots := 0, locals := 21 })
abbrev mdX4_has : Md := (yX4_has, cX4_has, 2, (some .boolean), { frames := 0, cells := 0, slots := 0, locals := 0 })
abbrev mdX4_mixInto : Md := (yX4_mixInto, cX4_mixInto, 6, (some .long), { frames := 1, cells := 0, slots := 0, locals := 23 })
abbrev mdX5_init3 : Md := (yX5_init, cX5_init, 3, none, { frames := 3, cells := 15, slots := 156, locals := 61 })
abbrev mdX5_init48 : Md := (yX5_init, cX5_init, 3, none, { frames := 3, cells := 60, slots := 651, locals := 61 })
abbrev mdX5_clear : Md := (yX5_clear, cX5_clear, 1, none, { frames := 0, cells := 0, slots := 0, locals := 0 })
abbrev mdX5_moor : Md := (yX5_moor, cX5_moor, 4, none, { frames := 1, cells := 0, slots := 0, locals := 21 })
abbrev mdX5_has : Md := (yX5_has, cX5_has, 2, (some .boolean), { frames := 0, cells := 0, slots := 0, locals := 0 })
abbrev mdX5_begin : Md := (yX5_begin, cX5_begin, 3, none, { frames := 3, cells := 0, slots := 0, locals := 70 })
abbrev mdX5_pass : Md := (yX5_pass, cX5_pass, 5, none, { frames := 2, cells := 0, slots := 0, locals := 45 })
abbrev mdX5_wake : Md := (yX5_wake, cX5_wake, 3, none, { frames := 4, cells := 0, slots := 0, locals := 92 })
abbrev mdX5_pullOf : Md := (yX5_pullOf, cX5_pullOf, 2, (some .int), { frames := 1, cells := 0, slots := 0, locals := 21 })
abbrev mdX5_partedOf : Md := (yX5_partedOf, cX5_partedOf, 2, (some .int), { frames := 1, cells := 0, slots := 0, locals := 21 })
abbrev mdX5_leastPulled : Md := (yX5_leastPulled, cX5_leastPulled, 3, (some .int), { frames := 2, cells := 0, slots := 0, locals := 42 })
abbrev mdX5_take : Md := (yX5_take, cX5_take, 3, none, { frames := 3, cells := 0, slots := 0, locals := 68 })
abbrev mdX5_mixInto : Md := (yX5_mixInto, cX5_mixInto, 6, (some .long), { frames := 3, cells := 0, slots := 0, locals := 64 })
abbrev mdX6_init : Md := (yX6_init, cX6_init, 1, none, { frames := 1, cells := 1, slots := 60, locals := 21 })
abbrev mdX6_renew : Md := (yX6_renew, cX6_renew, 3, none, { frames := 1, cells := 0, slots := 0, locals := 21 })
abbrev mdX6_has : Md := (yX6_has, cX6_has, 2, (some .boolean), { frames := 0, cells := 0, slots := 0, locals := 0 })
abbrev mdX6_hasRun : Md := (yX6_hasRun, cX6_hasRun, 3, (some .boolean), { frames := 0, cells := 0, slots := 0, locals := 0 })
abbrev mdX6_allWithin : Md := (yX6_allWithin, cX6_allWithin, 4, (some .boolean), { frames := 1, cells := 0, slots := 0, locals := 22 })
abbrev mdX6_sum : Md := (yX6_sum, cX6_sum, 4, (some .long), { frames := 0, cells := 0, slots := 0, locals := 0 })
abbrev mdX6_mixInto : Md := (yX6_mixInto, cX6_mixInto, 6, (some .long), { frames := 1, cells := 0, slots := 0, locals := 23 })
abbrev mdX7_init : Md := (yX7_init, cX7_init, 1, none, { frames := 2, cells := 7, slots := 138, locals := 41 })
abbrev mdX7_readHarbour : Md := (yX7_readHarbour, cX7_readHarbour, 4, (some .int), { frames := 6, cells := 0, slots := 0, locals := 129 })
abbrev mdX7_readSea : Md := (yX7_readSea, cX7_readSea, 3, (some .int), { frames := 5, cells := 0, slots := 0, locals := 109 })
abbrev mdX7_harbourItem : Md := (yX7_harbourItem, cX7_harbourItem, 1, (some .boolean), { frames := 5, cells := 0, slots := 0, locals := 109 })
abbrev mdX7_depthItem : Md := (yX7_depthItem, cX7_depthItem, 3, (some .boolean), { frames := 4, cells := 0, slots := 0, locals := 87 })
abbrev mdX7_wallItem : Md := (yX7_wallItem, cX7_wallItem, 2, (some .boolean), { frames := 4, cells := 0, slots := 0, locals := 87 })
abbrev mdX7_mouthItem : Md := (yX7_mouthItem, cX7_mouthItem, 3, (some .boolean), { frames := 4, cells := 0, slots := 0, locals := 87 })
abbrev mdX7_rubItem : Md := (yX7_rubItem, cX7_rubItem, 2, (some .boolean), { frames := 3, cells := 0, slots := 0, locals := 63 })
abbrev mdX7_seaItem : Md := (yX7_seaItem, cX7_seaItem, 3, (some .boolean), { frames := 4, cells := 0, slots := 0, locals := 87 })
abbrev mdX7_open : Md := (yX7_open, cX7_open, 2, none, { frames := 0, cells := 0, slots := 0, locals := 0 })
abbrev mdX7_sign : Md := (yX7_sign, cX7_sign, 1, (some .int), { frames := 1, cells := 0, slots := 0, locals := 21 })
abbrev mdX7_take : Md := (yX7_take, cX7_take, 2, (some .boolean), { frames := 2, cells := 0, slots := 0, locals := 41 })
abbrev mdX7_skipBlanks : Md := (yX7_skipBlanks, cX7_skipBlanks, 2, none, { frames := 2, cells := 0, slots := 0, locals := 41 })
abbrev mdX7_figure : Md := (yX7_figure, cX7_figure, 3, (some .int), { frames := 2, cells := 0, slots := 0, locals := 41 })
abbrev mdX7_number : Md := (yX7_number, cX7_number, 5, (some .int), { frames := 3, cells := 0, slots := 0, locals := 63 })
abbrev mdX8_init : Md := (yX8_init, cX8_init, 1, none, { frames := 1, cells := 2, slots := 8, locals := 21 })
abbrev mdX8_renew : Md := (yX8_renew, cX8_renew, 1, none, { frames := 0, cells := 0, slots := 0, locals := 0 })
abbrev mdX8_take : Md := (yX8_take, cX8_take, 2, none, { frames := 1, cells := 0, slots := 0, locals := 26 })
abbrev mdX8_hasSet : Md := (yX8_hasSet, cX8_hasSet, 2, (some .boolean), { frames := 0, cells := 0, slots := 0, locals := 0 })
abbrev mdX8_add : Md := (yX8_add, cX8_add, 3, none, { frames := 0, cells := 0, slots := 0, locals := 0 })
abbrev mdX8_pushAt : Md := (yX8_pushAt, cX8_pushAt, 4, (some .int), { frames := 0, cells := 0, slots := 0, locals := 0 })
abbrev mdX8_mixInto : Md := (yX8_mixInto, cX8_mixInto, 6, (some .long), { frames := 1, cells := 0, slots := 0, locals := 23 })
abbrev mdX9_init : Md := (yX9_init, cX9_init, 1, none, { frames := 2, cells := 10, slots := 115, locals := 41 })
abbrev mdX9_begin : Md := (yX9_begin, cX9_begin, 4, none, { frames := 2, cells := 0, slots := 0, locals := 47 })
abbrev mdX9_lift : Md := (yX9_lift, cX9_lift, 3, none, { frames := 1, cells := 0, slots := 0, locals := 21 })
abbrev mdX9_take : Md := (yX9_take, cX9_take, 2, none, { frames := 2, cells := 0, slots := 0, locals := 47 })
abbrev mdX9_pass : Md := (yX9_pass, cX9_pass, 1, none, { frames := 1, cells := 0, slots := 0, locals := 24 })
abbrev mdX9_stream : Md := (yX9_stream, cX9_stream, 3, none, { frames := 0, cells := 0, slots := 0, locals := 0 })
abbrev mdX9_rise : Md := (yX9_rise, cX9_rise, 5, none, { frames := 0, cells := 0, slots := 0, locals := 0 })
abbrev mdX9_flowsAt : Md := (yX9_flowsAt, cX9_flowsAt, 2, (some .int), { frames := 1, cells := 0, slots := 0, locals := 21 })
abbrev mdX9_range : Md := (yX9_range, cX9_range, 2, (some .int), { frames := 1, cells := 0, slots := 0, locals := 21 })
abbrev mdX9_wildest : Md := (yX9_wildest, cX9_wildest, 3, (some .int), { frames := 2, cells := 0, slots := 0, locals := 42 })
abbrev mdX9_stillest : Md := (yX9_stillest, cX9_stillest, 3, (some .int), { frames := 2, cells := 0, slots := 0, locals := 42 })
abbrev mdX9_whole : Md := (yX9_whole, cX9_whole, 3, (some .int), { frames := 0, cells := 0, slots := 0, locals := 0 })
abbrev mdX9_fact : Md := (yX9_fact, cX9_fact, 3, (some .int), { frames := 2, cells := 0, slots := 0, locals := 42 })
abbrev mdX10_init : Md := (yX10_init, cX10_init, 1, none, { frames := 1, cells := 0, slots := 0, locals := 21 })
abbrev mdX10_plan : Md := (yX10_plan, cX10_plan, 5, none, { frames := 0, cells := 0, slots := 0, locals := 0 })
abbrev mdX10_change : Md := (yX10_change, cX10_change, 2, none, { frames := 2, cells := 0, slots := 0, locals := 43 })
abbrev mdX10_mixInto : Md := (yX10_mixInto, cX10_mixInto, 3, (some .long), { frames := 1, cells := 0, slots := 0, locals := 23 })
abbrev mdX11_init : Md := (yX11_init, cX11_init, 2, none, { frames := 4, cells := 199, slots := 2908, locals := 83 })
abbrev mdX11_within : Md := (yX11_within, cX11_within, 3, (some .boolean), { frames := 0, cells := 0, slots := 0, locals := 0 })
abbrev mdX11_isRow : Md := (yX11_isRow, cX11_isRow, 1, (some .boolean), { frames := 1, cells := 0, slots := 0, locals := 22 })
abbrev mdX11_isText : Md := (yX11_isText, cX11_isText, 1, (some .boolean), { frames := 1, cells := 0, slots := 0, locals := 22 })
abbrev mdX11_isHarbour : Md := (yX11_isHarbour, cX11_isHarbour, 1, (some .boolean), { frames := 1, cells := 0, slots := 0, locals := 22 })
abbrev mdX11_isSea : Md := (yX11_isSea, cX11_isSea, 1, (some .boolean), { frames := 1, cells := 0, slots := 0, locals := 22 })
abbrev mdX11_isShip : Md := (yX11_isShip, cX11_isShip, 1, (some .boolean), { frames := 1, cells := 0, slots := 0, locals := 22 })
abbrev mdX11_isCell : Md := (yX11_isCell, cX11_isCell, 1, (some .boolean), { frames := 1, cells := 0, slots := 0, locals := 22 })
abbrev mdX11_refuse : Md := (yX11_refuse, cX11_refuse, 2, (some .int), { frames := 1, cells := 0, slots := 0, locals := 22 })
abbrev mdX11_tell : Md := (yX11_tell, cX11_tell, 3, (some .int), { frames := 0, cells := 0, slots := 0, locals := 0 })
abbrev mdX11_anySea : Md := (yX11_anySea, cX11_anySea, 2, (some .boolean), { frames := 0, cells := 0, slots := 0, locals := 0 })
abbrev mdX11_row : Md := (yX11_row, cX11_row, 3, (some .int), { frames := 2, cells := 0, slots := 0, locals := 43 })
abbrev mdX11_lay : Md := (yX11_lay, cX11_lay, 4, (some .int), { frames := 2, cells := 0, slots := 0, locals := 43 })
abbrev mdX11_at : Md := (yX11_at, cX11_at, 3, (some .int), { frames := 2, cells := 0, slots := 0, locals := 43 })
abbrev mdX11_tear : Md := (yX11_tear, cX11_tear, 2, (some .int), { frames := 2, cells := 0, slots := 0, locals := 43 })
abbrev mdX11_copy : Md := (yX11_copy, cX11_copy, 6, (some .int), { frames := 2, cells := 0, slots := 0, locals := 43 })
abbrev mdX11_mean : Md := (yX11_mean, cX11_mean, 2, (some .int), { frames := 2, cells := 0, slots := 0, locals := 43 })
abbrev mdX11_text : Md := (yX11_text, cX11_text, 3, (some .int), { frames := 2, cells := 0, slots := 0, locals := 43 })
abbrev mdX11_put : Md := (yX11_put, cX11_put, 5, (some .int), { frames := 2, cells := 0, slots := 0, locals := 43 })
abbrev mdX11_fault : Md := (yX11_fault, cX11_fault, 3, (some .int), { frames := 7, cells := 0, slots := 0, locals := 152 })
abbrev mdX11_harbour : Md := (yX11_harbour, cX11_harbour, 3, (some .int), { frames := 7, cells := 0, slots := 0, locals := 152 })
abbrev mdX11_sea : Md := (yX11_sea, cX11_sea, 3, (some .int), { frames := 6, cells := 0, slots := 0, locals := 131 })
abbrev mdX11_about : Md := (yX11_about, cX11_about, 3, (some .int), { frames := 2, cells := 0, slots := 0, locals := 43 })
abbrev mdX11_set : Md := (yX11_set, cX11_set, 3, (some .int), { frames := 2, cells := 0, slots := 0, locals := 43 })
abbrev mdX11_ship : Md := (yX11_ship, cX11_ship, 7, (some .int), { frames := 2, cells := 0, slots := 0, locals := 42 })
abbrev mdX11_leave : Md := (yX11_leave, cX11_leave, 2, (some .int), { frames := 2, cells := 0, slots := 0, locals := 42 })
abbrev mdX11_night : Md := (yX11_night, cX11_night, 4, (some .int), { frames := 4, cells := 0, slots := 0, locals := 92 })
abbrev mdX11_go : Md := (yX11_go, cX11_go, 2, (some .int), { frames := 3, cells := 0, slots := 0, locals := 69 })
abbrev mdX11_cell : Md := (yX11_cell, cX11_cell, 3, (some .int), { frames := 3, cells := 0, slots := 0, locals := 64 })
abbrev mdX11_rides : Md := (yX11_rides, cX11_rides, 3, (some .int), { frames := 2, cells := 0, slots := 0, locals := 42 })
abbrev mdX11_gauge : Md := (yX11_gauge, cX11_gauge, 5, (some .int), { frames := 3, cells := 0, slots := 0, locals := 69 })
abbrev mdX11_keep : Md := (yX11_keep, cX11_keep, 2, (some .int), { frames := 4, cells := 0, slots := 0, locals := 90 })
abbrev mdX11_on : Md := (yX11_on, cX11_on, 2, (some .int), { frames := 4, cells := 0, slots := 0, locals := 90 })
abbrev mdX11_water : Md := (yX11_water, cX11_water, 1, (some .int), { frames := 1, cells := 0, slots := 0, locals := 22 })
abbrev mdX11_beat : Md := (yX11_beat, cX11_beat, 2, (some .int), { frames := 4, cells := 0, slots := 0, locals := 89 })
abbrev mdX11_span : Md := (yX11_span, cX11_span, 2, (some .int), { frames := 3, cells := 0, slots := 0, locals := 65 })
abbrev mdX11_ring : Md := (yX11_ring, cX11_ring, 3, (some .int), { frames := 4, cells := 0, slots := 0, locals := 94 })
abbrev mdX11_roll : Md := (yX11_roll, cX11_roll, 2, (some .int), { frames := 4, cells := 0, slots := 0, locals := 89 })
abbrev mdX11_kind : Md := (yX11_kind, cX11_kind, 5, (some .int), { frames := 6, cells := 0, slots := 0, locals := 142 })
abbrev mdX11_mark : Md := (yX11_mark, cX11_mark, 8, (some .int), { frames := 6, cells := 0, slots := 0, locals := 142 })
abbrev mdX11_tellBeat : Md := (yX11_tellBeat, cX11_tellBeat, 1, (some .int), { frames := 3, cells := 0, slots := 0, locals := 69 })
abbrev mdX11_hearRing : Md := (yX11_hearRing, cX11_hearRing, 5, none, { frames := 3, cells := 0, slots := 0, locals := 70 })
abbrev mdX11_hearRoll : Md := (yX11_hearRoll, cX11_hearRoll, 3, none, { frames := 3, cells := 0, slots := 0, locals := 65 })
abbrev mdX11_kindOf : Md := (yX11_kindOf, cX11_kindOf, 5, (some .int), { frames := 5, cells := 0, slots := 0, locals := 118 })
abbrev mdX11_kindOfRing : Md := (yX11_kindOfRing, cX11_kindOfRing, 3, (some .int), { frames := 4, cells := 0, slots := 0, locals := 94 })
abbrev mdX11_kindOfSet : Md := (yX11_kindOfSet, cX11_kindOfSet, 5, (some .int), { frames := 4, cells := 0, slots := 0, locals := 94 })
abbrev mdX11_beatOfSet : Md := (yX11_beatOfSet, cX11_beatOfSet, 3, (some .int), { frames := 2, cells := 0, slots := 0, locals := 42 })
abbrev mdX11_kindOfRoll : Md := (yX11_kindOfRoll, cX11_kindOfRoll, 2, (some .int), { frames := 4, cells := 0, slots := 0, locals := 87 })
abbrev mdX11_quiet : Md := (yX11_quiet, cX11_quiet, 4, (some .int), { frames := 6, cells := 0, slots := 0, locals := 136 })
abbrev mdX11_still : Md := (yX11_still, cX11_still, 4, (some .int), { frames := 5, cells := 0, slots := 0, locals := 114 })
abbrev mdX11_wakes : Md := (yX11_wakes, cX11_wakes, 6, (some .int), { frames := 6, cells := 0, slots := 0, locals := 136 })
abbrev mdX11_pull : Md := (yX11_pull, cX11_pull, 5, (some .int), { frames := 6, cells := 0, slots := 0, locals := 137 })
abbrev mdX11_tight : Md := (yX11_tight, cX11_tight, 6, (some .int), { frames := 5, cells := 0, slots := 0, locals := 114 })
abbrev mdX11_where : Md := (yX11_where, cX11_where, 6, (some .int), { frames := 5, cells := 0, slots := 0, locals := 114 })
abbrev mdX11_tonight : Md := (yX11_tonight, cX11_tonight, 7, (some .int), { frames := 5, cells := 0, slots := 0, locals := 114 })
abbrev mdX11_odds : Md := (yX11_odds, cX11_odds, 5, (some .int), { frames := 6, cells := 0, slots := 0, locals := 137 })
abbrev mdX11_refusedShip : Md := (yX11_refusedShip, cX11_refusedShip, 4, (some .int), { frames := 2, cells := 0, slots := 0, locals := 43 })
abbrev mdX11_wakeShip : Md := (yX11_wakeShip, cX11_wakeShip, 4, none, { frames := 5, cells := 0, slots := 0, locals := 114 })
abbrev mdX11_quietOf : Md := (yX11_quietOf, cX11_quietOf, 3, (some .int), { frames := 5, cells := 0, slots := 0, locals := 114 })
abbrev mdX11_moorEverywhere : Md := (yX11_moorEverywhere, cX11_moorEverywhere, 4, none, { frames := 2, cells := 0, slots := 0, locals := 44 })
abbrev mdX11_bestBerths : Md := (yX11_bestBerths, cX11_bestBerths, 10, (some .int), { frames := 3, cells := 0, slots := 0, locals := 66 })
abbrev mdX11_spreadBerths : Md := (yX11_spreadBerths, cX11_spreadBerths, 7, none, { frames := 1, cells := 0, slots := 0, locals := 21 })
abbrev mdX11_apart : Md := (yX11_apart, cX11_apart, 4, (some .boolean), { frames := 0, cells := 0, slots := 0, locals := 0 })
abbrev mdX11_partingOf : Md := (yX11_partingOf, cX11_partingOf, 5, (some .int), { frames := 2, cells := 0, slots := 0, locals := 42 })
abbrev mdX11_pullsOf : Md := (yX11_pullsOf, cX11_pullsOf, 5, (some .int), { frames := 2, cells := 0, slots := 0, locals := 42 })
abbrev mdX11_work : Md := (yX11_work, cX11_work, 5, (some .int), { frames := 2, cells := 0, slots := 0, locals := 42 })
abbrev mdX11_back : Md := (yX11_back, cX11_back, 3, (some .int), { frames := 1, cells := 0, slots := 0, locals := 22 })
abbrev mdX11_does : Md := (yX11_does, cX11_does, 4, (some .int), { frames := 7, cells := 0, slots := 0, locals := 160 })
abbrev mdX11_worse : Md := (yX11_worse, cX11_worse, 8, (some .int), { frames := 7, cells := 0, slots := 0, locals := 160 })
abbrev mdX11_least : Md := (yX11_least, cX11_least, 10, (some .int), { frames := 7, cells := 0, slots := 0, locals := 160 })
abbrev mdX11_since : Md := (yX11_since, cX11_since, 8, (some .int), { frames := 4, cells := 0, slots := 0, locals := 97 })
abbrev mdX11_which : Md := (yX11_which, cX11_which, 8, (some .int), { frames := 4, cells := 0, slots := 0, locals := 97 })
abbrev mdX11_allWorks : Md := (yX11_allWorks, cX11_allWorks, 1, (some .int), { frames := 0, cells := 0, slots := 0, locals := 0 })
abbrev mdX11_costOf : Md := (yX11_costOf, cX11_costOf, 4, (some .int), { frames := 0, cells := 0, slots := 0, locals := 0 })
abbrev mdX11_quietWith : Md := (yX11_quietWith, cX11_quietWith, 5, (some .int), { frames := 6, cells := 0, slots := 0, locals := 136 })
abbrev mdX11_offOf : Md := (yX11_offOf, cX11_offOf, 8, (some .int), { frames := 3, cells := 0, slots := 0, locals := 70 })
abbrev mdX11_asked : Md := (yX11_asked, cX11_asked, 1, (some .int), { frames := 0, cells := 0, slots := 0, locals := 0 })
abbrev mdX11_upper : Md := (yX11_upper, cX11_upper, 1, (some .long), { frames := 0, cells := 0, slots := 0, locals := 0 })
abbrev mdX11_lower : Md := (yX11_lower, cX11_lower, 1, (some .long), { frames := 0, cells := 0, slots := 0, locals := 0 })
abbrev mdX11_count : Md := (yX11_count, cX11_count, 2, (some .int), { frames := 1, cells := 0, slots := 0, locals := 22 })
abbrev mdX11_finding : Md := (yX11_finding, cX11_finding, 1, (some .int), { frames := 0, cells := 0, slots := 0, locals := 0 })
abbrev mdX11_findings : Md := (yX11_findings, cX11_findings, 2, (some .int), { frames := 1, cells := 0, slots := 0, locals := 22 })
abbrev mdX11_digest : Md := (yX11_digest, cX11_digest, 4, (some .long), { frames := 4, cells := 0, slots := 0, locals := 89 })
abbrev mdX11_mix : Md := (yX11_mix, cX11_mix, 4, (some .long), { frames := 0, cells := 0, slots := 0, locals := 0 })
abbrev mdX11_harboursThere : Md := (yX11_harboursThere, cX11_harboursThere, 3, (some .int), { frames := 0, cells := 0, slots := 0, locals := 0 })
abbrev mdX11_seasThere : Md := (yX11_seasThere, cX11_seasThere, 3, (some .int), { frames := 0, cells := 0, slots := 0, locals := 0 })
abbrev mdX11_shipsThere : Md := (yX11_shipsThere, cX11_shipsThere, 3, (some .int), { frames := 0, cells := 0, slots := 0, locals := 0 })
abbrev mdX11_keptThere : Md := (yX11_keptThere, cX11_keptThere, 3, (some .int), { frames := 0, cells := 0, slots := 0, locals := 0 })
abbrev mdX11_rowsThere : Md := (yX11_rowsThere, cX11_rowsThere, 3, (some .int), { frames := 0, cells := 0, slots := 0, locals := 0 })
abbrev mdX11_textsThere : Md := (yX11_textsThere, cX11_textsThere, 3, (some .int), { frames := 0, cells := 0, slots := 0, locals := 0 })
abbrev mdX12_init : Md := (yX12_init, cX12_init, 2, none, { frames := 1, cells := 22, slots := 2159, locals := 21 })
abbrev mdX12_in : Md := (yX12_in, cX12_in, 3, (some .boolean), { frames := 0, cells := 0, slots := 0, locals := 0 })
abbrev mdX12_has : Md := (yX12_has, cX12_has, 2, (some .boolean), { frames := 0, cells := 0, slots := 0, locals := 0 })
abbrev mdX12_lesser : Md := (yX12_lesser, cX12_lesser, 2, (some .int), { frames := 0, cells := 0, slots := 0, locals := 0 })
abbrev mdX12_greater : Md := (yX12_greater, cX12_greater, 2, (some .int), { frames := 0, cells := 0, slots := 0, locals := 0 })
abbrev mdX12_far : Md := (yX12_far, cX12_far, 2, (some .int), { frames := 0, cells := 0, slots := 0, locals := 0 })
abbrev mdX12_meets : Md := (yX12_meets, cX12_meets, 2, (some .int), { frames := 0, cells := 0, slots := 0, locals := 0 })
abbrev mdX12_finding : Md := (yX12_finding, cX12_finding, 1, (some .int), { frames := 0, cells := 0, slots := 0, locals := 0 })
abbrev mdX12_findings : Md := (yX12_findings, cX12_findings, 2, (some .int), { frames := 1, cells := 0, slots := 0, locals := 22 })
abbrev mdX12_tells : Md := (yX12_tells, cX12_tells, 3, (some .int), { frames := 0, cells := 0, slots := 0, locals := 0 })
abbrev mdX12_asked : Md := (yX12_asked, cX12_asked, 1, (some .int), { frames := 0, cells := 0, slots := 0, locals := 0 })
abbrev mdX12_fraction : Md := (yX12_fraction, cX12_fraction, 12, (some .int), { frames := 0, cells := 0, slots := 0, locals := 0 })
abbrev mdX12_upper : Md := (yX12_upper, cX12_upper, 1, (some .long), { frames := 0, cells := 0, slots := 0, locals := 0 })
abbrev mdX12_lower : Md := (yX12_lower, cX12_lower, 1, (some .long), { frames := 0, cells := 0, slots := 0, locals := 0 })
abbrev mdX12_isRow : Md := (yX12_isRow, cX12_isRow, 1, (some .boolean), { frames := 1, cells := 0, slots := 0, locals := 22 })
abbrev mdX12_rowAt : Md := (yX12_rowAt, cX12_rowAt, 3, (some .int), { frames := 0, cells := 0, slots := 0, locals := 0 })
abbrev mdX12_row : Md := (yX12_row, cX12_row, 4, (some .int), { frames := 2, cells := 0, slots := 0, locals := 42 })
abbrev mdX12_lay : Md := (yX12_lay, cX12_lay, 5, (some .int), { frames := 2, cells := 0, slots := 0, locals := 42 })
abbrev mdX12_at : Md := (yX12_at, cX12_at, 3, (some .int), { frames := 2, cells := 0, slots := 0, locals := 42 })
abbrev mdX12_tear : Md := (yX12_tear, cX12_tear, 2, (some .int), { frames := 2, cells := 0, slots := 0, locals := 42 })
abbrev mdX12_copy : Md := (yX12_copy, cX12_copy, 7, (some .int), { frames := 2, cells := 0, slots := 0, locals := 42 })
abbrev mdX12_mean : Md := (yX12_mean, cX12_mean, 5, (some .int), { frames := 2, cells := 0, slots := 0, locals := 42 })
abbrev mdX12_isText : Md := (yX12_isText, cX12_isText, 1, (some .boolean), { frames := 1, cells := 0, slots := 0, locals := 22 })
abbrev mdX12_text : Md := (yX12_text, cX12_text, 4, (some .int), { frames := 2, cells := 0, slots := 0, locals := 42 })
abbrev mdX12_put : Md := (yX12_put, cX12_put, 5, (some .int), { frames := 2, cells := 0, slots := 0, locals := 42 })
abbrev mdX12_byteAt : Md := (yX12_byteAt, cX12_byteAt, 3, (some .int), { frames := 0, cells := 0, slots := 0, locals := 0 })
abbrev mdX12_sign : Md := (yX12_sign, cX12_sign, 4, (some .boolean), { frames := 1, cells := 0, slots := 0, locals := 22 })
abbrev mdX12_number : Md := (yX12_number, cX12_number, 6, (some .boolean), { frames := 1, cells := 0, slots := 0, locals := 22 })
abbrev mdX12_figure : Md := (yX12_figure, cX12_figure, 4, (some .boolean), { frames := 1, cells := 0, slots := 0, locals := 22 })
abbrev mdX12_readsCells : Md := (yX12_readsCells, cX12_readsCells, 2, (some .boolean), { frames := 2, cells := 0, slots := 0, locals := 47 })
abbrev mdX12_readsItem : Md := (yX12_readsItem, cX12_readsItem, 5, (some .boolean), { frames := 2, cells := 0, slots := 0, locals := 47 })
abbrev mdX12_harbourFault : Md := (yX12_harbourFault, cX12_harbourFault, 3, (some .int), { frames := 3, cells := 0, slots := 0, locals := 71 })
abbrev mdX12_readsSet : Md := (yX12_readsSet, cX12_readsSet, 3, (some .boolean), { frames := 2, cells := 0, slots := 0, locals := 47 })
abbrev mdX12_seaFault : Md := (yX12_seaFault, cX12_seaFault, 2, (some .int), { frames := 3, cells := 0, slots := 0, locals := 69 })
abbrev mdX12_fault : Md := (yX12_fault, cX12_fault, 3, (some .int), { frames := 4, cells := 0, slots := 0, locals := 93 })
abbrev mdX12_isPlace : Md := (yX12_isPlace, cX12_isPlace, 1, (some .boolean), { frames := 1, cells := 0, slots := 0, locals := 22 })
abbrev mdX12_harbour : Md := (yX12_harbour, cX12_harbour, 4, (some .int), { frames := 4, cells := 0, slots := 0, locals := 93 })
abbrev mdX12_sea : Md := (yX12_sea, cX12_sea, 4, (some .int), { frames := 4, cells := 0, slots := 0, locals := 90 })
abbrev mdX12_about : Md := (yX12_about, cX12_about, 3, (some .int), { frames := 2, cells := 0, slots := 0, locals := 42 })
abbrev mdX12_set : Md := (yX12_set, cX12_set, 3, (some .int), { frames := 2, cells := 0, slots := 0, locals := 42 })
abbrev mdX12_isShipTold : Md := (yX12_isShipTold, cX12_isShipTold, 1, (some .boolean), { frames := 1, cells := 0, slots := 0, locals := 22 })
abbrev mdX12_ship : Md := (yX12_ship, cX12_ship, 8, (some .int), { frames := 2, cells := 0, slots := 0, locals := 42 })
abbrev mdX12_leave : Md := (yX12_leave, cX12_leave, 2, (some .int), { frames := 2, cells := 0, slots := 0, locals := 42 })
abbrev mdX12_v : Md := (yX12_v, cX12_v, 2, (some .int), { frames := 0, cells := 0, slots := 0, locals := 0 })
abbrev mdX12_put_ : Md := (yX12_put_, cX12_put_, 3, none, { frames := 0, cells := 0, slots := 0, locals := 0 })
abbrev mdX12_look : Md := (yX12_look, cX12_look, 2, none, { frames := 0, cells := 0, slots := 0, locals := 0 })
abbrev mdX12_copyNight : Md := (yX12_copyNight, cX12_copyNight, 4, none, { frames := 0, cells := 0, slots := 0, locals := 0 })
abbrev mdX12_layHarbour : Md := (yX12_layHarbour, cX12_layHarbour, 3, none, { frames := 1, cells := 0, slots := 0, locals := 22 })
abbrev mdX12_laySea : Md := (yX12_laySea, cX12_laySea, 3, none, { frames := 1, cells := 0, slots := 0, locals := 22 })
abbrev mdX12_begins : Md := (yX12_begins, cX12_begins, 2, none, { frames := 1, cells := 0, slots := 0, locals := 22 })
abbrev mdX12_rider : Md := (yX12_rider, cX12_rider, 1, (some .int), { frames := 0, cells := 0, slots := 0, locals := 0 })
abbrev mdX12_layShip : Md := (yX12_layShip, cX12_layShip, 4, none, { frames := 1, cells := 0, slots := 0, locals := 22 })
abbrev mdX12_night : Md := (yX12_night, cX12_night, 4, (some .int), { frames := 2, cells := 0, slots := 0, locals := 45 })
abbrev mdX12_pushAt : Md := (yX12_pushAt, cX12_pushAt, 6, (some .int), { frames := 1, cells := 0, slots := 0, locals := 21 })
abbrev mdX12_flows : Md := (yX12_flows, cX12_flows, 3, none, { frames := 1, cells := 0, slots := 0, locals := 22 })
abbrev mdX12_flowTo : Md := (yX12_flowTo, cX12_flowTo, 2, (some .int), { frames := 1, cells := 0, slots := 0, locals := 21 })
abbrev mdX12_flowFrom : Md := (yX12_flowFrom, cX12_flowFrom, 2, (some .int), { frames := 1, cells := 0, slots := 0, locals := 21 })
abbrev mdX12_heights : Md := (yX12_heights, cX12_heights, 3, none, { frames := 2, cells := 0, slots := 0, locals := 42 })
abbrev mdX12_strainOf : Md := (yX12_strainOf, cX12_strainOf, 4, (some .int), { frames := 0, cells := 0, slots := 0, locals := 0 })
abbrev mdX12_moves : Md := (yX12_moves, cX12_moves, 7, none, { frames := 1, cells := 0, slots := 0, locals := 23 })
abbrev mdX12_watches : Md := (yX12_watches, cX12_watches, 3, none, { frames := 1, cells := 0, slots := 0, locals := 23 })
abbrev mdX12_second : Md := (yX12_second, cX12_second, 4, none, { frames := 3, cells := 0, slots := 0, locals := 64 })
abbrev mdX12_range : Md := (yX12_range, cX12_range, 2, (some .int), { frames := 1, cells := 0, slots := 0, locals := 21 })
abbrev mdX12_go : Md := (yX12_go, cX12_go, 3, (some .int), { frames := 4, cells := 0, slots := 0, locals := 87 })
abbrev mdX12_cell : Md := (yX12_cell, cX12_cell, 3, (some .int), { frames := 2, cells := 0, slots := 0, locals := 42 })
abbrev mdX12_ridesTells : Md := (yX12_ridesTells, cX12_ridesTells, 3, (some .int), { frames := 1, cells := 0, slots := 0, locals := 21 })
abbrev mdX12_rides : Md := (yX12_rides, cX12_rides, 3, (some .int), { frames := 2, cells := 0, slots := 0, locals := 43 })
abbrev mdX12_gauge : Md := (yX12_gauge, cX12_gauge, 5, (some .int), { frames := 4, cells := 0, slots := 0, locals := 87 })
abbrev mdX12_keep : Md := (yX12_keep, cX12_keep, 2, (some .int), { frames := 1, cells := 0, slots := 0, locals := 23 })
abbrev mdX12_on : Md := (yX12_on, cX12_on, 2, (some .int), { frames := 1, cells := 0, slots := 0, locals := 23 })
abbrev mdX12_water : Md := (yX12_water, cX12_water, 3, (some .int), { frames := 1, cells := 0, slots := 0, locals := 22 })
abbrev mdX12_crosses : Md := (yX12_crosses, cX12_crosses, 3, none, { frames := 1, cells := 0, slots := 0, locals := 21 })
abbrev mdX12_isBeat : Md := (yX12_isBeat, cX12_isBeat, 1, (some .boolean), { frames := 0, cells := 0, slots := 0, locals := 0 })
abbrev mdX12_beatCut : Md := (yX12_beatCut, cX12_beatCut, 1, (some .int), { frames := 0, cells := 0, slots := 0, locals := 0 })
abbrev mdX12_tellsBeat : Md := (yX12_tellsBeat, cX12_tellsBeat, 1, (some .int), { frames := 1, cells := 0, slots := 0, locals := 31 })
abbrev mdX12_needHeard : Md := (yX12_needHeard, cX12_needHeard, 3, (some .int), { frames := 2, cells := 0, slots := 0, locals := 43 })
abbrev mdX12_beat : Md := (yX12_beat, cX12_beat, 3, (some .int), { frames := 3, cells := 0, slots := 0, locals := 65 })
abbrev mdX12_span : Md := (yX12_span, cX12_span, 3, (some .int), { frames := 3, cells := 0, slots := 0, locals := 65 })
abbrev mdX12_layRing : Md := (yX12_layRing, cX12_layRing, 4, none, { frames := 4, cells := 0, slots := 0, locals := 87 })
abbrev mdX12_layRoll : Md := (yX12_layRoll, cX12_layRoll, 4, none, { frames := 2, cells := 0, slots := 0, locals := 49 })
abbrev mdX12_ring : Md := (yX12_ring, cX12_ring, 3, (some .int), { frames := 5, cells := 0, slots := 0, locals := 110 })
abbrev mdX12_roll : Md := (yX12_roll, cX12_roll, 2, (some .int), { frames := 3, cells := 0, slots := 0, locals := 72 })
abbrev mdX12_isLoud : Md := (yX12_isLoud, cX12_isLoud, 2, (some .boolean), { frames := 0, cells := 0, slots := 0, locals := 0 })
abbrev mdX12_lastLoud : Md := (yX12_lastLoud, cX12_lastLoud, 3, (some .int), { frames := 1, cells := 0, slots := 0, locals := 21 })
abbrev mdX12_kindOfRing : Md := (yX12_kindOfRing, cX12_kindOfRing, 3, (some .int), { frames := 5, cells := 0, slots := 0, locals := 110 })
abbrev mdX12_kindOfSet : Md := (yX12_kindOfSet, cX12_kindOfSet, 4, (some .int), { frames := 5, cells := 0, slots := 0, locals := 110 })
abbrev mdX12_kindOfRoll : Md := (yX12_kindOfRoll, cX12_kindOfRoll, 2, (some .int), { frames := 3, cells := 0, slots := 0, locals := 72 })
abbrev mdX12_kindOf : Md := (yX12_kindOf, cX12_kindOf, 5, (some .int), { frames := 6, cells := 0, slots := 0, locals := 133 })
abbrev mdX12_kind : Md := (yX12_kind, cX12_kind, 5, (some .int), { frames := 7, cells := 0, slots := 0, locals := 157 })
abbrev mdX12_mark : Md := (yX12_mark, cX12_mark, 7, (some .int), { frames := 7, cells := 0, slots := 0, locals := 157 })
abbrev mdX12_wakesBy : Md := (yX12_wakesBy, cX12_wakesBy, 3, none, { frames := 4, cells := 0, slots := 0, locals := 87 })
abbrev mdX12_loudest : Md := (yX12_loudest, cX12_loudest, 3, (some .int), { frames := 2, cells := 0, slots := 0, locals := 42 })
abbrev mdX12_stillest : Md := (yX12_stillest, cX12_stillest, 3, (some .int), { frames := 2, cells := 0, slots := 0, locals := 42 })
abbrev mdX12_needWoken : Md := (yX12_needWoken, cX12_needWoken, 3, (some .int), { frames := 2, cells := 0, slots := 0, locals := 42 })
abbrev mdX12_layWoken : Md := (yX12_layWoken, cX12_layWoken, 3, none, { frames := 5, cells := 0, slots := 0, locals := 109 })
abbrev mdX12_quiet : Md := (yX12_quiet, cX12_quiet, 4, (some .int), { frames := 6, cells := 0, slots := 0, locals := 131 })
abbrev mdX12_still : Md := (yX12_still, cX12_still, 4, (some .int), { frames := 6, cells := 0, slots := 0, locals := 131 })
abbrev mdX12_isAnySea : Md := (yX12_isAnySea, cX12_isAnySea, 3, (some .boolean), { frames := 0, cells := 0, slots := 0, locals := 0 })
abbrev mdX12_wakes : Md := (yX12_wakes, cX12_wakes, 6, (some .int), { frames := 6, cells := 0, slots := 0, locals := 131 })
abbrev mdX12_layPull : Md := (yX12_layPull, cX12_layPull, 7, none, { frames := 4, cells := 0, slots := 0, locals := 87 })
abbrev mdX12_needPull : Md := (yX12_needPull, cX12_needPull, 5, (some .int), { frames := 2, cells := 0, slots := 0, locals := 42 })
abbrev mdX12_pull : Md := (yX12_pull, cX12_pull, 5, (some .int), { frames := 5, cells := 0, slots := 0, locals := 113 })
abbrev mdX12_tight : Md := (yX12_tight, cX12_tight, 8, (some .int), { frames := 5, cells := 0, slots := 0, locals := 113 })
abbrev mdX12_where : Md := (yX12_where, cX12_where, 8, (some .int), { frames := 5, cells := 0, slots := 0, locals := 113 })
abbrev mdX12_tonight : Md := (yX12_tonight, cX12_tonight, 7, (some .int), { frames := 5, cells := 0, slots := 0, locals := 113 })
abbrev mdX12_lie : Md := (yX12_lie, cX12_lie, 10, (some .int), { frames := 1, cells := 0, slots := 0, locals := 23 })
abbrev mdX12_areApart : Md := (yX12_areApart, cX12_areApart, 4, (some .boolean), { frames := 0, cells := 0, slots := 0, locals := 0 })
abbrev mdX12_odds : Md := (yX12_odds, cX12_odds, 6, (some .int), { frames := 5, cells := 0, slots := 0, locals := 113 })
abbrev mdX12_work : Md := (yX12_work, cX12_work, 5, (some .int), { frames := 1, cells := 0, slots := 0, locals := 22 })
abbrev mdX12_back : Md := (yX12_back, cX12_back, 3, (some .int), { frames := 1, cells := 0, slots := 0, locals := 22 })
abbrev mdX12_builds : Md := (yX12_builds, cX12_builds, 7, none, { frames := 1, cells := 0, slots := 0, locals := 22 })
abbrev mdX12_quietWith : Md := (yX12_quietWith, cX12_quietWith, 5, (some .int), { frames := 5, cells := 0, slots := 0, locals := 109 })
abbrev mdX12_costOf : Md := (yX12_costOf, cX12_costOf, 4, (some .int), { frames := 1, cells := 0, slots := 0, locals := 21 })
abbrev mdX12_does : Md := (yX12_does, cX12_does, 5, (some .int), { frames := 6, cells := 0, slots := 0, locals := 133 })
abbrev mdX12_worse : Md := (yX12_worse, cX12_worse, 9, (some .int), { frames := 6, cells := 0, slots := 0, locals := 133 })
abbrev mdX12_least : Md := (yX12_least, cX12_least, 9, (some .int), { frames := 6, cells := 0, slots := 0, locals := 133 })
abbrev mdX12_needFloat : Md := (yX12_needFloat, cX12_needFloat, 9, (some .int), { frames := 1, cells := 0, slots := 0, locals := 22 })
abbrev mdX12_offFloat : Md := (yX12_offFloat, cX12_offFloat, 6, (some .int), { frames := 4, cells := 0, slots := 0, locals := 87 })
abbrev mdX12_since : Md := (yX12_since, cX12_since, 9, (some .int), { frames := 5, cells := 0, slots := 0, locals := 112 })
abbrev mdX12_which : Md := (yX12_which, cX12_which, 9, (some .int), { frames := 5, cells := 0, slots := 0, locals := 112 })
abbrev mdX12_counted : Md := (yX12_counted, cX12_counted, 4, (some .int), { frames := 1, cells := 0, slots := 0, locals := 21 })
abbrev mdX12_count : Md := (yX12_count, cX12_count, 2, (some .int), { frames := 2, cells := 0, slots := 0, locals := 44 })
abbrev mdX12_mix : Md := (yX12_mix, cX12_mix, 3, none, { frames := 0, cells := 0, slots := 0, locals := 0 })
abbrev mdX12_mixBooks : Md := (yX12_mixBooks, cX12_mixBooks, 3, none, { frames := 1, cells := 0, slots := 0, locals := 22 })
abbrev mdX12_mixNight : Md := (yX12_mixNight, cX12_mixNight, 3, none, { frames := 2, cells := 0, slots := 0, locals := 43 })
abbrev mdX12_digest : Md := (yX12_digest, cX12_digest, 3, (some .long), { frames := 3, cells := 0, slots := 0, locals := 65 })
def mdL_law : Md := (yL_law, cL_law, 4, some .boolean, room_1)
theorem lb_X11_init (own : String) (idx : Nat) : LkB own idx mdX11_init 0 := ⟨wm 109 (by decide +kernel) rfl, wm 128 (by decide +kernel) rfl, ⟨by decide, by decide⟩, by decide +kernel⟩
theorem lb_X11_about (own : String) (idx : Nat) : LkB own idx mdX11_about 2 := ⟨wm 109 (by decide +kernel) rfl, wm 708 (by decide +kernel) rfl, ⟨by decide, by decide⟩, by decide +kernel⟩
theorem lb_X11_allWorks (own : String) (idx : Nat) : LkB own idx mdX11_allWorks 0 := ⟨wm 109 (by decide +kernel) rfl, wm 1118 (by decide +kernel) rfl, ⟨by decide, by decide⟩, by decide +kernel⟩
theorem lb_X11_anySea (own : String) (idx : Nat) : LkB own idx mdX11_anySea 0 := ⟨wm 109 (by decide +kernel) rfl, wm 1002 (by decide +kernel) rfl, ⟨by decide, by decide⟩, by decide +kernel⟩
theorem lb_X11_apart (own : String) (idx : Nat) : LkB own idx mdX11_apart 1 := ⟨wm 109 (by decide +kernel) rfl, wm 1086 (by decide +kernel) rfl, ⟨by decide, by decide⟩, by decide +kernel⟩
theorem lb_X11_asked (own : String) (idx : Nat) : LkB own idx mdX11_asked 0 := ⟨wm 109 (by decide +kernel) rfl, wm 1175 (by decide +kernel) rfl, ⟨by decide, by decide⟩, by decide +kernel⟩
theorem lb_X11_at (own : String) (idx : Nat) : LkB own idx mdX11_at 2 := ⟨wm 109 (by decide +kernel) rfl, wm 546 (by decide +kernel) rfl, ⟨by decide, by decide⟩, by decide +kernel⟩
theorem lb_X11_back (own : String) (idx : Nat) : LkB own idx mdX11_back 1 := ⟨wm 109 (by decide +kernel) rfl, wm 1110 (by decide +kernel) rfl, ⟨by decide, by decide⟩, by decide +kernel⟩
theorem lb_X11_beat (own : String) (idx : Nat) : LkB own idx mdX11_beat 1 := ⟨wm 109 (by decide +kernel) rfl, wm 871 (by decide +kernel) rfl, ⟨by decide, by decide⟩, by decide +kernel⟩
theorem lb_X11_beatOfSet (own : String) (idx : Nat) : LkB own idx mdX11_beatOfSet 2 := ⟨wm 109 (by decide +kernel) rfl, wm 953 (by decide +kernel) rfl, ⟨by decide, by decide⟩, by decide +kernel⟩
theorem lb_X11_bestBerths (own : String) (idx : Nat) : LkB own idx mdX11_bestBerths 2 := ⟨wm 109 (by decide +kernel) rfl, wm 1076 (by decide +kernel) rfl, ⟨by decide, by decide⟩, by decide +kernel⟩
theorem lb_X11_cell (own : String) (idx : Nat) : LkB own idx mdX11_cell 2 := ⟨wm 109 (by decide +kernel) rfl, wm 817 (by decide +kernel) rfl, ⟨by decide, by decide⟩, by decide +kernel⟩
theorem lb_X11_copy (own : String) (idx : Nat) : LkB own idx mdX11_copy 5 := ⟨wm 109 (by decide +kernel) rfl, wm 558 (by decide +kernel) rfl, ⟨by decide, by decide⟩, by decide +kernel⟩
theorem lb_X11_costOf (own : String) (idx : Nat) : LkB own idx mdX11_costOf 1 := ⟨wm 109 (by decide +kernel) rfl, wm 1122 (by decide +kernel) rfl, ⟨by decide, by decide⟩, by decide +kernel⟩
theorem lb_X11_count (own : String) (idx : Nat) : LkB own idx mdX11_count 1 := ⟨wm 109 (by decide +kernel) rfl, wm 1048 (by decide +kernel) rfl, ⟨by decide, by decide⟩, by decide +kernel⟩
theorem lb_X11_digest (own : String) (idx : Nat) : LkB own idx mdX11_digest 0 := ⟨wm 109 (by decide +kernel) rfl, wm 1196 (by decide +kernel) rfl, ⟨by decide, by decide⟩, by decide +kernel⟩
theorem lb_X11_does (own : String) (idx : Nat) : LkB own idx mdX11_does 3 := ⟨wm 109 (by decide +kernel) rfl, wm 1114 (by decide +kernel) rfl, ⟨by decide, by decide⟩, by decide +kernel⟩
theorem lb_X11_fault (own : String) (idx : Nat) : LkB own idx mdX11_fault 2 := ⟨wm 109 (by decide +kernel) rfl, wm 598 (by decide +kernel) rfl, ⟨by decide, by decide⟩, by decide +kernel⟩
theorem lb_X11_finding (own : String) (idx : Nat) : LkB own idx mdX11_finding 0 := ⟨wm 109 (by decide +kernel) rfl, wm 1188 (by decide +kernel) rfl, ⟨by decide, by decide⟩, by decide +kernel⟩
theorem lb_X11_findings (own : String) (idx : Nat) : LkB own idx mdX11_findings 1 := ⟨wm 109 (by decide +kernel) rfl, wm 1192 (by decide +kernel) rfl, ⟨by decide, by decide⟩, by decide +kernel⟩
theorem lb_X11_gauge (own : String) (idx : Nat) : LkB own idx mdX11_gauge 3 := ⟨wm 109 (by decide +kernel) rfl, wm 841 (by decide +kernel) rfl, ⟨by decide, by decide⟩, by decide +kernel⟩
theorem lb_X11_go (own : String) (idx : Nat) : LkB own idx mdX11_go 1 := ⟨wm 109 (by decide +kernel) rfl, wm 779 (by decide +kernel) rfl, ⟨by decide, by decide⟩, by decide +kernel⟩
theorem lb_X11_harbour (own : String) (idx : Nat) : LkB own idx mdX11_harbour 2 := ⟨wm 109 (by decide +kernel) rfl, wm 684 (by decide +kernel) rfl, ⟨by decide, by decide⟩, by decide +kernel⟩
theorem lb_X11_harboursThere (own : String) (idx : Nat) : LkB own idx mdX11_harboursThere 0 := ⟨wm 109 (by decide +kernel) rfl, wm 1052 (by decide +kernel) rfl, ⟨by decide, by decide⟩, by decide +kernel⟩
theorem lb_X11_hearRing (own : String) (idx : Nat) : LkB own idx mdX11_hearRing 2 := ⟨wm 109 (by decide +kernel) rfl, wm 912 (by decide +kernel) rfl, ⟨by decide, by decide⟩, by decide +kernel⟩
theorem lb_X11_hearRoll (own : String) (idx : Nat) : LkB own idx mdX11_hearRoll 1 := ⟨wm 109 (by decide +kernel) rfl, wm 926 (by decide +kernel) rfl, ⟨by decide, by decide⟩, by decide +kernel⟩
theorem lb_X11_isCell (own : String) (idx : Nat) : LkB own idx mdX11_isCell 1 := ⟨wm 109 (by decide +kernel) rfl, wm 732 (by decide +kernel) rfl, ⟨by decide, by decide⟩, by decide +kernel⟩
theorem lb_X11_isHarbour (own : String) (idx : Nat) : LkB own idx mdX11_isHarbour 1 := ⟨wm 109 (by decide +kernel) rfl, wm 687 (by decide +kernel) rfl, ⟨by decide, by decide⟩, by decide +kernel⟩
theorem lb_X11_isRow (own : String) (idx : Nat) : LkB own idx mdX11_isRow 1 := ⟨wm 109 (by decide +kernel) rfl, wm 519 (by decide +kernel) rfl, ⟨by decide, by decide⟩, by decide +kernel⟩
theorem lb_X11_isSea (own : String) (idx : Nat) : LkB own idx mdX11_isSea 1 := ⟨wm 109 (by decide +kernel) rfl, wm 699 (by decide +kernel) rfl, ⟨by decide, by decide⟩, by decide +kernel⟩
theorem lb_X11_isShip (own : String) (idx : Nat) : LkB own idx mdX11_isShip 1 := ⟨wm 109 (by decide +kernel) rfl, wm 729 (by decide +kernel) rfl, ⟨by decide, by decide⟩, by decide +kernel⟩
theorem lb_X11_isText (own : String) (idx : Nat) : LkB own idx mdX11_isText 1 := ⟨wm 109 (by decide +kernel) rfl, wm 580 (by decide +kernel) rfl, ⟨by decide, by decide⟩, by decide +kernel⟩
theorem lb_X11_keep (own : String) (idx : Nat) : LkB own idx mdX11_keep 1 := ⟨wm 109 (by decide +kernel) rfl, wm 845 (by decide +kernel) rfl, ⟨by decide, by decide⟩, by decide +kernel⟩
theorem lb_X11_keptThere (own : String) (idx : Nat) : LkB own idx mdX11_keptThere 0 := ⟨wm 109 (by decide +kernel) rfl, wm 1064 (by decide +kernel) rfl, ⟨by decide, by decide⟩, by decide +kernel⟩
theorem lb_X11_kind (own : String) (idx : Nat) : LkB own idx mdX11_kind 4 := ⟨wm 109 (by decide +kernel) rfl, wm 933 (by decide +kernel) rfl, ⟨by decide, by decide⟩, by decide +kernel⟩
theorem lb_X11_kindOf (own : String) (idx : Nat) : LkB own idx mdX11_kindOf 4 := ⟨wm 109 (by decide +kernel) rfl, wm 937 (by decide +kernel) rfl, ⟨by decide, by decide⟩, by decide +kernel⟩
theorem lb_X11_kindOfRing (own : String) (idx : Nat) : LkB own idx mdX11_kindOfRing 2 := ⟨wm 109 (by decide +kernel) rfl, wm 941 (by decide +kernel) rfl, ⟨by decide, by decide⟩, by decide +kernel⟩
theorem lb_X11_kindOfRoll (own : String) (idx : Nat) : LkB own idx mdX11_kindOfRoll 1 := ⟨wm 109 (by decide +kernel) rfl, wm 963 (by decide +kernel) rfl, ⟨by decide, by decide⟩, by decide +kernel⟩
theorem lb_X11_kindOfSet (own : String) (idx : Nat) : LkB own idx mdX11_kindOfSet 3 := ⟨wm 109 (by decide +kernel) rfl, wm 949 (by decide +kernel) rfl, ⟨by decide, by decide⟩, by decide +kernel⟩
theorem lb_X11_lay (own : String) (idx : Nat) : LkB own idx mdX11_lay 3 := ⟨wm 109 (by decide +kernel) rfl, wm 538 (by decide +kernel) rfl, ⟨by decide, by decide⟩, by decide +kernel⟩
theorem lb_X11_least (own : String) (idx : Nat) : LkB own idx mdX11_least 3 := ⟨wm 109 (by decide +kernel) rfl, wm 1152 (by decide +kernel) rfl, ⟨by decide, by decide⟩, by decide +kernel⟩
theorem lb_X11_leave (own : String) (idx : Nat) : LkB own idx mdX11_leave 1 := ⟨wm 109 (by decide +kernel) rfl, wm 740 (by decide +kernel) rfl, ⟨by decide, by decide⟩, by decide +kernel⟩
theorem lb_X11_lower (own : String) (idx : Nat) : LkB own idx mdX11_lower 0 := ⟨wm 109 (by decide +kernel) rfl, wm 1183 (by decide +kernel) rfl, ⟨by decide, by decide⟩, by decide +kernel⟩
theorem lb_X11_mark (own : String) (idx : Nat) : LkB own idx mdX11_mark 5 := ⟨wm 109 (by decide +kernel) rfl, wm 967 (by decide +kernel) rfl, ⟨by decide, by decide⟩, by decide +kernel⟩
theorem lb_X11_mean (own : String) (idx : Nat) : LkB own idx mdX11_mean 1 := ⟨wm 109 (by decide +kernel) rfl, wm 569 (by decide +kernel) rfl, ⟨by decide, by decide⟩, by decide +kernel⟩
theorem lb_X11_mix (own : String) (idx : Nat) : LkB own idx mdX11_mix 2 := ⟨wm 109 (by decide +kernel) rfl, wm 1200 (by decide +kernel) rfl, ⟨by decide, by decide⟩, by decide +kernel⟩
theorem lb_X11_moorEverywhere (own : String) (idx : Nat) : LkB own idx mdX11_moorEverywhere 2 := ⟨wm 109 (by decide +kernel) rfl, wm 1040 (by decide +kernel) rfl, ⟨by decide, by decide⟩, by decide +kernel⟩
theorem lb_X11_night (own : String) (idx : Nat) : LkB own idx mdX11_night 2 := ⟨wm 109 (by decide +kernel) rfl, wm 744 (by decide +kernel) rfl, ⟨by decide, by decide⟩, by decide +kernel⟩
theorem lb_X11_odds (own : String) (idx : Nat) : LkB own idx mdX11_odds 2 := ⟨wm 109 (by decide +kernel) rfl, wm 1098 (by decide +kernel) rfl, ⟨by decide, by decide⟩, by decide +kernel⟩
theorem lb_X11_offOf (own : String) (idx : Nat) : LkB own idx mdX11_offOf 4 := ⟨wm 109 (by decide +kernel) rfl, wm 1166 (by decide +kernel) rfl, ⟨by decide, by decide⟩, by decide +kernel⟩
theorem lb_X11_on (own : String) (idx : Nat) : LkB own idx mdX11_on 1 := ⟨wm 109 (by decide +kernel) rfl, wm 859 (by decide +kernel) rfl, ⟨by decide, by decide⟩, by decide +kernel⟩
theorem lb_X11_partingOf (own : String) (idx : Nat) : LkB own idx mdX11_partingOf 2 := ⟨wm 109 (by decide +kernel) rfl, wm 1090 (by decide +kernel) rfl, ⟨by decide, by decide⟩, by decide +kernel⟩
theorem lb_X11_pull (own : String) (idx : Nat) : LkB own idx mdX11_pull 3 := ⟨wm 109 (by decide +kernel) rfl, wm 1006 (by decide +kernel) rfl, ⟨by decide, by decide⟩, by decide +kernel⟩
theorem lb_X11_pullsOf (own : String) (idx : Nat) : LkB own idx mdX11_pullsOf 2 := ⟨wm 109 (by decide +kernel) rfl, wm 1094 (by decide +kernel) rfl, ⟨by decide, by decide⟩, by decide +kernel⟩
theorem lb_X11_put (own : String) (idx : Nat) : LkB own idx mdX11_put 3 := ⟨wm 109 (by decide +kernel) rfl, wm 590 (by decide +kernel) rfl, ⟨by decide, by decide⟩, by decide +kernel⟩
theorem lb_X11_quiet (own : String) (idx : Nat) : LkB own idx mdX11_quiet 2 := ⟨wm 109 (by decide +kernel) rfl, wm 971 (by decide +kernel) rfl, ⟨by decide, by decide⟩, by decide +kernel⟩
theorem lb_X11_quietOf (own : String) (idx : Nat) : LkB own idx mdX11_quietOf 2 := ⟨wm 109 (by decide +kernel) rfl, wm 975 (by decide +kernel) rfl, ⟨by decide, by decide⟩, by decide +kernel⟩
theorem lb_X11_quietWith (own : String) (idx : Nat) : LkB own idx mdX11_quietWith 3 := ⟨wm 109 (by decide +kernel) rfl, wm 1126 (by decide +kernel) rfl, ⟨by decide, by decide⟩, by decide +kernel⟩
theorem lb_X11_refuse (own : String) (idx : Nat) : LkB own idx mdX11_refuse 1 := ⟨wm 109 (by decide +kernel) rfl, wm 526 (by decide +kernel) rfl, ⟨by decide, by decide⟩, by decide +kernel⟩
theorem lb_X11_refusedShip (own : String) (idx : Nat) : LkB own idx mdX11_refusedShip 3 := ⟨wm 109 (by decide +kernel) rfl, wm 1010 (by decide +kernel) rfl, ⟨by decide, by decide⟩, by decide +kernel⟩
theorem lb_X11_rides (own : String) (idx : Nat) : LkB own idx mdX11_rides 2 := ⟨wm 109 (by decide +kernel) rfl, wm 829 (by decide +kernel) rfl, ⟨by decide, by decide⟩, by decide +kernel⟩
theorem lb_X11_ring (own : String) (idx : Nat) : LkB own idx mdX11_ring 2 := ⟨wm 109 (by decide +kernel) rfl, wm 908 (by decide +kernel) rfl, ⟨by decide, by decide⟩, by decide +kernel⟩
theorem lb_X11_roll (own : String) (idx : Nat) : LkB own idx mdX11_roll 1 := ⟨wm 109 (by decide +kernel) rfl, wm 922 (by decide +kernel) rfl, ⟨by decide, by decide⟩, by decide +kernel⟩
theorem lb_X11_row (own : String) (idx : Nat) : LkB own idx mdX11_row 2 := ⟨wm 109 (by decide +kernel) rfl, wm 516 (by decide +kernel) rfl, ⟨by decide, by decide⟩, by decide +kernel⟩
theorem lb_X11_rowsThere (own : String) (idx : Nat) : LkB own idx mdX11_rowsThere 0 := ⟨wm 109 (by decide +kernel) rfl, wm 1068 (by decide +kernel) rfl, ⟨by decide, by decide⟩, by decide +kernel⟩
theorem lb_X11_sea (own : String) (idx : Nat) : LkB own idx mdX11_sea 2 := ⟨wm 109 (by decide +kernel) rfl, wm 696 (by decide +kernel) rfl, ⟨by decide, by decide⟩, by decide +kernel⟩
theorem lb_X11_seasThere (own : String) (idx : Nat) : LkB own idx mdX11_seasThere 0 := ⟨wm 109 (by decide +kernel) rfl, wm 1056 (by decide +kernel) rfl, ⟨by decide, by decide⟩, by decide +kernel⟩
theorem lb_X11_set (own : String) (idx : Nat) : LkB own idx mdX11_set 2 := ⟨wm 109 (by decide +kernel) rfl, wm 718 (by decide +kernel) rfl, ⟨by decide, by decide⟩, by decide +kernel⟩
theorem lb_X11_ship (own : String) (idx : Nat) : LkB own idx mdX11_ship 6 := ⟨wm 109 (by decide +kernel) rfl, wm 726 (by decide +kernel) rfl, ⟨by decide, by decide⟩, by decide +kernel⟩
theorem lb_X11_shipsThere (own : String) (idx : Nat) : LkB own idx mdX11_shipsThere 0 := ⟨wm 109 (by decide +kernel) rfl, wm 1060 (by decide +kernel) rfl, ⟨by decide, by decide⟩, by decide +kernel⟩
theorem lb_X11_since (own : String) (idx : Nat) : LkB own idx mdX11_since 5 := ⟨wm 109 (by decide +kernel) rfl, wm 1156 (by decide +kernel) rfl, ⟨by decide, by decide⟩, by decide +kernel⟩
theorem lb_X11_span (own : String) (idx : Nat) : LkB own idx mdX11_span 1 := ⟨wm 109 (by decide +kernel) rfl, wm 904 (by decide +kernel) rfl, ⟨by decide, by decide⟩, by decide +kernel⟩
theorem lb_X11_spreadBerths (own : String) (idx : Nat) : LkB own idx mdX11_spreadBerths 3 := ⟨wm 109 (by decide +kernel) rfl, wm 1080 (by decide +kernel) rfl, ⟨by decide, by decide⟩, by decide +kernel⟩
theorem lb_X11_still (own : String) (idx : Nat) : LkB own idx mdX11_still 2 := ⟨wm 109 (by decide +kernel) rfl, wm 990 (by decide +kernel) rfl, ⟨by decide, by decide⟩, by decide +kernel⟩
theorem lb_X11_tear (own : String) (idx : Nat) : LkB own idx mdX11_tear 1 := ⟨wm 109 (by decide +kernel) rfl, wm 554 (by decide +kernel) rfl, ⟨by decide, by decide⟩, by decide +kernel⟩
theorem lb_X11_tell (own : String) (idx : Nat) : LkB own idx mdX11_tell 2 := ⟨wm 109 (by decide +kernel) rfl, wm 550 (by decide +kernel) rfl, ⟨by decide, by decide⟩, by decide +kernel⟩
theorem lb_X11_tellBeat (own : String) (idx : Nat) : LkB own idx mdX11_tellBeat 0 := ⟨wm 109 (by decide +kernel) rfl, wm 885 (by decide +kernel) rfl, ⟨by decide, by decide⟩, by decide +kernel⟩
theorem lb_X11_text (own : String) (idx : Nat) : LkB own idx mdX11_text 2 := ⟨wm 109 (by decide +kernel) rfl, wm 577 (by decide +kernel) rfl, ⟨by decide, by decide⟩, by decide +kernel⟩
theorem lb_X11_textsThere (own : String) (idx : Nat) : LkB own idx mdX11_textsThere 0 := ⟨wm 109 (by decide +kernel) rfl, wm 1072 (by decide +kernel) rfl, ⟨by decide, by decide⟩, by decide +kernel⟩
theorem lb_X11_tight (own : String) (idx : Nat) : LkB own idx mdX11_tight 3 := ⟨wm 109 (by decide +kernel) rfl, wm 1027 (by decide +kernel) rfl, ⟨by decide, by decide⟩, by decide +kernel⟩
theorem lb_X11_tonight (own : String) (idx : Nat) : LkB own idx mdX11_tonight 3 := ⟨wm 109 (by decide +kernel) rfl, wm 1044 (by decide +kernel) rfl, ⟨by decide, by decide⟩, by decide +kernel⟩
theorem lb_X11_upper (own : String) (idx : Nat) : LkB own idx mdX11_upper 0 := ⟨wm 109 (by decide +kernel) rfl, wm 1179 (by decide +kernel) rfl, ⟨by decide, by decide⟩, by decide +kernel⟩
theorem lb_X11_wakeShip (own : String) (idx : Nat) : LkB own idx mdX11_wakeShip 3 := ⟨wm 109 (by decide +kernel) rfl, wm 1014 (by decide +kernel) rfl, ⟨by decide, by decide⟩, by decide +kernel⟩
theorem lb_X11_wakes (own : String) (idx : Nat) : LkB own idx mdX11_wakes 1 := ⟨wm 109 (by decide +kernel) rfl, wm 998 (by decide +kernel) rfl, ⟨by decide, by decide⟩, by decide +kernel⟩
theorem lb_X11_water (own : String) (idx : Nat) : LkB own idx mdX11_water 0 := ⟨wm 109 (by decide +kernel) rfl, wm 863 (by decide +kernel) rfl, ⟨by decide, by decide⟩, by decide +kernel⟩
theorem lb_X11_where (own : String) (idx : Nat) : LkB own idx mdX11_where 3 := ⟨wm 109 (by decide +kernel) rfl, wm 1036 (by decide +kernel) rfl, ⟨by decide, by decide⟩, by decide +kernel⟩
theorem lb_X11_which (own : String) (idx : Nat) : LkB own idx mdX11_which 3 := ⟨wm 109 (by decide +kernel) rfl, wm 1171 (by decide +kernel) rfl, ⟨by decide, by decide⟩, by decide +kernel⟩
theorem lb_X11_within (own : String) (idx : Nat) : LkB own idx mdX11_within 3 := ⟨wm 109 (by decide +kernel) rfl, wm 522 (by decide +kernel) rfl, ⟨by decide, by decide⟩, by decide +kernel⟩
theorem lb_X11_work (own : String) (idx : Nat) : LkB own idx mdX11_work 4 := ⟨wm 109 (by decide +kernel) rfl, wm 1102 (by decide +kernel) rfl, ⟨by decide, by decide⟩, by decide +kernel⟩
theorem lb_X11_worse (own : String) (idx : Nat) : LkB own idx mdX11_worse 2 := ⟨wm 109 (by decide +kernel) rfl, wm 1148 (by decide +kernel) rfl, ⟨by decide, by decide⟩, by decide +kernel⟩
theorem lb_X0_init (own : String) (idx : Nat) : LkB own idx mdX0_init 0 := ⟨wm 112 (by decide +kernel) rfl, wm 161 (by decide +kernel) rfl, ⟨by decide, by decide⟩, by decide +kernel⟩
theorem lb_X0_breakWall (own : String) (idx : Nat) : LkB own idx mdX0_breakWall 1 := ⟨wm 112 (by decide +kernel) rfl, wm 1135 (by decide +kernel) rfl, ⟨by decide, by decide⟩, by decide +kernel⟩
theorem lb_X0_deepen (own : String) (idx : Nat) : LkB own idx mdX0_deepen 2 := ⟨wm 112 (by decide +kernel) rfl, wm 1144 (by decide +kernel) rfl, ⟨by decide, by decide⟩, by decide +kernel⟩
theorem lb_X0_fact (own : String) (idx : Nat) : LkB own idx mdX0_fact 1 := ⟨wm 112 (by decide +kernel) rfl, wm 713 (by decide +kernel) rfl, ⟨by decide, by decide⟩, by decide +kernel⟩
theorem lb_X0_hasCell (own : String) (idx : Nat) : LkB own idx mdX0_hasCell 1 := ⟨wm 112 (by decide +kernel) rfl, wm 660 (by decide +kernel) rfl, ⟨by decide, by decide⟩, by decide +kernel⟩
theorem lb_X0_hasWallPlace (own : String) (idx : Nat) : LkB own idx mdX0_hasWallPlace 1 := ⟨wm 112 (by decide +kernel) rfl, wm 672 (by decide +kernel) rfl, ⟨by decide, by decide⟩, by decide +kernel⟩
theorem lb_X0_mixInto (own : String) (idx : Nat) : LkB own idx mdX0_mixInto 1 := ⟨wm 112 (by decide +kernel) rfl, wm 1205 (by decide +kernel) rfl, ⟨by decide, by decide⟩, by decide +kernel⟩
theorem lb_X0_openingBehind (own : String) (idx : Nat) : LkB own idx mdX0_openingBehind 1 := ⟨wm 112 (by decide +kernel) rfl, wm 774 (by decide +kernel) rfl, ⟨by decide, by decide⟩, by decide +kernel⟩
theorem lb_X0_raiseWall (own : String) (idx : Nat) : LkB own idx mdX0_raiseWall 1 := ⟨wm 112 (by decide +kernel) rfl, wm 668 (by decide +kernel) rfl, ⟨by decide, by decide⟩, by decide +kernel⟩
theorem lb_X0_renew (own : String) (idx : Nat) : LkB own idx mdX0_renew 0 := ⟨wm 112 (by decide +kernel) rfl, wm 648 (by decide +kernel) rfl, ⟨by decide, by decide⟩, by decide +kernel⟩
theorem lb_X0_take (own : String) (idx : Nat) : LkB own idx mdX0_take 1 := ⟨wm 112 (by decide +kernel) rfl, wm 691 (by decide +kernel) rfl, ⟨by decide, by decide⟩, by decide +kernel⟩
theorem lb_X0_widen (own : String) (idx : Nat) : LkB own idx mdX0_widen 1 := ⟨wm 112 (by decide +kernel) rfl, wm 1139 (by decide +kernel) rfl, ⟨by decide, by decide⟩, by decide +kernel⟩
theorem lb_X1_init (own : String) (idx : Nat) : LkB own idx mdX1_init 0 := ⟨wm 115 (by decide +kernel) rfl, wm 260 (by decide +kernel) rfl, ⟨by decide, by decide⟩, by decide +kernel⟩
theorem lb_X1_build (own : String) (idx : Nat) : LkB own idx mdX1_build 5 := ⟨wm 115 (by decide +kernel) rfl, wm 736 (by decide +kernel) rfl, ⟨by decide, by decide⟩, by decide +kernel⟩
theorem lb_X1_mixInto (own : String) (idx : Nat) : LkB own idx mdX1_mixInto 1 := ⟨wm 115 (by decide +kernel) rfl, wm 1218 (by decide +kernel) rfl, ⟨by decide, by decide⟩, by decide +kernel⟩
theorem lb_X1_mixRideInto (own : String) (idx : Nat) : LkB own idx mdX1_mixRideInto 1 := ⟨wm 115 (by decide +kernel) rfl, wm 1236 (by decide +kernel) rfl, ⟨by decide, by decide⟩, by decide +kernel⟩
theorem lb_X1_rest (own : String) (idx : Nat) : LkB own idx mdX1_rest 0 := ⟨wm 115 (by decide +kernel) rfl, wm 760 (by decide +kernel) rfl, ⟨by decide, by decide⟩, by decide +kernel⟩
theorem lb_X1_ridden (own : String) (idx : Nat) : LkB own idx mdX1_ridden 1 := ⟨wm 115 (by decide +kernel) rfl, wm 837 (by decide +kernel) rfl, ⟨by decide, by decide⟩, by decide +kernel⟩
theorem lb_X1_ride (own : String) (idx : Nat) : LkB own idx mdX1_ride 2 := ⟨wm 115 (by decide +kernel) rfl, wm 808 (by decide +kernel) rfl, ⟨by decide, by decide⟩, by decide +kernel⟩
theorem lb_X1_strain (own : String) (idx : Nat) : LkB own idx mdX1_strain 0 := ⟨wm 115 (by decide +kernel) rfl, wm 812 (by decide +kernel) rfl, ⟨by decide, by decide⟩, by decide +kernel⟩
theorem lb_X1_take (own : String) (idx : Nat) : LkB own idx mdX1_take 1 := ⟨wm 115 (by decide +kernel) rfl, wm 756 (by decide +kernel) rfl, ⟨by decide, by decide⟩, by decide +kernel⟩
theorem lb_X2_init (own : String) (idx : Nat) : LkB own idx mdX2_init 0 := ⟨wm 118 (by decide +kernel) rfl, wm 372 (by decide +kernel) rfl, ⟨by decide, by decide⟩, by decide +kernel⟩
theorem lb_X2_cross (own : String) (idx : Nat) : LkB own idx mdX2_cross 1 := ⟨wm 118 (by decide +kernel) rfl, wm 879 (by decide +kernel) rfl, ⟨by decide, by decide⟩, by decide +kernel⟩
theorem lb_X2_cutBeat (own : String) (idx : Nat) : LkB own idx mdX2_cutBeat 0 := ⟨wm 118 (by decide +kernel) rfl, wm 957 (by decide +kernel) rfl, ⟨by decide, by decide⟩, by decide +kernel⟩
theorem lb_X2_haveBeat (own : String) (idx : Nat) : LkB own idx mdX2_haveBeat 0 := ⟨wm 118 (by decide +kernel) rfl, wm 889 (by decide +kernel) rfl, ⟨by decide, by decide⟩, by decide +kernel⟩
theorem lb_X2_lastLoud (own : String) (idx : Nat) : LkB own idx mdX2_lastLoud 0 := ⟨wm 118 (by decide +kernel) rfl, wm 945 (by decide +kernel) rfl, ⟨by decide, by decide⟩, by decide +kernel⟩
theorem lb_X2_look (own : String) (idx : Nat) : LkB own idx mdX2_look 2 := ⟨wm 118 (by decide +kernel) rfl, wm 875 (by decide +kernel) rfl, ⟨by decide, by decide⟩, by decide +kernel⟩
theorem lb_X3_init (own : String) (idx : Nat) : LkB own idx mdX3_init 0 := ⟨wm 119 (by decide +kernel) rfl, wm 403 (by decide +kernel) rfl, ⟨by decide, by decide⟩, by decide +kernel⟩
theorem lb_X3_divisor (own : String) (idx : Nat) : LkB own idx mdX3_divisor 2 := ⟨wm 119 (by decide +kernel) rfl, wm 896 (by decide +kernel) rfl, ⟨by decide, by decide⟩, by decide +kernel⟩
theorem lb_X3_tell (own : String) (idx : Nat) : LkB own idx mdX3_tell 2 := ⟨wm 119 (by decide +kernel) rfl, wm 893 (by decide +kernel) rfl, ⟨by decide, by decide⟩, by decide +kernel⟩
theorem lb_X4_init (own : String) (idx : Nat) : LkB own idx mdX4_init 0 := ⟨wm 117 (by decide +kernel) rfl, wm 333 (by decide +kernel) rfl, ⟨by decide, by decide⟩, by decide +kernel⟩
theorem lb_X4_has (own : String) (idx : Nat) : LkB own idx mdX4_has 1 := ⟨wm 117 (by decide +kernel) rfl, wm 594 (by decide +kernel) rfl, ⟨by decide, by decide⟩, by decide +kernel⟩
theorem lb_X4_mixInto (own : String) (idx : Nat) : LkB own idx mdX4_mixInto 1 := ⟨wm 117 (by decide +kernel) rfl, wm 1246 (by decide +kernel) rfl, ⟨by decide, by decide⟩, by decide +kernel⟩
theorem lb_X4_renew (own : String) (idx : Nat) : LkB own idx mdX4_renew 1 := ⟨wm 117 (by decide +kernel) rfl, wm 584 (by decide +kernel) rfl, ⟨by decide, by decide⟩, by decide +kernel⟩
theorem lb_X5_init3 (own : String) (idx : Nat) : LkB own idx mdX5_init3 1 := ⟨wm 110 (by decide +kernel) rfl, wm 149 (by decide +kernel) rfl, ⟨by decide, by decide⟩, by decide +kernel⟩
theorem lb_X5_init48 (own : String) (idx : Nat) : LkB own idx mdX5_init48 1 := ⟨wm 110 (by decide +kernel) rfl, wm 149 (by decide +kernel) rfl, ⟨by decide, by decide⟩, by decide +kernel⟩
theorem lb_X5_begin (own : String) (idx : Nat) : LkB own idx mdX5_begin 2 := ⟨wm 110 (by decide +kernel) rfl, wm 764 (by decide +kernel) rfl, ⟨by decide, by decide⟩, by decide +kernel⟩
theorem lb_X5_clear (own : String) (idx : Nat) : LkB own idx mdX5_clear 0 := ⟨wm 110 (by decide +kernel) rfl, wm 748 (by decide +kernel) rfl, ⟨by decide, by decide⟩, by decide +kernel⟩
theorem lb_X5_has (own : String) (idx : Nat) : LkB own idx mdX5_has 1 := ⟨wm 110 (by decide +kernel) rfl, wm 833 (by decide +kernel) rfl, ⟨by decide, by decide⟩, by decide +kernel⟩
theorem lb_X5_leastPulled (own : String) (idx : Nat) : LkB own idx mdX5_leastPulled 0 := ⟨wm 110 (by decide +kernel) rfl, wm 1031 (by decide +kernel) rfl, ⟨by decide, by decide⟩, by decide +kernel⟩
theorem lb_X5_mixInto (own : String) (idx : Nat) : LkB own idx mdX5_mixInto 1 := ⟨wm 110 (by decide +kernel) rfl, wm 1229 (by decide +kernel) rfl, ⟨by decide, by decide⟩, by decide +kernel⟩
theorem lb_X5_moor (own : String) (idx : Nat) : LkB own idx mdX5_moor 3 := ⟨wm 110 (by decide +kernel) rfl, wm 752 (by decide +kernel) rfl, ⟨by decide, by decide⟩, by decide +kernel⟩
theorem lb_X5_partedOf (own : String) (idx : Nat) : LkB own idx mdX5_partedOf 1 := ⟨wm 110 (by decide +kernel) rfl, wm 1018 (by decide +kernel) rfl, ⟨by decide, by decide⟩, by decide +kernel⟩
theorem lb_X5_pass (own : String) (idx : Nat) : LkB own idx mdX5_pass 1 := ⟨wm 110 (by decide +kernel) rfl, wm 783 (by decide +kernel) rfl, ⟨by decide, by decide⟩, by decide +kernel⟩
theorem lb_X5_pullOf (own : String) (idx : Nat) : LkB own idx mdX5_pullOf 1 := ⟨wm 110 (by decide +kernel) rfl, wm 1023 (by decide +kernel) rfl, ⟨by decide, by decide⟩, by decide +kernel⟩
theorem lb_X5_take (own : String) (idx : Nat) : LkB own idx mdX5_take 1 := ⟨wm 110 (by decide +kernel) rfl, wm 849 (by decide +kernel) rfl, ⟨by decide, by decide⟩, by decide +kernel⟩
theorem lb_X5_wake (own : String) (idx : Nat) : LkB own idx mdX5_wake 2 := ⟨wm 110 (by decide +kernel) rfl, wm 979 (by decide +kernel) rfl, ⟨by decide, by decide⟩, by decide +kernel⟩
theorem lb_X6_init (own : String) (idx : Nat) : LkB own idx mdX6_init 0 := ⟨wm 120 (by decide +kernel) rfl, wm 417 (by decide +kernel) rfl, ⟨by decide, by decide⟩, by decide +kernel⟩
theorem lb_X6_allWithin (own : String) (idx : Nat) : LkB own idx mdX6_allWithin 2 := ⟨wm 120 (by decide +kernel) rfl, wm 1161 (by decide +kernel) rfl, ⟨by decide, by decide⟩, by decide +kernel⟩
theorem lb_X6_has (own : String) (idx : Nat) : LkB own idx mdX6_has 1 := ⟨wm 120 (by decide +kernel) rfl, wm 542 (by decide +kernel) rfl, ⟨by decide, by decide⟩, by decide +kernel⟩
theorem lb_X6_hasRun (own : String) (idx : Nat) : LkB own idx mdX6_hasRun 2 := ⟨wm 120 (by decide +kernel) rfl, wm 562 (by decide +kernel) rfl, ⟨by decide, by decide⟩, by decide +kernel⟩
theorem lb_X6_mixInto (own : String) (idx : Nat) : LkB own idx mdX6_mixInto 1 := ⟨wm 120 (by decide +kernel) rfl, wm 1240 (by decide +kernel) rfl, ⟨by decide, by decide⟩, by decide +kernel⟩
theorem lb_X6_renew (own : String) (idx : Nat) : LkB own idx mdX6_renew 1 := ⟨wm 120 (by decide +kernel) rfl, wm 530 (by decide +kernel) rfl, ⟨by decide, by decide⟩, by decide +kernel⟩
theorem lb_X6_sum (own : String) (idx : Nat) : LkB own idx mdX6_sum 0 := ⟨wm 120 (by decide +kernel) rfl, wm 573 (by decide +kernel) rfl, ⟨by decide, by decide⟩, by decide +kernel⟩
theorem lb_X7_init (own : String) (idx : Nat) : LkB own idx mdX7_init 0 := ⟨wm 116 (by decide +kernel) rfl, wm 323 (by decide +kernel) rfl, ⟨by decide, by decide⟩, by decide +kernel⟩
theorem lb_X7_depthItem (own : String) (idx : Nat) : LkB own idx mdX7_depthItem 0 := ⟨wm 116 (by decide +kernel) rfl, wm 656 (by decide +kernel) rfl, ⟨by decide, by decide⟩, by decide +kernel⟩
theorem lb_X7_figure (own : String) (idx : Nat) : LkB own idx mdX7_figure 1 := ⟨wm 116 (by decide +kernel) rfl, wm 635 (by decide +kernel) rfl, ⟨by decide, by decide⟩, by decide +kernel⟩
theorem lb_X7_harbourItem (own : String) (idx : Nat) : LkB own idx mdX7_harbourItem 0 := ⟨wm 116 (by decide +kernel) rfl, wm 652 (by decide +kernel) rfl, ⟨by decide, by decide⟩, by decide +kernel⟩
theorem lb_X7_mouthItem (own : String) (idx : Nat) : LkB own idx mdX7_mouthItem 0 := ⟨wm 116 (by decide +kernel) rfl, wm 676 (by decide +kernel) rfl, ⟨by decide, by decide⟩, by decide +kernel⟩
theorem lb_X7_number (own : String) (idx : Nat) : LkB own idx mdX7_number 2 := ⟨wm 116 (by decide +kernel) rfl, wm 631 (by decide +kernel) rfl, ⟨by decide, by decide⟩, by decide +kernel⟩
theorem lb_X7_open (own : String) (idx : Nat) : LkB own idx mdX7_open 1 := ⟨wm 116 (by decide +kernel) rfl, wm 606 (by decide +kernel) rfl, ⟨by decide, by decide⟩, by decide +kernel⟩
theorem lb_X7_readHarbour (own : String) (idx : Nat) : LkB own idx mdX7_readHarbour 1 := ⟨wm 116 (by decide +kernel) rfl, wm 644 (by decide +kernel) rfl, ⟨by decide, by decide⟩, by decide +kernel⟩
theorem lb_X7_readSea (own : String) (idx : Nat) : LkB own idx mdX7_readSea 1 := ⟨wm 116 (by decide +kernel) rfl, wm 602 (by decide +kernel) rfl, ⟨by decide, by decide⟩, by decide +kernel⟩
theorem lb_X7_rubItem (own : String) (idx : Nat) : LkB own idx mdX7_rubItem 0 := ⟨wm 116 (by decide +kernel) rfl, wm 680 (by decide +kernel) rfl, ⟨by decide, by decide⟩, by decide +kernel⟩
theorem lb_X7_seaItem (own : String) (idx : Nat) : LkB own idx mdX7_seaItem 0 := ⟨wm 116 (by decide +kernel) rfl, wm 623 (by decide +kernel) rfl, ⟨by decide, by decide⟩, by decide +kernel⟩
theorem lb_X7_sign (own : String) (idx : Nat) : LkB own idx mdX7_sign 0 := ⟨wm 116 (by decide +kernel) rfl, wm 618 (by decide +kernel) rfl, ⟨by decide, by decide⟩, by decide +kernel⟩
theorem lb_X7_skipBlanks (own : String) (idx : Nat) : LkB own idx mdX7_skipBlanks 0 := ⟨wm 116 (by decide +kernel) rfl, wm 614 (by decide +kernel) rfl, ⟨by decide, by decide⟩, by decide +kernel⟩
theorem lb_X7_take (own : String) (idx : Nat) : LkB own idx mdX7_take 1 := ⟨wm 116 (by decide +kernel) rfl, wm 627 (by decide +kernel) rfl, ⟨by decide, by decide⟩, by decide +kernel⟩
theorem lb_X7_wallItem (own : String) (idx : Nat) : LkB own idx mdX7_wallItem 0 := ⟨wm 116 (by decide +kernel) rfl, wm 664 (by decide +kernel) rfl, ⟨by decide, by decide⟩, by decide +kernel⟩
theorem lb_X8_init (own : String) (idx : Nat) : LkB own idx mdX8_init 0 := ⟨wm 113 (by decide +kernel) rfl, wm 203 (by decide +kernel) rfl, ⟨by decide, by decide⟩, by decide +kernel⟩
theorem lb_X8_add (own : String) (idx : Nat) : LkB own idx mdX8_add 2 := ⟨wm 113 (by decide +kernel) rfl, wm 640 (by decide +kernel) rfl, ⟨by decide, by decide⟩, by decide +kernel⟩
theorem lb_X8_hasSet (own : String) (idx : Nat) : LkB own idx mdX8_hasSet 1 := ⟨wm 113 (by decide +kernel) rfl, wm 722 (by decide +kernel) rfl, ⟨by decide, by decide⟩, by decide +kernel⟩
theorem lb_X8_mixInto (own : String) (idx : Nat) : LkB own idx mdX8_mixInto 1 := ⟨wm 113 (by decide +kernel) rfl, wm 1212 (by decide +kernel) rfl, ⟨by decide, by decide⟩, by decide +kernel⟩
theorem lb_X8_pushAt (own : String) (idx : Nat) : LkB own idx mdX8_pushAt 1 := ⟨wm 113 (by decide +kernel) rfl, wm 795 (by decide +kernel) rfl, ⟨by decide, by decide⟩, by decide +kernel⟩
theorem lb_X8_renew (own : String) (idx : Nat) : LkB own idx mdX8_renew 0 := ⟨wm 113 (by decide +kernel) rfl, wm 610 (by decide +kernel) rfl, ⟨by decide, by decide⟩, by decide +kernel⟩
theorem lb_X8_take (own : String) (idx : Nat) : LkB own idx mdX8_take 1 := ⟨wm 113 (by decide +kernel) rfl, wm 703 (by decide +kernel) rfl, ⟨by decide, by decide⟩, by decide +kernel⟩
theorem lb_X9_init (own : String) (idx : Nat) : LkB own idx mdX9_init 0 := ⟨wm 111 (by decide +kernel) rfl, wm 155 (by decide +kernel) rfl, ⟨by decide, by decide⟩, by decide +kernel⟩
theorem lb_X9_begin (own : String) (idx : Nat) : LkB own idx mdX9_begin 2 := ⟨wm 111 (by decide +kernel) rfl, wm 768 (by decide +kernel) rfl, ⟨by decide, by decide⟩, by decide +kernel⟩
theorem lb_X9_fact (own : String) (idx : Nat) : LkB own idx mdX9_fact 2 := ⟨wm 111 (by decide +kernel) rfl, wm 821 (by decide +kernel) rfl, ⟨by decide, by decide⟩, by decide +kernel⟩
theorem lb_X9_flowsAt (own : String) (idx : Nat) : LkB own idx mdX9_flowsAt 1 := ⟨wm 111 (by decide +kernel) rfl, wm 803 (by decide +kernel) rfl, ⟨by decide, by decide⟩, by decide +kernel⟩
theorem lb_X9_lift (own : String) (idx : Nat) : LkB own idx mdX9_lift 2 := ⟨wm 111 (by decide +kernel) rfl, wm 917 (by decide +kernel) rfl, ⟨by decide, by decide⟩, by decide +kernel⟩
theorem lb_X9_pass (own : String) (idx : Nat) : LkB own idx mdX9_pass 0 := ⟨wm 111 (by decide +kernel) rfl, wm 787 (by decide +kernel) rfl, ⟨by decide, by decide⟩, by decide +kernel⟩
theorem lb_X9_range (own : String) (idx : Nat) : LkB own idx mdX9_range 1 := ⟨wm 111 (by decide +kernel) rfl, wm 825 (by decide +kernel) rfl, ⟨by decide, by decide⟩, by decide +kernel⟩
theorem lb_X9_rise (own : String) (idx : Nat) : LkB own idx mdX9_rise 1 := ⟨wm 111 (by decide +kernel) rfl, wm 799 (by decide +kernel) rfl, ⟨by decide, by decide⟩, by decide +kernel⟩
theorem lb_X9_stillest (own : String) (idx : Nat) : LkB own idx mdX9_stillest 0 := ⟨wm 111 (by decide +kernel) rfl, wm 994 (by decide +kernel) rfl, ⟨by decide, by decide⟩, by decide +kernel⟩
theorem lb_X9_stream (own : String) (idx : Nat) : LkB own idx mdX9_stream 0 := ⟨wm 111 (by decide +kernel) rfl, wm 791 (by decide +kernel) rfl, ⟨by decide, by decide⟩, by decide +kernel⟩
theorem lb_X9_take (own : String) (idx : Nat) : LkB own idx mdX9_take 1 := ⟨wm 111 (by decide +kernel) rfl, wm 853 (by decide +kernel) rfl, ⟨by decide, by decide⟩, by decide +kernel⟩
theorem lb_X9_whole (own : String) (idx : Nat) : LkB own idx mdX9_whole 0 := ⟨wm 111 (by decide +kernel) rfl, wm 867 (by decide +kernel) rfl, ⟨by decide, by decide⟩, by decide +kernel⟩
theorem lb_X9_wildest (own : String) (idx : Nat) : LkB own idx mdX9_wildest 0 := ⟨wm 111 (by decide +kernel) rfl, wm 985 (by decide +kernel) rfl, ⟨by decide, by decide⟩, by decide +kernel⟩
theorem lb_X10_init (own : String) (idx : Nat) : LkB own idx mdX10_init 0 := ⟨wm 121 (by decide +kernel) rfl, wm 436 (by decide +kernel) rfl, ⟨by decide, by decide⟩, by decide +kernel⟩
theorem lb_X10_change (own : String) (idx : Nat) : LkB own idx mdX10_change 1 := ⟨wm 121 (by decide +kernel) rfl, wm 1130 (by decide +kernel) rfl, ⟨by decide, by decide⟩, by decide +kernel⟩
theorem lb_X10_mixInto (own : String) (idx : Nat) : LkB own idx mdX10_mixInto 1 := ⟨wm 121 (by decide +kernel) rfl, wm 1224 (by decide +kernel) rfl, ⟨by decide, by decide⟩, by decide +kernel⟩
theorem lb_X10_plan (own : String) (idx : Nat) : LkB own idx mdX10_plan 4 := ⟨wm 121 (by decide +kernel) rfl, wm 1106 (by decide +kernel) rfl, ⟨by decide, by decide⟩, by decide +kernel⟩
theorem lb_X12_init (own : String) (idx : Nat) : LkB own idx mdX12_init 0 := ⟨wm 122 (by decide +kernel) rfl, wm 1253 (by decide +kernel) rfl, ⟨by decide, by decide⟩, by decide +kernel⟩
theorem lb_X12_about (own : String) (idx : Nat) : LkB own idx mdX12_about 2 := ⟨wm 122 (by decide +kernel) rfl, wm 1504 (by decide +kernel) rfl, ⟨by decide, by decide⟩, by decide +kernel⟩
theorem lb_X12_areApart (own : String) (idx : Nat) : LkB own idx mdX12_areApart 0 := ⟨wm 122 (by decide +kernel) rfl, wm 1789 (by decide +kernel) rfl, ⟨by decide, by decide⟩, by decide +kernel⟩
theorem lb_X12_asked (own : String) (idx : Nat) : LkB own idx mdX12_asked 0 := ⟨wm 122 (by decide +kernel) rfl, wm 1391 (by decide +kernel) rfl, ⟨by decide, by decide⟩, by decide +kernel⟩
theorem lb_X12_at (own : String) (idx : Nat) : LkB own idx mdX12_at 2 := ⟨wm 122 (by decide +kernel) rfl, wm 1426 (by decide +kernel) rfl, ⟨by decide, by decide⟩, by decide +kernel⟩
theorem lb_X12_back (own : String) (idx : Nat) : LkB own idx mdX12_back 1 := ⟨wm 122 (by decide +kernel) rfl, wm 1801 (by decide +kernel) rfl, ⟨by decide, by decide⟩, by decide +kernel⟩
theorem lb_X12_beat (own : String) (idx : Nat) : LkB own idx mdX12_beat 1 := ⟨wm 122 (by decide +kernel) rfl, wm 1642 (by decide +kernel) rfl, ⟨by decide, by decide⟩, by decide +kernel⟩
theorem lb_X12_beatCut (own : String) (idx : Nat) : LkB own idx mdX12_beatCut 0 := ⟨wm 122 (by decide +kernel) rfl, wm 1710 (by decide +kernel) rfl, ⟨by decide, by decide⟩, by decide +kernel⟩
theorem lb_X12_begins (own : String) (idx : Nat) : LkB own idx mdX12_begins 0 := ⟨wm 122 (by decide +kernel) rfl, wm 1543 (by decide +kernel) rfl, ⟨by decide, by decide⟩, by decide +kernel⟩
theorem lb_X12_builds (own : String) (idx : Nat) : LkB own idx mdX12_builds 1 := ⟨wm 122 (by decide +kernel) rfl, wm 1817 (by decide +kernel) rfl, ⟨by decide, by decide⟩, by decide +kernel⟩
theorem lb_X12_byteAt (own : String) (idx : Nat) : LkB own idx mdX12_byteAt 2 := ⟨wm 122 (by decide +kernel) rfl, wm 1461 (by decide +kernel) rfl, ⟨by decide, by decide⟩, by decide +kernel⟩
theorem lb_X12_cell (own : String) (idx : Nat) : LkB own idx mdX12_cell 2 := ⟨wm 122 (by decide +kernel) rfl, wm 1606 (by decide +kernel) rfl, ⟨by decide, by decide⟩, by decide +kernel⟩
theorem lb_X12_copy (own : String) (idx : Nat) : LkB own idx mdX12_copy 5 := ⟨wm 122 (by decide +kernel) rfl, wm 1434 (by decide +kernel) rfl, ⟨by decide, by decide⟩, by decide +kernel⟩
theorem lb_X12_copyNight (own : String) (idx : Nat) : LkB own idx mdX12_copyNight 2 := ⟨wm 122 (by decide +kernel) rfl, wm 1630 (by decide +kernel) rfl, ⟨by decide, by decide⟩, by decide +kernel⟩
theorem lb_X12_costOf (own : String) (idx : Nat) : LkB own idx mdX12_costOf 1 := ⟨wm 122 (by decide +kernel) rfl, wm 1809 (by decide +kernel) rfl, ⟨by decide, by decide⟩, by decide +kernel⟩
theorem lb_X12_count (own : String) (idx : Nat) : LkB own idx mdX12_count 1 := ⟨wm 122 (by decide +kernel) rfl, wm 1845 (by decide +kernel) rfl, ⟨by decide, by decide⟩, by decide +kernel⟩
theorem lb_X12_counted (own : String) (idx : Nat) : LkB own idx mdX12_counted 1 := ⟨wm 122 (by decide +kernel) rfl, wm 1849 (by decide +kernel) rfl, ⟨by decide, by decide⟩, by decide +kernel⟩
theorem lb_X12_crosses (own : String) (idx : Nat) : LkB own idx mdX12_crosses 0 := ⟨wm 122 (by decide +kernel) rfl, wm 1650 (by decide +kernel) rfl, ⟨by decide, by decide⟩, by decide +kernel⟩
theorem lb_X12_digest (own : String) (idx : Nat) : LkB own idx mdX12_digest 0 := ⟨wm 122 (by decide +kernel) rfl, wm 1853 (by decide +kernel) rfl, ⟨by decide, by decide⟩, by decide +kernel⟩
theorem lb_X12_does (own : String) (idx : Nat) : LkB own idx mdX12_does 3 := ⟨wm 122 (by decide +kernel) rfl, wm 1805 (by decide +kernel) rfl, ⟨by decide, by decide⟩, by decide +kernel⟩
theorem lb_X12_far (own : String) (idx : Nat) : LkB own idx mdX12_far 2 := ⟨wm 122 (by decide +kernel) rfl, wm 1713 (by decide +kernel) rfl, ⟨by decide, by decide⟩, by decide +kernel⟩
theorem lb_X12_fault (own : String) (idx : Nat) : LkB own idx mdX12_fault 2 := ⟨wm 122 (by decide +kernel) rfl, wm 1453 (by decide +kernel) rfl, ⟨by decide, by decide⟩, by decide +kernel⟩
theorem lb_X12_figure (own : String) (idx : Nat) : LkB own idx mdX12_figure 2 := ⟨wm 122 (by decide +kernel) rfl, wm 1489 (by decide +kernel) rfl, ⟨by decide, by decide⟩, by decide +kernel⟩
theorem lb_X12_finding (own : String) (idx : Nat) : LkB own idx mdX12_finding 0 := ⟨wm 122 (by decide +kernel) rfl, wm 1380 (by decide +kernel) rfl, ⟨by decide, by decide⟩, by decide +kernel⟩
theorem lb_X12_findings (own : String) (idx : Nat) : LkB own idx mdX12_findings 1 := ⟨wm 122 (by decide +kernel) rfl, wm 1384 (by decide +kernel) rfl, ⟨by decide, by decide⟩, by decide +kernel⟩
theorem lb_X12_flowFrom (own : String) (idx : Nat) : LkB own idx mdX12_flowFrom 1 := ⟨wm 122 (by decide +kernel) rfl, wm 1588 (by decide +kernel) rfl, ⟨by decide, by decide⟩, by decide +kernel⟩
theorem lb_X12_flowTo (own : String) (idx : Nat) : LkB own idx mdX12_flowTo 1 := ⟨wm 122 (by decide +kernel) rfl, wm 1584 (by decide +kernel) rfl, ⟨by decide, by decide⟩, by decide +kernel⟩
theorem lb_X12_flows (own : String) (idx : Nat) : LkB own idx mdX12_flows 0 := ⟨wm 122 (by decide +kernel) rfl, wm 1566 (by decide +kernel) rfl, ⟨by decide, by decide⟩, by decide +kernel⟩
theorem lb_X12_fraction (own : String) (idx : Nat) : LkB own idx mdX12_fraction 3 := ⟨wm 122 (by decide +kernel) rfl, wm 1662 (by decide +kernel) rfl, ⟨by decide, by decide⟩, by decide +kernel⟩
theorem lb_X12_gauge (own : String) (idx : Nat) : LkB own idx mdX12_gauge 3 := ⟨wm 122 (by decide +kernel) rfl, wm 1622 (by decide +kernel) rfl, ⟨by decide, by decide⟩, by decide +kernel⟩
theorem lb_X12_go (own : String) (idx : Nat) : LkB own idx mdX12_go 1 := ⟨wm 122 (by decide +kernel) rfl, wm 1558 (by decide +kernel) rfl, ⟨by decide, by decide⟩, by decide +kernel⟩
theorem lb_X12_greater (own : String) (idx : Nat) : LkB own idx mdX12_greater 2 := ⟨wm 122 (by decide +kernel) rfl, wm 1602 (by decide +kernel) rfl, ⟨by decide, by decide⟩, by decide +kernel⟩
theorem lb_X12_harbour (own : String) (idx : Nat) : LkB own idx mdX12_harbour 2 := ⟨wm 122 (by decide +kernel) rfl, wm 1493 (by decide +kernel) rfl, ⟨by decide, by decide⟩, by decide +kernel⟩
theorem lb_X12_harbourFault (own : String) (idx : Nat) : LkB own idx mdX12_harbourFault 1 := ⟨wm 122 (by decide +kernel) rfl, wm 1477 (by decide +kernel) rfl, ⟨by decide, by decide⟩, by decide +kernel⟩
theorem lb_X12_has (own : String) (idx : Nat) : LkB own idx mdX12_has 2 := ⟨wm 122 (by decide +kernel) rfl, wm 1569 (by decide +kernel) rfl, ⟨by decide, by decide⟩, by decide +kernel⟩
theorem lb_X12_heights (own : String) (idx : Nat) : LkB own idx mdX12_heights 1 := ⟨wm 122 (by decide +kernel) rfl, wm 1580 (by decide +kernel) rfl, ⟨by decide, by decide⟩, by decide +kernel⟩
theorem lb_X12_in (own : String) (idx : Nat) : LkB own idx mdX12_in 3 := ⟨wm 122 (by decide +kernel) rfl, wm 1387 (by decide +kernel) rfl, ⟨by decide, by decide⟩, by decide +kernel⟩
theorem lb_X12_isAnySea (own : String) (idx : Nat) : LkB own idx mdX12_isAnySea 0 := ⟨wm 122 (by decide +kernel) rfl, wm 1757 (by decide +kernel) rfl, ⟨by decide, by decide⟩, by decide +kernel⟩
theorem lb_X12_isBeat (own : String) (idx : Nat) : LkB own idx mdX12_isBeat 0 := ⟨wm 122 (by decide +kernel) rfl, wm 1658 (by decide +kernel) rfl, ⟨by decide, by decide⟩, by decide +kernel⟩
theorem lb_X12_isLoud (own : String) (idx : Nat) : LkB own idx mdX12_isLoud 1 := ⟨wm 122 (by decide +kernel) rfl, wm 1702 (by decide +kernel) rfl, ⟨by decide, by decide⟩, by decide +kernel⟩
theorem lb_X12_isPlace (own : String) (idx : Nat) : LkB own idx mdX12_isPlace 1 := ⟨wm 122 (by decide +kernel) rfl, wm 1496 (by decide +kernel) rfl, ⟨by decide, by decide⟩, by decide +kernel⟩
theorem lb_X12_isRow (own : String) (idx : Nat) : LkB own idx mdX12_isRow 1 := ⟨wm 122 (by decide +kernel) rfl, wm 1406 (by decide +kernel) rfl, ⟨by decide, by decide⟩, by decide +kernel⟩
theorem lb_X12_isShipTold (own : String) (idx : Nat) : LkB own idx mdX12_isShipTold 1 := ⟨wm 122 (by decide +kernel) rfl, wm 1515 (by decide +kernel) rfl, ⟨by decide, by decide⟩, by decide +kernel⟩
theorem lb_X12_isText (own : String) (idx : Nat) : LkB own idx mdX12_isText 1 := ⟨wm 122 (by decide +kernel) rfl, wm 1445 (by decide +kernel) rfl, ⟨by decide, by decide⟩, by decide +kernel⟩
theorem lb_X12_keep (own : String) (idx : Nat) : LkB own idx mdX12_keep 1 := ⟨wm 122 (by decide +kernel) rfl, wm 1626 (by decide +kernel) rfl, ⟨by decide, by decide⟩, by decide +kernel⟩
theorem lb_X12_kind (own : String) (idx : Nat) : LkB own idx mdX12_kind 4 := ⟨wm 122 (by decide +kernel) rfl, wm 1686 (by decide +kernel) rfl, ⟨by decide, by decide⟩, by decide +kernel⟩
theorem lb_X12_kindOf (own : String) (idx : Nat) : LkB own idx mdX12_kindOf 4 := ⟨wm 122 (by decide +kernel) rfl, wm 1690 (by decide +kernel) rfl, ⟨by decide, by decide⟩, by decide +kernel⟩
theorem lb_X12_kindOfRing (own : String) (idx : Nat) : LkB own idx mdX12_kindOfRing 2 := ⟨wm 122 (by decide +kernel) rfl, wm 1694 (by decide +kernel) rfl, ⟨by decide, by decide⟩, by decide +kernel⟩
theorem lb_X12_kindOfRoll (own : String) (idx : Nat) : LkB own idx mdX12_kindOfRoll 1 := ⟨wm 122 (by decide +kernel) rfl, wm 1717 (by decide +kernel) rfl, ⟨by decide, by decide⟩, by decide +kernel⟩
theorem lb_X12_kindOfSet (own : String) (idx : Nat) : LkB own idx mdX12_kindOfSet 3 := ⟨wm 122 (by decide +kernel) rfl, wm 1706 (by decide +kernel) rfl, ⟨by decide, by decide⟩, by decide +kernel⟩
theorem lb_X12_lastLoud (own : String) (idx : Nat) : LkB own idx mdX12_lastLoud 0 := ⟨wm 122 (by decide +kernel) rfl, wm 1698 (by decide +kernel) rfl, ⟨by decide, by decide⟩, by decide +kernel⟩
theorem lb_X12_lay (own : String) (idx : Nat) : LkB own idx mdX12_lay 3 := ⟨wm 122 (by decide +kernel) rfl, wm 1414 (by decide +kernel) rfl, ⟨by decide, by decide⟩, by decide +kernel⟩
theorem lb_X12_layHarbour (own : String) (idx : Nat) : LkB own idx mdX12_layHarbour 1 := ⟨wm 122 (by decide +kernel) rfl, wm 1531 (by decide +kernel) rfl, ⟨by decide, by decide⟩, by decide +kernel⟩
theorem lb_X12_layPull (own : String) (idx : Nat) : LkB own idx mdX12_layPull 5 := ⟨wm 122 (by decide +kernel) rfl, wm 1769 (by decide +kernel) rfl, ⟨by decide, by decide⟩, by decide +kernel⟩
theorem lb_X12_layRing (own : String) (idx : Nat) : LkB own idx mdX12_layRing 2 := ⟨wm 122 (by decide +kernel) rfl, wm 1674 (by decide +kernel) rfl, ⟨by decide, by decide⟩, by decide +kernel⟩
theorem lb_X12_layRoll (own : String) (idx : Nat) : LkB own idx mdX12_layRoll 1 := ⟨wm 122 (by decide +kernel) rfl, wm 1682 (by decide +kernel) rfl, ⟨by decide, by decide⟩, by decide +kernel⟩
theorem lb_X12_laySea (own : String) (idx : Nat) : LkB own idx mdX12_laySea 1 := ⟨wm 122 (by decide +kernel) rfl, wm 1539 (by decide +kernel) rfl, ⟨by decide, by decide⟩, by decide +kernel⟩
theorem lb_X12_layShip (own : String) (idx : Nat) : LkB own idx mdX12_layShip 1 := ⟨wm 122 (by decide +kernel) rfl, wm 1547 (by decide +kernel) rfl, ⟨by decide, by decide⟩, by decide +kernel⟩
theorem lb_X12_layWoken (own : String) (idx : Nat) : LkB own idx mdX12_layWoken 2 := ⟨wm 122 (by decide +kernel) rfl, wm 1733 (by decide +kernel) rfl, ⟨by decide, by decide⟩, by decide +kernel⟩
theorem lb_X12_least (own : String) (idx : Nat) : LkB own idx mdX12_least 3 := ⟨wm 122 (by decide +kernel) rfl, wm 1825 (by decide +kernel) rfl, ⟨by decide, by decide⟩, by decide +kernel⟩
theorem lb_X12_leave (own : String) (idx : Nat) : LkB own idx mdX12_leave 1 := ⟨wm 122 (by decide +kernel) rfl, wm 1519 (by decide +kernel) rfl, ⟨by decide, by decide⟩, by decide +kernel⟩
theorem lb_X12_lesser (own : String) (idx : Nat) : LkB own idx mdX12_lesser 2 := ⟨wm 122 (by decide +kernel) rfl, wm 1572 (by decide +kernel) rfl, ⟨by decide, by decide⟩, by decide +kernel⟩
theorem lb_X12_lie (own : String) (idx : Nat) : LkB own idx mdX12_lie 2 := ⟨wm 122 (by decide +kernel) rfl, wm 1785 (by decide +kernel) rfl, ⟨by decide, by decide⟩, by decide +kernel⟩
theorem lb_X12_look (own : String) (idx : Nat) : LkB own idx mdX12_look 1 := ⟨wm 122 (by decide +kernel) rfl, wm 1527 (by decide +kernel) rfl, ⟨by decide, by decide⟩, by decide +kernel⟩
theorem lb_X12_loudest (own : String) (idx : Nat) : LkB own idx mdX12_loudest 0 := ⟨wm 122 (by decide +kernel) rfl, wm 1741 (by decide +kernel) rfl, ⟨by decide, by decide⟩, by decide +kernel⟩
theorem lb_X12_lower (own : String) (idx : Nat) : LkB own idx mdX12_lower 0 := ⟨wm 122 (by decide +kernel) rfl, wm 1399 (by decide +kernel) rfl, ⟨by decide, by decide⟩, by decide +kernel⟩
theorem lb_X12_mark (own : String) (idx : Nat) : LkB own idx mdX12_mark 5 := ⟨wm 122 (by decide +kernel) rfl, wm 1721 (by decide +kernel) rfl, ⟨by decide, by decide⟩, by decide +kernel⟩
theorem lb_X12_mean (own : String) (idx : Nat) : LkB own idx mdX12_mean 1 := ⟨wm 122 (by decide +kernel) rfl, wm 1438 (by decide +kernel) rfl, ⟨by decide, by decide⟩, by decide +kernel⟩
theorem lb_X12_meets (own : String) (idx : Nat) : LkB own idx mdX12_meets 1 := ⟨wm 122 (by decide +kernel) rfl, wm 1410 (by decide +kernel) rfl, ⟨by decide, by decide⟩, by decide +kernel⟩
theorem lb_X12_mix (own : String) (idx : Nat) : LkB own idx mdX12_mix 1 := ⟨wm 122 (by decide +kernel) rfl, wm 1858 (by decide +kernel) rfl, ⟨by decide, by decide⟩, by decide +kernel⟩
theorem lb_X12_mixBooks (own : String) (idx : Nat) : LkB own idx mdX12_mixBooks 0 := ⟨wm 122 (by decide +kernel) rfl, wm 1863 (by decide +kernel) rfl, ⟨by decide, by decide⟩, by decide +kernel⟩
theorem lb_X12_mixNight (own : String) (idx : Nat) : LkB own idx mdX12_mixNight 0 := ⟨wm 122 (by decide +kernel) rfl, wm 1868 (by decide +kernel) rfl, ⟨by decide, by decide⟩, by decide +kernel⟩
theorem lb_X12_moves (own : String) (idx : Nat) : LkB own idx mdX12_moves 2 := ⟨wm 122 (by decide +kernel) rfl, wm 1592 (by decide +kernel) rfl, ⟨by decide, by decide⟩, by decide +kernel⟩
theorem lb_X12_needFloat (own : String) (idx : Nat) : LkB own idx mdX12_needFloat 5 := ⟨wm 122 (by decide +kernel) rfl, wm 1833 (by decide +kernel) rfl, ⟨by decide, by decide⟩, by decide +kernel⟩
theorem lb_X12_needHeard (own : String) (idx : Nat) : LkB own idx mdX12_needHeard 1 := ⟨wm 122 (by decide +kernel) rfl, wm 1646 (by decide +kernel) rfl, ⟨by decide, by decide⟩, by decide +kernel⟩
theorem lb_X12_needPull (own : String) (idx : Nat) : LkB own idx mdX12_needPull 4 := ⟨wm 122 (by decide +kernel) rfl, wm 1765 (by decide +kernel) rfl, ⟨by decide, by decide⟩, by decide +kernel⟩
theorem lb_X12_needWoken (own : String) (idx : Nat) : LkB own idx mdX12_needWoken 2 := ⟨wm 122 (by decide +kernel) rfl, wm 1729 (by decide +kernel) rfl, ⟨by decide, by decide⟩, by decide +kernel⟩
theorem lb_X12_night (own : String) (idx : Nat) : LkB own idx mdX12_night 2 := ⟨wm 122 (by decide +kernel) rfl, wm 1523 (by decide +kernel) rfl, ⟨by decide, by decide⟩, by decide +kernel⟩
theorem lb_X12_number (own : String) (idx : Nat) : LkB own idx mdX12_number 3 := ⟨wm 122 (by decide +kernel) rfl, wm 1469 (by decide +kernel) rfl, ⟨by decide, by decide⟩, by decide +kernel⟩
theorem lb_X12_odds (own : String) (idx : Nat) : LkB own idx mdX12_odds 2 := ⟨wm 122 (by decide +kernel) rfl, wm 1793 (by decide +kernel) rfl, ⟨by decide, by decide⟩, by decide +kernel⟩
theorem lb_X12_offFloat (own : String) (idx : Nat) : LkB own idx mdX12_offFloat 3 := ⟨wm 122 (by decide +kernel) rfl, wm 1837 (by decide +kernel) rfl, ⟨by decide, by decide⟩, by decide +kernel⟩
theorem lb_X12_on (own : String) (idx : Nat) : LkB own idx mdX12_on 1 := ⟨wm 122 (by decide +kernel) rfl, wm 1634 (by decide +kernel) rfl, ⟨by decide, by decide⟩, by decide +kernel⟩
theorem lb_X12_pull (own : String) (idx : Nat) : LkB own idx mdX12_pull 3 := ⟨wm 122 (by decide +kernel) rfl, wm 1761 (by decide +kernel) rfl, ⟨by decide, by decide⟩, by decide +kernel⟩
theorem lb_X12_pushAt (own : String) (idx : Nat) : LkB own idx mdX12_pushAt 1 := ⟨wm 122 (by decide +kernel) rfl, wm 1576 (by decide +kernel) rfl, ⟨by decide, by decide⟩, by decide +kernel⟩
theorem lb_X12_put_ (own : String) (idx : Nat) : LkB own idx mdX12_put_ 2 := ⟨wm 122 (by decide +kernel) rfl, wm 1535 (by decide +kernel) rfl, ⟨by decide, by decide⟩, by decide +kernel⟩
theorem lb_X12_put (own : String) (idx : Nat) : LkB own idx mdX12_put 3 := ⟨wm 122 (by decide +kernel) rfl, wm 1449 (by decide +kernel) rfl, ⟨by decide, by decide⟩, by decide +kernel⟩
theorem lb_X12_quiet (own : String) (idx : Nat) : LkB own idx mdX12_quiet 2 := ⟨wm 122 (by decide +kernel) rfl, wm 1725 (by decide +kernel) rfl, ⟨by decide, by decide⟩, by decide +kernel⟩
theorem lb_X12_quietWith (own : String) (idx : Nat) : LkB own idx mdX12_quietWith 3 := ⟨wm 122 (by decide +kernel) rfl, wm 1813 (by decide +kernel) rfl, ⟨by decide, by decide⟩, by decide +kernel⟩
theorem lb_X12_range (own : String) (idx : Nat) : LkB own idx mdX12_range 1 := ⟨wm 122 (by decide +kernel) rfl, wm 1610 (by decide +kernel) rfl, ⟨by decide, by decide⟩, by decide +kernel⟩
theorem lb_X12_readsCells (own : String) (idx : Nat) : LkB own idx mdX12_readsCells 1 := ⟨wm 122 (by decide +kernel) rfl, wm 1481 (by decide +kernel) rfl, ⟨by decide, by decide⟩, by decide +kernel⟩
theorem lb_X12_readsItem (own : String) (idx : Nat) : LkB own idx mdX12_readsItem 1 := ⟨wm 122 (by decide +kernel) rfl, wm 1485 (by decide +kernel) rfl, ⟨by decide, by decide⟩, by decide +kernel⟩
theorem lb_X12_readsSet (own : String) (idx : Nat) : LkB own idx mdX12_readsSet 1 := ⟨wm 122 (by decide +kernel) rfl, wm 1465 (by decide +kernel) rfl, ⟨by decide, by decide⟩, by decide +kernel⟩
theorem lb_X12_rider (own : String) (idx : Nat) : LkB own idx mdX12_rider 1 := ⟨wm 122 (by decide +kernel) rfl, wm 1550 (by decide +kernel) rfl, ⟨by decide, by decide⟩, by decide +kernel⟩
theorem lb_X12_rides (own : String) (idx : Nat) : LkB own idx mdX12_rides 2 := ⟨wm 122 (by decide +kernel) rfl, wm 1614 (by decide +kernel) rfl, ⟨by decide, by decide⟩, by decide +kernel⟩
theorem lb_X12_ridesTells (own : String) (idx : Nat) : LkB own idx mdX12_ridesTells 2 := ⟨wm 122 (by decide +kernel) rfl, wm 1618 (by decide +kernel) rfl, ⟨by decide, by decide⟩, by decide +kernel⟩
theorem lb_X12_ring (own : String) (idx : Nat) : LkB own idx mdX12_ring 2 := ⟨wm 122 (by decide +kernel) rfl, wm 1670 (by decide +kernel) rfl, ⟨by decide, by decide⟩, by decide +kernel⟩
theorem lb_X12_roll (own : String) (idx : Nat) : LkB own idx mdX12_roll 1 := ⟨wm 122 (by decide +kernel) rfl, wm 1678 (by decide +kernel) rfl, ⟨by decide, by decide⟩, by decide +kernel⟩
theorem lb_X12_row (own : String) (idx : Nat) : LkB own idx mdX12_row 2 := ⟨wm 122 (by decide +kernel) rfl, wm 1403 (by decide +kernel) rfl, ⟨by decide, by decide⟩, by decide +kernel⟩
theorem lb_X12_rowAt (own : String) (idx : Nat) : LkB own idx mdX12_rowAt 2 := ⟨wm 122 (by decide +kernel) rfl, wm 1418 (by decide +kernel) rfl, ⟨by decide, by decide⟩, by decide +kernel⟩
theorem lb_X12_sea (own : String) (idx : Nat) : LkB own idx mdX12_sea 2 := ⟨wm 122 (by decide +kernel) rfl, wm 1500 (by decide +kernel) rfl, ⟨by decide, by decide⟩, by decide +kernel⟩
theorem lb_X12_seaFault (own : String) (idx : Nat) : LkB own idx mdX12_seaFault 1 := ⟨wm 122 (by decide +kernel) rfl, wm 1457 (by decide +kernel) rfl, ⟨by decide, by decide⟩, by decide +kernel⟩
theorem lb_X12_second (own : String) (idx : Nat) : LkB own idx mdX12_second 0 := ⟨wm 122 (by decide +kernel) rfl, wm 1562 (by decide +kernel) rfl, ⟨by decide, by decide⟩, by decide +kernel⟩
theorem lb_X12_set (own : String) (idx : Nat) : LkB own idx mdX12_set 2 := ⟨wm 122 (by decide +kernel) rfl, wm 1508 (by decide +kernel) rfl, ⟨by decide, by decide⟩, by decide +kernel⟩
theorem lb_X12_ship (own : String) (idx : Nat) : LkB own idx mdX12_ship 6 := ⟨wm 122 (by decide +kernel) rfl, wm 1512 (by decide +kernel) rfl, ⟨by decide, by decide⟩, by decide +kernel⟩
theorem lb_X12_sign (own : String) (idx : Nat) : LkB own idx mdX12_sign 2 := ⟨wm 122 (by decide +kernel) rfl, wm 1473 (by decide +kernel) rfl, ⟨by decide, by decide⟩, by decide +kernel⟩
theorem lb_X12_since (own : String) (idx : Nat) : LkB own idx mdX12_since 5 := ⟨wm 122 (by decide +kernel) rfl, wm 1829 (by decide +kernel) rfl, ⟨by decide, by decide⟩, by decide +kernel⟩
theorem lb_X12_span (own : String) (idx : Nat) : LkB own idx mdX12_span 1 := ⟨wm 122 (by decide +kernel) rfl, wm 1666 (by decide +kernel) rfl, ⟨by decide, by decide⟩, by decide +kernel⟩
theorem lb_X12_still (own : String) (idx : Nat) : LkB own idx mdX12_still 2 := ⟨wm 122 (by decide +kernel) rfl, wm 1745 (by decide +kernel) rfl, ⟨by decide, by decide⟩, by decide +kernel⟩
theorem lb_X12_stillest (own : String) (idx : Nat) : LkB own idx mdX12_stillest 0 := ⟨wm 122 (by decide +kernel) rfl, wm 1749 (by decide +kernel) rfl, ⟨by decide, by decide⟩, by decide +kernel⟩
theorem lb_X12_strainOf (own : String) (idx : Nat) : LkB own idx mdX12_strainOf 3 := ⟨wm 122 (by decide +kernel) rfl, wm 1595 (by decide +kernel) rfl, ⟨by decide, by decide⟩, by decide +kernel⟩
theorem lb_X12_tear (own : String) (idx : Nat) : LkB own idx mdX12_tear 1 := ⟨wm 122 (by decide +kernel) rfl, wm 1430 (by decide +kernel) rfl, ⟨by decide, by decide⟩, by decide +kernel⟩
theorem lb_X12_tells (own : String) (idx : Nat) : LkB own idx mdX12_tells 2 := ⟨wm 122 (by decide +kernel) rfl, wm 1422 (by decide +kernel) rfl, ⟨by decide, by decide⟩, by decide +kernel⟩
theorem lb_X12_tellsBeat (own : String) (idx : Nat) : LkB own idx mdX12_tellsBeat 0 := ⟨wm 122 (by decide +kernel) rfl, wm 1654 (by decide +kernel) rfl, ⟨by decide, by decide⟩, by decide +kernel⟩
theorem lb_X12_text (own : String) (idx : Nat) : LkB own idx mdX12_text 2 := ⟨wm 122 (by decide +kernel) rfl, wm 1442 (by decide +kernel) rfl, ⟨by decide, by decide⟩, by decide +kernel⟩
theorem lb_X12_tight (own : String) (idx : Nat) : LkB own idx mdX12_tight 3 := ⟨wm 122 (by decide +kernel) rfl, wm 1773 (by decide +kernel) rfl, ⟨by decide, by decide⟩, by decide +kernel⟩
theorem lb_X12_tonight (own : String) (idx : Nat) : LkB own idx mdX12_tonight 3 := ⟨wm 122 (by decide +kernel) rfl, wm 1781 (by decide +kernel) rfl, ⟨by decide, by decide⟩, by decide +kernel⟩
theorem lb_X12_upper (own : String) (idx : Nat) : LkB own idx mdX12_upper 0 := ⟨wm 122 (by decide +kernel) rfl, wm 1395 (by decide +kernel) rfl, ⟨by decide, by decide⟩, by decide +kernel⟩
theorem lb_X12_v (own : String) (idx : Nat) : LkB own idx mdX12_v 1 := ⟨wm 122 (by decide +kernel) rfl, wm 1554 (by decide +kernel) rfl, ⟨by decide, by decide⟩, by decide +kernel⟩
theorem lb_X12_wakes (own : String) (idx : Nat) : LkB own idx mdX12_wakes 1 := ⟨wm 122 (by decide +kernel) rfl, wm 1753 (by decide +kernel) rfl, ⟨by decide, by decide⟩, by decide +kernel⟩
theorem lb_X12_wakesBy (own : String) (idx : Nat) : LkB own idx mdX12_wakesBy 1 := ⟨wm 122 (by decide +kernel) rfl, wm 1737 (by decide +kernel) rfl, ⟨by decide, by decide⟩, by decide +kernel⟩
theorem lb_X12_watches (own : String) (idx : Nat) : LkB own idx mdX12_watches 1 := ⟨wm 122 (by decide +kernel) rfl, wm 1599 (by decide +kernel) rfl, ⟨by decide, by decide⟩, by decide +kernel⟩
theorem lb_X12_water (own : String) (idx : Nat) : LkB own idx mdX12_water 0 := ⟨wm 122 (by decide +kernel) rfl, wm 1638 (by decide +kernel) rfl, ⟨by decide, by decide⟩, by decide +kernel⟩
theorem lb_X12_where (own : String) (idx : Nat) : LkB own idx mdX12_where 3 := ⟨wm 122 (by decide +kernel) rfl, wm 1777 (by decide +kernel) rfl, ⟨by decide, by decide⟩, by decide +kernel⟩
theorem lb_X12_which (own : String) (idx : Nat) : LkB own idx mdX12_which 3 := ⟨wm 122 (by decide +kernel) rfl, wm 1841 (by decide +kernel) rfl, ⟨by decide, by decide⟩, by decide +kernel⟩
theorem lb_X12_work (own : String) (idx : Nat) : LkB own idx mdX12_work 4 := ⟨wm 122 (by decide +kernel) rfl, wm 1797 (by decide +kernel) rfl, ⟨by decide, by decide⟩, by decide +kernel⟩
theorem lb_X12_worse (own : String) (idx : Nat) : LkB own idx mdX12_worse 2 := ⟨wm 122 (by decide +kernel) rfl, wm 1821 (by decide +kernel) rfl, ⟨by decide, by decide⟩, by decide +kernel⟩
theorem lk_X0_3 : Cond.methodLink RX0 3 Lib.objectInit ∈ lw_gd := wm 162 (by decide +kernel) rfl
theorem lk_X0_35 : Cond.methodLink RX0 35 arraycopyName ∈ lw_gd := wm 692 (by decide +kernel) rfl
theorem lk_X0_41 : LkV RX0 41 mdX0_hasWallPlace 1 := ⟨lb_X0_hasWallPlace _ _, wm 669 (by decide +kernel) rfl, wm 670 (by decide +kernel) rfl, wm 671 (by decide +kernel) rfl⟩
theorem lk_X0_45 : Cond.methodLink RX0 45 Lib.Math.min.name ∈ lw_gd := wm 775 (by decide +kernel) rfl
theorem lk_X0_51 : Cond.methodLink RX0 51 Lib.Math.max.name ∈ lw_gd := wm 1140 (by decide +kernel) rfl
theorem lk_X0_54 : LkV RX0 54 mdX0_hasCell 1 := ⟨lb_X0_hasCell _ _, wm 714 (by decide +kernel) rfl, wm 658 (by decide +kernel) rfl, wm 659 (by decide +kernel) rfl⟩
theorem lk_X0_59 : LkSN RX0 59 mdX11_mix 2 := ⟨lb_X11_mix _ _, List.mem_of_getElem? (i := 18) (by decide +kernel), wm 1199 (by decide +kernel) rfl⟩
theorem lk_X0_63 : LkV RX0 63 mdX0_fact 1 := ⟨lb_X0_fact _ _, wm 1208 (by decide +kernel) rfl, wm 711 (by decide +kernel) rfl, wm 712 (by decide +kernel) rfl⟩
theorem lk_X1_3 : Cond.methodLink RX1 3 Lib.objectInit ∈ lw_gd := wm 261 (by decide +kernel) rfl
theorem lk_X1_43 : LkV RX1 43 mdX1_strain 0 := ⟨lb_X1_strain _ _, wm 809 (by decide +kernel) rfl, wm 810 (by decide +kernel) rfl, wm 811 (by decide +kernel) rfl⟩
theorem lk_X1_47 : Cond.methodLink RX1 47 Lib.Math.max.name ∈ lw_gd := wm 813 (by decide +kernel) rfl
theorem lk_X1_55 : LkSN RX1 55 mdX11_mix 2 := ⟨lb_X11_mix _ _, List.mem_of_getElem? (i := 20) (by decide +kernel), wm 1199 (by decide +kernel) rfl⟩
theorem lk_X2_3 : Cond.methodLink RX2 3 Lib.objectInit ∈ lw_gd := wm 373 (by decide +kernel) rfl
theorem lk_X2_31 : LkV RX2 31 mdX2_cross 1 := ⟨lb_X2_cross _ _, wm 876 (by decide +kernel) rfl, wm 878 (by decide +kernel) rfl, wm 16 (by decide +kernel) rfl⟩
theorem lk_X2_35 : Cond.methodLink RX2 35 Lib.Math.min.name ∈ lw_gd := wm 880 (by decide +kernel) rfl
theorem lk_X2_41 : Cond.methodLink RX2 41 Lib.Math.max.name ∈ lw_gd := wm 881 (by decide +kernel) rfl
theorem lk_X2_44 : LkV RX2 44 mdX2_haveBeat 0 := ⟨lb_X2_haveBeat _ _, wm 958 (by decide +kernel) rfl, wm 887 (by decide +kernel) rfl, wm 888 (by decide +kernel) rfl⟩
theorem lk_X3_1 : Cond.methodLink RX3 1 Lib.objectInit ∈ lw_gd := wm 404 (by decide +kernel) rfl
theorem lk_X3_16 : LkS RX3 16 mdX3_divisor 2 := ⟨lb_X3_divisor _ _, wm 894 (by decide +kernel) rfl, wm 895 (by decide +kernel) rfl⟩
theorem lk_X3_20 : Cond.methodLink RX3 20 Lib.Math.max.name ∈ lw_gd := wm 900 (by decide +kernel) rfl
theorem lk_X3_25 : Cond.methodLink RX3 25 Lib.Math.abs.name ∈ lw_gd := wm 897 (by decide +kernel) rfl
theorem lk_X4_3 : Cond.methodLink RX4 3 Lib.objectInit ∈ lw_gd := wm 334 (by decide +kernel) rfl
theorem lk_X4_23 : Cond.methodLink RX4 23 Lib.Math.min.name ∈ lw_gd := wm 585 (by decide +kernel) rfl
theorem lk_X4_29 : Cond.methodLink RX4 29 Lib.Math.max.name ∈ lw_gd := wm 586 (by decide +kernel) rfl
theorem lk_X4_34 : LkSN RX4 34 mdX11_mix 2 := ⟨lb_X11_mix _ _, List.mem_of_getElem? (i := 24) (by decide +kernel), wm 1199 (by decide +kernel) rfl⟩
theorem lk_X5_3 : Cond.methodLink RX5 3 Lib.objectInit ∈ lw_gd := wm 150 (by decide +kernel) rfl
theorem lk_X5_11 : LkIN RX5 11 mdX9_init 0 := ⟨lb_X9_init _ _, List.mem_of_getElem? (i := 0) (by decide +kernel), rfl, wm 154 (by decide +kernel) rfl, rfl⟩
theorem lk_X5_26 : Cond.methodLink RX5 26 Lib.Math.max.name ∈ lw_gd := wm 253 (by decide +kernel) rfl
theorem lk_X5_38 : LkIN RX5 38 mdX1_init 0 := ⟨lb_X1_init _ _, List.mem_of_getElem? (i := 3) (by decide +kernel), rfl, wm 259 (by decide +kernel) rfl, rfl⟩
theorem lk_X5_39 : LkV RX5 39 mdX1_take 1 := ⟨lb_X1_take _ _, wm 753 (by decide +kernel) rfl, wm 754 (by decide +kernel) rfl, wm 755 (by decide +kernel) rfl⟩
theorem lk_X5_49 : LkV RX5 49 mdX1_rest 0 := ⟨lb_X1_rest _ _, wm 757 (by decide +kernel) rfl, wm 758 (by decide +kernel) rfl, wm 759 (by decide +kernel) rfl⟩
theorem lk_X5_53 : LkV RX5 53 mdX9_begin 2 := ⟨lb_X9_begin _ _, wm 765 (by decide +kernel) rfl, wm 766 (by decide +kernel) rfl, wm 767 (by decide +kernel) rfl⟩
theorem lk_X5_60 : LkV RX5 60 mdX9_pass 0 := ⟨lb_X9_pass _ _, wm 784 (by decide +kernel) rfl, wm 785 (by decide +kernel) rfl, wm 786 (by decide +kernel) rfl⟩
theorem lk_X5_63 : LkV RX5 63 mdX9_flowsAt 1 := ⟨lb_X9_flowsAt _ _, wm 800 (by decide +kernel) rfl, wm 801 (by decide +kernel) rfl, wm 802 (by decide +kernel) rfl⟩
theorem lk_X5_67 : LkV RX5 67 mdX1_ride 2 := ⟨lb_X1_ride _ _, wm 805 (by decide +kernel) rfl, wm 806 (by decide +kernel) rfl, wm 807 (by decide +kernel) rfl⟩
theorem lk_X5_71 : LkV RX5 71 mdX5_begin 2 := ⟨lb_X5_begin _ _, wm 980 (by decide +kernel) rfl, wm 762 (by decide +kernel) rfl, wm 763 (by decide +kernel) rfl⟩
theorem lk_X5_72 : LkV RX5 72 mdX5_pass 1 := ⟨lb_X5_pass _ _, wm 981 (by decide +kernel) rfl, wm 781 (by decide +kernel) rfl, wm 782 (by decide +kernel) rfl⟩
theorem lk_X5_75 : LkV RX5 75 mdX5_has 1 := ⟨lb_X5_has _ _, wm 1019 (by decide +kernel) rfl, wm 831 (by decide +kernel) rfl, wm 832 (by decide +kernel) rfl⟩
theorem lk_X5_85 : LkV RX5 85 mdX5_pullOf 1 := ⟨lb_X5_pullOf _ _, wm 1032 (by decide +kernel) rfl, wm 1021 (by decide +kernel) rfl, wm 1022 (by decide +kernel) rfl⟩
theorem lk_X5_88 : LkV RX5 88 mdX9_take 1 := ⟨lb_X9_take _ _, wm 850 (by decide +kernel) rfl, wm 851 (by decide +kernel) rfl, wm 852 (by decide +kernel) rfl⟩
theorem lk_X5_91 : Cond.methodLink RX5 91 Lib.Math.min.name ∈ lw_gd := wm 855 (by decide +kernel) rfl
theorem lk_X5_96 : LkSN RX5 96 mdX11_mix 2 := ⟨lb_X11_mix _ _, List.mem_of_getElem? (i := 22) (by decide +kernel), wm 1199 (by decide +kernel) rfl⟩
theorem lk_X5_109 : LkV RX5 109 mdX9_fact 2 := ⟨lb_X9_fact _ _, wm 1232 (by decide +kernel) rfl, wm 819 (by decide +kernel) rfl, wm 820 (by decide +kernel) rfl⟩
theorem lk_X5_112 : LkV RX5 112 mdX1_mixRideInto 1 := ⟨lb_X1_mixRideInto _ _, wm 1233 (by decide +kernel) rfl, wm 1234 (by decide +kernel) rfl, wm 1235 (by decide +kernel) rfl⟩
theorem lk_X6_3 : Cond.methodLink RX6 3 Lib.objectInit ∈ lw_gd := wm 418 (by decide +kernel) rfl
theorem lk_X6_23 : Cond.methodLink RX6 23 Lib.Math.min.name ∈ lw_gd := wm 531 (by decide +kernel) rfl
theorem lk_X6_29 : Cond.methodLink RX6 29 Lib.Math.max.name ∈ lw_gd := wm 534 (by decide +kernel) rfl
theorem lk_X6_32 : LkSN RX6 32 mdX11_within 3 := ⟨lb_X11_within _ _, List.mem_of_getElem? (i := 17) (by decide +kernel), wm 521 (by decide +kernel) rfl⟩
theorem lk_X6_38 : LkSN RX6 38 mdX11_mix 2 := ⟨lb_X11_mix _ _, List.mem_of_getElem? (i := 23) (by decide +kernel), wm 1199 (by decide +kernel) rfl⟩
theorem lk_X7_3 : Cond.methodLink RX7 3 Lib.objectInit ∈ lw_gd := wm 324 (by decide +kernel) rfl
theorem lk_X7_11 : LkIN RX7 11 mdX0_init 0 := ⟨lb_X0_init _ _, List.mem_of_getElem? (i := 5) (by decide +kernel), rfl, wm 160 (by decide +kernel) rfl, rfl⟩
theorem lk_X7_20 : LkIN RX7 20 mdX8_init 0 := ⟨lb_X8_init _ _, List.mem_of_getElem? (i := 6) (by decide +kernel), rfl, wm 202 (by decide +kernel) rfl, rfl⟩
theorem lk_X7_27 : LkIN RX7 27 mdX4_init 0 := ⟨lb_X4_init _ _, List.mem_of_getElem? (i := 7) (by decide +kernel), rfl, wm 332 (by decide +kernel) rfl, rfl⟩
theorem lk_X7_36 : LkV RX7 36 mdX7_open 1 := ⟨lb_X7_open _ _, wm 603 (by decide +kernel) rfl, wm 605 (by decide +kernel) rfl, wm 2 (by decide +kernel) rfl⟩
theorem lk_X7_40 : LkV RX7 40 mdX0_renew 0 := ⟨lb_X0_renew _ _, wm 645 (by decide +kernel) rfl, wm 646 (by decide +kernel) rfl, wm 647 (by decide +kernel) rfl⟩
theorem lk_X7_43 : LkV RX7 43 mdX7_skipBlanks 0 := ⟨lb_X7_skipBlanks _ _, wm 611 (by decide +kernel) rfl, wm 613 (by decide +kernel) rfl, wm 3 (by decide +kernel) rfl⟩
theorem lk_X7_46 : LkV RX7 46 mdX7_take 1 := ⟨lb_X7_take _ _, wm 624 (by decide +kernel) rfl, wm 626 (by decide +kernel) rfl, wm 6 (by decide +kernel) rfl⟩
theorem lk_X7_50 : LkV RX7 50 mdX7_number 2 := ⟨lb_X7_number _ _, wm 628 (by decide +kernel) rfl, wm 630 (by decide +kernel) rfl, wm 7 (by decide +kernel) rfl⟩
theorem lk_X7_60 : LkV RX7 60 mdX7_harbourItem 0 := ⟨lb_X7_harbourItem _ _, wm 649 (by decide +kernel) rfl, wm 651 (by decide +kernel) rfl, wm 9 (by decide +kernel) rfl⟩
theorem lk_X7_64 : LkV RX7 64 mdX8_renew 0 := ⟨lb_X8_renew _ _, wm 607 (by decide +kernel) rfl, wm 608 (by decide +kernel) rfl, wm 609 (by decide +kernel) rfl⟩
theorem lk_X7_65 : LkV RX7 65 mdX7_seaItem 0 := ⟨lb_X7_seaItem _ _, wm 620 (by decide +kernel) rfl, wm 622 (by decide +kernel) rfl, wm 5 (by decide +kernel) rfl⟩
theorem lk_X7_68 : LkV RX7 68 mdX7_depthItem 0 := ⟨lb_X7_depthItem _ _, wm 653 (by decide +kernel) rfl, wm 655 (by decide +kernel) rfl, wm 10 (by decide +kernel) rfl⟩
theorem lk_X7_71 : LkV RX7 71 mdX7_wallItem 0 := ⟨lb_X7_wallItem _ _, wm 661 (by decide +kernel) rfl, wm 663 (by decide +kernel) rfl, wm 11 (by decide +kernel) rfl⟩
theorem lk_X7_74 : LkV RX7 74 mdX7_mouthItem 0 := ⟨lb_X7_mouthItem _ _, wm 673 (by decide +kernel) rfl, wm 675 (by decide +kernel) rfl, wm 12 (by decide +kernel) rfl⟩
theorem lk_X7_77 : LkV RX7 77 mdX7_rubItem 0 := ⟨lb_X7_rubItem _ _, wm 677 (by decide +kernel) rfl, wm 679 (by decide +kernel) rfl, wm 13 (by decide +kernel) rfl⟩
theorem lk_X7_80 : LkV RX7 80 mdX7_figure 1 := ⟨lb_X7_figure _ _, wm 632 (by decide +kernel) rfl, wm 634 (by decide +kernel) rfl, wm 8 (by decide +kernel) rfl⟩
theorem lk_X7_84 : LkV RX7 84 mdX0_hasCell 1 := ⟨lb_X0_hasCell _ _, wm 657 (by decide +kernel) rfl, wm 658 (by decide +kernel) rfl, wm 659 (by decide +kernel) rfl⟩
theorem lk_X7_92 : LkV RX7 92 mdX0_raiseWall 1 := ⟨lb_X0_raiseWall _ _, wm 665 (by decide +kernel) rfl, wm 666 (by decide +kernel) rfl, wm 667 (by decide +kernel) rfl⟩
theorem lk_X7_108 : LkV RX7 108 mdX8_add 2 := ⟨lb_X8_add _ _, wm 637 (by decide +kernel) rfl, wm 638 (by decide +kernel) rfl, wm 639 (by decide +kernel) rfl⟩
theorem lk_X7_112 : LkV RX7 112 mdX4_has 1 := ⟨lb_X4_has _ _, wm 619 (by decide +kernel) rfl, wm 592 (by decide +kernel) rfl, wm 593 (by decide +kernel) rfl⟩
theorem lk_X7_119 : LkV RX7 119 mdX7_sign 0 := ⟨lb_X7_sign _ _, wm 615 (by decide +kernel) rfl, wm 617 (by decide +kernel) rfl, wm 4 (by decide +kernel) rfl⟩
theorem lk_X7_123 : LkSN RX7 123 mdX11_within 3 := ⟨lb_X11_within _ _, List.mem_of_getElem? (i := 16) (by decide +kernel), wm 521 (by decide +kernel) rfl⟩
theorem lk_X8_3 : Cond.methodLink RX8 3 Lib.objectInit ∈ lw_gd := wm 204 (by decide +kernel) rfl
theorem lk_X8_26 : Cond.methodLink RX8 26 arraycopyName ∈ lw_gd := wm 704 (by decide +kernel) rfl
theorem lk_X8_34 : LkSN RX8 34 mdX11_mix 2 := ⟨lb_X11_mix _ _, List.mem_of_getElem? (i := 19) (by decide +kernel), wm 1199 (by decide +kernel) rfl⟩
theorem lk_X9_3 : Cond.methodLink RX9 3 Lib.objectInit ∈ lw_gd := wm 156 (by decide +kernel) rfl
theorem lk_X9_11 : LkIN RX9 11 mdX0_init 0 := ⟨lb_X0_init _ _, List.mem_of_getElem? (i := 1) (by decide +kernel), rfl, wm 160 (by decide +kernel) rfl, rfl⟩
theorem lk_X9_20 : LkIN RX9 20 mdX8_init 0 := ⟨lb_X8_init _ _, List.mem_of_getElem? (i := 2) (by decide +kernel), rfl, wm 202 (by decide +kernel) rfl, rfl⟩
theorem lk_X9_45 : LkV RX9 45 mdX0_take 1 := ⟨lb_X0_take _ _, wm 769 (by decide +kernel) rfl, wm 689 (by decide +kernel) rfl, wm 690 (by decide +kernel) rfl⟩
theorem lk_X9_49 : LkV RX9 49 mdX8_take 1 := ⟨lb_X8_take _ _, wm 770 (by decide +kernel) rfl, wm 701 (by decide +kernel) rfl, wm 702 (by decide +kernel) rfl⟩
theorem lk_X9_52 : LkV RX9 52 mdX0_openingBehind 1 := ⟨lb_X0_openingBehind _ _, wm 771 (by decide +kernel) rfl, wm 772 (by decide +kernel) rfl, wm 773 (by decide +kernel) rfl⟩
