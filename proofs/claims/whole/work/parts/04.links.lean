def mJ0_charAt_5068e : ax_M := (yJ0_charAt_5068e, cJ0_charAt_5068e, 2, (some .char))
def mJ0_checkIndex_df160 : ax_M := (yJ0_checkIndex_df160, cJ0_checkIndex_df160, 2, none)
def mJ0_coder_7d493 : ax_M := (yJ0_coder_7d493, cJ0_coder_7d493, 1, (some .byte))
def mJ0_isLatin1_aae02 : ax_M := (yJ0_isLatin1_aae02, cJ0_isLatin1_aae02, 1, (some .boolean))
def mJ0_length_8abf5 : ax_M := (yJ0_length_8abf5, cJ0_length_8abf5, 1, (some .int))
def mJ1_charAt_3b067 : ax_M := (yJ1_charAt_3b067, cJ1_charAt_3b067, 2, (some .char))
def mJ2_charAt_3b067 : ax_M := (yJ2_charAt_3b067, cJ2_charAt_3b067, 2, (some .char))
def mJ2_checkIndex_2214a : ax_M := (yJ2_checkIndex_2214a, cJ2_checkIndex_2214a, 2, none)
def mJ2_getChar_3b067 : ax_M := (yJ2_getChar_3b067, cJ2_getChar_3b067, 2, (some .char))
def mJ2_length_9d52b : ax_M := (yJ2_length_9d52b, cJ2_length_9d52b, 1, (some .int))
def mJ3_checkIndex_8e157 : ax_M := (yJ3_checkIndex_8e157, cJ3_checkIndex_8e157, 3, (some .int))
def mJ6_bitCount_0f7a4 : ax_M := (yJ6_bitCount_0f7a4, cJ6_bitCount_0f7a4, 1, (some .int))
def mJ7_fill_53178 : ax_M := (yJ7_fill_53178, cJ7_fill_53178, 4, none)
def mJ9_abs_0f7a4 : ax_M := (yJ9_abs_0f7a4, cJ9_abs_0f7a4, 1, (some .int))
def mJ9_max_7cf53 : ax_M := (yJ9_max_7cf53, cJ9_max_7cf53, 2, (some .int))
def mJ9_min_7cf53 : ax_M := (yJ9_min_7cf53, cJ9_min_7cf53, 2, (some .int))
def mX0_accepts : ax_M := (yX0_accepts, cX0_accepts, 5, (some .boolean))
def mX0_acceptsGirth : ax_M := (yX0_acceptsGirth, cX0_acceptsGirth, 2, (some .boolean))
def mX0_acceptsRoad : ax_M := (yX0_acceptsRoad, cX0_acceptsRoad, 4, (some .boolean))
def mX0_acceptsTown : ax_M := (yX0_acceptsTown, cX0_acceptsTown, 3, (some .boolean))
def mX0_acceptsWalker : ax_M := (yX0_acceptsWalker, cX0_acceptsWalker, 4, (some .boolean))
def mX0_areTwoTowns : ax_M := (yX0_areTwoTowns, cX0_areTwoTowns, 3, (some .boolean))
def mX0_byRoad : ax_M := (yX0_byRoad, cX0_byRoad, 3, (some .int))
def mX0_clear : ax_M := (yX0_clear, cX0_clear, 1, none)
def mX0_daysOf : ax_M := (yX0_daysOf, cX0_daysOf, 4, (some .int))
def mX0_girthOf : ax_M := (yX0_girthOf, cX0_girthOf, 4, (some .int))
def mX0_init : ax_M := (yX0_init, cX0_init, 1, none)
def mX0_isNear : ax_M := (yX0_isNear, cX0_isNear, 3, (some .boolean))
def mX0_isTown : ax_M := (yX0_isTown, cX0_isTown, 2, (some .boolean))
def mX0_isWalker : ax_M := (yX0_isWalker, cX0_isWalker, 2, (some .boolean))
def mX0_liesApart : ax_M := (yX0_liesApart, cX0_liesApart, 3, (some .int))
def mX0_measureRoads : ax_M := (yX0_measureRoads, cX0_measureRoads, 4, none)
def mX0_offGirth : ax_M := (yX0_offGirth, cX0_offGirth, 2, (some .int))
def mX0_shadow : ax_M := (yX0_shadow, cX0_shadow, 2, (some .int))
def mX0_shadowsApart : ax_M := (yX0_shadowsApart, cX0_shadowsApart, 3, (some .int))
def mX0_straight : ax_M := (yX0_straight, cX0_straight, 3, (some .int))
def mX1_add : ax_M := (yX1_add, cX1_add, 5, none)
def mX1_clear : ax_M := (yX1_clear, cX1_clear, 1, none)
def mX1_copyFrom : ax_M := (yX1_copyFrom, cX1_copyFrom, 2, none)
def mX1_has : ax_M := (yX1_has, cX1_has, 2, (some .boolean))
def mX1_init : ax_M := (yX1_init, cX1_init, 1, none)
def mX1_insertAt : ax_M := (yX1_insertAt, cX1_insertAt, 6, none)
def mX1_isBetween : ax_M := (yX1_isBetween, cX1_isBetween, 6, (some .boolean))
def mX1_latestOfAnother : ax_M := (yX1_latestOfAnother, cX1_latestOfAnother, 5, (some .int))
def mX1_removeAt : ax_M := (yX1_removeAt, cX1_removeAt, 2, none)
def mX2_init : ax_M := (yX2_init, cX2_init, 1, none)
def mX2_meanOf : ax_M := (yX2_meanOf, cX2_meanOf, 8, (some .int))
def mX2_reckon : ax_M := (yX2_reckon, cX2_reckon, 7, none)
def mX3_append : ax_M := (yX3_append, cX3_append, 2, none)
def mX3_clear : ax_M := (yX3_clear, cX3_clear, 1, none)
def mX3_init : ax_M := (yX3_init, cX3_init, 1, none)
def mX3_letterAt : ax_M := (yX3_letterAt, cX3_letterAt, 2, (some .int))
def mX4_firstFault : ax_M := (yX4_firstFault, cX4_firstFault, 5, (some .int))
def mX4_init : ax_M := (yX4_init, cX4_init, 1, none)
def mX4_numbersBehind : ax_M := (yX4_numbersBehind, cX4_numbersBehind, 1, (some .int))
def mX4_readNumber : ax_M := (yX4_readNumber, cX4_readNumber, 5, (some .int))
def mX4_takesItem : ax_M := (yX4_takesItem, cX4_takesItem, 8, (some .boolean))
def mX5_add : ax_M := (yX5_add, cX5_add, 5, none)
def mX5_clear : ax_M := (yX5_clear, cX5_clear, 1, none)
def mX5_init : ax_M := (yX5_init, cX5_init, 1, none)
def mX6_clear : ax_M := (yX6_clear, cX6_clear, 1, none)
def mX6_init : ax_M := (yX6_init, cX6_init, 1, none)
def mX6_makeRoom : ax_M := (yX6_makeRoom, cX6_makeRoom, 1, none)
def mX6_rememberStriking : ax_M := (yX6_rememberStriking, cX6_rememberStriking, 3, none)
def mX6_rememberWalk : ax_M := (yX6_rememberWalk, cX6_rememberWalk, 2, none)
def mX6_takeBack : ax_M := (yX6_takeBack, cX6_takeBack, 3, none)
def mX7_all : ax_M := (yX7_all, cX7_all, 6, (some .int))
def mX7_allSeenFits : ax_M := (yX7_allSeenFits, cX7_allSeenFits, 6, (some .boolean))
def mX7_at : ax_M := (yX7_at, cX7_at, 2, (some .int))
def mX7_back : ax_M := (yX7_back, cX7_back, 1, (some .int))
def mX7_between : ax_M := (yX7_between, cX7_between, 4, (some .int))
def mX7_cancel : ax_M := (yX7_cancel, cX7_cancel, 9, (some .int))
def mX7_closeGap : ax_M := (yX7_closeGap, cX7_closeGap, 4, none)
def mX7_commonDivisor : ax_M := (yX7_commonDivisor, cX7_commonDivisor, 6, (some .int))
def mX7_copyRow : ax_M := (yX7_copyRow, cX7_copyRow, 3, none)
def mX7_count : ax_M := (yX7_count, cX7_count, 2, (some .int))
def mX7_cut : ax_M := (yX7_cut, cX7_cut, 3, (some .int))
def mX7_drawOf : ax_M := (yX7_drawOf, cX7_drawOf, 4, (some .int))
def mX7_fault : ax_M := (yX7_fault, cX7_fault, 1, (some .int))
def mX7_fewest : ax_M := (yX7_fewest, cX7_fewest, 5, (some .int))
def mX7_fits : ax_M := (yX7_fits, cX7_fits, 3, (some .int))
def mX7_fittingKinds : ax_M := (yX7_fittingKinds, cX7_fittingKinds, 4, (some .int))
def mX7_fittingUnits : ax_M := (yX7_fittingUnits, cX7_fittingUnits, 4, (some .int))
def mX7_forget : ax_M := (yX7_forget, cX7_forget, 2, (some .int))
def mX7_girthBy : ax_M := (yX7_girthBy, cX7_girthBy, 2, (some .int))
def mX7_girthWithout : ax_M := (yX7_girthWithout, cX7_girthWithout, 8, (some .int))
def mX7_goWalking : ax_M := (yX7_goWalking, cX7_goWalking, 5, none)
def mX7_init : ax_M := (yX7_init, cX7_init, 2, none)
def mX7_keep : ax_M := (yX7_keep, cX7_keep, 1, (some .int))
def mX7_keptAt : ax_M := (yX7_keptAt, cX7_keptAt, 2, (some (.object "GirthReports$Book")))
def mX7_lay : ax_M := (yX7_lay, cX7_lay, 2, (some .int))
def mX7_leastBy : ax_M := (yX7_leastBy, cX7_leastBy, 2, (some .int))
def mX7_mean : ax_M := (yX7_mean, cX7_mean, 1, (some .int))
def mX7_meanBy : ax_M := (yX7_meanBy, cX7_meanBy, 2, (some .int))
def mX7_miscount : ax_M := (yX7_miscount, cX7_miscount, 7, (some .int))
def mX7_mostBy : ax_M := (yX7_mostBy, cX7_mostBy, 2, (some .int))
def mX7_next : ax_M := (yX7_next, cX7_next, 8, (some .int))
def mX7_nineTenths : ax_M := (yX7_nineTenths, cX7_nineTenths, 1, (some .int))
def mX7_openGap : ax_M := (yX7_openGap, cX7_openGap, 4, none)
def mX7_power : ax_M := (yX7_power, cX7_power, 4, (some .int))
def mX7_put : ax_M := (yX7_put, cX7_put, 3, none)
def mX7_report : ax_M := (yX7_report, cX7_report, 3, (some .int))
def mX7_rest : ax_M := (yX7_rest, cX7_rest, 2, (some .int))
def mX7_sail : ax_M := (yX7_sail, cX7_sail, 5, (some .int))
def mX7_see : ax_M := (yX7_see, cX7_see, 5, (some .int))
def mX7_shadowsApartBy : ax_M := (yX7_shadowsApartBy, cX7_shadowsApartBy, 2, (some .int))
def mX7_stadiaWithout : ax_M := (yX7_stadiaWithout, cX7_stadiaWithout, 10, (some .int))
def mX7_strike : ax_M := (yX7_strike, cX7_strike, 2, (some .int))
def mX7_toldOfMiles : ax_M := (yX7_toldOfMiles, cX7_toldOfMiles, 4, (some .int))
def mX7_town : ax_M := (yX7_town, cX7_town, 3, (some .int))
def mX7_towns : ax_M := (yX7_towns, cX7_towns, 4, (some .int))
def mX7_undo : ax_M := (yX7_undo, cX7_undo, 1, (some .int))
def mX7_walk : ax_M := (yX7_walk, cX7_walk, 4, (some .int))
def mX7_walkByDraw : ax_M := (yX7_walkByDraw, cX7_walkByDraw, 6, none)
def mX7_walker : ax_M := (yX7_walker, cX7_walker, 3, (some .int))
def mX7_waysNear : ax_M := (yX7_waysNear, cX7_waysNear, 6, (some .int))
def mX7_widthOfNext : ax_M := (yX7_widthOfNext, cX7_widthOfNext, 7, (some .int))
def mX7_wipe : ax_M := (yX7_wipe, cX7_wipe, 2, (some .int))
def mX7_within : ax_M := (yX7_within, cX7_within, 3, (some .boolean))
def mX7_wouldTell : ax_M := (yX7_wouldTell, cX7_wouldTell, 8, (some .int))
def mX7_write : ax_M := (yX7_write, cX7_write, 2, (some .int))
def mX7_year : ax_M := (yX7_year, cX7_year, 5, (some .int))
def mX8_all : ax_M := (yX8_all, cX8_all, 7, (some .int))
def mX8_apart : ax_M := (yX8_apart, cX8_apart, 2, (some .int))
def mX8_areTowns : ax_M := (yX8_areTowns, cX8_areTowns, 3, (some .boolean))
def mX8_back : ax_M := (yX8_back, cX8_back, 1, (some .int))
def mX8_bends : ax_M := (yX8_bends, cX8_bends, 4, none)
def mX8_between : ax_M := (yX8_between, cX8_between, 4, (some .int))
def mX8_bits : ax_M := (yX8_bits, cX8_bits, 3, (some .int))
def mX8_bound : ax_M := (yX8_bound, cX8_bound, 4, (some .int))
def mX8_cancel : ax_M := (yX8_cancel, cX8_cancel, 8, (some .int))
def mX8_clears : ax_M := (yX8_clears, cX8_clears, 2, none)
def mX8_copied : ax_M := (yX8_copied, cX8_copied, 10, (some .int))
def mX8_copies : ax_M := (yX8_copies, cX8_copies, 4, none)
def mX8_count : ax_M := (yX8_count, cX8_count, 2, (some .int))
def mX8_degrees : ax_M := (yX8_degrees, cX8_degrees, 3, (some .int))
def mX8_degreesOf : ax_M := (yX8_degreesOf, cX8_degreesOf, 3, (some .int))
def mX8_fault : ax_M := (yX8_fault, cX8_fault, 1, (some .int))
def mX8_fewest : ax_M := (yX8_fewest, cX8_fewest, 6, (some .int))
def mX8_fits : ax_M := (yX8_fits, cX8_fits, 6, (some .int))
def mX8_forget : ax_M := (yX8_forget, cX8_forget, 2, (some .int))
def mX8_girthBy : ax_M := (yX8_girthBy, cX8_girthBy, 3, (some .int))
def mX8_girthOf : ax_M := (yX8_girthOf, cX8_girthOf, 4, (some .int))
def mX8_goes : ax_M := (yX8_goes, cX8_goes, 4, none)
def mX8_has : ax_M := (yX8_has, cX8_has, 2, (some .boolean))
def mX8_in : ax_M := (yX8_in, cX8_in, 6, (some .boolean))
def mX8_init : ax_M := (yX8_init, cX8_init, 1, none)
def mX8_isNear : ax_M := (yX8_isNear, cX8_isNear, 3, (some .boolean))
def mX8_isReport : ax_M := (yX8_isReport, cX8_isReport, 2, (some .boolean))
def mX8_isSo : ax_M := (yX8_isSo, cX8_isSo, 6, (some .boolean))
def mX8_isTown : ax_M := (yX8_isTown, cX8_isTown, 2, (some .boolean))
def mX8_isWalker : ax_M := (yX8_isWalker, cX8_isWalker, 2, (some .boolean))
def mX8_item : ax_M := (yX8_item, cX8_item, 5, none)
def mX8_keep : ax_M := (yX8_keep, cX8_keep, 1, (some .int))
def mX8_known : ax_M := (yX8_known, cX8_known, 2, none)
def mX8_larger : ax_M := (yX8_larger, cX8_larger, 2, (some .int))
def mX8_lay : ax_M := (yX8_lay, cX8_lay, 1, (some .int))
def mX8_lies : ax_M := (yX8_lies, cX8_lies, 3, none)
def mX8_mean : ax_M := (yX8_mean, cX8_mean, 1, (some .int))
def mX8_meanOf : ax_M := (yX8_meanOf, cX8_meanOf, 7, (some .int))
def mX8_miscount : ax_M := (yX8_miscount, cX8_miscount, 15, (some .int))
def mX8_more : ax_M := (yX8_more, cX8_more, 3, (some .int))
def mX8_next : ax_M := (yX8_next, cX8_next, 11, (some .int))
def mX8_number : ax_M := (yX8_number, cX8_number, 5, (some .int))
def mX8_offBy : ax_M := (yX8_offBy, cX8_offBy, 10, (some .int))
def mX8_peek : ax_M := (yX8_peek, cX8_peek, 1, (some .int))
def mX8_reads : ax_M := (yX8_reads, cX8_reads, 2, (some .boolean))
def mX8_report : ax_M := (yX8_report, cX8_report, 3, (some .int))
def mX8_road : ax_M := (yX8_road, cX8_road, 3, (some .int))
def mX8_sail : ax_M := (yX8_sail, cX8_sail, 6, (some .int))
def mX8_see : ax_M := (yX8_see, cX8_see, 5, (some .int))
def mX8_settles : ax_M := (yX8_settles, cX8_settles, 2, none)
def mX8_shadow : ax_M := (yX8_shadow, cX8_shadow, 2, (some .int))
def mX8_smaller : ax_M := (yX8_smaller, cX8_smaller, 2, (some .int))
def mX8_straight : ax_M := (yX8_straight, cX8_straight, 3, (some .int))
def mX8_strike : ax_M := (yX8_strike, cX8_strike, 2, (some .int))
def mX8_strikes : ax_M := (yX8_strikes, cX8_strikes, 4, none)
def mX8_tells : ax_M := (yX8_tells, cX8_tells, 4, (some .int))
def mX8_told : ax_M := (yX8_told, cX8_told, 8, (some .int))
def mX8_toldBy : ax_M := (yX8_toldBy, cX8_toldBy, 3, (some .int))
def mX8_town : ax_M := (yX8_town, cX8_town, 3, (some .int))
def mX8_towns : ax_M := (yX8_towns, cX8_towns, 4, (some .int))
def mX8_undo : ax_M := (yX8_undo, cX8_undo, 1, (some .int))
def mX8_walk : ax_M := (yX8_walk, cX8_walk, 4, (some .int))
def mX8_walker : ax_M := (yX8_walker, cX8_walker, 3, (some .int))
def mX8_walks : ax_M := (yX8_walks, cX8_walks, 7, (some .int))
def mX8_wipe : ax_M := (yX8_wipe, cX8_wipe, 2, (some .int))
def mX8_write : ax_M := (yX8_write, cX8_write, 2, (some .int))
def mX8_year : ax_M := (yX8_year, cX8_year, 11, (some .int))
set_option maxRecDepth 20000 in
theorem lo_X0_3 : Cond.methodLink RX0 3 Lib.objectInit ∈ ax_Big := ax_bigI 230 (by decide +kernel) rfl
set_option maxRecDepth 20000 in
theorem mc_J7_fill_53178 : Cond.code mJ7_fill_53178.1 mJ7_fill_53178.2.1 mJ7_fill_53178.2.2.1 mJ7_fill_53178.2.2.2 ∈ ax_Big := ax_bigI 335 (by decide +kernel) rfl
set_option maxRecDepth 20000 in
theorem ms_J7_fill_53178 : Cond.static mJ7_fill_53178.1 ∈ ax_Big := ax_bigI 334 (by decide +kernel) rfl
set_option maxRecDepth 20000 in
theorem mi_J7 : Cond.initialized RJ7 ∈ ax_Big := ax_bigI 70 (by decide +kernel) rfl
set_option maxRecDepth 20000 in
theorem ls_X0_43 : ax_LS RX0 43 mJ7_fill_53178 2 := ⟨mc_J7_fill_53178, ms_J7_fill_53178, mi_J7, Or.inl (ax_bigI 333 (by decide +kernel) rfl), by decide, ⟨by decide +kernel, by decide +kernel, by decide +kernel⟩⟩
set_option maxRecDepth 20000 in
theorem mc_X0_acceptsGirth : Cond.code mX0_acceptsGirth.1 mX0_acceptsGirth.2.1 mX0_acceptsGirth.2.2.1 mX0_acceptsGirth.2.2.2 ∈ ax_Big := ax_bigI 366 (by decide +kernel) rfl
set_option maxRecDepth 20000 in
theorem mn_X0_acceptsGirth : Cond.instanceMethod mX0_acceptsGirth.1 ∈ ax_Big := ax_bigI 365 (by decide +kernel) rfl
set_option maxRecDepth 20000 in
theorem mv_X0_acceptsGirth : Cond.selects mX0_acceptsGirth.1.cls mX0_acceptsGirth.1 mX0_acceptsGirth.1 ∈ ax_Big := ax_bigI 2 (by decide +kernel) rfl
set_option maxRecDepth 20000 in
theorem mi_X0 : Cond.initialized RX0 ∈ ax_Big := ax_bigI 65 (by decide +kernel) rfl
set_option maxRecDepth 20000 in
theorem lv_X0_49 : ax_LV RX0 49 mX0_acceptsGirth 1 0 := ⟨mc_X0_acceptsGirth, mn_X0_acceptsGirth, mv_X0_acceptsGirth, rfl, mi_X0, Or.inl (ax_bigI 363 (by decide +kernel) rfl), by decide, ⟨by decide +kernel, by decide +kernel, by decide +kernel⟩⟩
set_option maxRecDepth 20000 in
theorem mc_X0_acceptsTown : Cond.code mX0_acceptsTown.1 mX0_acceptsTown.2.1 mX0_acceptsTown.2.2.1 mX0_acceptsTown.2.2.2 ∈ ax_Big := ax_bigI 371 (by decide +kernel) rfl
set_option maxRecDepth 20000 in
theorem mn_X0_acceptsTown : Cond.instanceMethod mX0_acceptsTown.1 ∈ ax_Big := ax_bigI 370 (by decide +kernel) rfl
set_option maxRecDepth 20000 in
theorem mv_X0_acceptsTown : Cond.selects mX0_acceptsTown.1.cls mX0_acceptsTown.1 mX0_acceptsTown.1 ∈ ax_Big := ax_bigI 3 (by decide +kernel) rfl
set_option maxRecDepth 20000 in
theorem lv_X0_53 : ax_LV RX0 53 mX0_acceptsTown 2 0 := ⟨mc_X0_acceptsTown, mn_X0_acceptsTown, mv_X0_acceptsTown, rfl, mi_X0, Or.inl (ax_bigI 368 (by decide +kernel) rfl), by decide, ⟨by decide +kernel, by decide +kernel, by decide +kernel⟩⟩
set_option maxRecDepth 20000 in
theorem mc_X0_acceptsRoad : Cond.code mX0_acceptsRoad.1 mX0_acceptsRoad.2.1 mX0_acceptsRoad.2.2.1 mX0_acceptsRoad.2.2.2 ∈ ax_Big := ax_bigI 376 (by decide +kernel) rfl
set_option maxRecDepth 20000 in
theorem mn_X0_acceptsRoad : Cond.instanceMethod mX0_acceptsRoad.1 ∈ ax_Big := ax_bigI 375 (by decide +kernel) rfl
set_option maxRecDepth 20000 in
theorem mv_X0_acceptsRoad : Cond.selects mX0_acceptsRoad.1.cls mX0_acceptsRoad.1 mX0_acceptsRoad.1 ∈ ax_Big := ax_bigI 4 (by decide +kernel) rfl
set_option maxRecDepth 20000 in
theorem lv_X0_57 : ax_LV RX0 57 mX0_acceptsRoad 3 0 := ⟨mc_X0_acceptsRoad, mn_X0_acceptsRoad, mv_X0_acceptsRoad, rfl, mi_X0, Or.inl (ax_bigI 373 (by decide +kernel) rfl), by decide, ⟨by decide +kernel, by decide +kernel, by decide +kernel⟩⟩
set_option maxRecDepth 20000 in
theorem mc_X0_acceptsWalker : Cond.code mX0_acceptsWalker.1 mX0_acceptsWalker.2.1 mX0_acceptsWalker.2.2.1 mX0_acceptsWalker.2.2.2 ∈ ax_Big := ax_bigI 388 (by decide +kernel) rfl
set_option maxRecDepth 20000 in
theorem mn_X0_acceptsWalker : Cond.instanceMethod mX0_acceptsWalker.1 ∈ ax_Big := ax_bigI 387 (by decide +kernel) rfl
set_option maxRecDepth 20000 in
theorem mv_X0_acceptsWalker : Cond.selects mX0_acceptsWalker.1.cls mX0_acceptsWalker.1 mX0_acceptsWalker.1 ∈ ax_Big := ax_bigI 5 (by decide +kernel) rfl
set_option maxRecDepth 20000 in
theorem lv_X0_61 : ax_LV RX0 61 mX0_acceptsWalker 3 0 := ⟨mc_X0_acceptsWalker, mn_X0_acceptsWalker, mv_X0_acceptsWalker, rfl, mi_X0, Or.inl (ax_bigI 385 (by decide +kernel) rfl), by decide, ⟨by decide +kernel, by decide +kernel, by decide +kernel⟩⟩
set_option maxRecDepth 20000 in
theorem mc_X7_within : Cond.code mX7_within.1 mX7_within.2.1 mX7_within.2.2.1 mX7_within.2.2.2 ∈ ax_Big := ax_bigI 356 (by decide +kernel) rfl
set_option maxRecDepth 20000 in
theorem ms_X7_within : Cond.static mX7_within.1 ∈ ax_Big := ax_bigI 355 (by decide +kernel) rfl
set_option maxRecDepth 20000 in
theorem mi_X7 : Cond.initialized RX7 ∈ ax_Big := ax_bigI 58 (by decide +kernel) rfl
set_option maxRecDepth 20000 in
theorem ls_X0_64 : ax_LS RX0 64 mX7_within 3 := ⟨mc_X7_within, ms_X7_within, mi_X7, Or.inr ⟨"GirthReports", by decide +kernel⟩, by decide, ⟨by decide +kernel, by decide +kernel, by decide +kernel⟩⟩
set_option maxRecDepth 20000 in
theorem mc_X7_put : Cond.code mX7_put.1 mX7_put.2.1 mX7_put.2.2.1 mX7_put.2.2.2 ∈ ax_Big := ax_bigI 324 (by decide +kernel) rfl
set_option maxRecDepth 20000 in
theorem ms_X7_put : Cond.static mX7_put.1 ∈ ax_Big := ax_bigI 323 (by decide +kernel) rfl
set_option maxRecDepth 20000 in
theorem ls_X0_67 : ax_LS RX0 67 mX7_put 3 := ⟨mc_X7_put, ms_X7_put, mi_X7, Or.inr ⟨"GirthReports", by decide +kernel⟩, by decide, ⟨by decide +kernel, by decide +kernel, by decide +kernel⟩⟩
set_option maxRecDepth 20000 in
theorem mc_X0_areTwoTowns : Cond.code mX0_areTwoTowns.1 mX0_areTwoTowns.2.1 mX0_areTwoTowns.2.2.1 mX0_areTwoTowns.2.2.2 ∈ ax_Big := ax_bigI 380 (by decide +kernel) rfl
set_option maxRecDepth 20000 in
theorem mn_X0_areTwoTowns : Cond.instanceMethod mX0_areTwoTowns.1 ∈ ax_Big := ax_bigI 378 (by decide +kernel) rfl
set_option maxRecDepth 20000 in
theorem mv_X0_areTwoTowns : Cond.selects mX0_areTwoTowns.1.cls mX0_areTwoTowns.1 mX0_areTwoTowns.1 ∈ ax_Big := ax_bigI 379 (by decide +kernel) rfl
set_option maxRecDepth 20000 in
theorem lv_X0_71 : ax_LV RX0 71 mX0_areTwoTowns 2 0 := ⟨mc_X0_areTwoTowns, mn_X0_areTwoTowns, mv_X0_areTwoTowns, rfl, mi_X0, Or.inl (ax_bigI 377 (by decide +kernel) rfl), by decide, ⟨by decide +kernel, by decide +kernel, by decide +kernel⟩⟩
set_option maxRecDepth 20000 in
theorem mc_X0_straight : Cond.code mX0_straight.1 mX0_straight.2.1 mX0_straight.2.2.1 mX0_straight.2.2.2 ∈ ax_Big := ax_bigI 396 (by decide +kernel) rfl
set_option maxRecDepth 20000 in
theorem mn_X0_straight : Cond.instanceMethod mX0_straight.1 ∈ ax_Big := ax_bigI 394 (by decide +kernel) rfl
set_option maxRecDepth 20000 in
theorem mv_X0_straight : Cond.selects mX0_straight.1.cls mX0_straight.1 mX0_straight.1 ∈ ax_Big := ax_bigI 395 (by decide +kernel) rfl
set_option maxRecDepth 20000 in
theorem lv_X0_74 : ax_LV RX0 74 mX0_straight 2 0 := ⟨mc_X0_straight, mn_X0_straight, mv_X0_straight, rfl, mi_X0, Or.inl (ax_bigI 393 (by decide +kernel) rfl), by decide, ⟨by decide +kernel, by decide +kernel, by decide +kernel⟩⟩
set_option maxRecDepth 20000 in
theorem mc_X7_at : Cond.code mX7_at.1 mX7_at.2.1 mX7_at.2.2.1 mX7_at.2.2.2 ∈ ax_Big := ax_bigI 346 (by decide +kernel) rfl
set_option maxRecDepth 20000 in
theorem ms_X7_at : Cond.static mX7_at.1 ∈ ax_Big := ax_bigI 345 (by decide +kernel) rfl
set_option maxRecDepth 20000 in
theorem ls_X0_78 : ax_LS RX0 78 mX7_at 2 := ⟨mc_X7_at, ms_X7_at, mi_X7, Or.inr ⟨"GirthReports", by decide +kernel⟩, by decide, ⟨by decide +kernel, by decide +kernel, by decide +kernel⟩⟩
set_option maxRecDepth 20000 in
theorem mc_X7_cut : Cond.code mX7_cut.1 mX7_cut.2.1 mX7_cut.2.2.1 mX7_cut.2.2.2 ∈ ax_Big := ax_bigI 407 (by decide +kernel) rfl
set_option maxRecDepth 20000 in
theorem ms_X7_cut : Cond.static mX7_cut.1 ∈ ax_Big := ax_bigI 406 (by decide +kernel) rfl
set_option maxRecDepth 20000 in
theorem ls_X0_82 : ax_LS RX0 82 mX7_cut 2 := ⟨mc_X7_cut, ms_X7_cut, mi_X7, Or.inr ⟨"GirthReports", by decide +kernel⟩, by decide, ⟨by decide +kernel, by decide +kernel, by decide +kernel⟩⟩
set_option maxRecDepth 20000 in
theorem mc_X0_isTown : Cond.code mX0_isTown.1 mX0_isTown.2.1 mX0_isTown.2.2.1 mX0_isTown.2.2.2 ∈ ax_Big := ax_bigI 384 (by decide +kernel) rfl
set_option maxRecDepth 20000 in
theorem mn_X0_isTown : Cond.instanceMethod mX0_isTown.1 ∈ ax_Big := ax_bigI 382 (by decide +kernel) rfl
set_option maxRecDepth 20000 in
theorem mv_X0_isTown : Cond.selects mX0_isTown.1.cls mX0_isTown.1 mX0_isTown.1 ∈ ax_Big := ax_bigI 383 (by decide +kernel) rfl
set_option maxRecDepth 20000 in
theorem lv_X0_86 : ax_LV RX0 86 mX0_isTown 1 0 := ⟨mc_X0_isTown, mn_X0_isTown, mv_X0_isTown, rfl, mi_X0, Or.inl (ax_bigI 381 (by decide +kernel) rfl), by decide, ⟨by decide +kernel, by decide +kernel, by decide +kernel⟩⟩
set_option maxRecDepth 20000 in
theorem mc_J9_max_7cf53 : Cond.code mJ9_max_7cf53.1 mJ9_max_7cf53.2.1 mJ9_max_7cf53.2.2.1 mJ9_max_7cf53.2.2.2 ∈ ax_Big := ax_bigI 491 (by decide +kernel) rfl
set_option maxRecDepth 20000 in
theorem ms_J9_max_7cf53 : Cond.static mJ9_max_7cf53.1 ∈ ax_Big := ax_bigI 490 (by decide +kernel) rfl
set_option maxRecDepth 20000 in
theorem mi_J9 : Cond.initialized RJ9 ∈ ax_Big := ax_bigI 71 (by decide +kernel) rfl
set_option maxRecDepth 20000 in
theorem ls_X0_89 : ax_LS RX0 89 mJ9_max_7cf53 2 := ⟨mc_J9_max_7cf53, ms_J9_max_7cf53, mi_J9, Or.inl (ax_bigI 489 (by decide +kernel) rfl), by decide, ⟨by decide +kernel, by decide +kernel, by decide +kernel⟩⟩
set_option maxRecDepth 20000 in
theorem mc_J9_abs_0f7a4 : Cond.code mJ9_abs_0f7a4.1 mJ9_abs_0f7a4.2.1 mJ9_abs_0f7a4.2.2.1 mJ9_abs_0f7a4.2.2.2 ∈ ax_Big := ax_bigI 404 (by decide +kernel) rfl
set_option maxRecDepth 20000 in
theorem ms_J9_abs_0f7a4 : Cond.static mJ9_abs_0f7a4.1 ∈ ax_Big := ax_bigI 403 (by decide +kernel) rfl
set_option maxRecDepth 20000 in
theorem ls_X0_94 : ax_LS RX0 94 mJ9_abs_0f7a4 1 := ⟨mc_J9_abs_0f7a4, ms_J9_abs_0f7a4, mi_J9, Or.inl (ax_bigI 402 (by decide +kernel) rfl), by decide, ⟨by decide +kernel, by decide +kernel, by decide +kernel⟩⟩
set_option maxRecDepth 20000 in
theorem mc_X0_shadow : Cond.code mX0_shadow.1 mX0_shadow.2.1 mX0_shadow.2.2.1 mX0_shadow.2.2.2 ∈ ax_Big := ax_bigI 488 (by decide +kernel) rfl
set_option maxRecDepth 20000 in
theorem mn_X0_shadow : Cond.instanceMethod mX0_shadow.1 ∈ ax_Big := ax_bigI 486 (by decide +kernel) rfl
set_option maxRecDepth 20000 in
theorem mv_X0_shadow : Cond.selects mX0_shadow.1.cls mX0_shadow.1 mX0_shadow.1 ∈ ax_Big := ax_bigI 487 (by decide +kernel) rfl
set_option maxRecDepth 20000 in
theorem lv_X0_98 : ax_LV RX0 98 mX0_shadow 1 0 := ⟨mc_X0_shadow, mn_X0_shadow, mv_X0_shadow, rfl, mi_X0, Or.inl (ax_bigI 506 (by decide +kernel) rfl), by decide, ⟨by decide +kernel, by decide +kernel, by decide +kernel⟩⟩
set_option maxRecDepth 20000 in
theorem mc_X0_liesApart : Cond.code mX0_liesApart.1 mX0_liesApart.2.1 mX0_liesApart.2.2.1 mX0_liesApart.2.2.2 ∈ ax_Big := ax_bigI 400 (by decide +kernel) rfl
set_option maxRecDepth 20000 in
theorem mn_X0_liesApart : Cond.instanceMethod mX0_liesApart.1 ∈ ax_Big := ax_bigI 398 (by decide +kernel) rfl
set_option maxRecDepth 20000 in
theorem mv_X0_liesApart : Cond.selects mX0_liesApart.1.cls mX0_liesApart.1 mX0_liesApart.1 ∈ ax_Big := ax_bigI 399 (by decide +kernel) rfl
set_option maxRecDepth 20000 in
theorem lv_X0_101 : ax_LV RX0 101 mX0_liesApart 2 0 := ⟨mc_X0_liesApart, mn_X0_liesApart, mv_X0_liesApart, rfl, mi_X0, Or.inl (ax_bigI 397 (by decide +kernel) rfl), by decide, ⟨by decide +kernel, by decide +kernel, by decide +kernel⟩⟩
set_option maxRecDepth 20000 in
theorem mc_X0_byRoad : Cond.code mX0_byRoad.1 mX0_byRoad.2.1 mX0_byRoad.2.2.1 mX0_byRoad.2.2.2 ∈ ax_Big := ax_bigI 501 (by decide +kernel) rfl
set_option maxRecDepth 20000 in
theorem mn_X0_byRoad : Cond.instanceMethod mX0_byRoad.1 ∈ ax_Big := ax_bigI 499 (by decide +kernel) rfl
set_option maxRecDepth 20000 in
theorem mv_X0_byRoad : Cond.selects mX0_byRoad.1.cls mX0_byRoad.1 mX0_byRoad.1 ∈ ax_Big := ax_bigI 500 (by decide +kernel) rfl
set_option maxRecDepth 20000 in
theorem lv_X0_104 : ax_LV RX0 104 mX0_byRoad 2 0 := ⟨mc_X0_byRoad, mn_X0_byRoad, mv_X0_byRoad, rfl, mi_X0, Or.inl (ax_bigI 591 (by decide +kernel) rfl), by decide, ⟨by decide +kernel, by decide +kernel, by decide +kernel⟩⟩
set_option maxRecDepth 20000 in
theorem mc_X0_offGirth : Cond.code mX0_offGirth.1 mX0_offGirth.2.1 mX0_offGirth.2.2.1 mX0_offGirth.2.2.2 ∈ ax_Big := ax_bigI 684 (by decide +kernel) rfl
set_option maxRecDepth 20000 in
theorem mn_X0_offGirth : Cond.instanceMethod mX0_offGirth.1 ∈ ax_Big := ax_bigI 682 (by decide +kernel) rfl
set_option maxRecDepth 20000 in
theorem mv_X0_offGirth : Cond.selects mX0_offGirth.1.cls mX0_offGirth.1 mX0_offGirth.1 ∈ ax_Big := ax_bigI 683 (by decide +kernel) rfl
set_option maxRecDepth 20000 in
theorem lv_X0_111 : ax_LV RX0 111 mX0_offGirth 1 0 := ⟨mc_X0_offGirth, mn_X0_offGirth, mv_X0_offGirth, rfl, mi_X0, Or.inl (ax_bigI 681 (by decide +kernel) rfl), by decide, ⟨by decide +kernel, by decide +kernel, by decide +kernel⟩⟩
set_option maxRecDepth 20000 in
theorem lo_X1_3 : Cond.methodLink RX1 3 Lib.objectInit ∈ ax_Big := ax_bigI 116 (by decide +kernel) rfl
set_option maxRecDepth 20000 in
theorem mc_X1_insertAt : Cond.code mX1_insertAt.1 mX1_insertAt.2.1 mX1_insertAt.2.2.1 mX1_insertAt.2.2.2 ∈ ax_Big := ax_bigI 581 (by decide +kernel) rfl
set_option maxRecDepth 20000 in
theorem mn_X1_insertAt : Cond.instanceMethod mX1_insertAt.1 ∈ ax_Big := ax_bigI 579 (by decide +kernel) rfl
set_option maxRecDepth 20000 in
theorem mv_X1_insertAt : Cond.selects mX1_insertAt.1.cls mX1_insertAt.1 mX1_insertAt.1 ∈ ax_Big := ax_bigI 580 (by decide +kernel) rfl
set_option maxRecDepth 20000 in
theorem mi_X1 : Cond.initialized RX1 ∈ ax_Big := ax_bigI 61 (by decide +kernel) rfl
set_option maxRecDepth 20000 in
theorem lv_X1_31 : ax_LV RX1 31 mX1_insertAt 5 1 := ⟨mc_X1_insertAt, mn_X1_insertAt, mv_X1_insertAt, rfl, mi_X1, Or.inl (ax_bigI 578 (by decide +kernel) rfl), by decide, ⟨by decide +kernel, by decide +kernel, by decide +kernel⟩⟩
set_option maxRecDepth 20000 in
theorem mc_X7_openGap : Cond.code mX7_openGap.1 mX7_openGap.2.1 mX7_openGap.2.2.1 mX7_openGap.2.2.2 ∈ ax_Big := ax_bigI 584 (by decide +kernel) rfl
set_option maxRecDepth 20000 in
theorem ms_X7_openGap : Cond.static mX7_openGap.1 ∈ ax_Big := ax_bigI 583 (by decide +kernel) rfl
set_option maxRecDepth 20000 in
theorem ls_X1_35 : ax_LS RX1 35 mX7_openGap 3 := ⟨mc_X7_openGap, ms_X7_openGap, mi_X7, Or.inr ⟨"GirthReports", by decide +kernel⟩, by decide, ⟨by decide +kernel, by decide +kernel, by decide +kernel⟩⟩
set_option maxRecDepth 20000 in
theorem ls_X1_39 : ax_LS RX1 39 mX7_put 3 := ⟨mc_X7_put, ms_X7_put, mi_X7, Or.inr ⟨"GirthReports", by decide +kernel⟩, by decide, ⟨by decide +kernel, by decide +kernel, by decide +kernel⟩⟩
set_option maxRecDepth 20000 in
theorem mc_X1_has : Cond.code mX1_has.1 mX1_has.2.1 mX1_has.2.2.1 mX1_has.2.2.2 ∈ ax_Big := ax_bigI 522 (by decide +kernel) rfl
set_option maxRecDepth 20000 in
theorem mn_X1_has : Cond.instanceMethod mX1_has.1 ∈ ax_Big := ax_bigI 520 (by decide +kernel) rfl
set_option maxRecDepth 20000 in
theorem mv_X1_has : Cond.selects mX1_has.1.cls mX1_has.1 mX1_has.1 ∈ ax_Big := ax_bigI 521 (by decide +kernel) rfl
set_option maxRecDepth 20000 in
theorem lv_X1_42 : ax_LV RX1 42 mX1_has 1 1 := ⟨mc_X1_has, mn_X1_has, mv_X1_has, rfl, mi_X1, Or.inl (ax_bigI 617 (by decide +kernel) rfl), by decide, ⟨by decide +kernel, by decide +kernel, by decide +kernel⟩⟩
set_option maxRecDepth 20000 in
theorem mc_X7_closeGap : Cond.code mX7_closeGap.1 mX7_closeGap.2.1 mX7_closeGap.2.2.1 mX7_closeGap.2.2.2 ∈ ax_Big := ax_bigI 602 (by decide +kernel) rfl
set_option maxRecDepth 20000 in
theorem ms_X7_closeGap : Cond.static mX7_closeGap.1 ∈ ax_Big := ax_bigI 601 (by decide +kernel) rfl
set_option maxRecDepth 20000 in
theorem ls_X1_46 : ax_LS RX1 46 mX7_closeGap 3 := ⟨mc_X7_closeGap, ms_X7_closeGap, mi_X7, Or.inr ⟨"GirthReports", by decide +kernel⟩, by decide, ⟨by decide +kernel, by decide +kernel, by decide +kernel⟩⟩
set_option maxRecDepth 20000 in
theorem mc_X7_copyRow : Cond.code mX7_copyRow.1 mX7_copyRow.2.1 mX7_copyRow.2.2.1 mX7_copyRow.2.2.2 ∈ ax_Big := ax_bigI 761 (by decide +kernel) rfl
set_option maxRecDepth 20000 in
theorem ms_X7_copyRow : Cond.static mX7_copyRow.1 ∈ ax_Big := ax_bigI 760 (by decide +kernel) rfl
set_option maxRecDepth 20000 in
theorem ls_X1_49 : ax_LS RX1 49 mX7_copyRow 2 := ⟨mc_X7_copyRow, ms_X7_copyRow, mi_X7, Or.inr ⟨"GirthReports", by decide +kernel⟩, by decide, ⟨by decide +kernel, by decide +kernel, by decide +kernel⟩⟩
set_option maxRecDepth 20000 in
theorem ls_X1_53 : ax_LS RX1 53 mX7_at 2 := ⟨mc_X7_at, ms_X7_at, mi_X7, Or.inr ⟨"GirthReports", by decide +kernel⟩, by decide, ⟨by decide +kernel, by decide +kernel, by decide +kernel⟩⟩
set_option maxRecDepth 20000 in
theorem mc_X1_isBetween : Cond.code mX1_isBetween.1 mX1_isBetween.2.1 mX1_isBetween.2.2.1 mX1_isBetween.2.2.2 ∈ ax_Big := ax_bigI 564 (by decide +kernel) rfl
set_option maxRecDepth 20000 in
theorem mn_X1_isBetween : Cond.instanceMethod mX1_isBetween.1 ∈ ax_Big := ax_bigI 563 (by decide +kernel) rfl
set_option maxRecDepth 20000 in
theorem mv_X1_isBetween : Cond.selects mX1_isBetween.1.cls mX1_isBetween.1 mX1_isBetween.1 ∈ ax_Big := ax_bigI 12 (by decide +kernel) rfl
set_option maxRecDepth 20000 in
theorem lv_X1_57 : ax_LV RX1 57 mX1_isBetween 3 1 := ⟨mc_X1_isBetween, mn_X1_isBetween, mv_X1_isBetween, rfl, mi_X1, Or.inl (ax_bigI 561 (by decide +kernel) rfl), by decide, ⟨by decide +kernel, by decide +kernel, by decide +kernel⟩⟩
set_option maxRecDepth 20000 in
theorem lo_X2_3 : Cond.methodLink RX2 3 Lib.objectInit ∈ ax_Big := ax_bigI 214 (by decide +kernel) rfl
set_option maxRecDepth 20000 in
theorem ls_X2_28 : ax_LS RX2 28 mX7_at 2 := ⟨mc_X7_at, ms_X7_at, mi_X7, Or.inr ⟨"GirthReports", by decide +kernel⟩, by decide, ⟨by decide +kernel, by decide +kernel, by decide +kernel⟩⟩
set_option maxRecDepth 20000 in
theorem mc_X0_shadowsApart : Cond.code mX0_shadowsApart.1 mX0_shadowsApart.2.1 mX0_shadowsApart.2.2.1 mX0_shadowsApart.2.2.2 ∈ ax_Big := ax_bigI 505 (by decide +kernel) rfl
set_option maxRecDepth 20000 in
theorem mn_X0_shadowsApart : Cond.instanceMethod mX0_shadowsApart.1 ∈ ax_Big := ax_bigI 503 (by decide +kernel) rfl
set_option maxRecDepth 20000 in
theorem mv_X0_shadowsApart : Cond.selects mX0_shadowsApart.1.cls mX0_shadowsApart.1 mX0_shadowsApart.1 ∈ ax_Big := ax_bigI 504 (by decide +kernel) rfl
set_option maxRecDepth 20000 in
theorem lv_X2_41 : ax_LV RX2 41 mX0_shadowsApart 2 0 := ⟨mc_X0_shadowsApart, mn_X0_shadowsApart, mv_X0_shadowsApart, rfl, mi_X0, Or.inl (ax_bigI 642 (by decide +kernel) rfl), by decide, ⟨by decide +kernel, by decide +kernel, by decide +kernel⟩⟩
set_option maxRecDepth 20000 in
theorem mc_X0_girthOf : Cond.code mX0_girthOf.1 mX0_girthOf.2.1 mX0_girthOf.2.2.1 mX0_girthOf.2.2.2 ∈ ax_Big := ax_bigI 534 (by decide +kernel) rfl
set_option maxRecDepth 20000 in
theorem mn_X0_girthOf : Cond.instanceMethod mX0_girthOf.1 ∈ ax_Big := ax_bigI 532 (by decide +kernel) rfl
set_option maxRecDepth 20000 in
theorem mv_X0_girthOf : Cond.selects mX0_girthOf.1.cls mX0_girthOf.1 mX0_girthOf.1 ∈ ax_Big := ax_bigI 533 (by decide +kernel) rfl
set_option maxRecDepth 20000 in
theorem lv_X2_47 : ax_LV RX2 47 mX0_girthOf 3 0 := ⟨mc_X0_girthOf, mn_X0_girthOf, mv_X0_girthOf, rfl, mi_X0, Or.inl (ax_bigI 643 (by decide +kernel) rfl), by decide, ⟨by decide +kernel, by decide +kernel, by decide +kernel⟩⟩
set_option maxRecDepth 20000 in
theorem ls_X2_51 : ax_LS RX2 51 mX7_put 3 := ⟨mc_X7_put, ms_X7_put, mi_X7, Or.inr ⟨"GirthReports", by decide +kernel⟩, by decide, ⟨by decide +kernel, by decide +kernel, by decide +kernel⟩⟩
set_option maxRecDepth 20000 in
theorem mc_X7_nineTenths : Cond.code mX7_nineTenths.1 mX7_nineTenths.2.1 mX7_nineTenths.2.2.1 mX7_nineTenths.2.2.2 ∈ ax_Big := ax_bigI 572 (by decide +kernel) rfl
set_option maxRecDepth 20000 in
theorem ms_X7_nineTenths : Cond.static mX7_nineTenths.1 ∈ ax_Big := ax_bigI 571 (by decide +kernel) rfl
set_option maxRecDepth 20000 in
theorem ls_X2_55 : ax_LS RX2 55 mX7_nineTenths 1 := ⟨mc_X7_nineTenths, ms_X7_nineTenths, mi_X7, Or.inr ⟨"GirthReports", by decide +kernel⟩, by decide, ⟨by decide +kernel, by decide +kernel, by decide +kernel⟩⟩
set_option maxRecDepth 20000 in
theorem lo_X3_3 : Cond.methodLink RX3 3 Lib.objectInit ∈ ax_Big := ax_bigI 87 (by decide +kernel) rfl
set_option maxRecDepth 20000 in
theorem ls_X3_19 : ax_LS RX3 19 mX7_put 3 := ⟨mc_X7_put, ms_X7_put, mi_X7, Or.inr ⟨"GirthReports", by decide +kernel⟩, by decide, ⟨by decide +kernel, by decide +kernel, by decide +kernel⟩⟩
set_option maxRecDepth 20000 in
theorem ls_X3_23 : ax_LS RX3 23 mX7_at 2 := ⟨mc_X7_at, ms_X7_at, mi_X7, Or.inr ⟨"GirthReports", by decide +kernel⟩, by decide, ⟨by decide +kernel, by decide +kernel, by decide +kernel⟩⟩
set_option maxRecDepth 20000 in
theorem lo_X4_3 : Cond.methodLink RX4 3 Lib.objectInit ∈ ax_Big := ax_bigI 103 (by decide +kernel) rfl
set_option maxRecDepth 20000 in
theorem mc_X0_clear : Cond.code mX0_clear.1 mX0_clear.2.1 mX0_clear.2.2.1 mX0_clear.2.2.2 ∈ ax_Big := ax_bigI 332 (by decide +kernel) rfl
set_option maxRecDepth 20000 in
theorem mn_X0_clear : Cond.instanceMethod mX0_clear.1 ∈ ax_Big := ax_bigI 330 (by decide +kernel) rfl
set_option maxRecDepth 20000 in
theorem mv_X0_clear : Cond.selects mX0_clear.1.cls mX0_clear.1 mX0_clear.1 ∈ ax_Big := ax_bigI 331 (by decide +kernel) rfl
set_option maxRecDepth 20000 in
theorem lv_X4_19 : ax_LV RX4 19 mX0_clear 0 0 := ⟨mc_X0_clear, mn_X0_clear, mv_X0_clear, rfl, mi_X0, Or.inl (ax_bigI 329 (by decide +kernel) rfl), by decide, ⟨by decide +kernel, by decide +kernel, by decide +kernel⟩⟩
set_option maxRecDepth 20000 in
theorem mc_X4_takesItem : Cond.code mX4_takesItem.1 mX4_takesItem.2.1 mX4_takesItem.2.2.1 mX4_takesItem.2.2.2 ∈ ax_Big := ax_bigI 339 (by decide +kernel) rfl
set_option maxRecDepth 20000 in
theorem mn_X4_takesItem : Cond.instanceMethod mX4_takesItem.1 ∈ ax_Big := ax_bigI 338 (by decide +kernel) rfl
set_option maxRecDepth 20000 in
theorem mv_X4_takesItem : Cond.selects mX4_takesItem.1.cls mX4_takesItem.1 mX4_takesItem.1 ∈ ax_Big := ax_bigI 0 (by decide +kernel) rfl
set_option maxRecDepth 20000 in
theorem mi_X4 : Cond.initialized RX4 ∈ ax_Big := ax_bigI 60 (by decide +kernel) rfl
set_option maxRecDepth 20000 in
theorem lv_X4_29 : ax_LV RX4 29 mX4_takesItem 2 4 := ⟨mc_X4_takesItem, mn_X4_takesItem, mv_X4_takesItem, rfl, mi_X4, Or.inl (ax_bigI 336 (by decide +kernel) rfl), by decide, ⟨by decide +kernel, by decide +kernel, by decide +kernel⟩⟩
set_option maxRecDepth 20000 in
theorem mc_X0_measureRoads : Cond.code mX0_measureRoads.1 mX0_measureRoads.2.1 mX0_measureRoads.2.2.1 mX0_measureRoads.2.2.2 ∈ ax_Big := ax_bigI 392 (by decide +kernel) rfl
set_option maxRecDepth 20000 in
theorem mn_X0_measureRoads : Cond.instanceMethod mX0_measureRoads.1 ∈ ax_Big := ax_bigI 390 (by decide +kernel) rfl
set_option maxRecDepth 20000 in
theorem mv_X0_measureRoads : Cond.selects mX0_measureRoads.1.cls mX0_measureRoads.1 mX0_measureRoads.1 ∈ ax_Big := ax_bigI 391 (by decide +kernel) rfl
set_option maxRecDepth 20000 in
theorem lv_X4_33 : ax_LV RX4 33 mX0_measureRoads 0 0 := ⟨mc_X0_measureRoads, mn_X0_measureRoads, mv_X0_measureRoads, rfl, mi_X0, Or.inl (ax_bigI 389 (by decide +kernel) rfl), by decide, ⟨by decide +kernel, by decide +kernel, by decide +kernel⟩⟩
set_option maxRecDepth 20000 in
theorem mc_X3_letterAt : Cond.code mX3_letterAt.1 mX3_letterAt.2.1 mX3_letterAt.2.2.1 mX3_letterAt.2.2.2 ∈ ax_Big := ax_bigI 343 (by decide +kernel) rfl
set_option maxRecDepth 20000 in
theorem mn_X3_letterAt : Cond.instanceMethod mX3_letterAt.1 ∈ ax_Big := ax_bigI 341 (by decide +kernel) rfl
set_option maxRecDepth 20000 in
theorem mv_X3_letterAt : Cond.selects mX3_letterAt.1.cls mX3_letterAt.1 mX3_letterAt.1 ∈ ax_Big := ax_bigI 342 (by decide +kernel) rfl
set_option maxRecDepth 20000 in
theorem mi_X3 : Cond.initialized RX3 ∈ ax_Big := ax_bigI 59 (by decide +kernel) rfl
set_option maxRecDepth 20000 in
theorem lv_X4_36 : ax_LV RX4 36 mX3_letterAt 1 3 := ⟨mc_X3_letterAt, mn_X3_letterAt, mv_X3_letterAt, rfl, mi_X3, Or.inl (ax_bigI 340 (by decide +kernel) rfl), by decide, ⟨by decide +kernel, by decide +kernel, by decide +kernel⟩⟩
set_option maxRecDepth 20000 in
theorem mc_X4_numbersBehind : Cond.code mX4_numbersBehind.1 mX4_numbersBehind.2.1 mX4_numbersBehind.2.2.1 mX4_numbersBehind.2.2.2 ∈ ax_Big := ax_bigI 349 (by decide +kernel) rfl
set_option maxRecDepth 20000 in
theorem ms_X4_numbersBehind : Cond.static mX4_numbersBehind.1 ∈ ax_Big := ax_bigI 348 (by decide +kernel) rfl
set_option maxRecDepth 20000 in
theorem ls_X4_40 : ax_LS RX4 40 mX4_numbersBehind 1 := ⟨mc_X4_numbersBehind, ms_X4_numbersBehind, mi_X4, Or.inl (ax_bigI 347 (by decide +kernel) rfl), by decide, ⟨by decide +kernel, by decide +kernel, by decide +kernel⟩⟩
set_option maxRecDepth 20000 in
theorem mc_X4_readNumber : Cond.code mX4_readNumber.1 mX4_readNumber.2.1 mX4_readNumber.2.2.1 mX4_readNumber.2.2.2 ∈ ax_Big := ax_bigI 353 (by decide +kernel) rfl
set_option maxRecDepth 20000 in
theorem mn_X4_readNumber : Cond.instanceMethod mX4_readNumber.1 ∈ ax_Big := ax_bigI 352 (by decide +kernel) rfl
set_option maxRecDepth 20000 in
theorem mv_X4_readNumber : Cond.selects mX4_readNumber.1.cls mX4_readNumber.1 mX4_readNumber.1 ∈ ax_Big := ax_bigI 1 (by decide +kernel) rfl
set_option maxRecDepth 20000 in
theorem lv_X4_43 : ax_LV RX4 43 mX4_readNumber 1 4 := ⟨mc_X4_readNumber, mn_X4_readNumber, mv_X4_readNumber, rfl, mi_X4, Or.inl (ax_bigI 350 (by decide +kernel) rfl), by decide, ⟨by decide +kernel, by decide +kernel, by decide +kernel⟩⟩
set_option maxRecDepth 20000 in
theorem ls_X4_47 : ax_LS RX4 47 mX7_put 3 := ⟨mc_X7_put, ms_X7_put, mi_X7, Or.inr ⟨"GirthReports", by decide +kernel⟩, by decide, ⟨by decide +kernel, by decide +kernel, by decide +kernel⟩⟩
set_option maxRecDepth 20000 in
theorem ls_X4_51 : ax_LS RX4 51 mX7_at 2 := ⟨mc_X7_at, ms_X7_at, mi_X7, Or.inr ⟨"GirthReports", by decide +kernel⟩, by decide, ⟨by decide +kernel, by decide +kernel, by decide +kernel⟩⟩
set_option maxRecDepth 20000 in
theorem mc_X0_accepts : Cond.code mX0_accepts.1 mX0_accepts.2.1 mX0_accepts.2.2.1 mX0_accepts.2.2.2 ∈ ax_Big := ax_bigI 362 (by decide +kernel) rfl
set_option maxRecDepth 20000 in
theorem mn_X0_accepts : Cond.instanceMethod mX0_accepts.1 ∈ ax_Big := ax_bigI 360 (by decide +kernel) rfl
set_option maxRecDepth 20000 in
theorem mv_X0_accepts : Cond.selects mX0_accepts.1.cls mX0_accepts.1 mX0_accepts.1 ∈ ax_Big := ax_bigI 361 (by decide +kernel) rfl
set_option maxRecDepth 20000 in
theorem lv_X4_55 : ax_LV RX4 55 mX0_accepts 4 0 := ⟨mc_X0_accepts, mn_X0_accepts, mv_X0_accepts, rfl, mi_X0, Or.inl (ax_bigI 359 (by decide +kernel) rfl), by decide, ⟨by decide +kernel, by decide +kernel, by decide +kernel⟩⟩
set_option maxRecDepth 20000 in
theorem ls_X4_59 : ax_LS RX4 59 mX7_within 3 := ⟨mc_X7_within, ms_X7_within, mi_X7, Or.inr ⟨"GirthReports", by decide +kernel⟩, by decide, ⟨by decide +kernel, by decide +kernel, by decide +kernel⟩⟩
set_option maxRecDepth 20000 in
theorem lo_X5_3 : Cond.methodLink RX5 3 Lib.objectInit ∈ ax_Big := ax_bigI 187 (by decide +kernel) rfl
set_option maxRecDepth 20000 in
theorem ls_X5_28 : ax_LS RX5 28 mX7_put 3 := ⟨mc_X7_put, ms_X7_put, mi_X7, Or.inr ⟨"GirthReports", by decide +kernel⟩, by decide, ⟨by decide +kernel, by decide +kernel, by decide +kernel⟩⟩
set_option maxRecDepth 20000 in
theorem lo_X6_3 : Cond.methodLink RX6 3 Lib.objectInit ∈ ax_Big := ax_bigI 158 (by decide +kernel) rfl
set_option maxRecDepth 20000 in
theorem mc_X6_makeRoom : Cond.code mX6_makeRoom.1 mX6_makeRoom.2.1 mX6_makeRoom.2.2.1 mX6_makeRoom.2.2.2 ∈ ax_Big := ax_bigI 599 (by decide +kernel) rfl
set_option maxRecDepth 20000 in
theorem mn_X6_makeRoom : Cond.instanceMethod mX6_makeRoom.1 ∈ ax_Big := ax_bigI 598 (by decide +kernel) rfl
set_option maxRecDepth 20000 in
theorem mv_X6_makeRoom : Cond.selects mX6_makeRoom.1.cls mX6_makeRoom.1 mX6_makeRoom.1 ∈ ax_Big := ax_bigI 13 (by decide +kernel) rfl
set_option maxRecDepth 20000 in
theorem mi_X6 : Cond.initialized RX6 ∈ ax_Big := ax_bigI 62 (by decide +kernel) rfl
set_option maxRecDepth 20000 in
theorem lv_X6_34 : ax_LV RX6 34 mX6_makeRoom 0 6 := ⟨mc_X6_makeRoom, mn_X6_makeRoom, mv_X6_makeRoom, rfl, mi_X6, Or.inl (ax_bigI 596 (by decide +kernel) rfl), by decide, ⟨by decide +kernel, by decide +kernel, by decide +kernel⟩⟩
set_option maxRecDepth 20000 in
theorem ls_X6_37 : ax_LS RX6 37 mX7_put 3 := ⟨mc_X7_put, ms_X7_put, mi_X7, Or.inr ⟨"GirthReports", by decide +kernel⟩, by decide, ⟨by decide +kernel, by decide +kernel, by decide +kernel⟩⟩
set_option maxRecDepth 20000 in
theorem ls_X6_44 : ax_LS RX6 44 mX7_at 2 := ⟨mc_X7_at, ms_X7_at, mi_X7, Or.inr ⟨"GirthReports", by decide +kernel⟩, by decide, ⟨by decide +kernel, by decide +kernel, by decide +kernel⟩⟩
set_option maxRecDepth 20000 in
theorem mc_X1_removeAt : Cond.code mX1_removeAt.1 mX1_removeAt.2.1 mX1_removeAt.2.2.1 mX1_removeAt.2.2.2 ∈ ax_Big := ax_bigI 616 (by decide +kernel) rfl
set_option maxRecDepth 20000 in
theorem mn_X1_removeAt : Cond.instanceMethod mX1_removeAt.1 ∈ ax_Big := ax_bigI 614 (by decide +kernel) rfl
set_option maxRecDepth 20000 in
theorem mv_X1_removeAt : Cond.selects mX1_removeAt.1.cls mX1_removeAt.1 mX1_removeAt.1 ∈ ax_Big := ax_bigI 615 (by decide +kernel) rfl
set_option maxRecDepth 20000 in
theorem lv_X6_52 : ax_LV RX6 52 mX1_removeAt 1 1 := ⟨mc_X1_removeAt, mn_X1_removeAt, mv_X1_removeAt, rfl, mi_X1, Or.inl (ax_bigI 627 (by decide +kernel) rfl), by decide, ⟨by decide +kernel, by decide +kernel, by decide +kernel⟩⟩
set_option maxRecDepth 20000 in
theorem lv_X6_58 : ax_LV RX6 58 mX1_insertAt 5 1 := ⟨mc_X1_insertAt, mn_X1_insertAt, mv_X1_insertAt, rfl, mi_X1, Or.inl (ax_bigI 628 (by decide +kernel) rfl), by decide, ⟨by decide +kernel, by decide +kernel, by decide +kernel⟩⟩
set_option maxRecDepth 20000 in
theorem ls_X6_62 : ax_LS RX6 62 mX7_closeGap 3 := ⟨mc_X7_closeGap, ms_X7_closeGap, mi_X7, Or.inr ⟨"GirthReports", by decide +kernel⟩, by decide, ⟨by decide +kernel, by decide +kernel, by decide +kernel⟩⟩
set_option maxRecDepth 20000 in
theorem lo_X7_3 : Cond.methodLink RX7 3 Lib.objectInit ∈ ax_Big := ax_bigI 79 (by decide +kernel) rfl
set_option maxRecDepth 20000 in
theorem mc_X3_init : Cond.code mX3_init.1 mX3_init.2.1 mX3_init.2.2.1 mX3_init.2.2.2 ∈ ax_Big := ax_bigI 86 (by decide +kernel) rfl
set_option maxRecDepth 20000 in
theorem mn_X3_init : Cond.instanceMethod mX3_init.1 ∈ ax_Big := ax_bigI 85 (by decide +kernel) rfl
set_option maxRecDepth 20000 in
theorem li_X7_11 : ax_LI RX7 11 mX3_init 0 := ⟨mc_X3_init, mn_X3_init, mi_X3, Or.inr ⟨"GirthReports", by decide +kernel⟩, by decide, ⟨by decide +kernel, by decide +kernel, by decide +kernel⟩, rfl, rfl⟩
set_option maxRecDepth 20000 in
theorem mc_X4_init : Cond.code mX4_init.1 mX4_init.2.1 mX4_init.2.2.1 mX4_init.2.2.2 ∈ ax_Big := ax_bigI 102 (by decide +kernel) rfl
set_option maxRecDepth 20000 in
theorem mn_X4_init : Cond.instanceMethod mX4_init.1 ∈ ax_Big := ax_bigI 101 (by decide +kernel) rfl
set_option maxRecDepth 20000 in
theorem li_X7_18 : ax_LI RX7 18 mX4_init 0 := ⟨mc_X4_init, mn_X4_init, mi_X4, Or.inr ⟨"GirthReports", by decide +kernel⟩, by decide, ⟨by decide +kernel, by decide +kernel, by decide +kernel⟩, rfl, rfl⟩
set_option maxRecDepth 20000 in
theorem mc_X1_init : Cond.code mX1_init.1 mX1_init.2.1 mX1_init.2.2.1 mX1_init.2.2.2 ∈ ax_Big := ax_bigI 115 (by decide +kernel) rfl
set_option maxRecDepth 20000 in
theorem mn_X1_init : Cond.instanceMethod mX1_init.1 ∈ ax_Big := ax_bigI 114 (by decide +kernel) rfl
set_option maxRecDepth 20000 in
theorem li_X7_25 : ax_LI RX7 25 mX1_init 0 := ⟨mc_X1_init, mn_X1_init, mi_X1, Or.inr ⟨"GirthReports", by decide +kernel⟩, by decide, ⟨by decide +kernel, by decide +kernel, by decide +kernel⟩, rfl, rfl⟩
set_option maxRecDepth 20000 in
theorem mc_X6_init : Cond.code mX6_init.1 mX6_init.2.1 mX6_init.2.2.1 mX6_init.2.2.2 ∈ ax_Big := ax_bigI 157 (by decide +kernel) rfl
set_option maxRecDepth 20000 in
theorem mn_X6_init : Cond.instanceMethod mX6_init.1 ∈ ax_Big := ax_bigI 156 (by decide +kernel) rfl
set_option maxRecDepth 20000 in
theorem li_X7_41 : ax_LI RX7 41 mX6_init 0 := ⟨mc_X6_init, mn_X6_init, mi_X6, Or.inr ⟨"GirthReports", by decide +kernel⟩, by decide, ⟨by decide +kernel, by decide +kernel, by decide +kernel⟩, rfl, rfl⟩
set_option maxRecDepth 20000 in
theorem mc_X5_init : Cond.code mX5_init.1 mX5_init.2.1 mX5_init.2.2.1 mX5_init.2.2.2 ∈ ax_Big := ax_bigI 186 (by decide +kernel) rfl
set_option maxRecDepth 20000 in
theorem mn_X5_init : Cond.instanceMethod mX5_init.1 ∈ ax_Big := ax_bigI 185 (by decide +kernel) rfl
set_option maxRecDepth 20000 in
theorem mi_X5 : Cond.initialized RX5 ∈ ax_Big := ax_bigI 63 (by decide +kernel) rfl
set_option maxRecDepth 20000 in
theorem li_X7_48 : ax_LI RX7 48 mX5_init 0 := ⟨mc_X5_init, mn_X5_init, mi_X5, Or.inr ⟨"GirthReports", by decide +kernel⟩, by decide, ⟨by decide +kernel, by decide +kernel, by decide +kernel⟩, rfl, rfl⟩
set_option maxRecDepth 20000 in
theorem mc_X2_init : Cond.code mX2_init.1 mX2_init.2.1 mX2_init.2.2.1 mX2_init.2.2.2 ∈ ax_Big := ax_bigI 213 (by decide +kernel) rfl
set_option maxRecDepth 20000 in
theorem mn_X2_init : Cond.instanceMethod mX2_init.1 ∈ ax_Big := ax_bigI 212 (by decide +kernel) rfl
set_option maxRecDepth 20000 in
theorem mi_X2 : Cond.initialized RX2 ∈ ax_Big := ax_bigI 64 (by decide +kernel) rfl
set_option maxRecDepth 20000 in
theorem li_X7_55 : ax_LI RX7 55 mX2_init 0 := ⟨mc_X2_init, mn_X2_init, mi_X2, Or.inr ⟨"GirthReports", by decide +kernel⟩, by decide, ⟨by decide +kernel, by decide +kernel, by decide +kernel⟩, rfl, rfl⟩
set_option maxRecDepth 20000 in
theorem mc_X0_init : Cond.code mX0_init.1 mX0_init.2.1 mX0_init.2.2.1 mX0_init.2.2.2 ∈ ax_Big := ax_bigI 229 (by decide +kernel) rfl
set_option maxRecDepth 20000 in
theorem mn_X0_init : Cond.instanceMethod mX0_init.1 ∈ ax_Big := ax_bigI 228 (by decide +kernel) rfl
set_option maxRecDepth 20000 in
theorem li_X7_62 : ax_LI RX7 62 mX0_init 0 := ⟨mc_X0_init, mn_X0_init, mi_X0, Or.inr ⟨"GirthReports", by decide +kernel⟩, by decide, ⟨by decide +kernel, by decide +kernel, by decide +kernel⟩, rfl, rfl⟩
set_option maxRecDepth 20000 in
theorem mc_X3_append : Cond.code mX3_append.1 mX3_append.2.1 mX3_append.2.2.1 mX3_append.2.2.2 ∈ ax_Big := ax_bigI 321 (by decide +kernel) rfl
set_option maxRecDepth 20000 in
theorem mn_X3_append : Cond.instanceMethod mX3_append.1 ∈ ax_Big := ax_bigI 319 (by decide +kernel) rfl
set_option maxRecDepth 20000 in
theorem mv_X3_append : Cond.selects mX3_append.1.cls mX3_append.1 mX3_append.1 ∈ ax_Big := ax_bigI 320 (by decide +kernel) rfl
set_option maxRecDepth 20000 in
theorem lv_X7_86 : ax_LV RX7 86 mX3_append 1 3 := ⟨mc_X3_append, mn_X3_append, mv_X3_append, rfl, mi_X3, Or.inl (ax_bigI 318 (by decide +kernel) rfl), by decide, ⟨by decide +kernel, by decide +kernel, by decide +kernel⟩⟩
set_option maxRecDepth 20000 in
theorem mc_X4_firstFault : Cond.code mX4_firstFault.1 mX4_firstFault.2.1 mX4_firstFault.2.2.1 mX4_firstFault.2.2.2 ∈ ax_Big := ax_bigI 328 (by decide +kernel) rfl
set_option maxRecDepth 20000 in
theorem mn_X4_firstFault : Cond.instanceMethod mX4_firstFault.1 ∈ ax_Big := ax_bigI 326 (by decide +kernel) rfl
set_option maxRecDepth 20000 in
theorem mv_X4_firstFault : Cond.selects mX4_firstFault.1.cls mX4_firstFault.1 mX4_firstFault.1 ∈ ax_Big := ax_bigI 327 (by decide +kernel) rfl
set_option maxRecDepth 20000 in
theorem lv_X7_90 : ax_LV RX7 90 mX4_firstFault 2 4 := ⟨mc_X4_firstFault, mn_X4_firstFault, mv_X4_firstFault, rfl, mi_X4, Or.inl (ax_bigI 325 (by decide +kernel) rfl), by decide, ⟨by decide +kernel, by decide +kernel, by decide +kernel⟩⟩
set_option maxRecDepth 20000 in
theorem mc_X3_clear : Cond.code mX3_clear.1 mX3_clear.2.1 mX3_clear.2.2.1 mX3_clear.2.2.2 ∈ ax_Big := ax_bigI 411 (by decide +kernel) rfl
set_option maxRecDepth 20000 in
theorem mn_X3_clear : Cond.instanceMethod mX3_clear.1 ∈ ax_Big := ax_bigI 409 (by decide +kernel) rfl
set_option maxRecDepth 20000 in
theorem mv_X3_clear : Cond.selects mX3_clear.1.cls mX3_clear.1 mX3_clear.1 ∈ ax_Big := ax_bigI 410 (by decide +kernel) rfl
set_option maxRecDepth 20000 in
theorem lv_X7_94 : ax_LV RX7 94 mX3_clear 0 3 := ⟨mc_X3_clear, mn_X3_clear, mv_X3_clear, rfl, mi_X3, Or.inl (ax_bigI 408 (by decide +kernel) rfl), by decide, ⟨by decide +kernel, by decide +kernel, by decide +kernel⟩⟩
set_option maxRecDepth 20000 in
theorem ls_X7_97 : ax_LS RX7 97 mX7_within 3 := ⟨mc_X7_within, ms_X7_within, mi_X7, Or.inl (ax_bigI 454 (by decide +kernel) rfl), by decide, ⟨by decide +kernel, by decide +kernel, by decide +kernel⟩⟩
set_option maxRecDepth 20000 in
theorem mc_X1_clear : Cond.code mX1_clear.1 mX1_clear.2.1 mX1_clear.2.2.1 mX1_clear.2.2.2 ∈ ax_Big := ax_bigI 470 (by decide +kernel) rfl
set_option maxRecDepth 20000 in
theorem mn_X1_clear : Cond.instanceMethod mX1_clear.1 ∈ ax_Big := ax_bigI 468 (by decide +kernel) rfl
set_option maxRecDepth 20000 in
theorem mv_X1_clear : Cond.selects mX1_clear.1.cls mX1_clear.1 mX1_clear.1 ∈ ax_Big := ax_bigI 469 (by decide +kernel) rfl
set_option maxRecDepth 20000 in
theorem lv_X7_109 : ax_LV RX7 109 mX1_clear 0 1 := ⟨mc_X1_clear, mn_X1_clear, mv_X1_clear, rfl, mi_X1, Or.inl (ax_bigI 467 (by decide +kernel) rfl), by decide, ⟨by decide +kernel, by decide +kernel, by decide +kernel⟩⟩
set_option maxRecDepth 20000 in
theorem mc_X6_clear : Cond.code mX6_clear.1 mX6_clear.2.1 mX6_clear.2.2.1 mX6_clear.2.2.2 ∈ ax_Big := ax_bigI 474 (by decide +kernel) rfl
set_option maxRecDepth 20000 in
theorem mn_X6_clear : Cond.instanceMethod mX6_clear.1 ∈ ax_Big := ax_bigI 472 (by decide +kernel) rfl
set_option maxRecDepth 20000 in
theorem mv_X6_clear : Cond.selects mX6_clear.1.cls mX6_clear.1 mX6_clear.1 ∈ ax_Big := ax_bigI 473 (by decide +kernel) rfl
set_option maxRecDepth 20000 in
theorem lv_X7_110 : ax_LV RX7 110 mX6_clear 0 6 := ⟨mc_X6_clear, mn_X6_clear, mv_X6_clear, rfl, mi_X6, Or.inl (ax_bigI 471 (by decide +kernel) rfl), by decide, ⟨by decide +kernel, by decide +kernel, by decide +kernel⟩⟩
set_option maxRecDepth 20000 in
theorem mc_X5_clear : Cond.code mX5_clear.1 mX5_clear.2.1 mX5_clear.2.2.1 mX5_clear.2.2.2 ∈ ax_Big := ax_bigI 478 (by decide +kernel) rfl
set_option maxRecDepth 20000 in
theorem mn_X5_clear : Cond.instanceMethod mX5_clear.1 ∈ ax_Big := ax_bigI 476 (by decide +kernel) rfl
set_option maxRecDepth 20000 in
theorem mv_X5_clear : Cond.selects mX5_clear.1.cls mX5_clear.1 mX5_clear.1 ∈ ax_Big := ax_bigI 477 (by decide +kernel) rfl
set_option maxRecDepth 20000 in
theorem lv_X7_111 : ax_LV RX7 111 mX5_clear 0 5 := ⟨mc_X5_clear, mn_X5_clear, mv_X5_clear, rfl, mi_X5, Or.inl (ax_bigI 475 (by decide +kernel) rfl), by decide, ⟨by decide +kernel, by decide +kernel, by decide +kernel⟩⟩
set_option maxRecDepth 20000 in
theorem lv_X7_112 : ax_LV RX7 112 mX0_isTown 1 0 := ⟨mc_X0_isTown, mn_X0_isTown, mv_X0_isTown, rfl, mi_X0, Or.inl (ax_bigI 483 (by decide +kernel) rfl), by decide, ⟨by decide +kernel, by decide +kernel, by decide +kernel⟩⟩
set_option maxRecDepth 20000 in
theorem ls_X7_120 : ax_LS RX7 120 mX7_at 2 := ⟨mc_X7_at, ms_X7_at, mi_X7, Or.inl (ax_bigI 484 (by decide +kernel) rfl), by decide, ⟨by decide +kernel, by decide +kernel, by decide +kernel⟩⟩
set_option maxRecDepth 20000 in
theorem lv_X7_124 : ax_LV RX7 124 mX0_shadow 1 0 := ⟨mc_X0_shadow, mn_X0_shadow, mv_X0_shadow, rfl, mi_X0, Or.inl (ax_bigI 485 (by decide +kernel) rfl), by decide, ⟨by decide +kernel, by decide +kernel, by decide +kernel⟩⟩
set_option maxRecDepth 20000 in
theorem lv_X7_128 : ax_LV RX7 128 mX0_areTwoTowns 2 0 := ⟨mc_X0_areTwoTowns, mn_X0_areTwoTowns, mv_X0_areTwoTowns, rfl, mi_X0, Or.inl (ax_bigI 496 (by decide +kernel) rfl), by decide, ⟨by decide +kernel, by decide +kernel, by decide +kernel⟩⟩
set_option maxRecDepth 20000 in
theorem lv_X7_132 : ax_LV RX7 132 mX0_straight 2 0 := ⟨mc_X0_straight, mn_X0_straight, mv_X0_straight, rfl, mi_X0, Or.inl (ax_bigI 497 (by decide +kernel) rfl), by decide, ⟨by decide +kernel, by decide +kernel, by decide +kernel⟩⟩
set_option maxRecDepth 20000 in
theorem lv_X7_136 : ax_LV RX7 136 mX0_byRoad 2 0 := ⟨mc_X0_byRoad, mn_X0_byRoad, mv_X0_byRoad, rfl, mi_X0, Or.inl (ax_bigI 498 (by decide +kernel) rfl), by decide, ⟨by decide +kernel, by decide +kernel, by decide +kernel⟩⟩
set_option maxRecDepth 20000 in
theorem lv_X7_139 : ax_LV RX7 139 mX0_shadowsApart 2 0 := ⟨mc_X0_shadowsApart, mn_X0_shadowsApart, mv_X0_shadowsApart, rfl, mi_X0, Or.inl (ax_bigI 502 (by decide +kernel) rfl), by decide, ⟨by decide +kernel, by decide +kernel, by decide +kernel⟩⟩
set_option maxRecDepth 20000 in
theorem mc_X0_isWalker : Cond.code mX0_isWalker.1 mX0_isWalker.2.1 mX0_isWalker.2.2.1 mX0_isWalker.2.2.2 ∈ ax_Big := ax_bigI 514 (by decide +kernel) rfl
set_option maxRecDepth 20000 in
theorem mn_X0_isWalker : Cond.instanceMethod mX0_isWalker.1 ∈ ax_Big := ax_bigI 512 (by decide +kernel) rfl
set_option maxRecDepth 20000 in
theorem mv_X0_isWalker : Cond.selects mX0_isWalker.1.cls mX0_isWalker.1 mX0_isWalker.1 ∈ ax_Big := ax_bigI 513 (by decide +kernel) rfl
set_option maxRecDepth 20000 in
theorem lv_X7_142 : ax_LV RX7 142 mX0_isWalker 1 0 := ⟨mc_X0_isWalker, mn_X0_isWalker, mv_X0_isWalker, rfl, mi_X0, Or.inl (ax_bigI 511 (by decide +kernel) rfl), by decide, ⟨by decide +kernel, by decide +kernel, by decide +kernel⟩⟩
set_option maxRecDepth 20000 in
theorem lv_X7_154 : ax_LV RX7 154 mX1_has 1 1 := ⟨mc_X1_has, mn_X1_has, mv_X1_has, rfl, mi_X1, Or.inl (ax_bigI 519 (by decide +kernel) rfl), by decide, ⟨by decide +kernel, by decide +kernel, by decide +kernel⟩⟩
set_option maxRecDepth 20000 in
theorem mc_X7_girthBy : Cond.code mX7_girthBy.1 mX7_girthBy.2.1 mX7_girthBy.2.2.1 mX7_girthBy.2.2.2 ∈ ax_Big := ax_bigI 526 (by decide +kernel) rfl
set_option maxRecDepth 20000 in
theorem mn_X7_girthBy : Cond.instanceMethod mX7_girthBy.1 ∈ ax_Big := ax_bigI 525 (by decide +kernel) rfl
set_option maxRecDepth 20000 in
theorem mv_X7_girthBy : Cond.selects mX7_girthBy.1.cls mX7_girthBy.1 mX7_girthBy.1 ∈ ax_Big := ax_bigI 6 (by decide +kernel) rfl
set_option maxRecDepth 20000 in
theorem lv_X7_169 : ax_LV RX7 169 mX7_girthBy 1 7 := ⟨mc_X7_girthBy, mn_X7_girthBy, mv_X7_girthBy, rfl, mi_X7, Or.inl (ax_bigI 523 (by decide +kernel) rfl), by decide, ⟨by decide +kernel, by decide +kernel, by decide +kernel⟩⟩
set_option maxRecDepth 20000 in
theorem mc_X7_leastBy : Cond.code mX7_leastBy.1 mX7_leastBy.2.1 mX7_leastBy.2.2.1 mX7_leastBy.2.2.2 ∈ ax_Big := ax_bigI 539 (by decide +kernel) rfl
set_option maxRecDepth 20000 in
theorem mn_X7_leastBy : Cond.instanceMethod mX7_leastBy.1 ∈ ax_Big := ax_bigI 538 (by decide +kernel) rfl
set_option maxRecDepth 20000 in
theorem mv_X7_leastBy : Cond.selects mX7_leastBy.1.cls mX7_leastBy.1 mX7_leastBy.1 ∈ ax_Big := ax_bigI 8 (by decide +kernel) rfl
set_option maxRecDepth 20000 in
theorem lv_X7_172 : ax_LV RX7 172 mX7_leastBy 1 7 := ⟨mc_X7_leastBy, mn_X7_leastBy, mv_X7_leastBy, rfl, mi_X7, Or.inl (ax_bigI 536 (by decide +kernel) rfl), by decide, ⟨by decide +kernel, by decide +kernel, by decide +kernel⟩⟩
set_option maxRecDepth 20000 in
theorem mc_X7_mostBy : Cond.code mX7_mostBy.1 mX7_mostBy.2.1 mX7_mostBy.2.2.1 mX7_mostBy.2.2.2 ∈ ax_Big := ax_bigI 543 (by decide +kernel) rfl
set_option maxRecDepth 20000 in
theorem mn_X7_mostBy : Cond.instanceMethod mX7_mostBy.1 ∈ ax_Big := ax_bigI 542 (by decide +kernel) rfl
set_option maxRecDepth 20000 in
theorem mv_X7_mostBy : Cond.selects mX7_mostBy.1.cls mX7_mostBy.1 mX7_mostBy.1 ∈ ax_Big := ax_bigI 9 (by decide +kernel) rfl
set_option maxRecDepth 20000 in
theorem lv_X7_175 : ax_LV RX7 175 mX7_mostBy 1 7 := ⟨mc_X7_mostBy, mn_X7_mostBy, mv_X7_mostBy, rfl, mi_X7, Or.inl (ax_bigI 540 (by decide +kernel) rfl), by decide, ⟨by decide +kernel, by decide +kernel, by decide +kernel⟩⟩
set_option maxRecDepth 20000 in
theorem mc_X7_goWalking : Cond.code mX7_goWalking.1 mX7_goWalking.2.1 mX7_goWalking.2.2.1 mX7_goWalking.2.2.2 ∈ ax_Big := ax_bigI 551 (by decide +kernel) rfl
set_option maxRecDepth 20000 in
theorem mn_X7_goWalking : Cond.instanceMethod mX7_goWalking.1 ∈ ax_Big := ax_bigI 550 (by decide +kernel) rfl
set_option maxRecDepth 20000 in
theorem mv_X7_goWalking : Cond.selects mX7_goWalking.1.cls mX7_goWalking.1 mX7_goWalking.1 ∈ ax_Big := ax_bigI 10 (by decide +kernel) rfl
set_option maxRecDepth 20000 in
theorem lv_X7_181 : ax_LV RX7 181 mX7_goWalking 4 7 := ⟨mc_X7_goWalking, mn_X7_goWalking, mv_X7_goWalking, rfl, mi_X7, Or.inl (ax_bigI 548 (by decide +kernel) rfl), by decide, ⟨by decide +kernel, by decide +kernel, by decide +kernel⟩⟩
set_option maxRecDepth 20000 in
theorem mc_X0_daysOf : Cond.code mX0_daysOf.1 mX0_daysOf.2.1 mX0_daysOf.2.2.1 mX0_daysOf.2.2.2 ∈ ax_Big := ax_bigI 590 (by decide +kernel) rfl
set_option maxRecDepth 20000 in
theorem mn_X0_daysOf : Cond.instanceMethod mX0_daysOf.1 ∈ ax_Big := ax_bigI 588 (by decide +kernel) rfl
set_option maxRecDepth 20000 in
theorem mv_X0_daysOf : Cond.selects mX0_daysOf.1.cls mX0_daysOf.1 mX0_daysOf.1 ∈ ax_Big := ax_bigI 589 (by decide +kernel) rfl
set_option maxRecDepth 20000 in
theorem lv_X7_185 : ax_LV RX7 185 mX0_daysOf 3 0 := ⟨mc_X0_daysOf, mn_X0_daysOf, mv_X0_daysOf, rfl, mi_X0, Or.inl (ax_bigI 587 (by decide +kernel) rfl), by decide, ⟨by decide +kernel, by decide +kernel, by decide +kernel⟩⟩
set_option maxRecDepth 20000 in
theorem mc_X6_rememberWalk : Cond.code mX6_rememberWalk.1 mX6_rememberWalk.2.1 mX6_rememberWalk.2.2.1 mX6_rememberWalk.2.2.2 ∈ ax_Big := ax_bigI 595 (by decide +kernel) rfl
set_option maxRecDepth 20000 in
theorem mn_X6_rememberWalk : Cond.instanceMethod mX6_rememberWalk.1 ∈ ax_Big := ax_bigI 593 (by decide +kernel) rfl
set_option maxRecDepth 20000 in
theorem mv_X6_rememberWalk : Cond.selects mX6_rememberWalk.1.cls mX6_rememberWalk.1 mX6_rememberWalk.1 ∈ ax_Big := ax_bigI 594 (by decide +kernel) rfl
set_option maxRecDepth 20000 in
theorem lv_X7_189 : ax_LV RX7 189 mX6_rememberWalk 1 6 := ⟨mc_X6_rememberWalk, mn_X6_rememberWalk, mv_X6_rememberWalk, rfl, mi_X6, Or.inl (ax_bigI 592 (by decide +kernel) rfl), by decide, ⟨by decide +kernel, by decide +kernel, by decide +kernel⟩⟩
set_option maxRecDepth 20000 in
theorem mc_X6_rememberStriking : Cond.code mX6_rememberStriking.1 mX6_rememberStriking.2.1 mX6_rememberStriking.2.2.1 mX6_rememberStriking.2.2.2 ∈ ax_Big := ax_bigI 611 (by decide +kernel) rfl
set_option maxRecDepth 20000 in
theorem mn_X6_rememberStriking : Cond.instanceMethod mX6_rememberStriking.1 ∈ ax_Big := ax_bigI 609 (by decide +kernel) rfl
set_option maxRecDepth 20000 in
theorem mv_X6_rememberStriking : Cond.selects mX6_rememberStriking.1.cls mX6_rememberStriking.1 mX6_rememberStriking.1 ∈ ax_Big := ax_bigI 610 (by decide +kernel) rfl
set_option maxRecDepth 20000 in
theorem lv_X7_192 : ax_LV RX7 192 mX6_rememberStriking 2 6 := ⟨mc_X6_rememberStriking, mn_X6_rememberStriking, mv_X6_rememberStriking, rfl, mi_X6, Or.inl (ax_bigI 608 (by decide +kernel) rfl), by decide, ⟨by decide +kernel, by decide +kernel, by decide +kernel⟩⟩
set_option maxRecDepth 20000 in
theorem lv_X7_196 : ax_LV RX7 196 mX1_removeAt 1 1 := ⟨mc_X1_removeAt, mn_X1_removeAt, mv_X1_removeAt, rfl, mi_X1, Or.inl (ax_bigI 613 (by decide +kernel) rfl), by decide, ⟨by decide +kernel, by decide +kernel, by decide +kernel⟩⟩
set_option maxRecDepth 20000 in
theorem mc_X6_takeBack : Cond.code mX6_takeBack.1 mX6_takeBack.2.1 mX6_takeBack.2.2.1 mX6_takeBack.2.2.2 ∈ ax_Big := ax_bigI 626 (by decide +kernel) rfl
set_option maxRecDepth 20000 in
theorem mn_X6_takeBack : Cond.instanceMethod mX6_takeBack.1 ∈ ax_Big := ax_bigI 624 (by decide +kernel) rfl
set_option maxRecDepth 20000 in
theorem mv_X6_takeBack : Cond.selects mX6_takeBack.1.cls mX6_takeBack.1 mX6_takeBack.1 ∈ ax_Big := ax_bigI 625 (by decide +kernel) rfl
set_option maxRecDepth 20000 in
theorem lv_X7_200 : ax_LV RX7 200 mX6_takeBack 1 6 := ⟨mc_X6_takeBack, mn_X6_takeBack, mv_X6_takeBack, rfl, mi_X6, Or.inl (ax_bigI 623 (by decide +kernel) rfl), by decide, ⟨by decide +kernel, by decide +kernel, by decide +kernel⟩⟩
set_option maxRecDepth 20000 in
theorem mc_X7_meanBy : Cond.code mX7_meanBy.1 mX7_meanBy.2.1 mX7_meanBy.2.2.1 mX7_meanBy.2.2.2 ∈ ax_Big := ax_bigI 636 (by decide +kernel) rfl
set_option maxRecDepth 20000 in
theorem mn_X7_meanBy : Cond.instanceMethod mX7_meanBy.1 ∈ ax_Big := ax_bigI 635 (by decide +kernel) rfl
set_option maxRecDepth 20000 in
theorem mv_X7_meanBy : Cond.selects mX7_meanBy.1.cls mX7_meanBy.1 mX7_meanBy.1 ∈ ax_Big := ax_bigI 14 (by decide +kernel) rfl
set_option maxRecDepth 20000 in
theorem lv_X7_204 : ax_LV RX7 204 mX7_meanBy 1 7 := ⟨mc_X7_meanBy, mn_X7_meanBy, mv_X7_meanBy, rfl, mi_X7, Or.inl (ax_bigI 633 (by decide +kernel) rfl), by decide, ⟨by decide +kernel, by decide +kernel, by decide +kernel⟩⟩
set_option maxRecDepth 20000 in
theorem ls_X7_208 : ax_LS RX7 208 mJ9_max_7cf53 2 := ⟨mc_J9_max_7cf53, ms_J9_max_7cf53, mi_J9, Or.inl (ax_bigI 654 (by decide +kernel) rfl), by decide, ⟨by decide +kernel, by decide +kernel, by decide +kernel⟩⟩
set_option maxRecDepth 20000 in
theorem mc_J9_min_7cf53 : Cond.code mJ9_min_7cf53.1 mJ9_min_7cf53.2.1 mJ9_min_7cf53.2.2.1 mJ9_min_7cf53.2.2.2 ∈ ax_Big := ax_bigI 657 (by decide +kernel) rfl
set_option maxRecDepth 20000 in
theorem ms_J9_min_7cf53 : Cond.static mJ9_min_7cf53.1 ∈ ax_Big := ax_bigI 656 (by decide +kernel) rfl
set_option maxRecDepth 20000 in
theorem ls_X7_213 : ax_LS RX7 213 mJ9_min_7cf53 2 := ⟨mc_J9_min_7cf53, ms_J9_min_7cf53, mi_J9, Or.inl (ax_bigI 655 (by decide +kernel) rfl), by decide, ⟨by decide +kernel, by decide +kernel, by decide +kernel⟩⟩
set_option maxRecDepth 20000 in
theorem mc_X7_widthOfNext : Cond.code mX7_widthOfNext.1 mX7_widthOfNext.2.1 mX7_widthOfNext.2.2.1 mX7_widthOfNext.2.2.2 ∈ ax_Big := ax_bigI 665 (by decide +kernel) rfl
set_option maxRecDepth 20000 in
theorem mn_X7_widthOfNext : Cond.instanceMethod mX7_widthOfNext.1 ∈ ax_Big := ax_bigI 664 (by decide +kernel) rfl
set_option maxRecDepth 20000 in
theorem mv_X7_widthOfNext : Cond.selects mX7_widthOfNext.1.cls mX7_widthOfNext.1 mX7_widthOfNext.1 ∈ ax_Big := ax_bigI 15 (by decide +kernel) rfl
set_option maxRecDepth 20000 in
theorem lv_X7_216 : ax_LV RX7 216 mX7_widthOfNext 3 7 := ⟨mc_X7_widthOfNext, mn_X7_widthOfNext, mv_X7_widthOfNext, rfl, mi_X7, Or.inl (ax_bigI 662 (by decide +kernel) rfl), by decide, ⟨by decide +kernel, by decide +kernel, by decide +kernel⟩⟩
set_option maxRecDepth 20000 in
theorem mc_X2_reckon : Cond.code mX2_reckon.1 mX2_reckon.2.1 mX2_reckon.2.2.1 mX2_reckon.2.2.2 ∈ ax_Big := ax_bigI 640 (by decide +kernel) rfl
set_option maxRecDepth 20000 in
theorem mn_X2_reckon : Cond.instanceMethod mX2_reckon.1 ∈ ax_Big := ax_bigI 638 (by decide +kernel) rfl
set_option maxRecDepth 20000 in
theorem mv_X2_reckon : Cond.selects mX2_reckon.1.cls mX2_reckon.1 mX2_reckon.1 ∈ ax_Big := ax_bigI 639 (by decide +kernel) rfl
set_option maxRecDepth 20000 in
theorem lv_X7_219 : ax_LV RX7 219 mX2_reckon 2 2 := ⟨mc_X2_reckon, mn_X2_reckon, mv_X2_reckon, rfl, mi_X2, Or.inl (ax_bigI 637 (by decide +kernel) rfl), by decide, ⟨by decide +kernel, by decide +kernel, by decide +kernel⟩⟩
set_option maxRecDepth 20000 in
theorem mc_J6_bitCount_0f7a4 : Cond.code mJ6_bitCount_0f7a4.1 mJ6_bitCount_0f7a4.2.1 mJ6_bitCount_0f7a4.2.2.1 mJ6_bitCount_0f7a4.2.2.2 ∈ ax_Big := ax_bigI 672 (by decide +kernel) rfl
set_option maxRecDepth 20000 in
theorem ms_J6_bitCount_0f7a4 : Cond.static mJ6_bitCount_0f7a4.1 ∈ ax_Big := ax_bigI 671 (by decide +kernel) rfl
set_option maxRecDepth 20000 in
theorem mi_J6 : Cond.initialized RJ6 ∈ ax_Big := ax_bigI 73 (by decide +kernel) rfl
set_option maxRecDepth 20000 in
theorem ls_X7_223 : ax_LS RX7 223 mJ6_bitCount_0f7a4 1 := ⟨mc_J6_bitCount_0f7a4, ms_J6_bitCount_0f7a4, mi_J6, Or.inl (ax_bigI 670 (by decide +kernel) rfl), by decide, ⟨by decide +kernel, by decide +kernel, by decide +kernel⟩⟩
set_option maxRecDepth 20000 in
theorem mc_X2_meanOf : Cond.code mX2_meanOf.1 mX2_meanOf.2.1 mX2_meanOf.2.2.1 mX2_meanOf.2.2.2 ∈ ax_Big := ax_bigI 649 (by decide +kernel) rfl
set_option maxRecDepth 20000 in
theorem mn_X2_meanOf : Cond.instanceMethod mX2_meanOf.1 ∈ ax_Big := ax_bigI 647 (by decide +kernel) rfl
set_option maxRecDepth 20000 in
theorem mv_X2_meanOf : Cond.selects mX2_meanOf.1.cls mX2_meanOf.1 mX2_meanOf.1 ∈ ax_Big := ax_bigI 648 (by decide +kernel) rfl
set_option maxRecDepth 20000 in
theorem lv_X7_228 : ax_LV RX7 228 mX2_meanOf 2 2 := ⟨mc_X2_meanOf, mn_X2_meanOf, mv_X2_meanOf, rfl, mi_X2, Or.inl (ax_bigI 646 (by decide +kernel) rfl), by decide, ⟨by decide +kernel, by decide +kernel, by decide +kernel⟩⟩
set_option maxRecDepth 20000 in
theorem mc_X0_isNear : Cond.code mX0_isNear.1 mX0_isNear.2.1 mX0_isNear.2.2.1 mX0_isNear.2.2.2 ∈ ax_Big := ax_bigI 679 (by decide +kernel) rfl
set_option maxRecDepth 20000 in
theorem mn_X0_isNear : Cond.instanceMethod mX0_isNear.1 ∈ ax_Big := ax_bigI 677 (by decide +kernel) rfl
set_option maxRecDepth 20000 in
theorem mv_X0_isNear : Cond.selects mX0_isNear.1.cls mX0_isNear.1 mX0_isNear.1 ∈ ax_Big := ax_bigI 678 (by decide +kernel) rfl
set_option maxRecDepth 20000 in
theorem lv_X7_231 : ax_LV RX7 231 mX0_isNear 2 0 := ⟨mc_X0_isNear, mn_X0_isNear, mv_X0_isNear, rfl, mi_X0, Or.inl (ax_bigI 676 (by decide +kernel) rfl), by decide, ⟨by decide +kernel, by decide +kernel, by decide +kernel⟩⟩
set_option maxRecDepth 20000 in
theorem lv_X7_234 : ax_LV RX7 234 mX0_offGirth 1 0 := ⟨mc_X0_offGirth, mn_X0_offGirth, mv_X0_offGirth, rfl, mi_X0, Or.inl (ax_bigI 689 (by decide +kernel) rfl), by decide, ⟨by decide +kernel, by decide +kernel, by decide +kernel⟩⟩
set_option maxRecDepth 20000 in
theorem mc_X7_girthWithout : Cond.code mX7_girthWithout.1 mX7_girthWithout.2.1 mX7_girthWithout.2.2.1 mX7_girthWithout.2.2.2 ∈ ax_Big := ax_bigI 693 (by decide +kernel) rfl
set_option maxRecDepth 20000 in
theorem mn_X7_girthWithout : Cond.instanceMethod mX7_girthWithout.1 ∈ ax_Big := ax_bigI 692 (by decide +kernel) rfl
set_option maxRecDepth 20000 in
theorem mv_X7_girthWithout : Cond.selects mX7_girthWithout.1.cls mX7_girthWithout.1 mX7_girthWithout.1 ∈ ax_Big := ax_bigI 16 (by decide +kernel) rfl
set_option maxRecDepth 20000 in
theorem lv_X7_237 : ax_LV RX7 237 mX7_girthWithout 2 7 := ⟨mc_X7_girthWithout, mn_X7_girthWithout, mv_X7_girthWithout, rfl, mi_X7, Or.inl (ax_bigI 690 (by decide +kernel) rfl), by decide, ⟨by decide +kernel, by decide +kernel, by decide +kernel⟩⟩
set_option maxRecDepth 20000 in
theorem ls_X7_240 : ax_LS RX7 240 mX7_cut 2 := ⟨mc_X7_cut, ms_X7_cut, mi_X7, Or.inl (ax_bigI 569 (by decide +kernel) rfl), by decide, ⟨by decide +kernel, by decide +kernel, by decide +kernel⟩⟩
set_option maxRecDepth 20000 in
theorem mc_X5_add : Cond.code mX5_add.1 mX5_add.2.1 mX5_add.2.2.1 mX5_add.2.2.2 ∈ ax_Big := ax_bigI 710 (by decide +kernel) rfl
set_option maxRecDepth 20000 in
theorem mn_X5_add : Cond.instanceMethod mX5_add.1 ∈ ax_Big := ax_bigI 708 (by decide +kernel) rfl
set_option maxRecDepth 20000 in
theorem mv_X5_add : Cond.selects mX5_add.1.cls mX5_add.1 mX5_add.1 ∈ ax_Big := ax_bigI 709 (by decide +kernel) rfl
set_option maxRecDepth 20000 in
theorem lv_X7_248 : ax_LV RX7 248 mX5_add 4 5 := ⟨mc_X5_add, mn_X5_add, mv_X5_add, rfl, mi_X5, Or.inl (ax_bigI 707 (by decide +kernel) rfl), by decide, ⟨by decide +kernel, by decide +kernel, by decide +kernel⟩⟩
set_option maxRecDepth 20000 in
theorem mc_X7_fittingUnits : Cond.code mX7_fittingUnits.1 mX7_fittingUnits.2.1 mX7_fittingUnits.2.2.1 mX7_fittingUnits.2.2.2 ∈ ax_Big := ax_bigI 723 (by decide +kernel) rfl
set_option maxRecDepth 20000 in
theorem mn_X7_fittingUnits : Cond.instanceMethod mX7_fittingUnits.1 ∈ ax_Big := ax_bigI 722 (by decide +kernel) rfl
set_option maxRecDepth 20000 in
theorem mv_X7_fittingUnits : Cond.selects mX7_fittingUnits.1.cls mX7_fittingUnits.1 mX7_fittingUnits.1 ∈ ax_Big := ax_bigI 18 (by decide +kernel) rfl
set_option maxRecDepth 20000 in
theorem lv_X7_252 : ax_LV RX7 252 mX7_fittingUnits 1 7 := ⟨mc_X7_fittingUnits, mn_X7_fittingUnits, mv_X7_fittingUnits, rfl, mi_X7, Or.inl (ax_bigI 720 (by decide +kernel) rfl), by decide, ⟨by decide +kernel, by decide +kernel, by decide +kernel⟩⟩
set_option maxRecDepth 20000 in
theorem mc_X7_fittingKinds : Cond.code mX7_fittingKinds.1 mX7_fittingKinds.2.1 mX7_fittingKinds.2.2.1 mX7_fittingKinds.2.2.2 ∈ ax_Big := ax_bigI 731 (by decide +kernel) rfl
set_option maxRecDepth 20000 in
theorem mn_X7_fittingKinds : Cond.instanceMethod mX7_fittingKinds.1 ∈ ax_Big := ax_bigI 730 (by decide +kernel) rfl
set_option maxRecDepth 20000 in
theorem mv_X7_fittingKinds : Cond.selects mX7_fittingKinds.1.cls mX7_fittingKinds.1 mX7_fittingKinds.1 ∈ ax_Big := ax_bigI 20 (by decide +kernel) rfl
set_option maxRecDepth 20000 in
theorem lv_X7_255 : ax_LV RX7 255 mX7_fittingKinds 1 7 := ⟨mc_X7_fittingKinds, mn_X7_fittingKinds, mv_X7_fittingKinds, rfl, mi_X7, Or.inl (ax_bigI 728 (by decide +kernel) rfl), by decide, ⟨by decide +kernel, by decide +kernel, by decide +kernel⟩⟩
set_option maxRecDepth 20000 in
theorem ls_X7_258 : ax_LS RX7 258 mJ9_abs_0f7a4 1 := ⟨mc_J9_abs_0f7a4, ms_J9_abs_0f7a4, mi_J9, Or.inl (ax_bigI 736 (by decide +kernel) rfl), by decide, ⟨by decide +kernel, by decide +kernel, by decide +kernel⟩⟩
set_option maxRecDepth 20000 in
theorem mc_X7_power : Cond.code mX7_power.1 mX7_power.2.1 mX7_power.2.2.1 mX7_power.2.2.2 ∈ ax_Big := ax_bigI 743 (by decide +kernel) rfl
set_option maxRecDepth 20000 in
theorem ms_X7_power : Cond.static mX7_power.1 ∈ ax_Big := ax_bigI 742 (by decide +kernel) rfl
set_option maxRecDepth 20000 in
theorem ls_X7_261 : ax_LS RX7 261 mX7_power 2 := ⟨mc_X7_power, ms_X7_power, mi_X7, Or.inl (ax_bigI 741 (by decide +kernel) rfl), by decide, ⟨by decide +kernel, by decide +kernel, by decide +kernel⟩⟩
set_option maxRecDepth 20000 in
theorem mc_X7_waysNear : Cond.code mX7_waysNear.1 mX7_waysNear.2.1 mX7_waysNear.2.2.1 mX7_waysNear.2.2.2 ∈ ax_Big := ax_bigI 747 (by decide +kernel) rfl
set_option maxRecDepth 20000 in
theorem mn_X7_waysNear : Cond.instanceMethod mX7_waysNear.1 ∈ ax_Big := ax_bigI 746 (by decide +kernel) rfl
set_option maxRecDepth 20000 in
theorem mv_X7_waysNear : Cond.selects mX7_waysNear.1.cls mX7_waysNear.1 mX7_waysNear.1 ∈ ax_Big := ax_bigI 21 (by decide +kernel) rfl
set_option maxRecDepth 20000 in
theorem lv_X7_264 : ax_LV RX7 264 mX7_waysNear 2 7 := ⟨mc_X7_waysNear, mn_X7_waysNear, mv_X7_waysNear, rfl, mi_X7, Or.inl (ax_bigI 744 (by decide +kernel) rfl), by decide, ⟨by decide +kernel, by decide +kernel, by decide +kernel⟩⟩
set_option maxRecDepth 20000 in
theorem mc_X7_commonDivisor : Cond.code mX7_commonDivisor.1 mX7_commonDivisor.2.1 mX7_commonDivisor.2.2.1 mX7_commonDivisor.2.2.2 ∈ ax_Big := ax_bigI 750 (by decide +kernel) rfl
set_option maxRecDepth 20000 in
theorem ms_X7_commonDivisor : Cond.static mX7_commonDivisor.1 ∈ ax_Big := ax_bigI 749 (by decide +kernel) rfl
set_option maxRecDepth 20000 in
theorem ls_X7_267 : ax_LS RX7 267 mX7_commonDivisor 2 := ⟨mc_X7_commonDivisor, ms_X7_commonDivisor, mi_X7, Or.inl (ax_bigI 748 (by decide +kernel) rfl), by decide, ⟨by decide +kernel, by decide +kernel, by decide +kernel⟩⟩
set_option maxRecDepth 20000 in
theorem mc_X1_copyFrom : Cond.code mX1_copyFrom.1 mX1_copyFrom.2.1 mX1_copyFrom.2.2.1 mX1_copyFrom.2.2.2 ∈ ax_Big := ax_bigI 758 (by decide +kernel) rfl
set_option maxRecDepth 20000 in
theorem mn_X1_copyFrom : Cond.instanceMethod mX1_copyFrom.1 ∈ ax_Big := ax_bigI 756 (by decide +kernel) rfl
set_option maxRecDepth 20000 in
theorem mv_X1_copyFrom : Cond.selects mX1_copyFrom.1.cls mX1_copyFrom.1 mX1_copyFrom.1 ∈ ax_Big := ax_bigI 757 (by decide +kernel) rfl
set_option maxRecDepth 20000 in
theorem lv_X7_270 : ax_LV RX7 270 mX1_copyFrom 1 1 := ⟨mc_X1_copyFrom, mn_X1_copyFrom, mv_X1_copyFrom, rfl, mi_X1, Or.inl (ax_bigI 755 (by decide +kernel) rfl), by decide, ⟨by decide +kernel, by decide +kernel, by decide +kernel⟩⟩
set_option maxRecDepth 20000 in
theorem mc_X7_drawOf : Cond.code mX7_drawOf.1 mX7_drawOf.2.1 mX7_drawOf.2.2.1 mX7_drawOf.2.2.2 ∈ ax_Big := ax_bigI 764 (by decide +kernel) rfl
set_option maxRecDepth 20000 in
theorem ms_X7_drawOf : Cond.static mX7_drawOf.1 ∈ ax_Big := ax_bigI 763 (by decide +kernel) rfl
set_option maxRecDepth 20000 in
theorem ls_X7_273 : ax_LS RX7 273 mX7_drawOf 2 := ⟨mc_X7_drawOf, ms_X7_drawOf, mi_X7, Or.inl (ax_bigI 762 (by decide +kernel) rfl), by decide, ⟨by decide +kernel, by decide +kernel, by decide +kernel⟩⟩
set_option maxRecDepth 20000 in
theorem mc_X7_walkByDraw : Cond.code mX7_walkByDraw.1 mX7_walkByDraw.2.1 mX7_walkByDraw.2.2.1 mX7_walkByDraw.2.2.2 ∈ ax_Big := ax_bigI 771 (by decide +kernel) rfl
set_option maxRecDepth 20000 in
theorem mn_X7_walkByDraw : Cond.instanceMethod mX7_walkByDraw.1 ∈ ax_Big := ax_bigI 770 (by decide +kernel) rfl
set_option maxRecDepth 20000 in
theorem mv_X7_walkByDraw : Cond.selects mX7_walkByDraw.1.cls mX7_walkByDraw.1 mX7_walkByDraw.1 ∈ ax_Big := ax_bigI 22 (by decide +kernel) rfl
set_option maxRecDepth 20000 in
theorem lv_X7_276 : ax_LV RX7 276 mX7_walkByDraw 2 7 := ⟨mc_X7_walkByDraw, mn_X7_walkByDraw, mv_X7_walkByDraw, rfl, mi_X7, Or.inl (ax_bigI 768 (by decide +kernel) rfl), by decide, ⟨by decide +kernel, by decide +kernel, by decide +kernel⟩⟩
set_option maxRecDepth 20000 in
theorem mc_X7_keptAt : Cond.code mX7_keptAt.1 mX7_keptAt.2.1 mX7_keptAt.2.2.1 mX7_keptAt.2.2.2 ∈ ax_Big := ax_bigI 782 (by decide +kernel) rfl
set_option maxRecDepth 20000 in
theorem mn_X7_keptAt : Cond.instanceMethod mX7_keptAt.1 ∈ ax_Big := ax_bigI 781 (by decide +kernel) rfl
set_option maxRecDepth 20000 in
theorem mv_X7_keptAt : Cond.selects mX7_keptAt.1.cls mX7_keptAt.1 mX7_keptAt.1 ∈ ax_Big := ax_bigI 23 (by decide +kernel) rfl
set_option maxRecDepth 20000 in
theorem lv_X7_282 : ax_LV RX7 282 mX7_keptAt 1 7 := ⟨mc_X7_keptAt, mn_X7_keptAt, mv_X7_keptAt, rfl, mi_X7, Or.inl (ax_bigI 779 (by decide +kernel) rfl), by decide, ⟨by decide +kernel, by decide +kernel, by decide +kernel⟩⟩
set_option maxRecDepth 20000 in
theorem mc_X7_shadowsApartBy : Cond.code mX7_shadowsApartBy.1 mX7_shadowsApartBy.2.1 mX7_shadowsApartBy.2.2.1 mX7_shadowsApartBy.2.2.2 ∈ ax_Big := ax_bigI 530 (by decide +kernel) rfl
set_option maxRecDepth 20000 in
theorem mn_X7_shadowsApartBy : Cond.instanceMethod mX7_shadowsApartBy.1 ∈ ax_Big := ax_bigI 529 (by decide +kernel) rfl
set_option maxRecDepth 20000 in
theorem mv_X7_shadowsApartBy : Cond.selects mX7_shadowsApartBy.1.cls mX7_shadowsApartBy.1 mX7_shadowsApartBy.1 ∈ ax_Big := ax_bigI 7 (by decide +kernel) rfl
set_option maxRecDepth 20000 in
theorem lv_X7_286 : ax_LV RX7 286 mX7_shadowsApartBy 1 7 := ⟨mc_X7_shadowsApartBy, mn_X7_shadowsApartBy, mv_X7_shadowsApartBy, rfl, mi_X7, Or.inl (ax_bigI 527 (by decide +kernel) rfl), by decide, ⟨by decide +kernel, by decide +kernel, by decide +kernel⟩⟩
set_option maxRecDepth 20000 in
theorem lv_X7_289 : ax_LV RX7 289 mX0_girthOf 3 0 := ⟨mc_X0_girthOf, mn_X0_girthOf, mv_X0_girthOf, rfl, mi_X0, Or.inl (ax_bigI 531 (by decide +kernel) rfl), by decide, ⟨by decide +kernel, by decide +kernel, by decide +kernel⟩⟩
set_option maxRecDepth 20000 in
theorem mc_X7_wouldTell : Cond.code mX7_wouldTell.1 mX7_wouldTell.2.1 mX7_wouldTell.2.2.1 mX7_wouldTell.2.2.2 ∈ ax_Big := ax_bigI 555 (by decide +kernel) rfl
set_option maxRecDepth 20000 in
theorem mn_X7_wouldTell : Cond.instanceMethod mX7_wouldTell.1 ∈ ax_Big := ax_bigI 554 (by decide +kernel) rfl
set_option maxRecDepth 20000 in
theorem mv_X7_wouldTell : Cond.selects mX7_wouldTell.1.cls mX7_wouldTell.1 mX7_wouldTell.1 ∈ ax_Big := ax_bigI 11 (by decide +kernel) rfl
set_option maxRecDepth 20000 in
theorem lv_X7_292 : ax_LV RX7 292 mX7_wouldTell 6 7 := ⟨mc_X7_wouldTell, mn_X7_wouldTell, mv_X7_wouldTell, rfl, mi_X7, Or.inl (ax_bigI 552 (by decide +kernel) rfl), by decide, ⟨by decide +kernel, by decide +kernel, by decide +kernel⟩⟩
set_option maxRecDepth 20000 in
theorem lv_X7_296 : ax_LV RX7 296 mX0_liesApart 2 0 := ⟨mc_X0_liesApart, mn_X0_liesApart, mv_X0_liesApart, rfl, mi_X0, Or.inl (ax_bigI 694 (by decide +kernel) rfl), by decide, ⟨by decide +kernel, by decide +kernel, by decide +kernel⟩⟩
set_option maxRecDepth 20000 in
theorem mc_X7_stadiaWithout : Cond.code mX7_stadiaWithout.1 mX7_stadiaWithout.2.1 mX7_stadiaWithout.2.2.1 mX7_stadiaWithout.2.2.2 ∈ ax_Big := ax_bigI 698 (by decide +kernel) rfl
set_option maxRecDepth 20000 in
theorem mn_X7_stadiaWithout : Cond.instanceMethod mX7_stadiaWithout.1 ∈ ax_Big := ax_bigI 697 (by decide +kernel) rfl
set_option maxRecDepth 20000 in
theorem mv_X7_stadiaWithout : Cond.selects mX7_stadiaWithout.1.cls mX7_stadiaWithout.1 mX7_stadiaWithout.1 ∈ ax_Big := ax_bigI 17 (by decide +kernel) rfl
set_option maxRecDepth 20000 in
theorem lv_X7_299 : ax_LV RX7 299 mX7_stadiaWithout 2 7 := ⟨mc_X7_stadiaWithout, mn_X7_stadiaWithout, mv_X7_stadiaWithout, rfl, mi_X7, Or.inl (ax_bigI 695 (by decide +kernel) rfl), by decide, ⟨by decide +kernel, by decide +kernel, by decide +kernel⟩⟩
set_option maxRecDepth 20000 in
theorem mc_X7_toldOfMiles : Cond.code mX7_toldOfMiles.1 mX7_toldOfMiles.2.1 mX7_toldOfMiles.2.2.1 mX7_toldOfMiles.2.2.2 ∈ ax_Big := ax_bigI 567 (by decide +kernel) rfl
set_option maxRecDepth 20000 in
theorem ms_X7_toldOfMiles : Cond.static mX7_toldOfMiles.1 ∈ ax_Big := ax_bigI 566 (by decide +kernel) rfl
set_option maxRecDepth 20000 in
theorem ls_X7_302 : ax_LS RX7 302 mX7_toldOfMiles 3 := ⟨mc_X7_toldOfMiles, ms_X7_toldOfMiles, mi_X7, Or.inl (ax_bigI 565 (by decide +kernel) rfl), by decide, ⟨by decide +kernel, by decide +kernel, by decide +kernel⟩⟩
set_option maxRecDepth 20000 in
theorem mc_X1_latestOfAnother : Cond.code mX1_latestOfAnother.1 mX1_latestOfAnother.2.1 mX1_latestOfAnother.2.2.1 mX1_latestOfAnother.2.2.2 ∈ ax_Big := ax_bigI 559 (by decide +kernel) rfl
set_option maxRecDepth 20000 in
theorem mn_X1_latestOfAnother : Cond.instanceMethod mX1_latestOfAnother.1 ∈ ax_Big := ax_bigI 557 (by decide +kernel) rfl
set_option maxRecDepth 20000 in
theorem mv_X1_latestOfAnother : Cond.selects mX1_latestOfAnother.1.cls mX1_latestOfAnother.1 mX1_latestOfAnother.1 ∈ ax_Big := ax_bigI 558 (by decide +kernel) rfl
set_option maxRecDepth 20000 in
theorem lv_X7_305 : ax_LV RX7 305 mX1_latestOfAnother 3 1 := ⟨mc_X1_latestOfAnother, mn_X1_latestOfAnother, mv_X1_latestOfAnother, rfl, mi_X1, Or.inl (ax_bigI 556 (by decide +kernel) rfl), by decide, ⟨by decide +kernel, by decide +kernel, by decide +kernel⟩⟩
set_option maxRecDepth 20000 in
theorem ls_X7_310 : ax_LS RX7 310 mX7_nineTenths 1 := ⟨mc_X7_nineTenths, ms_X7_nineTenths, mi_X7, Or.inl (ax_bigI 570 (by decide +kernel) rfl), by decide, ⟨by decide +kernel, by decide +kernel, by decide +kernel⟩⟩
set_option maxRecDepth 20000 in
theorem mc_X1_add : Cond.code mX1_add.1 mX1_add.2.1 mX1_add.2.2.1 mX1_add.2.2.2 ∈ ax_Big := ax_bigI 577 (by decide +kernel) rfl
set_option maxRecDepth 20000 in
theorem mn_X1_add : Cond.instanceMethod mX1_add.1 ∈ ax_Big := ax_bigI 575 (by decide +kernel) rfl
set_option maxRecDepth 20000 in
theorem mv_X1_add : Cond.selects mX1_add.1.cls mX1_add.1 mX1_add.1 ∈ ax_Big := ax_bigI 576 (by decide +kernel) rfl
set_option maxRecDepth 20000 in
theorem lv_X7_313 : ax_LV RX7 313 mX1_add 4 1 := ⟨mc_X1_add, mn_X1_add, mv_X1_add, rfl, mi_X1, Or.inl (ax_bigI 574 (by decide +kernel) rfl), by decide, ⟨by decide +kernel, by decide +kernel, by decide +kernel⟩⟩
set_option maxRecDepth 20000 in
theorem mc_X7_allSeenFits : Cond.code mX7_allSeenFits.1 mX7_allSeenFits.2.1 mX7_allSeenFits.2.2.1 mX7_allSeenFits.2.2.2 ∈ ax_Big := ax_bigI 727 (by decide +kernel) rfl
set_option maxRecDepth 20000 in
theorem mn_X7_allSeenFits : Cond.instanceMethod mX7_allSeenFits.1 ∈ ax_Big := ax_bigI 726 (by decide +kernel) rfl
set_option maxRecDepth 20000 in
theorem mv_X7_allSeenFits : Cond.selects mX7_allSeenFits.1.cls mX7_allSeenFits.1 mX7_allSeenFits.1 ∈ ax_Big := ax_bigI 19 (by decide +kernel) rfl
set_option maxRecDepth 20000 in
theorem lv_X7_314 : ax_LV RX7 314 mX7_allSeenFits 3 7 := ⟨mc_X7_allSeenFits, mn_X7_allSeenFits, mv_X7_allSeenFits, rfl, mi_X7, Or.inl (ax_bigI 724 (by decide +kernel) rfl), by decide, ⟨by decide +kernel, by decide +kernel, by decide +kernel⟩⟩
set_option maxRecDepth 20000 in
theorem mc_X7_rest : Cond.code mX7_rest.1 mX7_rest.2.1 mX7_rest.2.2.1 mX7_rest.2.2.2 ∈ ax_Big := ax_bigI 774 (by decide +kernel) rfl
set_option maxRecDepth 20000 in
theorem ms_X7_rest : Cond.static mX7_rest.1 ∈ ax_Big := ax_bigI 773 (by decide +kernel) rfl
set_option maxRecDepth 20000 in
theorem ls_X7_321 : ax_LS RX7 321 mX7_rest 2 := ⟨mc_X7_rest, ms_X7_rest, mi_X7, Or.inl (ax_bigI 772 (by decide +kernel) rfl), by decide, ⟨by decide +kernel, by decide +kernel, by decide +kernel⟩⟩
set_option maxRecDepth 20000 in
theorem ls_X7_332 : ax_LS RX7 332 mX7_put 3 := ⟨mc_X7_put, ms_X7_put, mi_X7, Or.inl (ax_bigI 585 (by decide +kernel) rfl), by decide, ⟨by decide +kernel, by decide +kernel, by decide +kernel⟩⟩
set_option maxRecDepth 20000 in
theorem lo_X8_1 : Cond.methodLink RX8 1 Lib.objectInit ∈ ax_Big := ax_bigI 796 (by decide +kernel) rfl
set_option maxRecDepth 20000 in
theorem mc_X8_clears : Cond.code mX8_clears.1 mX8_clears.2.1 mX8_clears.2.2.1 mX8_clears.2.2.2 ∈ ax_Big := ax_bigI 800 (by decide +kernel) rfl
set_option maxRecDepth 20000 in
theorem mn_X8_clears : Cond.instanceMethod mX8_clears.1 ∈ ax_Big := ax_bigI 799 (by decide +kernel) rfl
set_option maxRecDepth 20000 in
theorem mv_X8_clears : Cond.selects mX8_clears.1.cls mX8_clears.1 mX8_clears.1 ∈ ax_Big := ax_bigI 24 (by decide +kernel) rfl
set_option maxRecDepth 20000 in
theorem mi_X8 : Cond.initialized RX8 ∈ ax_Big := ax_bigI 72 (by decide +kernel) rfl
set_option maxRecDepth 20000 in
theorem lv_X8_65 : ax_LV RX8 65 mX8_clears 0 8 := ⟨mc_X8_clears, mn_X8_clears, mv_X8_clears, rfl, mi_X8, Or.inl (ax_bigI 797 (by decide +kernel) rfl), by decide, ⟨by decide +kernel, by decide +kernel, by decide +kernel⟩⟩
set_option maxRecDepth 20000 in
theorem mc_X8_lies : Cond.code mX8_lies.1 mX8_lies.2.1 mX8_lies.2.2.1 mX8_lies.2.2.2 ∈ ax_Big := ax_bigI 804 (by decide +kernel) rfl
set_option maxRecDepth 20000 in
theorem mn_X8_lies : Cond.instanceMethod mX8_lies.1 ∈ ax_Big := ax_bigI 803 (by decide +kernel) rfl
set_option maxRecDepth 20000 in
theorem mv_X8_lies : Cond.selects mX8_lies.1.cls mX8_lies.1 mX8_lies.1 ∈ ax_Big := ax_bigI 25 (by decide +kernel) rfl
set_option maxRecDepth 20000 in
theorem lv_X8_68 : ax_LV RX8 68 mX8_lies 2 8 := ⟨mc_X8_lies, mn_X8_lies, mv_X8_lies, rfl, mi_X8, Or.inl (ax_bigI 801 (by decide +kernel) rfl), by decide, ⟨by decide +kernel, by decide +kernel, by decide +kernel⟩⟩
set_option maxRecDepth 20000 in
theorem mc_X8_bends : Cond.code mX8_bends.1 mX8_bends.2.1 mX8_bends.2.2.1 mX8_bends.2.2.2 ∈ ax_Big := ax_bigI 808 (by decide +kernel) rfl
set_option maxRecDepth 20000 in
theorem mn_X8_bends : Cond.instanceMethod mX8_bends.1 ∈ ax_Big := ax_bigI 807 (by decide +kernel) rfl
set_option maxRecDepth 20000 in
theorem mv_X8_bends : Cond.selects mX8_bends.1.cls mX8_bends.1 mX8_bends.1 ∈ ax_Big := ax_bigI 26 (by decide +kernel) rfl
set_option maxRecDepth 20000 in
theorem lv_X8_72 : ax_LV RX8 72 mX8_bends 3 8 := ⟨mc_X8_bends, mn_X8_bends, mv_X8_bends, rfl, mi_X8, Or.inl (ax_bigI 805 (by decide +kernel) rfl), by decide, ⟨by decide +kernel, by decide +kernel, by decide +kernel⟩⟩
set_option maxRecDepth 20000 in
theorem mc_X8_goes : Cond.code mX8_goes.1 mX8_goes.2.1 mX8_goes.2.2.1 mX8_goes.2.2.2 ∈ ax_Big := ax_bigI 812 (by decide +kernel) rfl
set_option maxRecDepth 20000 in
theorem mn_X8_goes : Cond.instanceMethod mX8_goes.1 ∈ ax_Big := ax_bigI 811 (by decide +kernel) rfl
set_option maxRecDepth 20000 in
theorem mv_X8_goes : Cond.selects mX8_goes.1.cls mX8_goes.1 mX8_goes.1 ∈ ax_Big := ax_bigI 27 (by decide +kernel) rfl
set_option maxRecDepth 20000 in
theorem lv_X8_76 : ax_LV RX8 76 mX8_goes 3 8 := ⟨mc_X8_goes, mn_X8_goes, mv_X8_goes, rfl, mi_X8, Or.inl (ax_bigI 809 (by decide +kernel) rfl), by decide, ⟨by decide +kernel, by decide +kernel, by decide +kernel⟩⟩
set_option maxRecDepth 20000 in
theorem mc_X8_settles : Cond.code mX8_settles.1 mX8_settles.2.1 mX8_settles.2.2.1 mX8_settles.2.2.2 ∈ ax_Big := ax_bigI 816 (by decide +kernel) rfl
set_option maxRecDepth 20000 in
theorem mn_X8_settles : Cond.instanceMethod mX8_settles.1 ∈ ax_Big := ax_bigI 815 (by decide +kernel) rfl
set_option maxRecDepth 20000 in
theorem mv_X8_settles : Cond.selects mX8_settles.1.cls mX8_settles.1 mX8_settles.1 ∈ ax_Big := ax_bigI 28 (by decide +kernel) rfl
set_option maxRecDepth 20000 in
theorem lv_X8_79 : ax_LV RX8 79 mX8_settles 0 8 := ⟨mc_X8_settles, mn_X8_settles, mv_X8_settles, rfl, mi_X8, Or.inl (ax_bigI 813 (by decide +kernel) rfl), by decide, ⟨by decide +kernel, by decide +kernel, by decide +kernel⟩⟩
set_option maxRecDepth 20000 in
theorem mc_X8_in : Cond.code mX8_in.1 mX8_in.2.1 mX8_in.2.2.1 mX8_in.2.2.2 ∈ ax_Big := ax_bigI 919 (by decide +kernel) rfl
set_option maxRecDepth 20000 in
theorem ms_X8_in : Cond.static mX8_in.1 ∈ ax_Big := ax_bigI 918 (by decide +kernel) rfl
set_option maxRecDepth 20000 in
theorem ls_X8_101 : ax_LS RX8 101 mX8_in 3 := ⟨mc_X8_in, ms_X8_in, mi_X8, Or.inl (ax_bigI 917 (by decide +kernel) rfl), by decide, ⟨by decide +kernel, by decide +kernel, by decide +kernel⟩⟩
set_option maxRecDepth 20000 in
theorem mc_X8_isTown : Cond.code mX8_isTown.1 mX8_isTown.2.1 mX8_isTown.2.2.1 mX8_isTown.2.2.2 ∈ ax_Big := ax_bigI 961 (by decide +kernel) rfl
set_option maxRecDepth 20000 in
theorem mn_X8_isTown : Cond.instanceMethod mX8_isTown.1 ∈ ax_Big := ax_bigI 960 (by decide +kernel) rfl
set_option maxRecDepth 20000 in
theorem mv_X8_isTown : Cond.selects mX8_isTown.1.cls mX8_isTown.1 mX8_isTown.1 ∈ ax_Big := ax_bigI 34 (by decide +kernel) rfl
set_option maxRecDepth 20000 in
theorem lv_X8_105 : ax_LV RX8 105 mX8_isTown 1 8 := ⟨mc_X8_isTown, mn_X8_isTown, mv_X8_isTown, rfl, mi_X8, Or.inl (ax_bigI 958 (by decide +kernel) rfl), by decide, ⟨by decide +kernel, by decide +kernel, by decide +kernel⟩⟩
set_option maxRecDepth 20000 in
theorem mc_X8_peek : Cond.code mX8_peek.1 mX8_peek.2.1 mX8_peek.2.2.1 mX8_peek.2.2.2 ∈ ax_Big := ax_bigI 935 (by decide +kernel) rfl
set_option maxRecDepth 20000 in
theorem mn_X8_peek : Cond.instanceMethod mX8_peek.1 ∈ ax_Big := ax_bigI 934 (by decide +kernel) rfl
set_option maxRecDepth 20000 in
theorem mv_X8_peek : Cond.selects mX8_peek.1.cls mX8_peek.1 mX8_peek.1 ∈ ax_Big := ax_bigI 30 (by decide +kernel) rfl
set_option maxRecDepth 20000 in
theorem lv_X8_119 : ax_LV RX8 119 mX8_peek 0 8 := ⟨mc_X8_peek, mn_X8_peek, mv_X8_peek, rfl, mi_X8, Or.inl (ax_bigI 932 (by decide +kernel) rfl), by decide, ⟨by decide +kernel, by decide +kernel, by decide +kernel⟩⟩
set_option maxRecDepth 20000 in
theorem mc_X8_number : Cond.code mX8_number.1 mX8_number.2.1 mX8_number.2.2.1 mX8_number.2.2.2 ∈ ax_Big := ax_bigI 943 (by decide +kernel) rfl
set_option maxRecDepth 20000 in
theorem mn_X8_number : Cond.instanceMethod mX8_number.1 ∈ ax_Big := ax_bigI 942 (by decide +kernel) rfl
set_option maxRecDepth 20000 in
theorem mv_X8_number : Cond.selects mX8_number.1.cls mX8_number.1 mX8_number.1 ∈ ax_Big := ax_bigI 32 (by decide +kernel) rfl
set_option maxRecDepth 20000 in
theorem lv_X8_131 : ax_LV RX8 131 mX8_number 2 8 := ⟨mc_X8_number, mn_X8_number, mv_X8_number, rfl, mi_X8, Or.inl (ax_bigI 940 (by decide +kernel) rfl), by decide, ⟨by decide +kernel, by decide +kernel, by decide +kernel⟩⟩
set_option maxRecDepth 20000 in
theorem mc_X8_more : Cond.code mX8_more.1 mX8_more.2.1 mX8_more.2.2.1 mX8_more.2.2.2 ∈ ax_Big := ax_bigI 949 (by decide +kernel) rfl
set_option maxRecDepth 20000 in
theorem mn_X8_more : Cond.instanceMethod mX8_more.1 ∈ ax_Big := ax_bigI 948 (by decide +kernel) rfl
set_option maxRecDepth 20000 in
theorem mv_X8_more : Cond.selects mX8_more.1.cls mX8_more.1 mX8_more.1 ∈ ax_Big := ax_bigI 33 (by decide +kernel) rfl
set_option maxRecDepth 20000 in
theorem lv_X8_135 : ax_LV RX8 135 mX8_more 2 8 := ⟨mc_X8_more, mn_X8_more, mv_X8_more, rfl, mi_X8, Or.inl (ax_bigI 946 (by decide +kernel) rfl), by decide, ⟨by decide +kernel, by decide +kernel, by decide +kernel⟩⟩
set_option maxRecDepth 20000 in
theorem mc_X8_item : Cond.code mX8_item.1 mX8_item.2.1 mX8_item.2.2.1 mX8_item.2.2.2 ∈ ax_Big := ax_bigI 939 (by decide +kernel) rfl
set_option maxRecDepth 20000 in
theorem mn_X8_item : Cond.instanceMethod mX8_item.1 ∈ ax_Big := ax_bigI 938 (by decide +kernel) rfl
set_option maxRecDepth 20000 in
theorem mv_X8_item : Cond.selects mX8_item.1.cls mX8_item.1 mX8_item.1 ∈ ax_Big := ax_bigI 31 (by decide +kernel) rfl
set_option maxRecDepth 20000 in
theorem lv_X8_141 : ax_LV RX8 141 mX8_item 1 8 := ⟨mc_X8_item, mn_X8_item, mv_X8_item, rfl, mi_X8, Or.inl (ax_bigI 936 (by decide +kernel) rfl), by decide, ⟨by decide +kernel, by decide +kernel, by decide +kernel⟩⟩
set_option maxRecDepth 20000 in
theorem mc_X8_reads : Cond.code mX8_reads.1 mX8_reads.2.1 mX8_reads.2.2.1 mX8_reads.2.2.2 ∈ ax_Big := ax_bigI 931 (by decide +kernel) rfl
set_option maxRecDepth 20000 in
theorem mn_X8_reads : Cond.instanceMethod mX8_reads.1 ∈ ax_Big := ax_bigI 930 (by decide +kernel) rfl
set_option maxRecDepth 20000 in
theorem mv_X8_reads : Cond.selects mX8_reads.1.cls mX8_reads.1 mX8_reads.1 ∈ ax_Big := ax_bigI 29 (by decide +kernel) rfl
set_option maxRecDepth 20000 in
theorem lv_X8_145 : ax_LV RX8 145 mX8_reads 0 8 := ⟨mc_X8_reads, mn_X8_reads, mv_X8_reads, rfl, mi_X8, Or.inl (ax_bigI 928 (by decide +kernel) rfl), by decide, ⟨by decide +kernel, by decide +kernel, by decide +kernel⟩⟩
set_option maxRecDepth 20000 in
theorem mc_X8_larger : Cond.code mX8_larger.1 mX8_larger.2.1 mX8_larger.2.2.1 mX8_larger.2.2.2 ∈ ax_Big := ax_bigI 968 (by decide +kernel) rfl
set_option maxRecDepth 20000 in
theorem ms_X8_larger : Cond.static mX8_larger.1 ∈ ax_Big := ax_bigI 967 (by decide +kernel) rfl
set_option maxRecDepth 20000 in
theorem ls_X8_158 : ax_LS RX8 158 mX8_larger 2 := ⟨mc_X8_larger, ms_X8_larger, mi_X8, Or.inl (ax_bigI 966 (by decide +kernel) rfl), by decide, ⟨by decide +kernel, by decide +kernel, by decide +kernel⟩⟩
set_option maxRecDepth 20000 in
theorem mc_X8_apart : Cond.code mX8_apart.1 mX8_apart.2.1 mX8_apart.2.2.1 mX8_apart.2.2.2 ∈ ax_Big := ax_bigI 984 (by decide +kernel) rfl
set_option maxRecDepth 20000 in
theorem ms_X8_apart : Cond.static mX8_apart.1 ∈ ax_Big := ax_bigI 983 (by decide +kernel) rfl
set_option maxRecDepth 20000 in
theorem ls_X8_161 : ax_LS RX8 161 mX8_apart 2 := ⟨mc_X8_apart, ms_X8_apart, mi_X8, Or.inl (ax_bigI 982 (by decide +kernel) rfl), by decide, ⟨by decide +kernel, by decide +kernel, by decide +kernel⟩⟩
set_option maxRecDepth 20000 in
theorem mc_X8_straight : Cond.code mX8_straight.1 mX8_straight.2.1 mX8_straight.2.2.1 mX8_straight.2.2.2 ∈ ax_Big := ax_bigI 981 (by decide +kernel) rfl
set_option maxRecDepth 20000 in
theorem mn_X8_straight : Cond.instanceMethod mX8_straight.1 ∈ ax_Big := ax_bigI 980 (by decide +kernel) rfl
set_option maxRecDepth 20000 in
theorem mv_X8_straight : Cond.selects mX8_straight.1.cls mX8_straight.1 mX8_straight.1 ∈ ax_Big := ax_bigI 37 (by decide +kernel) rfl
set_option maxRecDepth 20000 in
theorem lv_X8_164 : ax_LV RX8 164 mX8_straight 2 8 := ⟨mc_X8_straight, mn_X8_straight, mv_X8_straight, rfl, mi_X8, Or.inl (ax_bigI 978 (by decide +kernel) rfl), by decide, ⟨by decide +kernel, by decide +kernel, by decide +kernel⟩⟩
set_option maxRecDepth 20000 in
theorem mc_X8_shadow : Cond.code mX8_shadow.1 mX8_shadow.2.1 mX8_shadow.2.2.1 mX8_shadow.2.2.2 ∈ ax_Big := ax_bigI 965 (by decide +kernel) rfl
set_option maxRecDepth 20000 in
theorem mn_X8_shadow : Cond.instanceMethod mX8_shadow.1 ∈ ax_Big := ax_bigI 964 (by decide +kernel) rfl
set_option maxRecDepth 20000 in
theorem mv_X8_shadow : Cond.selects mX8_shadow.1.cls mX8_shadow.1 mX8_shadow.1 ∈ ax_Big := ax_bigI 35 (by decide +kernel) rfl
set_option maxRecDepth 20000 in
theorem lv_X8_167 : ax_LV RX8 167 mX8_shadow 1 8 := ⟨mc_X8_shadow, mn_X8_shadow, mv_X8_shadow, rfl, mi_X8, Or.inl (ax_bigI 962 (by decide +kernel) rfl), by decide, ⟨by decide +kernel, by decide +kernel, by decide +kernel⟩⟩
set_option maxRecDepth 20000 in
theorem mc_X8_areTowns : Cond.code mX8_areTowns.1 mX8_areTowns.2.1 mX8_areTowns.2.2.1 mX8_areTowns.2.2.2 ∈ ax_Big := ax_bigI 976 (by decide +kernel) rfl
set_option maxRecDepth 20000 in
theorem mn_X8_areTowns : Cond.instanceMethod mX8_areTowns.1 ∈ ax_Big := ax_bigI 975 (by decide +kernel) rfl
set_option maxRecDepth 20000 in
theorem mv_X8_areTowns : Cond.selects mX8_areTowns.1.cls mX8_areTowns.1 mX8_areTowns.1 ∈ ax_Big := ax_bigI 36 (by decide +kernel) rfl
set_option maxRecDepth 20000 in
theorem lv_X8_171 : ax_LV RX8 171 mX8_areTowns 2 8 := ⟨mc_X8_areTowns, mn_X8_areTowns, mv_X8_areTowns, rfl, mi_X8, Or.inl (ax_bigI 973 (by decide +kernel) rfl), by decide, ⟨by decide +kernel, by decide +kernel, by decide +kernel⟩⟩
set_option maxRecDepth 20000 in
theorem mc_X8_road : Cond.code mX8_road.1 mX8_road.2.1 mX8_road.2.2.1 mX8_road.2.2.2 ∈ ax_Big := ax_bigI 988 (by decide +kernel) rfl
set_option maxRecDepth 20000 in
theorem mn_X8_road : Cond.instanceMethod mX8_road.1 ∈ ax_Big := ax_bigI 987 (by decide +kernel) rfl
set_option maxRecDepth 20000 in
theorem mv_X8_road : Cond.selects mX8_road.1.cls mX8_road.1 mX8_road.1 ∈ ax_Big := ax_bigI 38 (by decide +kernel) rfl
set_option maxRecDepth 20000 in
theorem lv_X8_177 : ax_LV RX8 177 mX8_road 2 8 := ⟨mc_X8_road, mn_X8_road, mv_X8_road, rfl, mi_X8, Or.inl (ax_bigI 985 (by decide +kernel) rfl), by decide, ⟨by decide +kernel, by decide +kernel, by decide +kernel⟩⟩
set_option maxRecDepth 20000 in
theorem mc_X8_degrees : Cond.code mX8_degrees.1 mX8_degrees.2.1 mX8_degrees.2.2.1 mX8_degrees.2.2.2 ∈ ax_Big := ax_bigI 992 (by decide +kernel) rfl
set_option maxRecDepth 20000 in
theorem mn_X8_degrees : Cond.instanceMethod mX8_degrees.1 ∈ ax_Big := ax_bigI 991 (by decide +kernel) rfl
set_option maxRecDepth 20000 in
theorem mv_X8_degrees : Cond.selects mX8_degrees.1.cls mX8_degrees.1 mX8_degrees.1 ∈ ax_Big := ax_bigI 39 (by decide +kernel) rfl
set_option maxRecDepth 20000 in
theorem lv_X8_180 : ax_LV RX8 180 mX8_degrees 2 8 := ⟨mc_X8_degrees, mn_X8_degrees, mv_X8_degrees, rfl, mi_X8, Or.inl (ax_bigI 989 (by decide +kernel) rfl), by decide, ⟨by decide +kernel, by decide +kernel, by decide +kernel⟩⟩
set_option maxRecDepth 20000 in
theorem mc_X8_isWalker : Cond.code mX8_isWalker.1 mX8_isWalker.2.1 mX8_isWalker.2.2.1 mX8_isWalker.2.2.2 ∈ ax_Big := ax_bigI 1000 (by decide +kernel) rfl
set_option maxRecDepth 20000 in
theorem mn_X8_isWalker : Cond.instanceMethod mX8_isWalker.1 ∈ ax_Big := ax_bigI 999 (by decide +kernel) rfl
set_option maxRecDepth 20000 in
theorem mv_X8_isWalker : Cond.selects mX8_isWalker.1.cls mX8_isWalker.1 mX8_isWalker.1 ∈ ax_Big := ax_bigI 40 (by decide +kernel) rfl
set_option maxRecDepth 20000 in
theorem lv_X8_183 : ax_LV RX8 183 mX8_isWalker 1 8 := ⟨mc_X8_isWalker, mn_X8_isWalker, mv_X8_isWalker, rfl, mi_X8, Or.inl (ax_bigI 997 (by decide +kernel) rfl), by decide, ⟨by decide +kernel, by decide +kernel, by decide +kernel⟩⟩
set_option maxRecDepth 20000 in
theorem mc_X8_copied : Cond.code mX8_copied.1 mX8_copied.2.1 mX8_copied.2.2.1 mX8_copied.2.2.2 ∈ ax_Big := ax_bigI 1053 (by decide +kernel) rfl
set_option maxRecDepth 20000 in
theorem mn_X8_copied : Cond.instanceMethod mX8_copied.1 ∈ ax_Big := ax_bigI 1052 (by decide +kernel) rfl
set_option maxRecDepth 20000 in
theorem mv_X8_copied : Cond.selects mX8_copied.1.cls mX8_copied.1 mX8_copied.1 ∈ ax_Big := ax_bigI 51 (by decide +kernel) rfl
set_option maxRecDepth 20000 in
theorem lv_X8_186 : ax_LV RX8 186 mX8_copied 4 8 := ⟨mc_X8_copied, mn_X8_copied, mv_X8_copied, rfl, mi_X8, Or.inl (ax_bigI 1050 (by decide +kernel) rfl), by decide, ⟨by decide +kernel, by decide +kernel, by decide +kernel⟩⟩
set_option maxRecDepth 20000 in
theorem mc_X8_tells : Cond.code mX8_tells.1 mX8_tells.2.1 mX8_tells.2.2.1 mX8_tells.2.2.2 ∈ ax_Big := ax_bigI 1056 (by decide +kernel) rfl
set_option maxRecDepth 20000 in
theorem ms_X8_tells : Cond.static mX8_tells.1 ∈ ax_Big := ax_bigI 1055 (by decide +kernel) rfl
set_option maxRecDepth 20000 in
theorem ls_X8_190 : ax_LS RX8 190 mX8_tells 3 := ⟨mc_X8_tells, ms_X8_tells, mi_X8, Or.inl (ax_bigI 1054 (by decide +kernel) rfl), by decide, ⟨by decide +kernel, by decide +kernel, by decide +kernel⟩⟩
set_option maxRecDepth 20000 in
theorem mc_X8_toldBy : Cond.code mX8_toldBy.1 mX8_toldBy.2.1 mX8_toldBy.2.2.1 mX8_toldBy.2.2.2 ∈ ax_Big := ax_bigI 1017 (by decide +kernel) rfl
set_option maxRecDepth 20000 in
theorem mn_X8_toldBy : Cond.instanceMethod mX8_toldBy.1 ∈ ax_Big := ax_bigI 1016 (by decide +kernel) rfl
set_option maxRecDepth 20000 in
theorem mv_X8_toldBy : Cond.selects mX8_toldBy.1.cls mX8_toldBy.1 mX8_toldBy.1 ∈ ax_Big := ax_bigI 43 (by decide +kernel) rfl
set_option maxRecDepth 20000 in
theorem lv_X8_194 : ax_LV RX8 194 mX8_toldBy 2 8 := ⟨mc_X8_toldBy, mn_X8_toldBy, mv_X8_toldBy, rfl, mi_X8, Or.inl (ax_bigI 1014 (by decide +kernel) rfl), by decide, ⟨by decide +kernel, by decide +kernel, by decide +kernel⟩⟩
set_option maxRecDepth 20000 in
theorem mc_X8_degreesOf : Cond.code mX8_degreesOf.1 mX8_degreesOf.2.1 mX8_degreesOf.2.2.1 mX8_degreesOf.2.2.2 ∈ ax_Big := ax_bigI 1021 (by decide +kernel) rfl
set_option maxRecDepth 20000 in
theorem mn_X8_degreesOf : Cond.instanceMethod mX8_degreesOf.1 ∈ ax_Big := ax_bigI 1020 (by decide +kernel) rfl
set_option maxRecDepth 20000 in
theorem mv_X8_degreesOf : Cond.selects mX8_degreesOf.1.cls mX8_degreesOf.1 mX8_degreesOf.1 ∈ ax_Big := ax_bigI 44 (by decide +kernel) rfl
set_option maxRecDepth 20000 in
theorem lv_X8_197 : ax_LV RX8 197 mX8_degreesOf 2 8 := ⟨mc_X8_degreesOf, mn_X8_degreesOf, mv_X8_degreesOf, rfl, mi_X8, Or.inl (ax_bigI 1018 (by decide +kernel) rfl), by decide, ⟨by decide +kernel, by decide +kernel, by decide +kernel⟩⟩
set_option maxRecDepth 20000 in
theorem mc_X8_girthOf : Cond.code mX8_girthOf.1 mX8_girthOf.2.1 mX8_girthOf.2.2.1 mX8_girthOf.2.2.2 ∈ ax_Big := ax_bigI 1025 (by decide +kernel) rfl
set_option maxRecDepth 20000 in
theorem mn_X8_girthOf : Cond.instanceMethod mX8_girthOf.1 ∈ ax_Big := ax_bigI 1024 (by decide +kernel) rfl
set_option maxRecDepth 20000 in
theorem mv_X8_girthOf : Cond.selects mX8_girthOf.1.cls mX8_girthOf.1 mX8_girthOf.1 ∈ ax_Big := ax_bigI 45 (by decide +kernel) rfl
set_option maxRecDepth 20000 in
theorem lv_X8_200 : ax_LV RX8 200 mX8_girthOf 3 8 := ⟨mc_X8_girthOf, mn_X8_girthOf, mv_X8_girthOf, rfl, mi_X8, Or.inl (ax_bigI 1022 (by decide +kernel) rfl), by decide, ⟨by decide +kernel, by decide +kernel, by decide +kernel⟩⟩
set_option maxRecDepth 20000 in
theorem mc_X8_isReport : Cond.code mX8_isReport.1 mX8_isReport.2.1 mX8_isReport.2.2.1 mX8_isReport.2.2.2 ∈ ax_Big := ax_bigI 1008 (by decide +kernel) rfl
set_option maxRecDepth 20000 in
theorem mn_X8_isReport : Cond.instanceMethod mX8_isReport.1 ∈ ax_Big := ax_bigI 1007 (by decide +kernel) rfl
set_option maxRecDepth 20000 in
theorem mv_X8_isReport : Cond.selects mX8_isReport.1.cls mX8_isReport.1 mX8_isReport.1 ∈ ax_Big := ax_bigI 41 (by decide +kernel) rfl
set_option maxRecDepth 20000 in
theorem lv_X8_203 : ax_LV RX8 203 mX8_isReport 1 8 := ⟨mc_X8_isReport, mn_X8_isReport, mv_X8_isReport, rfl, mi_X8, Or.inl (ax_bigI 1005 (by decide +kernel) rfl), by decide, ⟨by decide +kernel, by decide +kernel, by decide +kernel⟩⟩
set_option maxRecDepth 20000 in
theorem mc_X8_girthBy : Cond.code mX8_girthBy.1 mX8_girthBy.2.1 mX8_girthBy.2.2.1 mX8_girthBy.2.2.2 ∈ ax_Big := ax_bigI 1013 (by decide +kernel) rfl
set_option maxRecDepth 20000 in
theorem mn_X8_girthBy : Cond.instanceMethod mX8_girthBy.1 ∈ ax_Big := ax_bigI 1012 (by decide +kernel) rfl
set_option maxRecDepth 20000 in
theorem mv_X8_girthBy : Cond.selects mX8_girthBy.1.cls mX8_girthBy.1 mX8_girthBy.1 ∈ ax_Big := ax_bigI 42 (by decide +kernel) rfl
set_option maxRecDepth 20000 in
theorem lv_X8_208 : ax_LV RX8 208 mX8_girthBy 2 8 := ⟨mc_X8_girthBy, mn_X8_girthBy, mv_X8_girthBy, rfl, mi_X8, Or.inl (ax_bigI 1010 (by decide +kernel) rfl), by decide, ⟨by decide +kernel, by decide +kernel, by decide +kernel⟩⟩
set_option maxRecDepth 20000 in
theorem mc_X8_bound : Cond.code mX8_bound.1 mX8_bound.2.1 mX8_bound.2.2.1 mX8_bound.2.2.2 ∈ ax_Big := ax_bigI 1029 (by decide +kernel) rfl
set_option maxRecDepth 20000 in
theorem mn_X8_bound : Cond.instanceMethod mX8_bound.1 ∈ ax_Big := ax_bigI 1028 (by decide +kernel) rfl
set_option maxRecDepth 20000 in
theorem mv_X8_bound : Cond.selects mX8_bound.1.cls mX8_bound.1 mX8_bound.1 ∈ ax_Big := ax_bigI 46 (by decide +kernel) rfl
set_option maxRecDepth 20000 in
theorem lv_X8_211 : ax_LV RX8 211 mX8_bound 3 8 := ⟨mc_X8_bound, mn_X8_bound, mv_X8_bound, rfl, mi_X8, Or.inl (ax_bigI 1026 (by decide +kernel) rfl), by decide, ⟨by decide +kernel, by decide +kernel, by decide +kernel⟩⟩
set_option maxRecDepth 20000 in
theorem mc_X8_copies : Cond.code mX8_copies.1 mX8_copies.2.1 mX8_copies.2.2.1 mX8_copies.2.2.2 ∈ ax_Big := ax_bigI 1041 (by decide +kernel) rfl
set_option maxRecDepth 20000 in
theorem mn_X8_copies : Cond.instanceMethod mX8_copies.1 ∈ ax_Big := ax_bigI 1040 (by decide +kernel) rfl
set_option maxRecDepth 20000 in
theorem mv_X8_copies : Cond.selects mX8_copies.1.cls mX8_copies.1 mX8_copies.1 ∈ ax_Big := ax_bigI 48 (by decide +kernel) rfl
set_option maxRecDepth 20000 in
theorem lv_X8_214 : ax_LV RX8 214 mX8_copies 2 8 := ⟨mc_X8_copies, mn_X8_copies, mv_X8_copies, rfl, mi_X8, Or.inl (ax_bigI 1038 (by decide +kernel) rfl), by decide, ⟨by decide +kernel, by decide +kernel, by decide +kernel⟩⟩
set_option maxRecDepth 20000 in
theorem mc_X8_told : Cond.code mX8_told.1 mX8_told.2.1 mX8_told.2.2.1 mX8_told.2.2.2 ∈ ax_Big := ax_bigI 1049 (by decide +kernel) rfl
set_option maxRecDepth 20000 in
theorem mn_X8_told : Cond.instanceMethod mX8_told.1 ∈ ax_Big := ax_bigI 1048 (by decide +kernel) rfl
set_option maxRecDepth 20000 in
theorem mv_X8_told : Cond.selects mX8_told.1.cls mX8_told.1 mX8_told.1 ∈ ax_Big := ax_bigI 50 (by decide +kernel) rfl
set_option maxRecDepth 20000 in
theorem lv_X8_217 : ax_LV RX8 217 mX8_told 6 8 := ⟨mc_X8_told, mn_X8_told, mv_X8_told, rfl, mi_X8, Or.inl (ax_bigI 1046 (by decide +kernel) rfl), by decide, ⟨by decide +kernel, by decide +kernel, by decide +kernel⟩⟩
set_option maxRecDepth 20000 in
theorem mc_X8_known : Cond.code mX8_known.1 mX8_known.2.1 mX8_known.2.2.1 mX8_known.2.2.2 ∈ ax_Big := ax_bigI 1037 (by decide +kernel) rfl
set_option maxRecDepth 20000 in
theorem mn_X8_known : Cond.instanceMethod mX8_known.1 ∈ ax_Big := ax_bigI 1036 (by decide +kernel) rfl
set_option maxRecDepth 20000 in
theorem mv_X8_known : Cond.selects mX8_known.1.cls mX8_known.1 mX8_known.1 ∈ ax_Big := ax_bigI 47 (by decide +kernel) rfl
set_option maxRecDepth 20000 in
theorem lv_X8_221 : ax_LV RX8 221 mX8_known 0 8 := ⟨mc_X8_known, mn_X8_known, mv_X8_known, rfl, mi_X8, Or.inl (ax_bigI 1034 (by decide +kernel) rfl), by decide, ⟨by decide +kernel, by decide +kernel, by decide +kernel⟩⟩
set_option maxRecDepth 20000 in
theorem mc_X8_walks : Cond.code mX8_walks.1 mX8_walks.2.1 mX8_walks.2.2.1 mX8_walks.2.2.2 ∈ ax_Big := ax_bigI 1045 (by decide +kernel) rfl
set_option maxRecDepth 20000 in
theorem mn_X8_walks : Cond.instanceMethod mX8_walks.1 ∈ ax_Big := ax_bigI 1044 (by decide +kernel) rfl
set_option maxRecDepth 20000 in
theorem mv_X8_walks : Cond.selects mX8_walks.1.cls mX8_walks.1 mX8_walks.1 ∈ ax_Big := ax_bigI 49 (by decide +kernel) rfl
set_option maxRecDepth 20000 in
theorem lv_X8_224 : ax_LV RX8 224 mX8_walks 4 8 := ⟨mc_X8_walks, mn_X8_walks, mv_X8_walks, rfl, mi_X8, Or.inl (ax_bigI 1042 (by decide +kernel) rfl), by decide, ⟨by decide +kernel, by decide +kernel, by decide +kernel⟩⟩
set_option maxRecDepth 20000 in
theorem mc_X8_strikes : Cond.code mX8_strikes.1 mX8_strikes.2.1 mX8_strikes.2.2.1 mX8_strikes.2.2.2 ∈ ax_Big := ax_bigI 1064 (by decide +kernel) rfl
set_option maxRecDepth 20000 in
theorem mn_X8_strikes : Cond.instanceMethod mX8_strikes.1 ∈ ax_Big := ax_bigI 1063 (by decide +kernel) rfl
set_option maxRecDepth 20000 in
theorem mv_X8_strikes : Cond.selects mX8_strikes.1.cls mX8_strikes.1 mX8_strikes.1 ∈ ax_Big := ax_bigI 52 (by decide +kernel) rfl
set_option maxRecDepth 20000 in
theorem lv_X8_227 : ax_LV RX8 227 mX8_strikes 2 8 := ⟨mc_X8_strikes, mn_X8_strikes, mv_X8_strikes, rfl, mi_X8, Or.inl (ax_bigI 1061 (by decide +kernel) rfl), by decide, ⟨by decide +kernel, by decide +kernel, by decide +kernel⟩⟩
set_option maxRecDepth 20000 in
theorem mc_X8_has : Cond.code mX8_has.1 mX8_has.2.1 mX8_has.2.2.1 mX8_has.2.2.2 ∈ ax_Big := ax_bigI 1079 (by decide +kernel) rfl
set_option maxRecDepth 20000 in
theorem ms_X8_has : Cond.static mX8_has.1 ∈ ax_Big := ax_bigI 1078 (by decide +kernel) rfl
set_option maxRecDepth 20000 in
theorem ls_X8_230 : ax_LS RX8 230 mX8_has 2 := ⟨mc_X8_has, ms_X8_has, mi_X8, Or.inl (ax_bigI 1077 (by decide +kernel) rfl), by decide, ⟨by decide +kernel, by decide +kernel, by decide +kernel⟩⟩
set_option maxRecDepth 20000 in
theorem mc_X8_meanOf : Cond.code mX8_meanOf.1 mX8_meanOf.2.1 mX8_meanOf.2.2.1 mX8_meanOf.2.2.2 ∈ ax_Big := ax_bigI 1076 (by decide +kernel) rfl
set_option maxRecDepth 20000 in
theorem mn_X8_meanOf : Cond.instanceMethod mX8_meanOf.1 ∈ ax_Big := ax_bigI 1075 (by decide +kernel) rfl
set_option maxRecDepth 20000 in
theorem mv_X8_meanOf : Cond.selects mX8_meanOf.1.cls mX8_meanOf.1 mX8_meanOf.1 ∈ ax_Big := ax_bigI 53 (by decide +kernel) rfl
set_option maxRecDepth 20000 in
theorem lv_X8_233 : ax_LV RX8 233 mX8_meanOf 2 8 := ⟨mc_X8_meanOf, mn_X8_meanOf, mv_X8_meanOf, rfl, mi_X8, Or.inl (ax_bigI 1073 (by decide +kernel) rfl), by decide, ⟨by decide +kernel, by decide +kernel, by decide +kernel⟩⟩
set_option maxRecDepth 20000 in
theorem mc_X8_smaller : Cond.code mX8_smaller.1 mX8_smaller.2.1 mX8_smaller.2.2.1 mX8_smaller.2.2.2 ∈ ax_Big := ax_bigI 1087 (by decide +kernel) rfl
set_option maxRecDepth 20000 in
theorem ms_X8_smaller : Cond.static mX8_smaller.1 ∈ ax_Big := ax_bigI 1086 (by decide +kernel) rfl
set_option maxRecDepth 20000 in
theorem ls_X8_237 : ax_LS RX8 237 mX8_smaller 2 := ⟨mc_X8_smaller, ms_X8_smaller, mi_X8, Or.inl (ax_bigI 1085 (by decide +kernel) rfl), by decide, ⟨by decide +kernel, by decide +kernel, by decide +kernel⟩⟩
set_option maxRecDepth 20000 in
theorem mc_X8_bits : Cond.code mX8_bits.1 mX8_bits.2.1 mX8_bits.2.2.1 mX8_bits.2.2.2 ∈ ax_Big := ax_bigI 1099 (by decide +kernel) rfl
set_option maxRecDepth 20000 in
theorem ms_X8_bits : Cond.static mX8_bits.1 ∈ ax_Big := ax_bigI 1098 (by decide +kernel) rfl
set_option maxRecDepth 20000 in
theorem ls_X8_244 : ax_LS RX8 244 mX8_bits 1 := ⟨mc_X8_bits, ms_X8_bits, mi_X8, Or.inl (ax_bigI 1097 (by decide +kernel) rfl), by decide, ⟨by decide +kernel, by decide +kernel, by decide +kernel⟩⟩
set_option maxRecDepth 20000 in
theorem mc_X8_isNear : Cond.code mX8_isNear.1 mX8_isNear.2.1 mX8_isNear.2.2.1 mX8_isNear.2.2.2 ∈ ax_Big := ax_bigI 1103 (by decide +kernel) rfl
set_option maxRecDepth 20000 in
theorem mn_X8_isNear : Cond.instanceMethod mX8_isNear.1 ∈ ax_Big := ax_bigI 1102 (by decide +kernel) rfl
set_option maxRecDepth 20000 in
theorem mv_X8_isNear : Cond.selects mX8_isNear.1.cls mX8_isNear.1 mX8_isNear.1 ∈ ax_Big := ax_bigI 54 (by decide +kernel) rfl
set_option maxRecDepth 20000 in
theorem lv_X8_247 : ax_LV RX8 247 mX8_isNear 2 8 := ⟨mc_X8_isNear, mn_X8_isNear, mv_X8_isNear, rfl, mi_X8, Or.inl (ax_bigI 1100 (by decide +kernel) rfl), by decide, ⟨by decide +kernel, by decide +kernel, by decide +kernel⟩⟩
set_option maxRecDepth 20000 in
theorem mc_X8_offBy : Cond.code mX8_offBy.1 mX8_offBy.2.1 mX8_offBy.2.2.1 mX8_offBy.2.2.2 ∈ ax_Big := ax_bigI 1112 (by decide +kernel) rfl
set_option maxRecDepth 20000 in
theorem mn_X8_offBy : Cond.instanceMethod mX8_offBy.1 ∈ ax_Big := ax_bigI 1111 (by decide +kernel) rfl
set_option maxRecDepth 20000 in
theorem mv_X8_offBy : Cond.selects mX8_offBy.1.cls mX8_offBy.1 mX8_offBy.1 ∈ ax_Big := ax_bigI 55 (by decide +kernel) rfl
set_option maxRecDepth 20000 in
theorem lv_X8_250 : ax_LV RX8 250 mX8_offBy 2 8 := ⟨mc_X8_offBy, mn_X8_offBy, mv_X8_offBy, rfl, mi_X8, Or.inl (ax_bigI 1109 (by decide +kernel) rfl), by decide, ⟨by decide +kernel, by decide +kernel, by decide +kernel⟩⟩
set_option maxRecDepth 20000 in
theorem mc_X8_mean : Cond.code mX8_mean.1 mX8_mean.2.1 mX8_mean.2.2.1 mX8_mean.2.2.2 ∈ ax_Big := ax_bigI 1072 (by decide +kernel) rfl
set_option maxRecDepth 20000 in
theorem mn_X8_mean : Cond.instanceMethod mX8_mean.1 ∈ ax_Big := ax_bigI 1070 (by decide +kernel) rfl
set_option maxRecDepth 20000 in
theorem mv_X8_mean : Cond.selects mX8_mean.1.cls mX8_mean.1 mX8_mean.1 ∈ ax_Big := ax_bigI 1071 (by decide +kernel) rfl
set_option maxRecDepth 20000 in
theorem lv_X8_255 : ax_LV RX8 255 mX8_mean 0 8 := ⟨mc_X8_mean, mn_X8_mean, mv_X8_mean, rfl, mi_X8, Or.inl (ax_bigI 1118 (by decide +kernel) rfl), by decide, ⟨by decide +kernel, by decide +kernel, by decide +kernel⟩⟩
set_option maxRecDepth 20000 in
theorem mc_X8_isSo : Cond.code mX8_isSo.1 mX8_isSo.2.1 mX8_isSo.2.2.1 mX8_isSo.2.2.2 ∈ ax_Big := ax_bigI 1135 (by decide +kernel) rfl
set_option maxRecDepth 20000 in
theorem mn_X8_isSo : Cond.instanceMethod mX8_isSo.1 ∈ ax_Big := ax_bigI 1134 (by decide +kernel) rfl
set_option maxRecDepth 20000 in
theorem mv_X8_isSo : Cond.selects mX8_isSo.1.cls mX8_isSo.1 mX8_isSo.1 ∈ ax_Big := ax_bigI 56 (by decide +kernel) rfl
set_option maxRecDepth 20000 in
theorem lv_X8_260 : ax_LV RX8 260 mX8_isSo 3 8 := ⟨mc_X8_isSo, mn_X8_isSo, mv_X8_isSo, rfl, mi_X8, Or.inl (ax_bigI 1132 (by decide +kernel) rfl), by decide, ⟨by decide +kernel, by decide +kernel, by decide +kernel⟩⟩
set_option maxRecDepth 20000 in
theorem fl_X0_9 : ax_FL RX0 9 0 0 := ⟨RX0, TX0, 10, rfl, by decide, Or.inl (ax_bigI 231 (by decide +kernel) rfl)⟩
set_option maxRecDepth 20000 in
theorem ff_X0_9 : ax_FF RX0 9 0 0 (.array .int) := ⟨RX0, TX0, 10, rfl, by decide, ax_bigI 231 (by decide +kernel) rfl, rfl, rfl, by decide +kernel⟩
set_option maxRecDepth 20000 in
theorem fl_X0_15 : ax_FL RX0 15 0 1 := ⟨RX0, TX0, 10, rfl, by decide, Or.inl (ax_bigI 233 (by decide +kernel) rfl)⟩
set_option maxRecDepth 20000 in
theorem ff_X0_15 : ax_FF RX0 15 0 1 (.array .int) := ⟨RX0, TX0, 10, rfl, by decide, ax_bigI 233 (by decide +kernel) rfl, rfl, rfl, by decide +kernel⟩
set_option maxRecDepth 20000 in
theorem fl_X0_18 : ax_FL RX0 18 0 2 := ⟨RX0, TX0, 10, rfl, by decide, Or.inl (ax_bigI 234 (by decide +kernel) rfl)⟩
set_option maxRecDepth 20000 in
theorem ff_X0_18 : ax_FF RX0 18 0 2 (.array .int) := ⟨RX0, TX0, 10, rfl, by decide, ax_bigI 234 (by decide +kernel) rfl, rfl, rfl, by decide +kernel⟩
set_option maxRecDepth 20000 in
theorem fl_X0_21 : ax_FL RX0 21 0 3 := ⟨RX0, TX0, 10, rfl, by decide, Or.inl (ax_bigI 235 (by decide +kernel) rfl)⟩
set_option maxRecDepth 20000 in
theorem ff_X0_21 : ax_FF RX0 21 0 3 (.array .int) := ⟨RX0, TX0, 10, rfl, by decide, ax_bigI 235 (by decide +kernel) rfl, rfl, rfl, by decide +kernel⟩
set_option maxRecDepth 20000 in
theorem fl_X0_24 : ax_FL RX0 24 0 4 := ⟨RX0, TX0, 10, rfl, by decide, Or.inl (ax_bigI 236 (by decide +kernel) rfl)⟩
set_option maxRecDepth 20000 in
theorem ff_X0_24 : ax_FF RX0 24 0 4 (.array .int) := ⟨RX0, TX0, 10, rfl, by decide, ax_bigI 236 (by decide +kernel) rfl, rfl, rfl, by decide +kernel⟩
set_option maxRecDepth 20000 in
theorem fl_X0_27 : ax_FL RX0 27 0 5 := ⟨RX0, TX0, 10, rfl, by decide, Or.inl (ax_bigI 238 (by decide +kernel) rfl)⟩
set_option maxRecDepth 20000 in
theorem ff_X0_27 : ax_FF RX0 27 0 5 (.array .int) := ⟨RX0, TX0, 10, rfl, by decide, ax_bigI 238 (by decide +kernel) rfl, rfl, rfl, by decide +kernel⟩
set_option maxRecDepth 20000 in
theorem fl_X0_30 : ax_FL RX0 30 0 6 := ⟨RX0, TX0, 10, rfl, by decide, Or.inl (ax_bigI 240 (by decide +kernel) rfl)⟩
set_option maxRecDepth 20000 in
theorem ff_X0_30 : ax_FF RX0 30 0 6 (.array .int) := ⟨RX0, TX0, 10, rfl, by decide, ax_bigI 240 (by decide +kernel) rfl, rfl, rfl, by decide +kernel⟩
set_option maxRecDepth 20000 in
theorem fl_X0_33 : ax_FL RX0 33 0 7 := ⟨RX0, TX0, 10, rfl, by decide, Or.inl (ax_bigI 242 (by decide +kernel) rfl)⟩
set_option maxRecDepth 20000 in
theorem fp_X0_33 : ax_FP RX0 33 0 7 .int := ⟨RX0, TX0, 10, rfl, by decide, Or.inl (ax_bigI 242 (by decide +kernel) rfl), rfl, by decide +kernel⟩
set_option maxRecDepth 20000 in
theorem fl_X0_37 : ax_FL RX0 37 0 8 := ⟨RX0, TX0, 10, rfl, by decide, Or.inl (ax_bigI 244 (by decide +kernel) rfl)⟩
set_option maxRecDepth 20000 in
theorem fp_X0_37 : ax_FP RX0 37 0 8 .int := ⟨RX0, TX0, 10, rfl, by decide, Or.inl (ax_bigI 244 (by decide +kernel) rfl), rfl, by decide +kernel⟩
set_option maxRecDepth 20000 in
theorem fl_X0_40 : ax_FL RX0 40 0 9 := ⟨RX0, TX0, 10, rfl, by decide, Or.inl (ax_bigI 246 (by decide +kernel) rfl)⟩
set_option maxRecDepth 20000 in
theorem fp_X0_40 : ax_FP RX0 40 0 9 .int := ⟨RX0, TX0, 10, rfl, by decide, Or.inl (ax_bigI 246 (by decide +kernel) rfl), rfl, by decide +kernel⟩
set_option maxRecDepth 20000 in
theorem fl_X1_9 : ax_FL RX1 9 1 0 := ⟨RX1, TX1, 6, rfl, by decide, Or.inl (ax_bigI 117 (by decide +kernel) rfl)⟩
set_option maxRecDepth 20000 in
theorem ff_X1_9 : ax_FF RX1 9 1 0 (.array .int) := ⟨RX1, TX1, 6, rfl, by decide, ax_bigI 117 (by decide +kernel) rfl, rfl, rfl, by decide +kernel⟩
set_option maxRecDepth 20000 in
theorem fl_X1_15 : ax_FL RX1 15 1 1 := ⟨RX1, TX1, 6, rfl, by decide, Or.inl (ax_bigI 121 (by decide +kernel) rfl)⟩
set_option maxRecDepth 20000 in
theorem ff_X1_15 : ax_FF RX1 15 1 1 (.array .int) := ⟨RX1, TX1, 6, rfl, by decide, ax_bigI 121 (by decide +kernel) rfl, rfl, rfl, by decide +kernel⟩
set_option maxRecDepth 20000 in
theorem fl_X1_18 : ax_FL RX1 18 1 2 := ⟨RX1, TX1, 6, rfl, by decide, Or.inl (ax_bigI 125 (by decide +kernel) rfl)⟩
set_option maxRecDepth 20000 in
theorem ff_X1_18 : ax_FF RX1 18 1 2 (.array .int) := ⟨RX1, TX1, 6, rfl, by decide, ax_bigI 125 (by decide +kernel) rfl, rfl, rfl, by decide +kernel⟩
set_option maxRecDepth 20000 in
theorem fl_X1_21 : ax_FL RX1 21 1 3 := ⟨RX1, TX1, 6, rfl, by decide, Or.inl (ax_bigI 129 (by decide +kernel) rfl)⟩
set_option maxRecDepth 20000 in
theorem ff_X1_21 : ax_FF RX1 21 1 3 (.array .int) := ⟨RX1, TX1, 6, rfl, by decide, ax_bigI 129 (by decide +kernel) rfl, rfl, rfl, by decide +kernel⟩
set_option maxRecDepth 20000 in
theorem fl_X1_24 : ax_FL RX1 24 1 4 := ⟨RX1, TX1, 6, rfl, by decide, Or.inl (ax_bigI 133 (by decide +kernel) rfl)⟩
set_option maxRecDepth 20000 in
theorem fp_X1_24 : ax_FP RX1 24 1 4 .int := ⟨RX1, TX1, 6, rfl, by decide, Or.inl (ax_bigI 133 (by decide +kernel) rfl), rfl, by decide +kernel⟩
set_option maxRecDepth 20000 in
theorem fl_X1_28 : ax_FL RX1 28 1 5 := ⟨RX1, TX1, 6, rfl, by decide, Or.inl (ax_bigI 137 (by decide +kernel) rfl)⟩
set_option maxRecDepth 20000 in
theorem fp_X1_28 : ax_FP RX1 28 1 5 .int := ⟨RX1, TX1, 6, rfl, by decide, Or.inl (ax_bigI 137 (by decide +kernel) rfl), rfl, by decide +kernel⟩
set_option maxRecDepth 20000 in
theorem fl_X2_9 : ax_FL RX2 9 2 0 := ⟨RX2, TX2, 3, rfl, by decide, Or.inl (ax_bigI 215 (by decide +kernel) rfl)⟩
set_option maxRecDepth 20000 in
theorem ff_X2_9 : ax_FF RX2 9 2 0 (.array .int) := ⟨RX2, TX2, 3, rfl, by decide, ax_bigI 215 (by decide +kernel) rfl, rfl, rfl, by decide +kernel⟩
set_option maxRecDepth 20000 in
theorem fl_X2_15 : ax_FL RX2 15 2 1 := ⟨RX2, TX2, 3, rfl, by decide, Or.inl (ax_bigI 216 (by decide +kernel) rfl)⟩
set_option maxRecDepth 20000 in
theorem ff_X2_15 : ax_FF RX2 15 2 1 (.array .int) := ⟨RX2, TX2, 3, rfl, by decide, ax_bigI 216 (by decide +kernel) rfl, rfl, rfl, by decide +kernel⟩
set_option maxRecDepth 20000 in
theorem fl_X2_18 : ax_FL RX2 18 2 2 := ⟨RX2, TX2, 3, rfl, by decide, Or.inl (ax_bigI 217 (by decide +kernel) rfl)⟩
set_option maxRecDepth 20000 in
theorem fp_X2_18 : ax_FP RX2 18 2 2 .int := ⟨RX2, TX2, 3, rfl, by decide, Or.inl (ax_bigI 217 (by decide +kernel) rfl), rfl, by decide +kernel⟩
set_option maxRecDepth 20000 in
theorem fl_X2_22 : ax_FL RX2 22 1 4 := ⟨RX1, TX1, 6, rfl, by decide, Or.inr ⟨"GirthReports", by decide +kernel⟩⟩
set_option maxRecDepth 20000 in
theorem fl_X2_25 : ax_FL RX2 25 1 0 := ⟨RX1, TX1, 6, rfl, by decide, Or.inr ⟨"GirthReports", by decide +kernel⟩⟩
set_option maxRecDepth 20000 in
theorem fl_X2_32 : ax_FL RX2 32 1 3 := ⟨RX1, TX1, 6, rfl, by decide, Or.inr ⟨"GirthReports", by decide +kernel⟩⟩
set_option maxRecDepth 20000 in
theorem fl_X2_35 : ax_FL RX2 35 1 1 := ⟨RX1, TX1, 6, rfl, by decide, Or.inr ⟨"GirthReports", by decide +kernel⟩⟩
set_option maxRecDepth 20000 in
theorem fl_X2_38 : ax_FL RX2 38 1 2 := ⟨RX1, TX1, 6, rfl, by decide, Or.inr ⟨"GirthReports", by decide +kernel⟩⟩
set_option maxRecDepth 20000 in
theorem fl_X3_9 : ax_FL RX3 9 3 0 := ⟨RX3, TX3, 2, rfl, by decide, Or.inl (ax_bigI 88 (by decide +kernel) rfl)⟩
set_option maxRecDepth 20000 in
theorem ff_X3_9 : ax_FF RX3 9 3 0 (.array .int) := ⟨RX3, TX3, 2, rfl, by decide, ax_bigI 88 (by decide +kernel) rfl, rfl, rfl, by decide +kernel⟩
set_option maxRecDepth 20000 in
theorem fl_X3_15 : ax_FL RX3 15 3 1 := ⟨RX3, TX3, 2, rfl, by decide, Or.inl (ax_bigI 89 (by decide +kernel) rfl)⟩
set_option maxRecDepth 20000 in
theorem fp_X3_15 : ax_FP RX3 15 3 1 .int := ⟨RX3, TX3, 2, rfl, by decide, Or.inl (ax_bigI 89 (by decide +kernel) rfl), rfl, by decide +kernel⟩
set_option maxRecDepth 20000 in
theorem fl_X4_9 : ax_FL RX4 9 4 0 := ⟨RX4, TX4, 2, rfl, by decide, Or.inl (ax_bigI 104 (by decide +kernel) rfl)⟩
set_option maxRecDepth 20000 in
theorem ff_X4_9 : ax_FF RX4 9 4 0 (.array .int) := ⟨RX4, TX4, 2, rfl, by decide, ax_bigI 104 (by decide +kernel) rfl, rfl, rfl, by decide +kernel⟩
set_option maxRecDepth 20000 in
theorem fl_X4_15 : ax_FL RX4 15 4 1 := ⟨RX4, TX4, 2, rfl, by decide, Or.inl (ax_bigI 105 (by decide +kernel) rfl)⟩
set_option maxRecDepth 20000 in
theorem fp_X4_15 : ax_FP RX4 15 4 1 .int := ⟨RX4, TX4, 2, rfl, by decide, Or.inl (ax_bigI 105 (by decide +kernel) rfl), rfl, by decide +kernel⟩
set_option maxRecDepth 20000 in
theorem fl_X4_24 : ax_FL RX4 24 3 1 := ⟨RX3, TX3, 2, rfl, by decide, Or.inr ⟨"GirthReports", by decide +kernel⟩⟩
set_option maxRecDepth 20000 in
theorem fl_X5_9 : ax_FL RX5 9 5 0 := ⟨RX5, TX5, 5, rfl, by decide, Or.inl (ax_bigI 188 (by decide +kernel) rfl)⟩
set_option maxRecDepth 20000 in
theorem ff_X5_9 : ax_FF RX5 9 5 0 (.array .int) := ⟨RX5, TX5, 5, rfl, by decide, ax_bigI 188 (by decide +kernel) rfl, rfl, rfl, by decide +kernel⟩
set_option maxRecDepth 20000 in
theorem fl_X5_15 : ax_FL RX5 15 5 1 := ⟨RX5, TX5, 5, rfl, by decide, Or.inl (ax_bigI 190 (by decide +kernel) rfl)⟩
set_option maxRecDepth 20000 in
theorem ff_X5_15 : ax_FF RX5 15 5 1 (.array .int) := ⟨RX5, TX5, 5, rfl, by decide, ax_bigI 190 (by decide +kernel) rfl, rfl, rfl, by decide +kernel⟩
set_option maxRecDepth 20000 in
theorem fl_X5_18 : ax_FL RX5 18 5 2 := ⟨RX5, TX5, 5, rfl, by decide, Or.inl (ax_bigI 192 (by decide +kernel) rfl)⟩
set_option maxRecDepth 20000 in
theorem ff_X5_18 : ax_FF RX5 18 5 2 (.array .int) := ⟨RX5, TX5, 5, rfl, by decide, ax_bigI 192 (by decide +kernel) rfl, rfl, rfl, by decide +kernel⟩
set_option maxRecDepth 20000 in
theorem fl_X5_21 : ax_FL RX5 21 5 3 := ⟨RX5, TX5, 5, rfl, by decide, Or.inl (ax_bigI 194 (by decide +kernel) rfl)⟩
set_option maxRecDepth 20000 in
theorem ff_X5_21 : ax_FF RX5 21 5 3 (.array .int) := ⟨RX5, TX5, 5, rfl, by decide, ax_bigI 194 (by decide +kernel) rfl, rfl, rfl, by decide +kernel⟩
set_option maxRecDepth 20000 in
theorem fl_X5_24 : ax_FL RX5 24 5 4 := ⟨RX5, TX5, 5, rfl, by decide, Or.inl (ax_bigI 196 (by decide +kernel) rfl)⟩
set_option maxRecDepth 20000 in
theorem fp_X5_24 : ax_FP RX5 24 5 4 .int := ⟨RX5, TX5, 5, rfl, by decide, Or.inl (ax_bigI 196 (by decide +kernel) rfl), rfl, by decide +kernel⟩
set_option maxRecDepth 20000 in
theorem fl_X6_9 : ax_FL RX6 9 6 0 := ⟨RX6, TX6, 7, rfl, by decide, Or.inl (ax_bigI 159 (by decide +kernel) rfl)⟩
set_option maxRecDepth 20000 in
theorem ff_X6_9 : ax_FF RX6 9 6 0 (.array .int) := ⟨RX6, TX6, 7, rfl, by decide, ax_bigI 159 (by decide +kernel) rfl, rfl, rfl, by decide +kernel⟩
set_option maxRecDepth 20000 in
theorem fl_X6_15 : ax_FL RX6 15 6 1 := ⟨RX6, TX6, 7, rfl, by decide, Or.inl (ax_bigI 160 (by decide +kernel) rfl)⟩
set_option maxRecDepth 20000 in
theorem ff_X6_15 : ax_FF RX6 15 6 1 (.array .int) := ⟨RX6, TX6, 7, rfl, by decide, ax_bigI 160 (by decide +kernel) rfl, rfl, rfl, by decide +kernel⟩
set_option maxRecDepth 20000 in
theorem fl_X6_18 : ax_FL RX6 18 6 2 := ⟨RX6, TX6, 7, rfl, by decide, Or.inl (ax_bigI 161 (by decide +kernel) rfl)⟩
set_option maxRecDepth 20000 in
theorem ff_X6_18 : ax_FF RX6 18 6 2 (.array .int) := ⟨RX6, TX6, 7, rfl, by decide, ax_bigI 161 (by decide +kernel) rfl, rfl, rfl, by decide +kernel⟩
set_option maxRecDepth 20000 in
theorem fl_X6_21 : ax_FL RX6 21 6 3 := ⟨RX6, TX6, 7, rfl, by decide, Or.inl (ax_bigI 162 (by decide +kernel) rfl)⟩
set_option maxRecDepth 20000 in
theorem ff_X6_21 : ax_FF RX6 21 6 3 (.array .int) := ⟨RX6, TX6, 7, rfl, by decide, ax_bigI 162 (by decide +kernel) rfl, rfl, rfl, by decide +kernel⟩
set_option maxRecDepth 20000 in
theorem fl_X6_24 : ax_FL RX6 24 6 4 := ⟨RX6, TX6, 7, rfl, by decide, Or.inl (ax_bigI 163 (by decide +kernel) rfl)⟩
set_option maxRecDepth 20000 in
theorem ff_X6_24 : ax_FF RX6 24 6 4 (.array .int) := ⟨RX6, TX6, 7, rfl, by decide, ax_bigI 163 (by decide +kernel) rfl, rfl, rfl, by decide +kernel⟩
set_option maxRecDepth 20000 in
theorem fl_X6_27 : ax_FL RX6 27 6 5 := ⟨RX6, TX6, 7, rfl, by decide, Or.inl (ax_bigI 164 (by decide +kernel) rfl)⟩
set_option maxRecDepth 20000 in
theorem ff_X6_27 : ax_FF RX6 27 6 5 (.array .int) := ⟨RX6, TX6, 7, rfl, by decide, ax_bigI 164 (by decide +kernel) rfl, rfl, rfl, by decide +kernel⟩
set_option maxRecDepth 20000 in
theorem fl_X6_30 : ax_FL RX6 30 6 6 := ⟨RX6, TX6, 7, rfl, by decide, Or.inl (ax_bigI 165 (by decide +kernel) rfl)⟩
set_option maxRecDepth 20000 in
theorem fp_X6_30 : ax_FP RX6 30 6 6 .int := ⟨RX6, TX6, 7, rfl, by decide, Or.inl (ax_bigI 165 (by decide +kernel) rfl), rfl, by decide +kernel⟩
set_option maxRecDepth 20000 in
theorem fl_X6_41 : ax_FL RX6 41 1 0 := ⟨RX1, TX1, 6, rfl, by decide, Or.inr ⟨"GirthReports", by decide +kernel⟩⟩
set_option maxRecDepth 20000 in
theorem fl_X6_48 : ax_FL RX6 48 1 1 := ⟨RX1, TX1, 6, rfl, by decide, Or.inr ⟨"GirthReports", by decide +kernel⟩⟩
set_option maxRecDepth 20000 in
theorem fl_X6_49 : ax_FL RX6 49 1 2 := ⟨RX1, TX1, 6, rfl, by decide, Or.inr ⟨"GirthReports", by decide +kernel⟩⟩
set_option maxRecDepth 20000 in
theorem fl_X6_50 : ax_FL RX6 50 1 3 := ⟨RX1, TX1, 6, rfl, by decide, Or.inr ⟨"GirthReports", by decide +kernel⟩⟩
set_option maxRecDepth 20000 in
theorem fl_X6_51 : ax_FL RX6 51 1 4 := ⟨RX1, TX1, 6, rfl, by decide, Or.inr ⟨"GirthReports", by decide +kernel⟩⟩
set_option maxRecDepth 20000 in
theorem fl_X6_56 : ax_FL RX6 56 1 5 := ⟨RX1, TX1, 6, rfl, by decide, Or.inr ⟨"GirthReports", by decide +kernel⟩⟩
set_option maxRecDepth 20000 in
theorem fp_X6_56 : ax_FP RX6 56 1 5 .int := ⟨RX1, TX1, 6, rfl, by decide, Or.inr ⟨"GirthReports", by decide +kernel⟩, rfl, by decide +kernel⟩
set_option maxRecDepth 20000 in
theorem fl_X7_12 : ax_FL RX7 12 7 0 := ⟨RX7, TX7, 12, rfl, by decide, Or.inl (ax_bigI 412 (by decide +kernel) rfl)⟩
set_option maxRecDepth 20000 in
theorem ff_X7_12 : ax_FF RX7 12 7 0 (.object "GirthReports$Paper") := ⟨RX7, TX7, 12, rfl, by decide, ax_bigI 412 (by decide +kernel) rfl, rfl, rfl, by decide +kernel⟩
set_option maxRecDepth 20000 in
theorem fl_X7_19 : ax_FL RX7 19 7 1 := ⟨RX7, TX7, 12, rfl, by decide, Or.inl (ax_bigI 413 (by decide +kernel) rfl)⟩
set_option maxRecDepth 20000 in
theorem ff_X7_19 : ax_FF RX7 19 7 1 (.object "GirthReports$Reader") := ⟨RX7, TX7, 12, rfl, by decide, ax_bigI 413 (by decide +kernel) rfl, rfl, rfl, by decide +kernel⟩
set_option maxRecDepth 20000 in
theorem fl_X7_26 : ax_FL RX7 26 7 2 := ⟨RX7, TX7, 12, rfl, by decide, Or.inl (ax_bigI 414 (by decide +kernel) rfl)⟩
set_option maxRecDepth 20000 in
theorem ff_X7_26 : ax_FF RX7 26 7 2 (.object "GirthReports$Book") := ⟨RX7, TX7, 12, rfl, by decide, ax_bigI 414 (by decide +kernel) rfl, rfl, rfl, by decide +kernel⟩
set_option maxRecDepth 20000 in
theorem fl_X7_30 : ax_FL RX7 30 7 3 := ⟨RX7, TX7, 12, rfl, by decide, Or.inl (ax_bigI 415 (by decide +kernel) rfl)⟩
set_option maxRecDepth 20000 in
theorem ff_X7_30 : ax_FF RX7 30 7 3 (.object "GirthReports$Book") := ⟨RX7, TX7, 12, rfl, by decide, ax_bigI 415 (by decide +kernel) rfl, rfl, rfl, by decide +kernel⟩
set_option maxRecDepth 20000 in
theorem fl_X7_33 : ax_FL RX7 33 7 4 := ⟨RX7, TX7, 12, rfl, by decide, Or.inl (ax_bigI 416 (by decide +kernel) rfl)⟩
set_option maxRecDepth 20000 in
theorem ff_X7_33 : ax_FF RX7 33 7 4 (.object "GirthReports$Book") := ⟨RX7, TX7, 12, rfl, by decide, ax_bigI 416 (by decide +kernel) rfl, rfl, rfl, by decide +kernel⟩
set_option maxRecDepth 20000 in
theorem fl_X7_36 : ax_FL RX7 36 7 5 := ⟨RX7, TX7, 12, rfl, by decide, Or.inl (ax_bigI 417 (by decide +kernel) rfl)⟩
set_option maxRecDepth 20000 in
theorem ff_X7_36 : ax_FF RX7 36 7 5 (.object "GirthReports$Book") := ⟨RX7, TX7, 12, rfl, by decide, ax_bigI 417 (by decide +kernel) rfl, rfl, rfl, by decide +kernel⟩
set_option maxRecDepth 20000 in
theorem fl_X7_42 : ax_FL RX7 42 7 6 := ⟨RX7, TX7, 12, rfl, by decide, Or.inl (ax_bigI 418 (by decide +kernel) rfl)⟩
set_option maxRecDepth 20000 in
theorem ff_X7_42 : ax_FF RX7 42 7 6 (.object "GirthReports$Trail") := ⟨RX7, TX7, 12, rfl, by decide, ax_bigI 418 (by decide +kernel) rfl, rfl, rfl, by decide +kernel⟩
set_option maxRecDepth 20000 in
theorem fl_X7_49 : ax_FL RX7 49 7 7 := ⟨RX7, TX7, 12, rfl, by decide, Or.inl (ax_bigI 419 (by decide +kernel) rfl)⟩
set_option maxRecDepth 20000 in
theorem ff_X7_49 : ax_FF RX7 49 7 7 (.object "GirthReports$Sightings") := ⟨RX7, TX7, 12, rfl, by decide, ax_bigI 419 (by decide +kernel) rfl, rfl, rfl, by decide +kernel⟩
set_option maxRecDepth 20000 in
theorem fl_X7_56 : ax_FL RX7 56 7 8 := ⟨RX7, TX7, 12, rfl, by decide, Or.inl (ax_bigI 420 (by decide +kernel) rfl)⟩
set_option maxRecDepth 20000 in
theorem ff_X7_56 : ax_FF RX7 56 7 8 (.object "GirthReports$Girths") := ⟨RX7, TX7, 12, rfl, by decide, ax_bigI 420 (by decide +kernel) rfl, rfl, rfl, by decide +kernel⟩
set_option maxRecDepth 20000 in
theorem fl_X7_63 : ax_FL RX7 63 7 9 := ⟨RX7, TX7, 12, rfl, by decide, Or.inl (ax_bigI 421 (by decide +kernel) rfl)⟩
set_option maxRecDepth 20000 in
theorem fp_X7_63 : ax_FP RX7 63 7 9 (.object "GirthReports$Ball") := ⟨RX7, TX7, 12, rfl, by decide, Or.inl (ax_bigI 421 (by decide +kernel) rfl), rfl, by decide +kernel⟩
set_option maxRecDepth 20000 in
theorem fl_X7_67 : ax_FL RX7 67 7 10 := ⟨RX7, TX7, 12, rfl, by decide, Or.inl (ax_bigI 422 (by decide +kernel) rfl)⟩
set_option maxRecDepth 20000 in
theorem fp_X7_67 : ax_FP RX7 67 7 10 (.object "GirthReports$Ball") := ⟨RX7, TX7, 12, rfl, by decide, Or.inl (ax_bigI 422 (by decide +kernel) rfl), rfl, by decide +kernel⟩
set_option maxRecDepth 20000 in
theorem fl_X7_70 : ax_FL RX7 70 7 11 := ⟨RX7, TX7, 12, rfl, by decide, Or.inl (ax_bigI 423 (by decide +kernel) rfl)⟩
set_option maxRecDepth 20000 in
theorem fp_X7_70 : ax_FP RX7 70 7 11 .int := ⟨RX7, TX7, 12, rfl, by decide, Or.inl (ax_bigI 423 (by decide +kernel) rfl), rfl, by decide +kernel⟩
set_option maxRecDepth 20000 in
theorem fl_X7_101 : ax_FL RX7 101 3 1 := ⟨RX3, TX3, 2, rfl, by decide, Or.inr ⟨"GirthReports", by decide +kernel⟩⟩
set_option maxRecDepth 20000 in
theorem fl_X7_103 : ax_FL RX7 103 0 8 := ⟨RX0, TX0, 10, rfl, by decide, Or.inr ⟨"GirthReports", by decide +kernel⟩⟩
set_option maxRecDepth 20000 in
theorem fl_X7_106 : ax_FL RX7 106 0 9 := ⟨RX0, TX0, 10, rfl, by decide, Or.inr ⟨"GirthReports", by decide +kernel⟩⟩
set_option maxRecDepth 20000 in
theorem fl_X7_116 : ax_FL RX7 116 0 0 := ⟨RX0, TX0, 10, rfl, by decide, Or.inr ⟨"GirthReports", by decide +kernel⟩⟩
set_option maxRecDepth 20000 in
theorem fl_X7_145 : ax_FL RX7 145 0 4 := ⟨RX0, TX0, 10, rfl, by decide, Or.inr ⟨"GirthReports", by decide +kernel⟩⟩
set_option maxRecDepth 20000 in
theorem fl_X7_148 : ax_FL RX7 148 0 5 := ⟨RX0, TX0, 10, rfl, by decide, Or.inr ⟨"GirthReports", by decide +kernel⟩⟩
set_option maxRecDepth 20000 in
theorem fl_X7_151 : ax_FL RX7 151 0 6 := ⟨RX0, TX0, 10, rfl, by decide, Or.inr ⟨"GirthReports", by decide +kernel⟩⟩
set_option maxRecDepth 20000 in
theorem fl_X7_157 : ax_FL RX7 157 1 0 := ⟨RX1, TX1, 6, rfl, by decide, Or.inr ⟨"GirthReports", by decide +kernel⟩⟩
set_option maxRecDepth 20000 in
theorem fl_X7_160 : ax_FL RX7 160 1 1 := ⟨RX1, TX1, 6, rfl, by decide, Or.inr ⟨"GirthReports", by decide +kernel⟩⟩
set_option maxRecDepth 20000 in
theorem fl_X7_163 : ax_FL RX7 163 1 2 := ⟨RX1, TX1, 6, rfl, by decide, Or.inr ⟨"GirthReports", by decide +kernel⟩⟩
set_option maxRecDepth 20000 in
theorem fl_X7_166 : ax_FL RX7 166 1 3 := ⟨RX1, TX1, 6, rfl, by decide, Or.inr ⟨"GirthReports", by decide +kernel⟩⟩
set_option maxRecDepth 20000 in
theorem fl_X7_178 : ax_FL RX7 178 1 4 := ⟨RX1, TX1, 6, rfl, by decide, Or.inr ⟨"GirthReports", by decide +kernel⟩⟩
set_option maxRecDepth 20000 in
theorem fl_X7_199 : ax_FL RX7 199 6 6 := ⟨RX6, TX6, 7, rfl, by decide, Or.inr ⟨"GirthReports", by decide +kernel⟩⟩
set_option maxRecDepth 20000 in
theorem fl_X7_244 : ax_FL RX7 244 0 7 := ⟨RX0, TX0, 10, rfl, by decide, Or.inr ⟨"GirthReports", by decide +kernel⟩⟩
set_option maxRecDepth 20000 in
theorem fl_X7_247 : ax_FL RX7 247 5 4 := ⟨RX5, TX5, 5, rfl, by decide, Or.inr ⟨"GirthReports", by decide +kernel⟩⟩
set_option maxRecDepth 20000 in
theorem fl_X7_279 : ax_FL RX7 279 1 5 := ⟨RX1, TX1, 6, rfl, by decide, Or.inr ⟨"GirthReports", by decide +kernel⟩⟩
set_option maxRecDepth 20000 in
theorem fp_X7_279 : ax_FP RX7 279 1 5 .int := ⟨RX1, TX1, 6, rfl, by decide, Or.inr ⟨"GirthReports", by decide +kernel⟩, rfl, by decide +kernel⟩
set_option maxRecDepth 20000 in
theorem fl_X7_317 : ax_FL RX7 317 5 0 := ⟨RX5, TX5, 5, rfl, by decide, Or.inr ⟨"GirthReports", by decide +kernel⟩⟩
set_option maxRecDepth 20000 in
theorem fl_X7_318 : ax_FL RX7 318 5 1 := ⟨RX5, TX5, 5, rfl, by decide, Or.inr ⟨"GirthReports", by decide +kernel⟩⟩
set_option maxRecDepth 20000 in
theorem fl_X7_319 : ax_FL RX7 319 5 2 := ⟨RX5, TX5, 5, rfl, by decide, Or.inr ⟨"GirthReports", by decide +kernel⟩⟩
set_option maxRecDepth 20000 in
theorem fl_X7_320 : ax_FL RX7 320 5 3 := ⟨RX5, TX5, 5, rfl, by decide, Or.inr ⟨"GirthReports", by decide +kernel⟩⟩
set_option maxRecDepth 20000 in
theorem fl_X8_7 : ax_FL RX8 7 8 2 := ⟨RX8, TX8, 31, rfl, by decide, Or.inl (ax_bigI 819 (by decide +kernel) rfl)⟩
set_option maxRecDepth 20000 in
theorem ff_X8_7 : ax_FF RX8 7 8 2 (.array .int) := ⟨RX8, TX8, 31, rfl, by decide, ax_bigI 819 (by decide +kernel) rfl, rfl, rfl, by decide +kernel⟩
set_option maxRecDepth 20000 in
theorem fl_X8_13 : ax_FL RX8 13 8 3 := ⟨RX8, TX8, 31, rfl, by decide, Or.inl (ax_bigI 820 (by decide +kernel) rfl)⟩
set_option maxRecDepth 20000 in
theorem ff_X8_13 : ax_FF RX8 13 8 3 (.array .int) := ⟨RX8, TX8, 31, rfl, by decide, ax_bigI 820 (by decide +kernel) rfl, rfl, rfl, by decide +kernel⟩
set_option maxRecDepth 20000 in
theorem fl_X8_16 : ax_FL RX8 16 8 4 := ⟨RX8, TX8, 31, rfl, by decide, Or.inl (ax_bigI 821 (by decide +kernel) rfl)⟩
set_option maxRecDepth 20000 in
theorem ff_X8_16 : ax_FF RX8 16 8 4 (.array .int) := ⟨RX8, TX8, 31, rfl, by decide, ax_bigI 821 (by decide +kernel) rfl, rfl, rfl, by decide +kernel⟩
set_option maxRecDepth 20000 in
theorem fl_X8_19 : ax_FL RX8 19 8 6 := ⟨RX8, TX8, 31, rfl, by decide, Or.inl (ax_bigI 823 (by decide +kernel) rfl)⟩
set_option maxRecDepth 20000 in
theorem ff_X8_19 : ax_FF RX8 19 8 6 (.array .int) := ⟨RX8, TX8, 31, rfl, by decide, ax_bigI 823 (by decide +kernel) rfl, rfl, rfl, by decide +kernel⟩
set_option maxRecDepth 20000 in
theorem fl_X8_22 : ax_FL RX8 22 8 7 := ⟨RX8, TX8, 31, rfl, by decide, Or.inl (ax_bigI 824 (by decide +kernel) rfl)⟩
set_option maxRecDepth 20000 in
theorem ff_X8_22 : ax_FF RX8 22 8 7 (.array .int) := ⟨RX8, TX8, 31, rfl, by decide, ax_bigI 824 (by decide +kernel) rfl, rfl, rfl, by decide +kernel⟩
set_option maxRecDepth 20000 in
theorem fl_X8_25 : ax_FL RX8 25 8 8 := ⟨RX8, TX8, 31, rfl, by decide, Or.inl (ax_bigI 825 (by decide +kernel) rfl)⟩
set_option maxRecDepth 20000 in
theorem ff_X8_25 : ax_FF RX8 25 8 8 (.array .int) := ⟨RX8, TX8, 31, rfl, by decide, ax_bigI 825 (by decide +kernel) rfl, rfl, rfl, by decide +kernel⟩
set_option maxRecDepth 20000 in
theorem fl_X8_28 : ax_FL RX8 28 8 11 := ⟨RX8, TX8, 31, rfl, by decide, Or.inl (ax_bigI 828 (by decide +kernel) rfl)⟩
set_option maxRecDepth 20000 in
theorem ff_X8_28 : ax_FF RX8 28 8 11 (.array .int) := ⟨RX8, TX8, 31, rfl, by decide, ax_bigI 828 (by decide +kernel) rfl, rfl, rfl, by decide +kernel⟩
set_option maxRecDepth 20000 in
theorem fl_X8_31 : ax_FL RX8 31 8 12 := ⟨RX8, TX8, 31, rfl, by decide, Or.inl (ax_bigI 829 (by decide +kernel) rfl)⟩
set_option maxRecDepth 20000 in
theorem ff_X8_31 : ax_FF RX8 31 8 12 (.array .int) := ⟨RX8, TX8, 31, rfl, by decide, ax_bigI 829 (by decide +kernel) rfl, rfl, rfl, by decide +kernel⟩
set_option maxRecDepth 20000 in
theorem fl_X8_34 : ax_FL RX8 34 8 13 := ⟨RX8, TX8, 31, rfl, by decide, Or.inl (ax_bigI 830 (by decide +kernel) rfl)⟩
set_option maxRecDepth 20000 in
theorem ff_X8_34 : ax_FF RX8 34 8 13 (.array .int) := ⟨RX8, TX8, 31, rfl, by decide, ax_bigI 830 (by decide +kernel) rfl, rfl, rfl, by decide +kernel⟩
set_option maxRecDepth 20000 in
theorem fl_X8_37 : ax_FL RX8 37 8 15 := ⟨RX8, TX8, 31, rfl, by decide, Or.inl (ax_bigI 832 (by decide +kernel) rfl)⟩
set_option maxRecDepth 20000 in
theorem ff_X8_37 : ax_FF RX8 37 8 15 (.array .int) := ⟨RX8, TX8, 31, rfl, by decide, ax_bigI 832 (by decide +kernel) rfl, rfl, rfl, by decide +kernel⟩
set_option maxRecDepth 20000 in
theorem fl_X8_40 : ax_FL RX8 40 8 16 := ⟨RX8, TX8, 31, rfl, by decide, Or.inl (ax_bigI 833 (by decide +kernel) rfl)⟩
set_option maxRecDepth 20000 in
theorem ff_X8_40 : ax_FF RX8 40 8 16 (.array .int) := ⟨RX8, TX8, 31, rfl, by decide, ax_bigI 833 (by decide +kernel) rfl, rfl, rfl, by decide +kernel⟩
set_option maxRecDepth 20000 in
theorem fl_X8_43 : ax_FL RX8 43 8 17 := ⟨RX8, TX8, 31, rfl, by decide, Or.inl (ax_bigI 834 (by decide +kernel) rfl)⟩
set_option maxRecDepth 20000 in
theorem ff_X8_43 : ax_FF RX8 43 8 17 (.array .int) := ⟨RX8, TX8, 31, rfl, by decide, ax_bigI 834 (by decide +kernel) rfl, rfl, rfl, by decide +kernel⟩
set_option maxRecDepth 20000 in
theorem fl_X8_46 : ax_FL RX8 46 8 18 := ⟨RX8, TX8, 31, rfl, by decide, Or.inl (ax_bigI 835 (by decide +kernel) rfl)⟩
set_option maxRecDepth 20000 in
theorem ff_X8_46 : ax_FF RX8 46 8 18 (.array .int) := ⟨RX8, TX8, 31, rfl, by decide, ax_bigI 835 (by decide +kernel) rfl, rfl, rfl, by decide +kernel⟩
set_option maxRecDepth 20000 in
theorem fl_X8_49 : ax_FL RX8 49 8 22 := ⟨RX8, TX8, 31, rfl, by decide, Or.inl (ax_bigI 839 (by decide +kernel) rfl)⟩
set_option maxRecDepth 20000 in
theorem ff_X8_49 : ax_FF RX8 49 8 22 (.array .byte) := ⟨RX8, TX8, 31, rfl, by decide, ax_bigI 839 (by decide +kernel) rfl, rfl, rfl, by decide +kernel⟩
set_option maxRecDepth 20000 in
theorem fl_X8_53 : ax_FL RX8 53 8 27 := ⟨RX8, TX8, 31, rfl, by decide, Or.inl (ax_bigI 844 (by decide +kernel) rfl)⟩
set_option maxRecDepth 20000 in
theorem ff_X8_53 : ax_FF RX8 53 8 27 (.array .int) := ⟨RX8, TX8, 31, rfl, by decide, ax_bigI 844 (by decide +kernel) rfl, rfl, rfl, by decide +kernel⟩
set_option maxRecDepth 20000 in
theorem fl_X8_56 : ax_FL RX8 56 8 28 := ⟨RX8, TX8, 31, rfl, by decide, Or.inl (ax_bigI 845 (by decide +kernel) rfl)⟩
set_option maxRecDepth 20000 in
theorem ff_X8_56 : ax_FF RX8 56 8 28 (.array .int) := ⟨RX8, TX8, 31, rfl, by decide, ax_bigI 845 (by decide +kernel) rfl, rfl, rfl, by decide +kernel⟩
set_option maxRecDepth 20000 in
theorem fl_X8_59 : ax_FL RX8 59 8 29 := ⟨RX8, TX8, 31, rfl, by decide, Or.inl (ax_bigI 846 (by decide +kernel) rfl)⟩
set_option maxRecDepth 20000 in
theorem ff_X8_59 : ax_FF RX8 59 8 29 (.array .int) := ⟨RX8, TX8, 31, rfl, by decide, ax_bigI 846 (by decide +kernel) rfl, rfl, rfl, by decide +kernel⟩
set_option maxRecDepth 20000 in
theorem fl_X8_62 : ax_FL RX8 62 8 30 := ⟨RX8, TX8, 31, rfl, by decide, Or.inl (ax_bigI 847 (by decide +kernel) rfl)⟩
set_option maxRecDepth 20000 in
theorem ff_X8_62 : ax_FF RX8 62 8 30 (.array .int) := ⟨RX8, TX8, 31, rfl, by decide, ax_bigI 847 (by decide +kernel) rfl, rfl, rfl, by decide +kernel⟩
set_option maxRecDepth 20000 in
theorem fl_X8_82 : ax_FL RX8 82 8 9 := ⟨RX8, TX8, 31, rfl, by decide, Or.inl (ax_bigI 826 (by decide +kernel) rfl)⟩
set_option maxRecDepth 20000 in
theorem fp_X8_82 : ax_FP RX8 82 8 9 .int := ⟨RX8, TX8, 31, rfl, by decide, Or.inl (ax_bigI 826 (by decide +kernel) rfl), rfl, by decide +kernel⟩
set_option maxRecDepth 20000 in
theorem fl_X8_86 : ax_FL RX8 86 8 10 := ⟨RX8, TX8, 31, rfl, by decide, Or.inl (ax_bigI 827 (by decide +kernel) rfl)⟩
set_option maxRecDepth 20000 in
theorem fp_X8_86 : ax_FP RX8 86 8 10 .int := ⟨RX8, TX8, 31, rfl, by decide, Or.inl (ax_bigI 827 (by decide +kernel) rfl), rfl, by decide +kernel⟩
set_option maxRecDepth 20000 in
theorem fl_X8_89 : ax_FL RX8 89 8 14 := ⟨RX8, TX8, 31, rfl, by decide, Or.inl (ax_bigI 831 (by decide +kernel) rfl)⟩
set_option maxRecDepth 20000 in
theorem fp_X8_89 : ax_FP RX8 89 8 14 .int := ⟨RX8, TX8, 31, rfl, by decide, Or.inl (ax_bigI 831 (by decide +kernel) rfl), rfl, by decide +kernel⟩
set_option maxRecDepth 20000 in
theorem fl_X8_92 : ax_FL RX8 92 8 0 := ⟨RX8, TX8, 31, rfl, by decide, Or.inl (ax_bigI 817 (by decide +kernel) rfl)⟩
set_option maxRecDepth 20000 in
theorem fp_X8_92 : ax_FP RX8 92 8 0 .int := ⟨RX8, TX8, 31, rfl, by decide, Or.inl (ax_bigI 817 (by decide +kernel) rfl), rfl, by decide +kernel⟩
set_option maxRecDepth 20000 in
theorem fl_X8_95 : ax_FL RX8 95 8 1 := ⟨RX8, TX8, 31, rfl, by decide, Or.inl (ax_bigI 818 (by decide +kernel) rfl)⟩
set_option maxRecDepth 20000 in
theorem fp_X8_95 : ax_FP RX8 95 8 1 .int := ⟨RX8, TX8, 31, rfl, by decide, Or.inl (ax_bigI 818 (by decide +kernel) rfl), rfl, by decide +kernel⟩
set_option maxRecDepth 20000 in
theorem fl_X8_98 : ax_FL RX8 98 8 5 := ⟨RX8, TX8, 31, rfl, by decide, Or.inl (ax_bigI 822 (by decide +kernel) rfl)⟩
set_option maxRecDepth 20000 in
theorem fp_X8_98 : ax_FP RX8 98 8 5 .int := ⟨RX8, TX8, 31, rfl, by decide, Or.inl (ax_bigI 822 (by decide +kernel) rfl), rfl, by decide +kernel⟩
set_option maxRecDepth 20000 in
theorem fl_X8_113 : ax_FL RX8 113 8 21 := ⟨RX8, TX8, 31, rfl, by decide, Or.inl (ax_bigI 838 (by decide +kernel) rfl)⟩
set_option maxRecDepth 20000 in
theorem fp_X8_113 : ax_FP RX8 113 8 21 .int := ⟨RX8, TX8, 31, rfl, by decide, Or.inl (ax_bigI 838 (by decide +kernel) rfl), rfl, by decide +kernel⟩
set_option maxRecDepth 20000 in
theorem fl_X8_116 : ax_FL RX8 116 8 23 := ⟨RX8, TX8, 31, rfl, by decide, Or.inl (ax_bigI 840 (by decide +kernel) rfl)⟩
set_option maxRecDepth 20000 in
theorem fp_X8_116 : ax_FP RX8 116 8 23 .int := ⟨RX8, TX8, 31, rfl, by decide, Or.inl (ax_bigI 840 (by decide +kernel) rfl), rfl, by decide +kernel⟩
set_option maxRecDepth 20000 in
theorem fl_X8_127 : ax_FL RX8 127 8 25 := ⟨RX8, TX8, 31, rfl, by decide, Or.inl (ax_bigI 842 (by decide +kernel) rfl)⟩
set_option maxRecDepth 20000 in
theorem fp_X8_127 : ax_FP RX8 127 8 25 .boolean := ⟨RX8, TX8, 31, rfl, by decide, Or.inl (ax_bigI 842 (by decide +kernel) rfl), rfl, by decide +kernel⟩
set_option maxRecDepth 20000 in
theorem fl_X8_138 : ax_FL RX8 138 8 24 := ⟨RX8, TX8, 31, rfl, by decide, Or.inl (ax_bigI 841 (by decide +kernel) rfl)⟩
set_option maxRecDepth 20000 in
theorem fp_X8_138 : ax_FP RX8 138 8 24 .int := ⟨RX8, TX8, 31, rfl, by decide, Or.inl (ax_bigI 841 (by decide +kernel) rfl), rfl, by decide +kernel⟩
set_option maxRecDepth 20000 in
theorem fl_X8_149 : ax_FL RX8 149 8 19 := ⟨RX8, TX8, 31, rfl, by decide, Or.inl (ax_bigI 836 (by decide +kernel) rfl)⟩
set_option maxRecDepth 20000 in
theorem fp_X8_149 : ax_FP RX8 149 8 19 .int := ⟨RX8, TX8, 31, rfl, by decide, Or.inl (ax_bigI 836 (by decide +kernel) rfl), rfl, by decide +kernel⟩
set_option maxRecDepth 20000 in
theorem fl_X8_152 : ax_FL RX8 152 8 20 := ⟨RX8, TX8, 31, rfl, by decide, Or.inl (ax_bigI 837 (by decide +kernel) rfl)⟩
set_option maxRecDepth 20000 in
theorem fp_X8_152 : ax_FP RX8 152 8 20 .int := ⟨RX8, TX8, 31, rfl, by decide, Or.inl (ax_bigI 837 (by decide +kernel) rfl), rfl, by decide +kernel⟩
set_option maxRecDepth 20000 in
theorem fl_X8_155 : ax_FL RX8 155 8 26 := ⟨RX8, TX8, 31, rfl, by decide, Or.inl (ax_bigI 843 (by decide +kernel) rfl)⟩
set_option maxRecDepth 20000 in
theorem fp_X8_155 : ax_FP RX8 155 8 26 .int := ⟨RX8, TX8, 31, rfl, by decide, Or.inl (ax_bigI 843 (by decide +kernel) rfl), rfl, by decide +kernel⟩
set_option maxRecDepth 20000 in
theorem cl_L_7 : Cond.classLink RL 7 RX7 ∈ ax_Big := ax_bigI 74 (by decide +kernel) rfl
set_option maxRecDepth 20000 in
theorem ci_X7 : Cond.instantiable RX7 12 ∈ ax_Big := ax_bigI 75 (by decide +kernel) rfl
set_option maxRecDepth 20000 in
theorem cl_X7_9 : Cond.classLink RX7 9 RX3 ∈ ax_Big := ax_bigI 82 (by decide +kernel) rfl
set_option maxRecDepth 20000 in
theorem ci_X3 : Cond.instantiable RX3 2 ∈ ax_Big := ax_bigI 83 (by decide +kernel) rfl
set_option maxRecDepth 20000 in
theorem cl_X7_16 : Cond.classLink RX7 16 RX4 ∈ ax_Big := ax_bigI 98 (by decide +kernel) rfl
set_option maxRecDepth 20000 in
theorem ci_X4 : Cond.instantiable RX4 2 ∈ ax_Big := ax_bigI 99 (by decide +kernel) rfl
set_option maxRecDepth 20000 in
theorem cl_X7_23 : Cond.classLink RX7 23 RX1 ∈ ax_Big := ax_bigI 111 (by decide +kernel) rfl
set_option maxRecDepth 20000 in
theorem ci_X1 : Cond.instantiable RX1 6 ∈ ax_Big := ax_bigI 112 (by decide +kernel) rfl
set_option maxRecDepth 20000 in
theorem cl_X7_39 : Cond.classLink RX7 39 RX6 ∈ ax_Big := ax_bigI 153 (by decide +kernel) rfl
set_option maxRecDepth 20000 in
theorem ci_X6 : Cond.instantiable RX6 7 ∈ ax_Big := ax_bigI 154 (by decide +kernel) rfl
set_option maxRecDepth 20000 in
theorem cl_X7_46 : Cond.classLink RX7 46 RX5 ∈ ax_Big := ax_bigI 182 (by decide +kernel) rfl
set_option maxRecDepth 20000 in
theorem ci_X5 : Cond.instantiable RX5 5 ∈ ax_Big := ax_bigI 183 (by decide +kernel) rfl
set_option maxRecDepth 20000 in
theorem cl_X7_53 : Cond.classLink RX7 53 RX2 ∈ ax_Big := ax_bigI 209 (by decide +kernel) rfl
set_option maxRecDepth 20000 in
theorem ci_X2 : Cond.instantiable RX2 3 ∈ ax_Big := ax_bigI 210 (by decide +kernel) rfl
set_option maxRecDepth 20000 in
theorem cl_X7_60 : Cond.classLink RX7 60 RX0 ∈ ax_Big := ax_bigI 225 (by decide +kernel) rfl
set_option maxRecDepth 20000 in
theorem ci_X0 : Cond.instantiable RX0 10 ∈ ax_Big := ax_bigI 226 (by decide +kernel) rfl
set_option maxRecDepth 20000 in
theorem kl_X0_107 : Cond.constantLong RX0 107 (lN 36) ∈ ax_Big := ax_bigI 535 (by decide +kernel) rfl
set_option maxRecDepth 20000 in
theorem kl_X7_308 : Cond.constantLong RX7 308 (lN 10) ∈ ax_Big := ax_bigI 568 (by decide +kernel) rfl
set_option maxRecDepth 20000 in
theorem kl_X7_330 : Cond.constantLong RX7 330 (lN 9) ∈ ax_Big := ax_bigI 573 (by decide +kernel) rfl
set_option maxRecDepth 20000 in
theorem ki_J6_265 : Cond.constant RJ6 265 (nI 1431655765) ∈ ax_Big := ax_bigI 673 (by decide +kernel) rfl
set_option maxRecDepth 20000 in
theorem ki_J6_266 : Cond.constant RJ6 266 (nI 858993459) ∈ ax_Big := ax_bigI 674 (by decide +kernel) rfl
set_option maxRecDepth 20000 in
theorem ki_J6_267 : Cond.constant RJ6 267 (nI 252645135) ∈ ax_Big := ax_bigI 675 (by decide +kernel) rfl
set_option maxRecDepth 20000 in
theorem kl_X0_109 : Cond.constantLong RX0 109 (lN 100) ∈ ax_Big := ax_bigI 680 (by decide +kernel) rfl
set_option maxRecDepth 20000 in
theorem kl_X7_324 : Cond.constantLong RX7 324 (lN 7919) ∈ ax_Big := ax_bigI 765 (by decide +kernel) rfl
set_option maxRecDepth 20000 in
theorem kl_X7_326 : Cond.constantLong RX7 326 (lN 6151) ∈ ax_Big := ax_bigI 766 (by decide +kernel) rfl
set_option maxRecDepth 20000 in
theorem kl_X7_328 : Cond.constantLong RX7 328 (lN 65521) ∈ ax_Big := ax_bigI 767 (by decide +kernel) rfl
set_option maxRecDepth 20000 in
theorem cl_L_10 : Cond.classLink RL 10 RX8 ∈ ax_Big := ax_bigI 791 (by decide +kernel) rfl
set_option maxRecDepth 20000 in
theorem ci_X8 : Cond.instantiable RX8 31 ∈ ax_Big := ax_bigI 792 (by decide +kernel) rfl
set_option maxRecDepth 20000 in
theorem kl_X8_109 : Cond.constantLong RX8 109 (lN 32) ∈ ax_Big := ax_bigI 915 (by decide +kernel) rfl
set_option maxRecDepth 20000 in
theorem kl_X8_111 : Cond.constantLong RX8 111 (lN 126) ∈ ax_Big := ax_bigI 916 (by decide +kernel) rfl
set_option maxRecDepth 20000 in
theorem kl_X8_123 : Cond.constantLong RX8 123 (lN 48) ∈ ax_Big := ax_bigI 944 (by decide +kernel) rfl
set_option maxRecDepth 20000 in
theorem kl_X8_125 : Cond.constantLong RX8 125 (lN 57) ∈ ax_Big := ax_bigI 945 (by decide +kernel) rfl
set_option maxRecDepth 20000 in
theorem kl_X8_175 : Cond.constantLong RX8 175 (lN 2) ∈ ax_Big := ax_bigI 977 (by decide +kernel) rfl
set_option maxRecDepth 20000 in
theorem kl_X8_206 : Cond.constantLong RX8 206 (lN 6) ∈ ax_Big := ax_bigI 1009 (by decide +kernel) rfl
set_option maxRecDepth 20000 in
theorem ki_X8_236 : Cond.constant RX8 236 (nI 1999999999) ∈ ax_Big := ax_bigI 1084 (by decide +kernel) rfl
set_option maxRecDepth 20000 in
theorem kl_X8_242 : Cond.constantLong RX8 242 (lN 99) ∈ ax_Big := ax_bigI 1096 (by decide +kernel) rfl
set_option maxRecDepth 20000 in
theorem kl_X8_240 : Cond.constantLong RX8 240 (lN 100) ∈ ax_Big := ax_bigI 1104 (by decide +kernel) rfl
set_option maxRecDepth 20000 in
theorem kl_X8_253 : Cond.constantLong RX8 253 (lN 360) ∈ ax_Big := ax_bigI 1117 (by decide +kernel) rfl
set_option maxRecDepth 20000 in
theorem kl_X8_258 : Cond.constantLong RX8 258 (lN 9999) ∈ ax_Big := ax_bigI 1123 (by decide +kernel) rfl
set_option maxRecDepth 20000 in
theorem kl_X8_264 : Cond.constantLong RX8 264 (lN 90) ∈ ax_Big := ax_bigI 1140 (by decide +kernel) rfl
set_option maxRecDepth 20000 in
theorem kl_X8_266 : Cond.constantLong RX8 266 (lN 10) ∈ ax_Big := ax_bigI 1145 (by decide +kernel) rfl
set_option maxRecDepth 20000 in
theorem kl_X8_268 : Cond.constantLong RX8 268 (lN 40) ∈ ax_Big := ax_bigI 1150 (by decide +kernel) rfl
set_option maxRecDepth 20000 in
theorem kl_X8_270 : Cond.constantLong RX8 270 (lN 7919) ∈ ax_Big := ax_bigI 1151 (by decide +kernel) rfl
set_option maxRecDepth 20000 in
theorem kl_X8_272 : Cond.constantLong RX8 272 (lN 6151) ∈ ax_Big := ax_bigI 1152 (by decide +kernel) rfl
set_option maxRecDepth 20000 in
theorem kl_X8_274 : Cond.constantLong RX8 274 (lN 65521) ∈ ax_Big := ax_bigI 1153 (by decide +kernel) rfl
set_option maxRecDepth 20000 in
theorem ar_int : Cond.arrayClass .int ∈ ax_Big := ax_bigI 97 (by decide +kernel) rfl
set_option maxRecDepth 20000 in
theorem ar_byte : Cond.arrayClass .byte ∈ ax_Big := ax_bigI 449 (by decide +kernel) rfl
set_option maxRecDepth 20000 in
theorem lo_inst : Cond.instanceMethod Lib.objectInit ∈ ax_Big := ax_bigI 80 (by decide +kernel) rfl
set_option maxRecDepth 20000 in
theorem lo_code : Cond.code Lib.objectInit ⟨#[0xb1]⟩ 1 none ∈ ax_Big := ax_bigI 81 (by decide +kernel) rfl
