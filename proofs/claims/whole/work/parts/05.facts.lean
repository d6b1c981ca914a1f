def mX11_init : Mu := (yX11_init, cX11_init, 3, none)
def mX6_init : Mu := (yX6_init, cX6_init, 1, none)
def mJ0_length_8abf5 : Mu := (yJ0_length_8abf5, cJ0_length_8abf5, 1, (some .int))
def mJ0_coder_7d493 : Mu := (yJ0_coder_7d493, cJ0_coder_7d493, 1, (some .byte))
def mJ0_charAt_5068e : Mu := (yJ0_charAt_5068e, cJ0_charAt_5068e, 2, (some .char))
def mJ0_isLatin1_aae02 : Mu := (yJ0_isLatin1_aae02, cJ0_isLatin1_aae02, 1, (some .boolean))
def mJ1_charAt_3b067 : Mu := (yJ1_charAt_3b067, cJ1_charAt_3b067, 2, (some .char))
def mJ0_checkIndex_df160 : Mu := (yJ0_checkIndex_df160, cJ0_checkIndex_df160, 2, none)
def mJ3_checkIndex_8e157 : Mu := (yJ3_checkIndex_8e157, cJ3_checkIndex_8e157, 3, (some .int))
def mJ2_charAt_3b067 : Mu := (yJ2_charAt_3b067, cJ2_charAt_3b067, 2, (some .char))
def mJ2_checkIndex_2214a : Mu := (yJ2_checkIndex_2214a, cJ2_checkIndex_2214a, 2, none)
def mJ2_length_9d52b : Mu := (yJ2_length_9d52b, cJ2_length_9d52b, 1, (some .int))
def mJ2_getChar_3b067 : Mu := (yJ2_getChar_3b067, cJ2_getChar_3b067, 2, (some .char))
def mX6_append : Mu := (yX6_append, cX6_append, 2, none)
def mX6_readTape : Mu := (yX6_readTape, cX6_readTape, 1, (some .int))
def mX6_advance : Mu := (yX6_advance, cX6_advance, 1, none)
def mX6_isLetter : Mu := (yX6_isLetter, cX6_isLetter, 1, (some .boolean))
def mX6_word : Mu := (yX6_word, cX6_word, 1, none)
def mX6_nameHere : Mu := (yX6_nameHere, cX6_nameHere, 1, (some .int))
def mX6_spells : Mu := (yX6_spells, cX6_spells, 3, (some .boolean))
def mX6_keyHere : Mu := (yX6_keyHere, cX6_keyHere, 1, (some .int))
def mX6_isDigit : Mu := (yX6_isDigit, cX6_isDigit, 1, (some .boolean))
def mX6_digits : Mu := (yX6_digits, cX6_digits, 1, none)
def mX6_isSign : Mu := (yX6_isSign, cX6_isSign, 1, (some .boolean))
def mJ0_indexOf_0f7a4 : Mu := (yJ0_indexOf_0f7a4, cJ0_indexOf_0f7a4, 2, (some .int))
def mJ0_indexOf_7cf53 : Mu := (yJ0_indexOf_7cf53, cJ0_indexOf_7cf53, 3, (some .int))
def mJ1_indexOf_4cfef : Mu := (yJ1_indexOf_4cfef, cJ1_indexOf_4cfef, 4, (some .int))
def mJ1_canEncode_9a6ad : Mu := (yJ1_canEncode_9a6ad, cJ1_canEncode_9a6ad, 1, (some .boolean))
def mJ9_max_7cf53 : Mu := (yJ9_max_7cf53, cJ9_max_7cf53, 2, (some .int))
def mJ9_min_7cf53 : Mu := (yJ9_min_7cf53, cJ9_min_7cf53, 2, (some .int))
def mJ1_indexOfChar_4cfef : Mu := (yJ1_indexOfChar_4cfef, cJ1_indexOfChar_4cfef, 6, (some .int))
def mJ2_indexOf_4cfef : Mu := (yJ2_indexOf_4cfef, cJ2_indexOf_4cfef, 4, (some .int))
def mJ2_indexOfChar_4cfef : Mu := (yJ2_indexOfChar_4cfef, cJ2_indexOfChar_4cfef, 4, (some .int))
def mJ2_checkBoundsBeginEnd_d044e : Mu := (yJ2_checkBoundsBeginEnd_d044e, cJ2_checkBoundsBeginEnd_d044e, 3, none)
def mJ0_checkBoundsBeginEnd_23922 : Mu := (yJ0_checkBoundsBeginEnd_23922, cJ0_checkBoundsBeginEnd_23922, 3, none)
def mJ3_checkFromToIndex_8c36e : Mu := (yJ3_checkFromToIndex_8c36e, cJ3_checkFromToIndex_8c36e, 4, (some .int))
def mJ2_indexOfCharUnsafe_4cfef : Mu := (yJ2_indexOfCharUnsafe_4cfef, cJ2_indexOfCharUnsafe_4cfef, 5, (some .int))
def mJ2_indexOfSupplementary_4cfef : Mu := (yJ2_indexOfSupplementary_4cfef, cJ2_indexOfSupplementary_4cfef, 7, (some .int))
def mJ11_isValidCodePoint_9a6ad : Mu := (yJ11_isValidCodePoint_9a6ad, cJ11_isValidCodePoint_9a6ad, 2, (some .boolean))
def mJ11_highSurrogate_5068e : Mu := (yJ11_highSurrogate_5068e, cJ11_highSurrogate_5068e, 1, (some .char))
def mJ11_lowSurrogate_5068e : Mu := (yJ11_lowSurrogate_5068e, cJ11_lowSurrogate_5068e, 1, (some .char))
def mX6_part : Mu := (yX6_part, cX6_part, 3, none)
def mX6_expect : Mu := (yX6_expect, cX6_expect, 2, none)
def mX6_refuse : Mu := (yX6_refuse, cX6_refuse, 1, none)
def mX6_either : Mu := (yX6_either, cX6_either, 3, none)
def mX6_both : Mu := (yX6_both, cX6_both, 3, none)
def mX6_denied : Mu := (yX6_denied, cX6_denied, 3, none)
def mX6_emit : Mu := (yX6_emit, cX6_emit, 2, none)
def mX6_sum : Mu := (yX6_sum, cX6_sum, 4, none)
def mX6_term : Mu := (yX6_term, cX6_term, 3, none)
def mX6_one : Mu := (yX6_one, cX6_one, 2, none)
def mX6_made : Mu := (yX6_made, cX6_made, 2, (some (.object "NestsByKnots$Text")))
def mJ7_copyOf_59c91 : Mu := (yJ7_copyOf_59c91, cJ7_copyOf_59c91, 3, (some (.array .int)))
def mX9_init : Mu := (yX9_init, cX9_init, 4, none)
def mX4_init : Mu := (yX4_init, cX4_init, 2, none)
def mX0_init : Mu := (yX0_init, cX0_init, 1, none)
def mX7_init : Mu := (yX7_init, cX7_init, 1, none)
def mX11_lay : Mu := (yX11_lay, cX11_lay, 5, (some .int))
def mX11_canBeLaid : Mu := (yX11_canBeLaid, cX11_canBeLaid, 3, (some .boolean))
def mX11_isKnot : Mu := (yX11_isKnot, cX11_isKnot, 2, (some .boolean))
def mX11_fits : Mu := (yX11_fits, cX11_fits, 3, (some .boolean))
def mX11_firstOf : Mu := (yX11_firstOf, cX11_firstOf, 1, (some .int))
def mX11_isCrossing : Mu := (yX11_isCrossing, cX11_isCrossing, 1, (some .boolean))
def mX11_wayOf : Mu := (yX11_wayOf, cX11_wayOf, 1, (some .int))
def mX11_longOf : Mu := (yX11_longOf, cX11_longOf, 1, (some .int))
def mX11_isLong : Mu := (yX11_isLong, cX11_isLong, 1, (some .boolean))
def mX4_leastFree : Mu := (yX4_leastFree, cX4_leastFree, 2, (some .int))
def mX11_knotOf : Mu := (yX11_knotOf, cX11_knotOf, 2, (some (.object "NestsByKnots$Tuck")))
def mX3_init : Mu := (yX3_init, cX3_init, 2, none)
def mX10_init : Mu := (yX10_init, cX10_init, 2, none)
def mX2_init : Mu := (yX2_init, cX2_init, 2, none)
def mX8_init : Mu := (yX8_init, cX8_init, 2, none)
def mX1_init : Mu := (yX1_init, cX1_init, 2, none)
def mX5_init : Mu := (yX5_init, cX5_init, 2, none)
def mX4_put : Mu := (yX4_put, cX4_put, 5, none)
def mX11_stepOf : Mu := (yX11_stepOf, cX11_stepOf, 1, (some .int))
def mX11_out : Mu := (yX11_out, cX11_out, 2, (some .int))
def mX4_has : Mu := (yX4_has, cX4_has, 2, (some .boolean))
def mX4_drop : Mu := (yX4_drop, cX4_drop, 3, none)
def mX4_size : Mu := (yX4_size, cX4_size, 1, (some .int))
def mJ6_bitCount_0f7a4 : Mu := (yJ6_bitCount_0f7a4, cJ6_bitCount_0f7a4, 1, (some .int))
def mX11_hours : Mu := (yX11_hours, cX11_hours, 2, (some .int))
def mX11_green : Mu := (yX11_green, cX11_green, 3, (some .int))
def mX11_told : Mu := (yX11_told, cX11_told, 5, (some .int))
def mX4_ageOf : Mu := (yX4_ageOf, cX4_ageOf, 3, (some .int))
def mX1_kind : Mu := (yX1_kind, cX1_kind, 1, (some .int))
def mX2_kind : Mu := (yX2_kind, cX2_kind, 1, (some .int))
def mX3_kind : Mu := (yX3_kind, cX3_kind, 1, (some .int))
def mX5_kind : Mu := (yX5_kind, cX5_kind, 1, (some .int))
def mX8_kind : Mu := (yX8_kind, cX8_kind, 1, (some .int))
def mX10_kind : Mu := (yX10_kind, cX10_kind, 1, (some .int))
def mX1_knot : Mu := (yX1_knot, cX1_knot, 2, (some .int))
def mX2_knot : Mu := (yX2_knot, cX2_knot, 2, (some .int))
def mX3_knot : Mu := (yX3_knot, cX3_knot, 2, (some .int))
def mX5_knot : Mu := (yX5_knot, cX5_knot, 2, (some .int))
def mX8_knot : Mu := (yX8_knot, cX8_knot, 2, (some .int))
def mX10_knot : Mu := (yX10_knot, cX10_knot, 2, (some .int))
def mX5_slips : Mu := (yX5_slips, cX5_slips, 2, (some .boolean))
def mX8_slips : Mu := (yX8_slips, cX8_slips, 2, (some .boolean))
def mX10_slips : Mu := (yX10_slips, cX10_slips, 2, (some .boolean))
def mX1_ties : Mu := (yX1_ties, cX1_ties, 1, (some .int))
def mX3_ties : Mu := (yX3_ties, cX3_ties, 1, (some .int))
def mX10_ties : Mu := (yX10_ties, cX10_ties, 1, (some .int))
def mX4_crosses : Mu := (yX4_crosses, cX4_crosses, 3, (some .int))
def mX4_met : Mu := (yX4_met, cX4_met, 7, (some .int))
def mX4_rubs : Mu := (yX4_rubs, cX4_rubs, 3, (some .int))
def mX4_hold : Mu := (yX4_hold, cX4_hold, 6, (some .int))
def mX4_nameStrip : Mu := (yX4_nameStrip, cX4_nameStrip, 5, none)
def mX4_name : Mu := (yX4_name, cX4_name, 7, none)
def mX9_worth : Mu := (yX9_worth, cX9_worth, 7, (some .int))
def mX9_ofOne : Mu := (yX9_ofOne, cX9_ofOne, 2, (some .int))
def mX9_bit : Mu := (yX9_bit, cX9_bit, 1, (some .int))
def mX9_ofTwo : Mu := (yX9_ofTwo, cX9_ofTwo, 3, (some .int))
def mX4_isGreen : Mu := (yX4_isGreen, cX4_isGreen, 3, (some .boolean))
def mX11_at : Mu := (yX11_at, cX11_at, 2, (some .int))
def mX11_feed : Mu := (yX11_feed, cX11_feed, 5, (some .int))
def mX11_text : Mu := (yX11_text, cX11_text, 2, (some .int))
def mX11_force : Mu := (yX11_force, cX11_force, 3, (some .int))
def mX11_pull : Mu := (yX11_pull, cX11_pull, 5, (some .int))
def mX11_isPull : Mu := (yX11_isPull, cX11_isPull, 2, (some .boolean))
def mX4_takenByPull : Mu := (yX4_takenByPull, cX4_takenByPull, 6, (some .int))
def mX4_looseAt : Mu := (yX4_looseAt, cX4_looseAt, 7, (some .int))
def mX4_withFallen : Mu := (yX4_withFallen, cX4_withFallen, 2, (some .int))
def mX4_falling : Mu := (yX4_falling, cX4_falling, 2, (some .int))
def mX4_hanging : Mu := (yX4_hanging, cX4_hanging, 6, (some .int))
def mX11_pulled : Mu := (yX11_pulled, cX11_pulled, 3, (some .int))
def mX4_lose : Mu := (yX4_lose, cX4_lose, 2, (some .int))
def mX11_falls : Mu := (yX11_falls, cX11_falls, 1, (some .int))
def mX11_least : Mu := (yX11_least, cX11_least, 4, (some .int))
def mX4_leastPull : Mu := (yX4_leastPull, cX4_leastPull, 6, (some .int))
def mX4_weakestAt : Mu := (yX4_weakestAt, cX4_weakestAt, 8, (some .int))
def mX11_good : Mu := (yX11_good, cX11_good, 2, (some .long))
def mX4_worthNext : Mu := (yX4_worthNext, cX4_worthNext, 2, (some .int))
def mX11_next : Mu := (yX11_next, cX11_next, 2, (some .int))
def mX4_nextOf : Mu := (yX4_nextOf, cX4_nextOf, 4, (some (.object "NestsByKnots$Choice")))
def mX0_clear : Mu := (yX0_clear, cX0_clear, 1, none)
def mX11_placeOf : Mu := (yX11_placeOf, cX11_placeOf, 2, (some .int))
def mX0_offer : Mu := (yX0_offer, cX0_offer, 3, none)
def mX11_build : Mu := (yX11_build, cX11_build, 5, (some .int))
def mX11_best : Mu := (yX11_best, cX11_best, 7, (some .int))
def mX4_bestOf : Mu := (yX4_bestOf, cX4_bestOf, 6, (some (.object "NestsByKnots$Choice")))
def mX4_leastHold : Mu := (yX4_leastHold, cX4_leastHold, 5, (some .int))
def mX11_takes : Mu := (yX11_takes, cX11_takes, 1, (some .int))
def mX4_isTaken : Mu := (yX4_isTaken, cX4_isTaken, 3, (some .boolean))
def mX4_covered : Mu := (yX4_covered, cX4_covered, 3, (some .int))
def mX4_greenBits : Mu := (yX4_greenBits, cX4_greenBits, 4, (some .int))
def mX11_when : Mu := (yX11_when, cX11_when, 2, (some .int))
def mX11_spare : Mu := (yX11_spare, cX11_spare, 4, (some .int))
def mX11_brown : Mu := (yX11_brown, cX11_brown, 2, (some .int))
def mX11_holes : Mu := (yX11_holes, cX11_holes, 1, (some .int))
def mX4_holeBits : Mu := (yX4_holeBits, cX4_holeBits, 4, (some .int))
def mX4_isEnclosed : Mu := (yX4_isEnclosed, cX4_isEnclosed, 11, (some .boolean))
def mX11_closes : Mu := (yX11_closes, cX11_closes, 5, (some .int))
def mX4_closingOf : Mu := (yX4_closingOf, cX4_closingOf, 5, (some (.object "NestsByKnots$Choice")))
def mX4_crossingsOf : Mu := (yX4_crossingsOf, cX4_crossingsOf, 3, (some .int))
def mX11_slipped : Mu := (yX11_slipped, cX11_slipped, 1, (some .int))
def mX4_slipping : Mu := (yX4_slipping, cX4_slipping, 3, (some .int))
def mX11_image : Mu := (yX11_image, cX11_image, 1, (some .int))
def mX4_becomes : Mu := (yX4_becomes, cX4_becomes, 3, none)
def mX11_back : Mu := (yX11_back, cX11_back, 1, (some .int))
def mX11_count : Mu := (yX11_count, cX11_count, 2, (some .int))
def mX11_sheet : Mu := (yX11_sheet, cX11_sheet, 4, (some .int))
def mX11_isSheet : Mu := (yX11_isSheet, cX11_isSheet, 1, (some .boolean))
def mX11_isSort : Mu := (yX11_isSort, cX11_isSort, 1, (some .boolean))
def mX7_becomes : Mu := (yX7_becomes, cX7_becomes, 3, none)
def mJ7_fill_53178 : Mu := (yJ7_fill_53178, cJ7_fill_53178, 4, none)
def mX11_cell : Mu := (yX11_cell, cX11_cell, 5, (some .int))
def mX7_write : Mu := (yX7_write, cX7_write, 3, none)
def mX11_copy : Mu := (yX11_copy, cX11_copy, 8, (some .int))
def mX7_holds : Mu := (yX7_holds, cX7_holds, 3, (some .boolean))
def mX11_strips : Mu := (yX11_strips, cX11_strips, 9, (some .int))
def mX11_taken : Mu := (yX11_taken, cX11_taken, 4, (some .int))
def mX11_isUnder : Mu := (yX11_isUnder, cX11_isUnder, 2, (some .boolean))
def mX12_init : Mu := (yX12_init, cX12_init, 1, none)
def mX12_spell : Mu := (yX12_spell, cX12_spell, 5, none)
def mX12_lay : Mu := (yX12_lay, cX12_lay, 5, (some .int))
def mX12_in : Mu := (yX12_in, cX12_in, 6, (some .boolean))
def mX12_isWhere : Mu := (yX12_isWhere, cX12_isWhere, 2, (some .boolean))
def mX12_free : Mu := (yX12_free, cX12_free, 2, (some .int))
def mX12_lays : Mu := (yX12_lays, cX12_lays, 5, none)
def mX12_coversOf : Mu := (yX12_coversOf, cX12_coversOf, 4, (some .int))
def mX12_out : Mu := (yX12_out, cX12_out, 2, (some .int))
def mX12_isStrip : Mu := (yX12_isStrip, cX12_isStrip, 2, (some .boolean))
def mX12_bitsOf : Mu := (yX12_bitsOf, cX12_bitsOf, 3, (some .int))
def mX12_hours : Mu := (yX12_hours, cX12_hours, 2, (some .int))
def mX12_green : Mu := (yX12_green, cX12_green, 3, (some .int))
def mX12_told : Mu := (yX12_told, cX12_told, 3, (some .int))
def mX12_ageOf : Mu := (yX12_ageOf, cX12_ageOf, 2, (some .int))
def mX12_knotOf : Mu := (yX12_knotOf, cX12_knotOf, 4, (some .int))
def mX12_slips : Mu := (yX12_slips, cX12_slips, 2, (some .boolean))
def mX12_tiesOf : Mu := (yX12_tiesOf, cX12_tiesOf, 2, (some .int))
def mX12_crosses : Mu := (yX12_crosses, cX12_crosses, 7, (some .int))
def mX12_at1 : Mu := (yX12_at1, cX12_at1, 5, (some .int))
def mX12_holdOf : Mu := (yX12_holdOf, cX12_holdOf, 4, (some .int))
def mX12_read : Mu := (yX12_read, cX12_read, 12, (some .int))
def mX12_next1 : Mu := (yX12_next1, cX12_next1, 3, none)
def mX12_byteAt : Mu := (yX12_byteAt, cX12_byteAt, 2, (some .int))
def mX12_part : Mu := (yX12_part, cX12_part, 4, (some .int))
def mX12_isWord : Mu := (yX12_isWord, cX12_isWord, 3, (some .boolean))
def mX12_fail : Mu := (yX12_fail, cX12_fail, 1, none)
def mX12_either : Mu := (yX12_either, cX12_either, 3, (some .int))
def mX12_both : Mu := (yX12_both, cX12_both, 3, (some .int))
def mX12_not : Mu := (yX12_not, cX12_not, 4, (some .int))
def mX12_opens : Mu := (yX12_opens, cX12_opens, 1, (some .boolean))
def mX12_added : Mu := (yX12_added, cX12_added, 4, (some .int))
def mX12_term : Mu := (yX12_term, cX12_term, 2, (some .int))
def mX12_one : Mu := (yX12_one, cX12_one, 2, (some .int))
def mX12_isSign : Mu := (yX12_isSign, cX12_isSign, 2, (some .boolean))
def mX12_name : Mu := (yX12_name, cX12_name, 1, (some .int))
def mX12_within : Mu := (yX12_within, cX12_within, 3, (some .int))
def mX12_at : Mu := (yX12_at, cX12_at, 2, (some .int))
def mX12_isCrossing : Mu := (yX12_isCrossing, cX12_isCrossing, 1, (some .boolean))
def mX12_feed : Mu := (yX12_feed, cX12_feed, 5, (some .int))
def mX12_text : Mu := (yX12_text, cX12_text, 2, (some .int))
def mX12_force : Mu := (yX12_force, cX12_force, 3, (some .int))
def mX12_falls : Mu := (yX12_falls, cX12_falls, 1, (some .int))
def mX12_fallsOf : Mu := (yX12_fallsOf, cX12_fallsOf, 6, (some .int))
def mX12_pull : Mu := (yX12_pull, cX12_pull, 5, (some .int))
def mX12_leftBy : Mu := (yX12_leftBy, cX12_leftBy, 7, (some .int))
def mX12_pulled : Mu := (yX12_pulled, cX12_pulled, 5, (some .int))
def mX12_least : Mu := (yX12_least, cX12_least, 10, (some .int))
def mX12_good : Mu := (yX12_good, cX12_good, 2, (some .long))
def mX12_goodOf : Mu := (yX12_goodOf, cX12_goodOf, 5, (some .int))
def mX12_next : Mu := (yX12_next, cX12_next, 2, (some .int))
def mX12_nextOf : Mu := (yX12_nextOf, cX12_nextOf, 7, (some .int))
def mX12_where : Mu := (yX12_where, cX12_where, 2, (some .int))
def mX12_build : Mu := (yX12_build, cX12_build, 4, (some .int))
def mX12_best : Mu := (yX12_best, cX12_best, 11, (some .int))
def mX12_leastHold : Mu := (yX12_leastHold, cX12_leastHold, 4, (some .int))
def mX12_takes : Mu := (yX12_takes, cX12_takes, 1, (some .int))
def mX12_isTaken : Mu := (yX12_isTaken, cX12_isTaken, 1, (some .boolean))
def mX12_covered : Mu := (yX12_covered, cX12_covered, 3, (some .int))
def mX12_greens : Mu := (yX12_greens, cX12_greens, 3, (some .int))
def mX12_when : Mu := (yX12_when, cX12_when, 4, (some .int))
def mX12_spare : Mu := (yX12_spare, cX12_spare, 4, (some .int))
def mX12_brown : Mu := (yX12_brown, cX12_brown, 4, (some .int))
def mX12_holes : Mu := (yX12_holes, cX12_holes, 7, (some .int))
def mX12_isBeyond : Mu := (yX12_isBeyond, cX12_isBeyond, 8, (some .boolean))
def mX12_closes : Mu := (yX12_closes, cX12_closes, 9, (some .int))
def mX12_slipped : Mu := (yX12_slipped, cX12_slipped, 4, (some .int))
def mX12_image : Mu := (yX12_image, cX12_image, 2, (some .int))
def mX12_back : Mu := (yX12_back, cX12_back, 2, (some .int))
def mX12_count : Mu := (yX12_count, cX12_count, 2, (some .int))
def mX12_sheet : Mu := (yX12_sheet, cX12_sheet, 5, (some .int))
def mX12_isSheet : Mu := (yX12_isSheet, cX12_isSheet, 1, (some .boolean))
def mX12_cell : Mu := (yX12_cell, cX12_cell, 4, (some .int))
def mX12_copy : Mu := (yX12_copy, cX12_copy, 9, (some .int))
def mX12_strips : Mu := (yX12_strips, cX12_strips, 8, (some .int))
def mX12_taken : Mu := (yX12_taken, cX12_taken, 4, (some .int))
def mX12_over : Mu := (yX12_over, cX12_over, 1, (some .int))
theorem k_X11_init : Cm mX11_init 0 := ⟨w_0083, w_0057, ⟨by decide +kernel, by decide +kernel⟩, by decide +kernel, by decide⟩
theorem k_X6_init : Cm mX6_init 0 := ⟨w_0091, w_0058, ⟨by decide +kernel, by decide +kernel⟩, by decide +kernel, by decide⟩
theorem k_J0_length_8abf5 : Cm mJ0_length_8abf5 0 := ⟨w_0135, w_0059, ⟨by decide +kernel, by decide +kernel⟩, by decide +kernel, by decide⟩
theorem k_J0_coder_7d493 : Cm mJ0_coder_7d493 0 := ⟨w_0139, w_0059, ⟨by decide +kernel, by decide +kernel⟩, by decide +kernel, by decide⟩
theorem k_J0_charAt_5068e : Cm mJ0_charAt_5068e 1 := ⟨w_0145, w_0059, ⟨by decide +kernel, by decide +kernel⟩, by decide +kernel, by decide⟩
theorem k_J0_isLatin1_aae02 : Cm mJ0_isLatin1_aae02 0 := ⟨w_0149, w_0059, ⟨by decide +kernel, by decide +kernel⟩, by decide +kernel, by decide⟩
theorem k_J1_charAt_3b067 : Cm mJ1_charAt_3b067 2 := ⟨w_0152, w_0060, ⟨by decide +kernel, by decide +kernel⟩, by decide +kernel, by decide⟩
theorem k_J0_checkIndex_df160 : Cm mJ0_checkIndex_df160 2 := ⟨w_0155, w_0059, ⟨by decide +kernel, by decide +kernel⟩, by decide +kernel, by decide⟩
theorem k_J3_checkIndex_8e157 : Cm mJ3_checkIndex_8e157 3 := ⟨w_0160, w_0061, ⟨by decide +kernel, by decide +kernel⟩, by decide +kernel, by decide⟩
theorem k_J2_charAt_3b067 : Cm mJ2_charAt_3b067 2 := ⟨w_0163, w_0062, ⟨by decide +kernel, by decide +kernel⟩, by decide +kernel, by decide⟩
theorem k_J2_checkIndex_2214a : Cm mJ2_checkIndex_2214a 2 := ⟨w_0166, w_0062, ⟨by decide +kernel, by decide +kernel⟩, by decide +kernel, by decide⟩
theorem k_J2_length_9d52b : Cm mJ2_length_9d52b 1 := ⟨w_0169, w_0062, ⟨by decide +kernel, by decide +kernel⟩, by decide +kernel, by decide⟩
theorem k_J2_getChar_3b067 : Cm mJ2_getChar_3b067 2 := ⟨w_0173, w_0062, ⟨by decide +kernel, by decide +kernel⟩, by decide +kernel, by decide⟩
theorem k_X6_append : Cm mX6_append 1 := ⟨w_0183, w_0058, ⟨by decide +kernel, by decide +kernel⟩, by decide +kernel, by decide⟩
theorem k_X6_readTape : Cm mX6_readTape 0 := ⟨w_0187, w_0058, ⟨by decide +kernel, by decide +kernel⟩, by decide +kernel, by decide⟩
theorem k_X6_advance : Cm mX6_advance 0 := ⟨w_0191, w_0058, ⟨by decide +kernel, by decide +kernel⟩, by decide +kernel, by decide⟩
theorem k_X6_isLetter : Cm mX6_isLetter 1 := ⟨w_0194, w_0058, ⟨by decide +kernel, by decide +kernel⟩, by decide +kernel, by decide⟩
theorem k_X6_word : Cm mX6_word 0 := ⟨w_0198, w_0058, ⟨by decide +kernel, by decide +kernel⟩, by decide +kernel, by decide⟩
theorem k_X6_nameHere : Cm mX6_nameHere 0 := ⟨w_0202, w_0058, ⟨by decide +kernel, by decide +kernel⟩, by decide +kernel, by decide⟩
theorem k_X6_spells : Cm mX6_spells 1 := ⟨w_0207, w_0058, ⟨by decide +kernel, by decide +kernel⟩, by decide +kernel, by decide⟩
theorem k_X6_keyHere : Cm mX6_keyHere 0 := ⟨w_0218, w_0058, ⟨by decide +kernel, by decide +kernel⟩, by decide +kernel, by decide⟩
theorem k_X6_isDigit : Cm mX6_isDigit 1 := ⟨w_0227, w_0058, ⟨by decide +kernel, by decide +kernel⟩, by decide +kernel, by decide⟩
theorem k_X6_digits : Cm mX6_digits 0 := ⟨w_0231, w_0058, ⟨by decide +kernel, by decide +kernel⟩, by decide +kernel, by decide⟩
theorem k_X6_isSign : Cm mX6_isSign 1 := ⟨w_0234, w_0058, ⟨by decide +kernel, by decide +kernel⟩, by decide +kernel, by decide⟩
theorem k_J0_indexOf_0f7a4 : Cm mJ0_indexOf_0f7a4 1 := ⟨w_0239, w_0059, ⟨by decide +kernel, by decide +kernel⟩, by decide +kernel, by decide⟩
theorem k_J0_indexOf_7cf53 : Cm mJ0_indexOf_7cf53 2 := ⟨w_0243, w_0059, ⟨by decide +kernel, by decide +kernel⟩, by decide +kernel, by decide⟩
theorem k_J1_indexOf_4cfef : Cm mJ1_indexOf_4cfef 4 := ⟨w_0247, w_0060, ⟨by decide +kernel, by decide +kernel⟩, by decide +kernel, by decide⟩
theorem k_J1_canEncode_9a6ad : Cm mJ1_canEncode_9a6ad 1 := ⟨w_0250, w_0060, ⟨by decide +kernel, by decide +kernel⟩, by decide +kernel, by decide⟩
theorem k_J9_max_7cf53 : Cm mJ9_max_7cf53 2 := ⟨w_0253, w_0063, ⟨by decide +kernel, by decide +kernel⟩, by decide +kernel, by decide⟩
theorem k_J9_min_7cf53 : Cm mJ9_min_7cf53 2 := ⟨w_0256, w_0063, ⟨by decide +kernel, by decide +kernel⟩, by decide +kernel, by decide⟩
theorem k_J1_indexOfChar_4cfef : Cm mJ1_indexOfChar_4cfef 4 := ⟨w_0259, w_0060, ⟨by decide +kernel, by decide +kernel⟩, by decide +kernel, by decide⟩
theorem k_J2_indexOf_4cfef : Cm mJ2_indexOf_4cfef 4 := ⟨w_0262, w_0062, ⟨by decide +kernel, by decide +kernel⟩, by decide +kernel, by decide⟩
theorem k_J2_indexOfChar_4cfef : Cm mJ2_indexOfChar_4cfef 4 := ⟨w_0268, w_0062, ⟨by decide +kernel, by decide +kernel⟩, by decide +kernel, by decide⟩
theorem k_J2_checkBoundsBeginEnd_d044e : Cm mJ2_checkBoundsBeginEnd_d044e 3 := ⟨w_0271, w_0062, ⟨by decide +kernel, by decide +kernel⟩, by decide +kernel, by decide⟩
theorem k_J0_checkBoundsBeginEnd_23922 : Cm mJ0_checkBoundsBeginEnd_23922 3 := ⟨w_0274, w_0059, ⟨by decide +kernel, by decide +kernel⟩, by decide +kernel, by decide⟩
theorem k_J3_checkFromToIndex_8c36e : Cm mJ3_checkFromToIndex_8c36e 4 := ⟨w_0277, w_0061, ⟨by decide +kernel, by decide +kernel⟩, by decide +kernel, by decide⟩
theorem k_J2_indexOfCharUnsafe_4cfef : Cm mJ2_indexOfCharUnsafe_4cfef 4 := ⟨w_0280, w_0062, ⟨by decide +kernel, by decide +kernel⟩, by decide +kernel, by decide⟩
theorem k_J2_indexOfSupplementary_4cfef : Cm mJ2_indexOfSupplementary_4cfef 4 := ⟨w_0283, w_0062, ⟨by decide +kernel, by decide +kernel⟩, by decide +kernel, by decide⟩
theorem k_J11_isValidCodePoint_9a6ad : Cm mJ11_isValidCodePoint_9a6ad 1 := ⟨w_0286, w_0064, ⟨by decide +kernel, by decide +kernel⟩, by decide +kernel, by decide⟩
theorem k_J11_highSurrogate_5068e : Cm mJ11_highSurrogate_5068e 1 := ⟨w_0289, w_0064, ⟨by decide +kernel, by decide +kernel⟩, by decide +kernel, by decide⟩
theorem k_J11_lowSurrogate_5068e : Cm mJ11_lowSurrogate_5068e 1 := ⟨w_0293, w_0064, ⟨by decide +kernel, by decide +kernel⟩, by decide +kernel, by decide⟩
theorem k_X6_part : Cm mX6_part 2 := ⟨w_0298, w_0058, ⟨by decide +kernel, by decide +kernel⟩, by decide +kernel, by decide⟩
theorem k_X6_expect : Cm mX6_expect 1 := ⟨w_0302, w_0058, ⟨by decide +kernel, by decide +kernel⟩, by decide +kernel, by decide⟩
theorem k_X6_refuse : Cm mX6_refuse 0 := ⟨w_0306, w_0058, ⟨by decide +kernel, by decide +kernel⟩, by decide +kernel, by decide⟩
theorem k_X6_either : Cm mX6_either 1 := ⟨w_0310, w_0058, ⟨by decide +kernel, by decide +kernel⟩, by decide +kernel, by decide⟩
theorem k_X6_both : Cm mX6_both 1 := ⟨w_0314, w_0058, ⟨by decide +kernel, by decide +kernel⟩, by decide +kernel, by decide⟩
theorem k_X6_denied : Cm mX6_denied 1 := ⟨w_0318, w_0058, ⟨by decide +kernel, by decide +kernel⟩, by decide +kernel, by decide⟩
theorem k_X6_emit : Cm mX6_emit 1 := ⟨w_0322, w_0058, ⟨by decide +kernel, by decide +kernel⟩, by decide +kernel, by decide⟩
theorem k_X6_sum : Cm mX6_sum 1 := ⟨w_0326, w_0058, ⟨by decide +kernel, by decide +kernel⟩, by decide +kernel, by decide⟩
theorem k_X6_term : Cm mX6_term 1 := ⟨w_0330, w_0058, ⟨by decide +kernel, by decide +kernel⟩, by decide +kernel, by decide⟩
theorem k_X6_one : Cm mX6_one 1 := ⟨w_0334, w_0058, ⟨by decide +kernel, by decide +kernel⟩, by decide +kernel, by decide⟩
theorem k_X6_made : Cm mX6_made 1 := ⟨w_0338, w_0058, ⟨by decide +kernel, by decide +kernel⟩, by decide +kernel, by decide⟩
theorem k_J7_copyOf_59c91 : Cm mJ7_copyOf_59c91 2 := ⟨w_0343, w_0066, ⟨by decide +kernel, by decide +kernel⟩, by decide +kernel, by decide⟩
theorem k_X9_init : Cm mX9_init 3 := ⟨w_0359, w_0065, ⟨by decide +kernel, by decide +kernel⟩, by decide +kernel, by decide⟩
theorem k_X4_init : Cm mX4_init 1 := ⟨w_0376, w_0068, ⟨by decide +kernel, by decide +kernel⟩, by decide +kernel, by decide⟩
theorem k_X0_init : Cm mX0_init 0 := ⟨w_0384, w_0069, ⟨by decide +kernel, by decide +kernel⟩, by decide +kernel, by decide⟩
theorem k_X7_init : Cm mX7_init 0 := ⟨w_0439, w_0070, ⟨by decide +kernel, by decide +kernel⟩, by decide +kernel, by decide⟩
theorem k_X11_lay : Cm mX11_lay 3 := ⟨w_0479, w_0057, ⟨by decide +kernel, by decide +kernel⟩, by decide +kernel, by decide⟩
theorem k_X11_canBeLaid : Cm mX11_canBeLaid 3 := ⟨w_0482, w_0057, ⟨by decide +kernel, by decide +kernel⟩, by decide +kernel, by decide⟩
theorem k_X11_isKnot : Cm mX11_isKnot 2 := ⟨w_0485, w_0057, ⟨by decide +kernel, by decide +kernel⟩, by decide +kernel, by decide⟩
theorem k_X11_fits : Cm mX11_fits 1 := ⟨w_0488, w_0057, ⟨by decide +kernel, by decide +kernel⟩, by decide +kernel, by decide⟩
theorem k_X11_firstOf : Cm mX11_firstOf 1 := ⟨w_0491, w_0057, ⟨by decide +kernel, by decide +kernel⟩, by decide +kernel, by decide⟩
theorem k_X11_isCrossing : Cm mX11_isCrossing 1 := ⟨w_0494, w_0057, ⟨by decide +kernel, by decide +kernel⟩, by decide +kernel, by decide⟩
theorem k_X11_wayOf : Cm mX11_wayOf 1 := ⟨w_0497, w_0057, ⟨by decide +kernel, by decide +kernel⟩, by decide +kernel, by decide⟩
theorem k_X11_longOf : Cm mX11_longOf 1 := ⟨w_0500, w_0057, ⟨by decide +kernel, by decide +kernel⟩, by decide +kernel, by decide⟩
theorem k_X11_isLong : Cm mX11_isLong 1 := ⟨w_0503, w_0057, ⟨by decide +kernel, by decide +kernel⟩, by decide +kernel, by decide⟩
theorem k_X4_leastFree : Cm mX4_leastFree 0 := ⟨w_0507, w_0068, ⟨by decide +kernel, by decide +kernel⟩, by decide +kernel, by decide⟩
theorem k_X11_knotOf : Cm mX11_knotOf 2 := ⟨w_0510, w_0057, ⟨by decide +kernel, by decide +kernel⟩, by decide +kernel, by decide⟩
theorem k_X3_init : Cm mX3_init 1 := ⟨w_0515, w_0073, ⟨by decide +kernel, by decide +kernel⟩, by decide +kernel, by decide⟩
theorem k_X10_init : Cm mX10_init 1 := ⟨w_0518, w_0072, ⟨by decide +kernel, by decide +kernel⟩, by decide +kernel, by decide⟩
theorem k_X2_init : Cm mX2_init 1 := ⟨w_0533, w_0074, ⟨by decide +kernel, by decide +kernel⟩, by decide +kernel, by decide⟩
theorem k_X8_init : Cm mX8_init 1 := ⟨w_0541, w_0075, ⟨by decide +kernel, by decide +kernel⟩, by decide +kernel, by decide⟩
theorem k_X1_init : Cm mX1_init 1 := ⟨w_0549, w_0076, ⟨by decide +kernel, by decide +kernel⟩, by decide +kernel, by decide⟩
theorem k_X5_init : Cm mX5_init 1 := ⟨w_0557, w_0077, ⟨by decide +kernel, by decide +kernel⟩, by decide +kernel, by decide⟩
theorem k_X4_put : Cm mX4_put 3 := ⟨w_0569, w_0068, ⟨by decide +kernel, by decide +kernel⟩, by decide +kernel, by decide⟩
theorem k_X11_stepOf : Cm mX11_stepOf 1 := ⟨w_0574, w_0057, ⟨by decide +kernel, by decide +kernel⟩, by decide +kernel, by decide⟩
theorem k_X11_out : Cm mX11_out 1 := ⟨w_0578, w_0057, ⟨by decide +kernel, by decide +kernel⟩, by decide +kernel, by decide⟩
theorem k_X4_has : Cm mX4_has 1 := ⟨w_0582, w_0068, ⟨by decide +kernel, by decide +kernel⟩, by decide +kernel, by decide⟩
theorem k_X4_drop : Cm mX4_drop 1 := ⟨w_0586, w_0068, ⟨by decide +kernel, by decide +kernel⟩, by decide +kernel, by decide⟩
theorem k_X4_size : Cm mX4_size 0 := ⟨w_0590, w_0068, ⟨by decide +kernel, by decide +kernel⟩, by decide +kernel, by decide⟩
theorem k_J6_bitCount_0f7a4 : Cm mJ6_bitCount_0f7a4 1 := ⟨w_0593, w_0078, ⟨by decide +kernel, by decide +kernel⟩, by decide +kernel, by decide⟩
theorem k_X11_hours : Cm mX11_hours 1 := ⟨w_0600, w_0057, ⟨by decide +kernel, by decide +kernel⟩, by decide +kernel, by decide⟩
theorem k_X11_green : Cm mX11_green 1 := ⟨w_0604, w_0057, ⟨by decide +kernel, by decide +kernel⟩, by decide +kernel, by decide⟩
theorem k_X11_told : Cm mX11_told 2 := ⟨w_0608, w_0057, ⟨by decide +kernel, by decide +kernel⟩, by decide +kernel, by decide⟩
theorem k_X4_ageOf : Cm mX4_ageOf 2 := ⟨w_0612, w_0068, ⟨by decide +kernel, by decide +kernel⟩, by decide +kernel, by decide⟩
theorem k_X1_kind : Cm mX1_kind 0 := ⟨w_0619, w_0076, ⟨by decide +kernel, by decide +kernel⟩, by decide +kernel, by decide⟩
theorem k_X2_kind : Cm mX2_kind 0 := ⟨w_0622, w_0074, ⟨by decide +kernel, by decide +kernel⟩, by decide +kernel, by decide⟩
theorem k_X3_kind : Cm mX3_kind 0 := ⟨w_0625, w_0073, ⟨by decide +kernel, by decide +kernel⟩, by decide +kernel, by decide⟩
theorem k_X5_kind : Cm mX5_kind 0 := ⟨w_0628, w_0077, ⟨by decide +kernel, by decide +kernel⟩, by decide +kernel, by decide⟩
theorem k_X8_kind : Cm mX8_kind 0 := ⟨w_0631, w_0075, ⟨by decide +kernel, by decide +kernel⟩, by decide +kernel, by decide⟩
theorem k_X10_kind : Cm mX10_kind 0 := ⟨w_0632, w_0072, ⟨by decide +kernel, by decide +kernel⟩, by decide +kernel, by decide⟩
theorem k_X1_knot : Cm mX1_knot 1 := ⟨w_0639, w_0076, ⟨by decide +kernel, by decide +kernel⟩, by decide +kernel, by decide⟩
theorem k_X2_knot : Cm mX2_knot 1 := ⟨w_0642, w_0074, ⟨by decide +kernel, by decide +kernel⟩, by decide +kernel, by decide⟩
theorem k_X3_knot : Cm mX3_knot 1 := ⟨w_0645, w_0073, ⟨by decide +kernel, by decide +kernel⟩, by decide +kernel, by decide⟩
theorem k_X5_knot : Cm mX5_knot 1 := ⟨w_0651, w_0077, ⟨by decide +kernel, by decide +kernel⟩, by decide +kernel, by decide⟩
theorem k_X8_knot : Cm mX8_knot 1 := ⟨w_0655, w_0075, ⟨by decide +kernel, by decide +kernel⟩, by decide +kernel, by decide⟩
theorem k_X10_knot : Cm mX10_knot 1 := ⟨w_0657, w_0072, ⟨by decide +kernel, by decide +kernel⟩, by decide +kernel, by decide⟩
theorem k_X5_slips : Cm mX5_slips 1 := ⟨w_0668, w_0077, ⟨by decide +kernel, by decide +kernel⟩, by decide +kernel, by decide⟩
theorem k_X8_slips : Cm mX8_slips 1 := ⟨w_0671, w_0075, ⟨by decide +kernel, by decide +kernel⟩, by decide +kernel, by decide⟩
theorem k_X10_slips : Cm mX10_slips 1 := ⟨w_0672, w_0072, ⟨by decide +kernel, by decide +kernel⟩, by decide +kernel, by decide⟩
theorem k_X1_ties : Cm mX1_ties 0 := ⟨w_0679, w_0076, ⟨by decide +kernel, by decide +kernel⟩, by decide +kernel, by decide⟩
theorem k_X3_ties : Cm mX3_ties 0 := ⟨w_0684, w_0073, ⟨by decide +kernel, by decide +kernel⟩, by decide +kernel, by decide⟩
theorem k_X10_ties : Cm mX10_ties 0 := ⟨w_0690, w_0072, ⟨by decide +kernel, by decide +kernel⟩, by decide +kernel, by decide⟩
theorem k_X4_crosses : Cm mX4_crosses 2 := ⟨w_0694, w_0068, ⟨by decide +kernel, by decide +kernel⟩, by decide +kernel, by decide⟩
theorem k_X4_met : Cm mX4_met 3 := ⟨w_0698, w_0068, ⟨by decide +kernel, by decide +kernel⟩, by decide +kernel, by decide⟩
theorem k_X4_rubs : Cm mX4_rubs 2 := ⟨w_0703, w_0068, ⟨by decide +kernel, by decide +kernel⟩, by decide +kernel, by decide⟩
theorem k_X4_hold : Cm mX4_hold 3 := ⟨w_0709, w_0068, ⟨by decide +kernel, by decide +kernel⟩, by decide +kernel, by decide⟩
theorem k_X4_nameStrip : Cm mX4_nameStrip 4 := ⟨w_0715, w_0068, ⟨by decide +kernel, by decide +kernel⟩, by decide +kernel, by decide⟩
theorem k_X4_name : Cm mX4_name 6 := ⟨w_0719, w_0068, ⟨by decide +kernel, by decide +kernel⟩, by decide +kernel, by decide⟩
theorem k_X9_worth : Cm mX9_worth 3 := ⟨w_0723, w_0065, ⟨by decide +kernel, by decide +kernel⟩, by decide +kernel, by decide⟩
theorem k_X9_ofOne : Cm mX9_ofOne 2 := ⟨w_0726, w_0065, ⟨by decide +kernel, by decide +kernel⟩, by decide +kernel, by decide⟩
theorem k_X9_bit : Cm mX9_bit 1 := ⟨w_0729, w_0065, ⟨by decide +kernel, by decide +kernel⟩, by decide +kernel, by decide⟩
theorem k_X9_ofTwo : Cm mX9_ofTwo 3 := ⟨w_0732, w_0065, ⟨by decide +kernel, by decide +kernel⟩, by decide +kernel, by decide⟩
theorem k_X4_isGreen : Cm mX4_isGreen 2 := ⟨w_0739, w_0068, ⟨by decide +kernel, by decide +kernel⟩, by decide +kernel, by decide⟩
theorem k_X11_at : Cm mX11_at 1 := ⟨w_0743, w_0057, ⟨by decide +kernel, by decide +kernel⟩, by decide +kernel, by decide⟩
theorem k_X11_feed : Cm mX11_feed 2 := ⟨w_0747, w_0057, ⟨by decide +kernel, by decide +kernel⟩, by decide +kernel, by decide⟩
theorem k_X11_text : Cm mX11_text 0 := ⟨w_0751, w_0057, ⟨by decide +kernel, by decide +kernel⟩, by decide +kernel, by decide⟩
theorem k_X11_force : Cm mX11_force 1 := ⟨w_0755, w_0057, ⟨by decide +kernel, by decide +kernel⟩, by decide +kernel, by decide⟩
theorem k_X11_pull : Cm mX11_pull 3 := ⟨w_0759, w_0057, ⟨by decide +kernel, by decide +kernel⟩, by decide +kernel, by decide⟩
theorem k_X11_isPull : Cm mX11_isPull 2 := ⟨w_0762, w_0057, ⟨by decide +kernel, by decide +kernel⟩, by decide +kernel, by decide⟩
theorem k_X4_takenByPull : Cm mX4_takenByPull 2 := ⟨w_0766, w_0068, ⟨by decide +kernel, by decide +kernel⟩, by decide +kernel, by decide⟩
theorem k_X4_looseAt : Cm mX4_looseAt 3 := ⟨w_0770, w_0068, ⟨by decide +kernel, by decide +kernel⟩, by decide +kernel, by decide⟩
theorem k_X4_withFallen : Cm mX4_withFallen 1 := ⟨w_0775, w_0068, ⟨by decide +kernel, by decide +kernel⟩, by decide +kernel, by decide⟩
theorem k_X4_falling : Cm mX4_falling 1 := ⟨w_0779, w_0068, ⟨by decide +kernel, by decide +kernel⟩, by decide +kernel, by decide⟩
theorem k_X4_hanging : Cm mX4_hanging 1 := ⟨w_0783, w_0068, ⟨by decide +kernel, by decide +kernel⟩, by decide +kernel, by decide⟩
theorem k_X11_pulled : Cm mX11_pulled 2 := ⟨w_0787, w_0057, ⟨by decide +kernel, by decide +kernel⟩, by decide +kernel, by decide⟩
theorem k_X4_lose : Cm mX4_lose 1 := ⟨w_0791, w_0068, ⟨by decide +kernel, by decide +kernel⟩, by decide +kernel, by decide⟩
theorem k_X11_falls : Cm mX11_falls 0 := ⟨w_0796, w_0057, ⟨by decide +kernel, by decide +kernel⟩, by decide +kernel, by decide⟩
theorem k_X11_least : Cm mX11_least 2 := ⟨w_0801, w_0057, ⟨by decide +kernel, by decide +kernel⟩, by decide +kernel, by decide⟩
theorem k_X4_leastPull : Cm mX4_leastPull 1 := ⟨w_0805, w_0068, ⟨by decide +kernel, by decide +kernel⟩, by decide +kernel, by decide⟩
theorem k_X4_weakestAt : Cm mX4_weakestAt 2 := ⟨w_0809, w_0068, ⟨by decide +kernel, by decide +kernel⟩, by decide +kernel, by decide⟩
theorem k_X11_good : Cm mX11_good 1 := ⟨w_0815, w_0057, ⟨by decide +kernel, by decide +kernel⟩, by decide +kernel, by decide⟩
theorem k_X4_worthNext : Cm mX4_worthNext 1 := ⟨w_0819, w_0068, ⟨by decide +kernel, by decide +kernel⟩, by decide +kernel, by decide⟩
theorem k_X11_next : Cm mX11_next 1 := ⟨w_0825, w_0057, ⟨by decide +kernel, by decide +kernel⟩, by decide +kernel, by decide⟩
theorem k_X4_nextOf : Cm mX4_nextOf 1 := ⟨w_0829, w_0068, ⟨by decide +kernel, by decide +kernel⟩, by decide +kernel, by decide⟩
theorem k_X0_clear : Cm mX0_clear 0 := ⟨w_0833, w_0069, ⟨by decide +kernel, by decide +kernel⟩, by decide +kernel, by decide⟩
theorem k_X11_placeOf : Cm mX11_placeOf 2 := ⟨w_0836, w_0057, ⟨by decide +kernel, by decide +kernel⟩, by decide +kernel, by decide⟩
theorem k_X0_offer : Cm mX0_offer 2 := ⟨w_0842, w_0069, ⟨by decide +kernel, by decide +kernel⟩, by decide +kernel, by decide⟩
theorem k_X11_build : Cm mX11_build 2 := ⟨w_0846, w_0057, ⟨by decide +kernel, by decide +kernel⟩, by decide +kernel, by decide⟩
theorem k_X11_best : Cm mX11_best 4 := ⟨w_0850, w_0057, ⟨by decide +kernel, by decide +kernel⟩, by decide +kernel, by decide⟩
theorem k_X4_bestOf : Cm mX4_bestOf 3 := ⟨w_0854, w_0068, ⟨by decide +kernel, by decide +kernel⟩, by decide +kernel, by decide⟩
theorem k_X4_leastHold : Cm mX4_leastHold 1 := ⟨w_0859, w_0068, ⟨by decide +kernel, by decide +kernel⟩, by decide +kernel, by decide⟩
theorem k_X11_takes : Cm mX11_takes 0 := ⟨w_0863, w_0057, ⟨by decide +kernel, by decide +kernel⟩, by decide +kernel, by decide⟩
theorem k_X4_isTaken : Cm mX4_isTaken 1 := ⟨w_0867, w_0068, ⟨by decide +kernel, by decide +kernel⟩, by decide +kernel, by decide⟩
theorem k_X4_covered : Cm mX4_covered 0 := ⟨w_0871, w_0068, ⟨by decide +kernel, by decide +kernel⟩, by decide +kernel, by decide⟩
theorem k_X4_greenBits : Cm mX4_greenBits 1 := ⟨w_0875, w_0068, ⟨by decide +kernel, by decide +kernel⟩, by decide +kernel, by decide⟩
theorem k_X11_when : Cm mX11_when 0 := ⟨w_0880, w_0057, ⟨by decide +kernel, by decide +kernel⟩, by decide +kernel, by decide⟩
theorem k_X11_spare : Cm mX11_spare 0 := ⟨w_0884, w_0057, ⟨by decide +kernel, by decide +kernel⟩, by decide +kernel, by decide⟩
theorem k_X11_brown : Cm mX11_brown 1 := ⟨w_0888, w_0057, ⟨by decide +kernel, by decide +kernel⟩, by decide +kernel, by decide⟩
theorem k_X11_holes : Cm mX11_holes 0 := ⟨w_0893, w_0057, ⟨by decide +kernel, by decide +kernel⟩, by decide +kernel, by decide⟩
theorem k_X4_holeBits : Cm mX4_holeBits 0 := ⟨w_0897, w_0068, ⟨by decide +kernel, by decide +kernel⟩, by decide +kernel, by decide⟩
theorem k_X4_isEnclosed : Cm mX4_isEnclosed 2 := ⟨w_0900, w_0068, ⟨by decide +kernel, by decide +kernel⟩, by decide +kernel, by decide⟩
theorem k_X11_closes : Cm mX11_closes 2 := ⟨w_0904, w_0057, ⟨by decide +kernel, by decide +kernel⟩, by decide +kernel, by decide⟩
theorem k_X4_closingOf : Cm mX4_closingOf 2 := ⟨w_0908, w_0068, ⟨by decide +kernel, by decide +kernel⟩, by decide +kernel, by decide⟩
theorem k_X4_crossingsOf : Cm mX4_crossingsOf 1 := ⟨w_0911, w_0068, ⟨by decide +kernel, by decide +kernel⟩, by decide +kernel, by decide⟩
theorem k_X11_slipped : Cm mX11_slipped 0 := ⟨w_0915, w_0057, ⟨by decide +kernel, by decide +kernel⟩, by decide +kernel, by decide⟩
theorem k_X4_slipping : Cm mX4_slipping 0 := ⟨w_0919, w_0068, ⟨by decide +kernel, by decide +kernel⟩, by decide +kernel, by decide⟩
theorem k_X11_image : Cm mX11_image 0 := ⟨w_0924, w_0057, ⟨by decide +kernel, by decide +kernel⟩, by decide +kernel, by decide⟩
theorem k_X4_becomes : Cm mX4_becomes 1 := ⟨w_0928, w_0068, ⟨by decide +kernel, by decide +kernel⟩, by decide +kernel, by decide⟩
theorem k_X11_back : Cm mX11_back 0 := ⟨w_0932, w_0057, ⟨by decide +kernel, by decide +kernel⟩, by decide +kernel, by decide⟩
theorem k_X11_count : Cm mX11_count 1 := ⟨w_0936, w_0057, ⟨by decide +kernel, by decide +kernel⟩, by decide +kernel, by decide⟩
theorem k_X11_sheet : Cm mX11_sheet 3 := ⟨w_0941, w_0057, ⟨by decide +kernel, by decide +kernel⟩, by decide +kernel, by decide⟩
theorem k_X11_isSheet : Cm mX11_isSheet 1 := ⟨w_0944, w_0057, ⟨by decide +kernel, by decide +kernel⟩, by decide +kernel, by decide⟩
theorem k_X11_isSort : Cm mX11_isSort 1 := ⟨w_0947, w_0057, ⟨by decide +kernel, by decide +kernel⟩, by decide +kernel, by decide⟩
theorem k_X7_becomes : Cm mX7_becomes 2 := ⟨w_0951, w_0070, ⟨by decide +kernel, by decide +kernel⟩, by decide +kernel, by decide⟩
theorem k_J7_fill_53178 : Cm mJ7_fill_53178 2 := ⟨w_0954, w_0066, ⟨by decide +kernel, by decide +kernel⟩, by decide +kernel, by decide⟩
theorem k_X11_cell : Cm mX11_cell 3 := ⟨w_0958, w_0057, ⟨by decide +kernel, by decide +kernel⟩, by decide +kernel, by decide⟩
theorem k_X7_write : Cm mX7_write 2 := ⟨w_0962, w_0070, ⟨by decide +kernel, by decide +kernel⟩, by decide +kernel, by decide⟩
theorem k_X11_copy : Cm mX11_copy 5 := ⟨w_0966, w_0057, ⟨by decide +kernel, by decide +kernel⟩, by decide +kernel, by decide⟩
theorem k_X7_holds : Cm mX7_holds 2 := ⟨w_0970, w_0070, ⟨by decide +kernel, by decide +kernel⟩, by decide +kernel, by decide⟩
theorem k_X11_strips : Cm mX11_strips 4 := ⟨w_0975, w_0057, ⟨by decide +kernel, by decide +kernel⟩, by decide +kernel, by decide⟩
theorem k_X11_taken : Cm mX11_taken 2 := ⟨w_0980, w_0057, ⟨by decide +kernel, by decide +kernel⟩, by decide +kernel, by decide⟩
theorem k_X11_isUnder : Cm mX11_isUnder 2 := ⟨w_0983, w_0057, ⟨by decide +kernel, by decide +kernel⟩, by decide +kernel, by decide⟩
theorem k_X12_init : Cm mX12_init 0 := ⟨w_0988, w_0071, ⟨by decide +kernel, by decide +kernel⟩, by decide +kernel, by decide⟩
theorem k_X12_spell : Cm mX12_spell 2 := ⟨w_0994, w_0071, ⟨by decide +kernel, by decide +kernel⟩, by decide +kernel, by decide⟩
theorem k_X12_lay : Cm mX12_lay 3 := ⟨w_1126, w_0071, ⟨by decide +kernel, by decide +kernel⟩, by decide +kernel, by decide⟩
theorem k_X12_in : Cm mX12_in 3 := ⟨w_1130, w_0071, ⟨by decide +kernel, by decide +kernel⟩, by decide +kernel, by decide⟩
theorem k_X12_isWhere : Cm mX12_isWhere 1 := ⟨w_1133, w_0071, ⟨by decide +kernel, by decide +kernel⟩, by decide +kernel, by decide⟩
theorem k_X12_free : Cm mX12_free 0 := ⟨w_1139, w_0071, ⟨by decide +kernel, by decide +kernel⟩, by decide +kernel, by decide⟩
theorem k_X12_lays : Cm mX12_lays 4 := ⟨w_1143, w_0071, ⟨by decide +kernel, by decide +kernel⟩, by decide +kernel, by decide⟩
theorem k_X12_coversOf : Cm mX12_coversOf 1 := ⟨w_1146, w_0071, ⟨by decide +kernel, by decide +kernel⟩, by decide +kernel, by decide⟩
theorem k_X12_out : Cm mX12_out 1 := ⟨w_1150, w_0071, ⟨by decide +kernel, by decide +kernel⟩, by decide +kernel, by decide⟩
theorem k_X12_isStrip : Cm mX12_isStrip 1 := ⟨w_1154, w_0071, ⟨by decide +kernel, by decide +kernel⟩, by decide +kernel, by decide⟩
theorem k_X12_bitsOf : Cm mX12_bitsOf 1 := ⟨w_1158, w_0071, ⟨by decide +kernel, by decide +kernel⟩, by decide +kernel, by decide⟩
theorem k_X12_hours : Cm mX12_hours 1 := ⟨w_1162, w_0071, ⟨by decide +kernel, by decide +kernel⟩, by decide +kernel, by decide⟩
theorem k_X12_green : Cm mX12_green 1 := ⟨w_1167, w_0071, ⟨by decide +kernel, by decide +kernel⟩, by decide +kernel, by decide⟩
theorem k_X12_told : Cm mX12_told 2 := ⟨w_1171, w_0071, ⟨by decide +kernel, by decide +kernel⟩, by decide +kernel, by decide⟩
theorem k_X12_ageOf : Cm mX12_ageOf 1 := ⟨w_1175, w_0071, ⟨by decide +kernel, by decide +kernel⟩, by decide +kernel, by decide⟩
theorem k_X12_knotOf : Cm mX12_knotOf 1 := ⟨w_1179, w_0071, ⟨by decide +kernel, by decide +kernel⟩, by decide +kernel, by decide⟩
theorem k_X12_slips : Cm mX12_slips 1 := ⟨w_1183, w_0071, ⟨by decide +kernel, by decide +kernel⟩, by decide +kernel, by decide⟩
theorem k_X12_tiesOf : Cm mX12_tiesOf 1 := ⟨w_1187, w_0071, ⟨by decide +kernel, by decide +kernel⟩, by decide +kernel, by decide⟩
theorem k_X12_crosses : Cm mX12_crosses 3 := ⟨w_1191, w_0071, ⟨by decide +kernel, by decide +kernel⟩, by decide +kernel, by decide⟩
theorem k_X12_at1 : Cm mX12_at1 2 := ⟨w_1195, w_0071, ⟨by decide +kernel, by decide +kernel⟩, by decide +kernel, by decide⟩
theorem k_X12_holdOf : Cm mX12_holdOf 2 := ⟨w_1199, w_0071, ⟨by decide +kernel, by decide +kernel⟩, by decide +kernel, by decide⟩
theorem k_X12_read : Cm mX12_read 8 := ⟨w_1203, w_0071, ⟨by decide +kernel, by decide +kernel⟩, by decide +kernel, by decide⟩
theorem k_X12_next1 : Cm mX12_next1 0 := ⟨w_1207, w_0071, ⟨by decide +kernel, by decide +kernel⟩, by decide +kernel, by decide⟩
theorem k_X12_byteAt : Cm mX12_byteAt 1 := ⟨w_1211, w_0071, ⟨by decide +kernel, by decide +kernel⟩, by decide +kernel, by decide⟩
theorem k_X12_part : Cm mX12_part 1 := ⟨w_1224, w_0071, ⟨by decide +kernel, by decide +kernel⟩, by decide +kernel, by decide⟩
theorem k_X12_isWord : Cm mX12_isWord 1 := ⟨w_1228, w_0071, ⟨by decide +kernel, by decide +kernel⟩, by decide +kernel, by decide⟩
theorem k_X12_fail : Cm mX12_fail 0 := ⟨w_1232, w_0071, ⟨by decide +kernel, by decide +kernel⟩, by decide +kernel, by decide⟩
theorem k_X12_either : Cm mX12_either 0 := ⟨w_1236, w_0071, ⟨by decide +kernel, by decide +kernel⟩, by decide +kernel, by decide⟩
theorem k_X12_both : Cm mX12_both 0 := ⟨w_1240, w_0071, ⟨by decide +kernel, by decide +kernel⟩, by decide +kernel, by decide⟩
theorem k_X12_not : Cm mX12_not 0 := ⟨w_1244, w_0071, ⟨by decide +kernel, by decide +kernel⟩, by decide +kernel, by decide⟩
theorem k_X12_opens : Cm mX12_opens 0 := ⟨w_1249, w_0071, ⟨by decide +kernel, by decide +kernel⟩, by decide +kernel, by decide⟩
theorem k_X12_added : Cm mX12_added 0 := ⟨w_1253, w_0071, ⟨by decide +kernel, by decide +kernel⟩, by decide +kernel, by decide⟩
theorem k_X12_term : Cm mX12_term 0 := ⟨w_1257, w_0071, ⟨by decide +kernel, by decide +kernel⟩, by decide +kernel, by decide⟩
theorem k_X12_one : Cm mX12_one 0 := ⟨w_1261, w_0071, ⟨by decide +kernel, by decide +kernel⟩, by decide +kernel, by decide⟩
theorem k_X12_isSign : Cm mX12_isSign 1 := ⟨w_1265, w_0071, ⟨by decide +kernel, by decide +kernel⟩, by decide +kernel, by decide⟩
theorem k_X12_name : Cm mX12_name 0 := ⟨w_1269, w_0071, ⟨by decide +kernel, by decide +kernel⟩, by decide +kernel, by decide⟩
theorem k_X12_within : Cm mX12_within 3 := ⟨w_1284, w_0071, ⟨by decide +kernel, by decide +kernel⟩, by decide +kernel, by decide⟩
theorem k_X12_at : Cm mX12_at 1 := ⟨w_1288, w_0071, ⟨by decide +kernel, by decide +kernel⟩, by decide +kernel, by decide⟩
theorem k_X12_isCrossing : Cm mX12_isCrossing 1 := ⟨w_1291, w_0071, ⟨by decide +kernel, by decide +kernel⟩, by decide +kernel, by decide⟩
theorem k_X12_feed : Cm mX12_feed 2 := ⟨w_1295, w_0071, ⟨by decide +kernel, by decide +kernel⟩, by decide +kernel, by decide⟩
theorem k_X12_text : Cm mX12_text 0 := ⟨w_1300, w_0071, ⟨by decide +kernel, by decide +kernel⟩, by decide +kernel, by decide⟩
theorem k_X12_force : Cm mX12_force 1 := ⟨w_1304, w_0071, ⟨by decide +kernel, by decide +kernel⟩, by decide +kernel, by decide⟩
theorem k_X12_falls : Cm mX12_falls 0 := ⟨w_1308, w_0071, ⟨by decide +kernel, by decide +kernel⟩, by decide +kernel, by decide⟩
theorem k_X12_fallsOf : Cm mX12_fallsOf 1 := ⟨w_1312, w_0071, ⟨by decide +kernel, by decide +kernel⟩, by decide +kernel, by decide⟩
theorem k_X12_pull : Cm mX12_pull 3 := ⟨w_1316, w_0071, ⟨by decide +kernel, by decide +kernel⟩, by decide +kernel, by decide⟩
theorem k_X12_leftBy : Cm mX12_leftBy 2 := ⟨w_1321, w_0071, ⟨by decide +kernel, by decide +kernel⟩, by decide +kernel, by decide⟩
theorem k_X12_pulled : Cm mX12_pulled 2 := ⟨w_1325, w_0071, ⟨by decide +kernel, by decide +kernel⟩, by decide +kernel, by decide⟩
theorem k_X12_least : Cm mX12_least 2 := ⟨w_1329, w_0071, ⟨by decide +kernel, by decide +kernel⟩, by decide +kernel, by decide⟩
theorem k_X12_good : Cm mX12_good 1 := ⟨w_1333, w_0071, ⟨by decide +kernel, by decide +kernel⟩, by decide +kernel, by decide⟩
theorem k_X12_goodOf : Cm mX12_goodOf 1 := ⟨w_1337, w_0071, ⟨by decide +kernel, by decide +kernel⟩, by decide +kernel, by decide⟩
theorem k_X12_next : Cm mX12_next 1 := ⟨w_1342, w_0071, ⟨by decide +kernel, by decide +kernel⟩, by decide +kernel, by decide⟩
theorem k_X12_nextOf : Cm mX12_nextOf 1 := ⟨w_1346, w_0071, ⟨by decide +kernel, by decide +kernel⟩, by decide +kernel, by decide⟩
theorem k_X12_where : Cm mX12_where 2 := ⟨w_1349, w_0071, ⟨by decide +kernel, by decide +kernel⟩, by decide +kernel, by decide⟩
theorem k_X12_build : Cm mX12_build 2 := ⟨w_1353, w_0071, ⟨by decide +kernel, by decide +kernel⟩, by decide +kernel, by decide⟩
theorem k_X12_best : Cm mX12_best 4 := ⟨w_1357, w_0071, ⟨by decide +kernel, by decide +kernel⟩, by decide +kernel, by decide⟩
theorem k_X12_leastHold : Cm mX12_leastHold 0 := ⟨w_1361, w_0071, ⟨by decide +kernel, by decide +kernel⟩, by decide +kernel, by decide⟩
theorem k_X12_takes : Cm mX12_takes 0 := ⟨w_1365, w_0071, ⟨by decide +kernel, by decide +kernel⟩, by decide +kernel, by decide⟩
theorem k_X12_isTaken : Cm mX12_isTaken 0 := ⟨w_1369, w_0071, ⟨by decide +kernel, by decide +kernel⟩, by decide +kernel, by decide⟩
theorem k_X12_covered : Cm mX12_covered 0 := ⟨w_1373, w_0071, ⟨by decide +kernel, by decide +kernel⟩, by decide +kernel, by decide⟩
theorem k_X12_greens : Cm mX12_greens 0 := ⟨w_1377, w_0071, ⟨by decide +kernel, by decide +kernel⟩, by decide +kernel, by decide⟩
theorem k_X12_when : Cm mX12_when 0 := ⟨w_1381, w_0071, ⟨by decide +kernel, by decide +kernel⟩, by decide +kernel, by decide⟩
theorem k_X12_spare : Cm mX12_spare 0 := ⟨w_1385, w_0071, ⟨by decide +kernel, by decide +kernel⟩, by decide +kernel, by decide⟩
theorem k_X12_brown : Cm mX12_brown 1 := ⟨w_1389, w_0071, ⟨by decide +kernel, by decide +kernel⟩, by decide +kernel, by decide⟩
theorem k_X12_holes : Cm mX12_holes 0 := ⟨w_1393, w_0071, ⟨by decide +kernel, by decide +kernel⟩, by decide +kernel, by decide⟩
theorem k_X12_isBeyond : Cm mX12_isBeyond 5 := ⟨w_1396, w_0071, ⟨by decide +kernel, by decide +kernel⟩, by decide +kernel, by decide⟩
theorem k_X12_closes : Cm mX12_closes 2 := ⟨w_1401, w_0071, ⟨by decide +kernel, by decide +kernel⟩, by decide +kernel, by decide⟩
theorem k_X12_slipped : Cm mX12_slipped 0 := ⟨w_1406, w_0071, ⟨by decide +kernel, by decide +kernel⟩, by decide +kernel, by decide⟩
theorem k_X12_image : Cm mX12_image 0 := ⟨w_1410, w_0071, ⟨by decide +kernel, by decide +kernel⟩, by decide +kernel, by decide⟩
theorem k_X12_back : Cm mX12_back 0 := ⟨w_1414, w_0071, ⟨by decide +kernel, by decide +kernel⟩, by decide +kernel, by decide⟩
theorem k_X12_count : Cm mX12_count 1 := ⟨w_1418, w_0071, ⟨by decide +kernel, by decide +kernel⟩, by decide +kernel, by decide⟩
theorem k_X12_sheet : Cm mX12_sheet 3 := ⟨w_1422, w_0071, ⟨by decide +kernel, by decide +kernel⟩, by decide +kernel, by decide⟩
theorem k_X12_isSheet : Cm mX12_isSheet 1 := ⟨w_1425, w_0071, ⟨by decide +kernel, by decide +kernel⟩, by decide +kernel, by decide⟩
theorem k_X12_cell : Cm mX12_cell 3 := ⟨w_1431, w_0071, ⟨by decide +kernel, by decide +kernel⟩, by decide +kernel, by decide⟩
theorem k_X12_copy : Cm mX12_copy 5 := ⟨w_1435, w_0071, ⟨by decide +kernel, by decide +kernel⟩, by decide +kernel, by decide⟩
theorem k_X12_strips : Cm mX12_strips 4 := ⟨w_1439, w_0071, ⟨by decide +kernel, by decide +kernel⟩, by decide +kernel, by decide⟩
theorem k_X12_taken : Cm mX12_taken 2 := ⟨w_1445, w_0071, ⟨by decide +kernel, by decide +kernel⟩, by decide +kernel, by decide⟩
theorem k_X12_over : Cm mX12_over 1 := ⟨w_1448, w_0071, ⟨by decide +kernel, by decide +kernel⟩, by decide +kernel, by decide⟩
theorem u_X0 : ∀ w ∈ wsX00, Wd w := by
  intro w hw
  obtain ⟨k, hk, rfl⟩ := List.mem_map.mp hw
  have hk := List.mem_range.mp hk
  match k, hk with
  | 0, _ => exact w_0390
  | 1, _ => exact w_0392
  | k + 2, hk => exact absurd hk (by omega)
theorem u_X1 : ∀ w ∈ wsX10, Wd w := by
  intro w hw
  obtain ⟨k, hk, rfl⟩ := List.mem_map.mp hw
  have hk := List.mem_range.mp hk
  match k, hk with
  | 0, _ => exact w_0551
  | k + 1, hk => exact absurd hk (by omega)
theorem u_X2 : ∀ w ∈ wsX20, Wd w := by
  intro w hw
  obtain ⟨k, hk, rfl⟩ := List.mem_map.mp hw
  have hk := List.mem_range.mp hk
  match k, hk with
  | 0, _ => exact w_0535
  | k + 1, hk => exact absurd hk (by omega)
theorem u_X3 : ∀ w ∈ wsX30, Wd w := by
  intro w hw
  obtain ⟨k, hk, rfl⟩ := List.mem_map.mp hw
  have hk := List.mem_range.mp hk
  match k, hk with
  | 0, _ => exact w_0526
  | k + 1, hk => exact absurd hk (by omega)
theorem u_X4 : ∀ w ∈ wsX40, Wd w := by
  intro w hw
  obtain ⟨k, hk, rfl⟩ := List.mem_map.mp hw
  have hk := List.mem_range.mp hk
  match k, hk with
  | 0, _ => exact w_0413
  | 1, _ => exact w_0415
  | 2, _ => exact w_0417
  | 3, _ => exact w_0419
  | 4, _ => exact w_0421
  | 5, _ => exact w_0423
  | 6, _ => exact w_0425
  | 7, _ => exact w_0427
  | 8, _ => exact w_0429
  | 9, _ => exact w_0431
  | 10, _ => exact w_0433
  | k + 11, hk => exact absurd hk (by omega)
theorem u_X5 : ∀ w ∈ wsX50, Wd w := by
  intro w hw
  obtain ⟨k, hk, rfl⟩ := List.mem_map.mp hw
  have hk := List.mem_range.mp hk
  match k, hk with
  | 0, _ => exact w_0559
  | k + 1, hk => exact absurd hk (by omega)
theorem u_X6 : ∀ w ∈ wsX60, Wd w := by
  intro w hw
  obtain ⟨k, hk, rfl⟩ := List.mem_map.mp hw
  have hk := List.mem_range.mp hk
  match k, hk with
  | 0, _ => exact w_0104
  | 1, _ => exact w_0106
  | 2, _ => exact w_0108
  | 3, _ => exact w_0110
  | 4, _ => exact w_0112
  | 5, _ => exact w_0114
  | 6, _ => exact w_0116
  | 7, _ => exact w_0118
  | 8, _ => exact w_0120
  | 9, _ => exact w_0122
  | k + 10, hk => exact absurd hk (by omega)
theorem u_X7 : ∀ w ∈ wsX70, Wd w := by
  intro w hw
  obtain ⟨k, hk, rfl⟩ := List.mem_map.mp hw
  have hk := List.mem_range.mp hk
  match k, hk with
  | 0, _ => exact w_0447
  | 1, _ => exact w_0449
  | 2, _ => exact w_0451
  | k + 3, hk => exact absurd hk (by omega)
theorem u_X8 : ∀ w ∈ wsX80, Wd w := by
  intro w hw
  obtain ⟨k, hk, rfl⟩ := List.mem_map.mp hw
  have hk := List.mem_range.mp hk
  match k, hk with
  | 0, _ => exact w_0543
  | k + 1, hk => exact absurd hk (by omega)
theorem u_X9 : ∀ w ∈ wsX90, Wd w := by
  intro w hw
  obtain ⟨k, hk, rfl⟩ := List.mem_map.mp hw
  have hk := List.mem_range.mp hk
  match k, hk with
  | 0, _ => exact w_0365
  | 1, _ => exact w_0367
  | 2, _ => exact w_0369
  | k + 3, hk => exact absurd hk (by omega)
theorem u_X10 : ∀ w ∈ wsX100, Wd w := by
  intro w hw
  obtain ⟨k, hk, rfl⟩ := List.mem_map.mp hw
  have hk := List.mem_range.mp hk
  match k, hk with
  | 0, _ => exact w_0564
  | k + 1, hk => exact absurd hk (by omega)
theorem u_X11 : ∀ w ∈ wsX110, Wd w := by
  intro w hw
  obtain ⟨k, hk, rfl⟩ := List.mem_map.mp hw
  have hk := List.mem_range.mp hk
  match k, hk with
  | 0, _ => exact w_0461
  | 1, _ => exact w_0463
  | 2, _ => exact w_0465
  | 3, _ => exact w_0467
  | 4, _ => exact w_0469
  | 5, _ => exact w_0471
  | 6, _ => exact w_0473
  | k + 7, hk => exact absurd hk (by omega)
theorem u_X12 : ∀ w ∈ wsX120, Wd w := by
  intro w hw
  obtain ⟨k, hk, rfl⟩ := List.mem_map.mp hw
  have hk := List.mem_range.mp hk
  match k, hk with
  | 0, _ => exact w_1041
  | 1, _ => exact w_1043
  | 2, _ => exact w_1045
  | 3, _ => exact w_1047
  | 4, _ => exact w_1049
  | 5, _ => exact w_1051
  | 6, _ => exact w_1053
  | 7, _ => exact w_1055
  | 8, _ => exact w_1057
  | 9, _ => exact w_1059
  | 10, _ => exact w_1061
  | 11, _ => exact w_1063
  | 12, _ => exact w_1065
  | 13, _ => exact w_1067
  | 14, _ => exact w_1069
  | 15, _ => exact w_1071
  | 16, _ => exact w_1073
  | 17, _ => exact w_1075
  | 18, _ => exact w_1077
  | 19, _ => exact w_1079
  | 20, _ => exact w_1081
  | 21, _ => exact w_1083
  | 22, _ => exact w_1085
  | 23, _ => exact w_1087
  | 24, _ => exact w_1089
  | 25, _ => exact w_1091
  | 26, _ => exact w_1093
  | 27, _ => exact w_1095
  | 28, _ => exact w_1097
  | 29, _ => exact w_1099
  | 30, _ => exact w_1101
  | 31, _ => exact w_1103
  | 32, _ => exact w_1105
  | 33, _ => exact w_1107
  | 34, _ => exact w_1109
  | 35, _ => exact w_1111
  | 36, _ => exact w_1113
  | 37, _ => exact w_1115
  | 38, _ => exact w_1117
  | 39, _ => exact w_1119
  | k + 40, hk => exact absurd hk (by omega)
theorem f_X6_22_6 : FA RX6 22 6 0 := ⟨RX6, TX6, 10, "NestsByKnots$Reader", rfl, by decide, u_X6, w_0093, Or.inl rfl⟩
theorem p_X6_22_6 : FP RX6 22 6 0 .int false := ⟨RX6, TX6, 10, tyX6, rfl, by decide, u_X6, w_0093, tyX6_ok, nmX6, rfl, by decide +kernel, fun h => absurd h (by decide)⟩
theorem f_X11_155_6 : FA RX11 155 6 0 := ⟨RX6, TX6, 10, "NestsByKnots$Reader", rfl, by decide, u_X6, w_0094, Or.inl rfl⟩
theorem p_X11_155_6 : FP RX11 155 6 0 .int false := ⟨RX6, TX6, 10, tyX6, rfl, by decide, u_X6, w_0094, tyX6_ok, nmX6, rfl, by decide +kernel, fun h => absurd h (by decide)⟩
theorem f_X6_9_6 : FA RX6 9 6 1 := ⟨RX6, TX6, 10, "NestsByKnots$Reader", rfl, by decide, u_X6, w_0095, Or.inl rfl⟩
theorem p_X6_9_6 : FP RX6 9 6 1 (.array .byte) true := ⟨RX6, TX6, 10, tyX6, rfl, by decide, u_X6, w_0095, tyX6_ok, nmX6, rfl, by decide +kernel, fun _ => rfl⟩
theorem f_X6_26_6 : FA RX6 26 6 2 := ⟨RX6, TX6, 10, "NestsByKnots$Reader", rfl, by decide, u_X6, w_0096, Or.inl rfl⟩
theorem p_X6_26_6 : FP RX6 26 6 2 .int false := ⟨RX6, TX6, 10, tyX6, rfl, by decide, u_X6, w_0096, tyX6_ok, nmX6, rfl, by decide +kernel, fun h => absurd h (by decide)⟩
theorem f_X6_71_6 : FA RX6 71 6 3 := ⟨RX6, TX6, 10, "NestsByKnots$Reader", rfl, by decide, u_X6, w_0097, Or.inl rfl⟩
theorem p_X6_71_6 : FP RX6 71 6 3 .int false := ⟨RX6, TX6, 10, tyX6, rfl, by decide, u_X6, w_0097, tyX6_ok, nmX6, rfl, by decide +kernel, fun h => absurd h (by decide)⟩
theorem f_X6_42_6 : FA RX6 42 6 4 := ⟨RX6, TX6, 10, "NestsByKnots$Reader", rfl, by decide, u_X6, w_0098, Or.inl rfl⟩
theorem p_X6_42_6 : FP RX6 42 6 4 .int false := ⟨RX6, TX6, 10, tyX6, rfl, by decide, u_X6, w_0098, tyX6_ok, nmX6, rfl, by decide +kernel, fun h => absurd h (by decide)⟩
theorem f_X6_92_6 : FA RX6 92 6 5 := ⟨RX6, TX6, 10, "NestsByKnots$Reader", rfl, by decide, u_X6, w_0099, Or.inl rfl⟩
theorem p_X6_92_6 : FP RX6 92 6 5 .int false := ⟨RX6, TX6, 10, tyX6, rfl, by decide, u_X6, w_0099, tyX6_ok, nmX6, rfl, by decide +kernel, fun h => absurd h (by decide)⟩
theorem f_X6_32_6 : FA RX6 32 6 6 := ⟨RX6, TX6, 10, "NestsByKnots$Reader", rfl, by decide, u_X6, w_0100, Or.inl rfl⟩
theorem p_X6_32_6 : FP RX6 32 6 6 .int false := ⟨RX6, TX6, 10, tyX6, rfl, by decide, u_X6, w_0100, tyX6_ok, nmX6, rfl, by decide +kernel, fun h => absurd h (by decide)⟩
theorem f_X6_15_6 : FA RX6 15 6 7 := ⟨RX6, TX6, 10, "NestsByKnots$Reader", rfl, by decide, u_X6, w_0101, Or.inl rfl⟩
theorem p_X6_15_6 : FP RX6 15 6 7 (.array .int) true := ⟨RX6, TX6, 10, tyX6, rfl, by decide, u_X6, w_0101, tyX6_ok, nmX6, rfl, by decide +kernel, fun _ => rfl⟩
theorem f_X6_29_6 : FA RX6 29 6 8 := ⟨RX6, TX6, 10, "NestsByKnots$Reader", rfl, by decide, u_X6, w_0102, Or.inl rfl⟩
theorem p_X6_29_6 : FP RX6 29 6 8 .int false := ⟨RX6, TX6, 10, tyX6, rfl, by decide, u_X6, w_0102, tyX6_ok, nmX6, rfl, by decide +kernel, fun h => absurd h (by decide)⟩
theorem f_X6_19_6 : FA RX6 19 6 9 := ⟨RX6, TX6, 10, "NestsByKnots$Reader", rfl, by decide, u_X6, w_0103, Or.inl rfl⟩
theorem p_X6_19_6 : FP RX6 19 6 9 (.array .int) true := ⟨RX6, TX6, 10, tyX6, rfl, by decide, u_X6, w_0103, tyX6_ok, nmX6, rfl, by decide +kernel, fun _ => rfl⟩
theorem f_X9_9_9 : FA RX9 9 9 0 := ⟨RX9, TX9, 3, "NestsByKnots$Text", rfl, by decide, u_X9, w_0361, Or.inl rfl⟩
theorem p_X9_9_9 : FP RX9 9 9 0 .int true := ⟨RX9, TX9, 3, tyX9, rfl, by decide, u_X9, w_0361, tyX9_ok, nmX9, rfl, by decide +kernel, fun _ => rfl⟩
theorem f_X11_161_9 : FA RX11 161 9 0 := ⟨RX9, TX9, 3, "NestsByKnots$Text", rfl, by decide, u_X9, w_0362, Or.inl rfl⟩
theorem f_X9_15_9 : FA RX9 15 9 1 := ⟨RX9, TX9, 3, "NestsByKnots$Text", rfl, by decide, u_X9, w_0363, Or.inl rfl⟩
theorem p_X9_15_9 : FP RX9 15 9 1 (.array .int) true := ⟨RX9, TX9, 3, tyX9, rfl, by decide, u_X9, w_0363, tyX9_ok, nmX9, rfl, by decide +kernel, fun _ => rfl⟩
theorem f_X9_19_9 : FA RX9 19 9 2 := ⟨RX9, TX9, 3, "NestsByKnots$Text", rfl, by decide, u_X9, w_0364, Or.inl rfl⟩
theorem p_X9_19_9 : FP RX9 19 9 2 (.array .int) true := ⟨RX9, TX9, 3, tyX9, rfl, by decide, u_X9, w_0364, tyX9_ok, nmX9, rfl, by decide +kernel, fun _ => rfl⟩
theorem f_X0_9_0 : FA RX0 9 0 0 := ⟨RX0, TX0, 2, "NestsByKnots$Choice", rfl, by decide, u_X0, w_0386, Or.inl rfl⟩
theorem p_X0_9_0 : FP RX0 9 0 0 .int false := ⟨RX0, TX0, 2, tyX0, rfl, by decide, u_X0, w_0386, tyX0_ok, nmX0, rfl, by decide +kernel, fun h => absurd h (by decide)⟩
theorem f_X11_205_0 : FA RX11 205 0 0 := ⟨RX0, TX0, 2, "NestsByKnots$Choice", rfl, by decide, u_X0, w_0387, Or.inl rfl⟩
theorem p_X11_205_0 : FP RX11 205 0 0 .int false := ⟨RX0, TX0, 2, tyX0, rfl, by decide, u_X0, w_0387, tyX0_ok, nmX0, rfl, by decide +kernel, fun h => absurd h (by decide)⟩
theorem f_X0_15_0 : FA RX0 15 0 1 := ⟨RX0, TX0, 2, "NestsByKnots$Choice", rfl, by decide, u_X0, w_0388, Or.inl rfl⟩
theorem p_X0_15_0 : FP RX0 15 0 1 .int false := ⟨RX0, TX0, 2, tyX0, rfl, by decide, u_X0, w_0388, tyX0_ok, nmX0, rfl, by decide +kernel, fun h => absurd h (by decide)⟩
theorem f_X11_217_0 : FA RX11 217 0 1 := ⟨RX0, TX0, 2, "NestsByKnots$Choice", rfl, by decide, u_X0, w_0389, Or.inl rfl⟩
theorem p_X11_217_0 : FP RX11 217 0 1 .int false := ⟨RX0, TX0, 2, tyX0, rfl, by decide, u_X0, w_0389, tyX0_ok, nmX0, rfl, by decide +kernel, fun h => absurd h (by decide)⟩
theorem f_X4_11_4 : FA RX4 11 4 0 := ⟨RX4, TX4, 11, "NestsByKnots$Net", rfl, by decide, u_X4, w_0395, Or.inl rfl⟩
theorem p_X4_11_4 : FP RX4 11 4 0 (.array (.object "NestsByKnots$Tuck")) true := ⟨RX4, TX4, 11, tyX4, rfl, by decide, u_X4, w_0395, tyX4_ok, nmX4, rfl, by decide +kernel, fun _ => rfl⟩
theorem f_X11_100_4 : FA RX11 100 4 0 := ⟨RX4, TX4, 11, "NestsByKnots$Net", rfl, by decide, u_X4, w_0396, Or.inl rfl⟩
theorem f_X4_17_4 : FA RX4 17 4 1 := ⟨RX4, TX4, 11, "NestsByKnots$Net", rfl, by decide, u_X4, w_0397, Or.inl rfl⟩
theorem p_X4_17_4 : FP RX4 17 4 1 (.array .int) true := ⟨RX4, TX4, 11, tyX4, rfl, by decide, u_X4, w_0397, tyX4_ok, nmX4, rfl, by decide +kernel, fun _ => rfl⟩
theorem f_X11_113_4 : FA RX11 113 4 1 := ⟨RX4, TX4, 11, "NestsByKnots$Net", rfl, by decide, u_X4, w_0398, Or.inl rfl⟩
theorem f_X4_21_4 : FA RX4 21 4 2 := ⟨RX4, TX4, 11, "NestsByKnots$Net", rfl, by decide, u_X4, w_0399, Or.inl rfl⟩
theorem p_X4_21_4 : FP RX4 21 4 2 (.array .int) true := ⟨RX4, TX4, 11, tyX4, rfl, by decide, u_X4, w_0399, tyX4_ok, nmX4, rfl, by decide +kernel, fun _ => rfl⟩
theorem f_X4_24_4 : FA RX4 24 4 3 := ⟨RX4, TX4, 11, "NestsByKnots$Net", rfl, by decide, u_X4, w_0400, Or.inl rfl⟩
theorem p_X4_24_4 : FP RX4 24 4 3 (.array .int) true := ⟨RX4, TX4, 11, tyX4, rfl, by decide, u_X4, w_0400, tyX4_ok, nmX4, rfl, by decide +kernel, fun _ => rfl⟩
theorem f_X11_152_4 : FA RX11 152 4 3 := ⟨RX4, TX4, 11, "NestsByKnots$Net", rfl, by decide, u_X4, w_0401, Or.inl rfl⟩
theorem f_X4_48_4 : FA RX4 48 4 4 := ⟨RX4, TX4, 11, "NestsByKnots$Net", rfl, by decide, u_X4, w_0402, Or.inl rfl⟩
theorem p_X4_48_4 : FP RX4 48 4 4 .int false := ⟨RX4, TX4, 11, tyX4, rfl, by decide, u_X4, w_0402, tyX4_ok, nmX4, rfl, by decide +kernel, fun h => absurd h (by decide)⟩
theorem f_X11_132_4 : FA RX11 132 4 4 := ⟨RX4, TX4, 11, "NestsByKnots$Net", rfl, by decide, u_X4, w_0403, Or.inl rfl⟩
theorem p_X11_132_4 : FP RX11 132 4 4 .int false := ⟨RX4, TX4, 11, tyX4, rfl, by decide, u_X4, w_0403, tyX4_ok, nmX4, rfl, by decide +kernel, fun h => absurd h (by decide)⟩
theorem f_X11_94_4 : FA RX11 94 4 5 := ⟨RX4, TX4, 11, "NestsByKnots$Net", rfl, by decide, u_X4, w_0404, Or.inl rfl⟩
theorem p_X11_94_4 : FP RX11 94 4 5 .int false := ⟨RX4, TX4, 11, tyX4, rfl, by decide, u_X4, w_0404, tyX4_ok, nmX4, rfl, by decide +kernel, fun h => absurd h (by decide)⟩
theorem f_X4_57_4 : FA RX4 57 4 5 := ⟨RX4, TX4, 11, "NestsByKnots$Net", rfl, by decide, u_X4, w_0405, Or.inl rfl⟩
theorem p_X4_57_4 : FP RX4 57 4 5 .int false := ⟨RX4, TX4, 11, tyX4, rfl, by decide, u_X4, w_0405, tyX4_ok, nmX4, rfl, by decide +kernel, fun h => absurd h (by decide)⟩
theorem f_X4_27_4 : FA RX4 27 4 6 := ⟨RX4, TX4, 11, "NestsByKnots$Net", rfl, by decide, u_X4, w_0406, Or.inl rfl⟩
theorem p_X4_27_4 : FP RX4 27 4 6 .int false := ⟨RX4, TX4, 11, tyX4, rfl, by decide, u_X4, w_0406, tyX4_ok, nmX4, rfl, by decide +kernel, fun h => absurd h (by decide)⟩
theorem f_X11_97_4 : FA RX11 97 4 6 := ⟨RX4, TX4, 11, "NestsByKnots$Net", rfl, by decide, u_X4, w_0407, Or.inl rfl⟩
theorem p_X11_97_4 : FP RX11 97 4 6 .int false := ⟨RX4, TX4, 11, tyX4, rfl, by decide, u_X4, w_0407, tyX4_ok, nmX4, rfl, by decide +kernel, fun h => absurd h (by decide)⟩
theorem f_X4_44_4 : FA RX4 44 4 7 := ⟨RX4, TX4, 11, "NestsByKnots$Net", rfl, by decide, u_X4, w_0408, Or.inl rfl⟩
theorem p_X4_44_4 : FP RX4 44 4 7 (.object "NestsByKnots$Text") false := ⟨RX4, TX4, 11, tyX4, rfl, by decide, u_X4, w_0408, tyX4_ok, nmX4, rfl, by decide +kernel, fun h => absurd h (by decide)⟩
theorem f_X11_157_4 : FA RX11 157 4 7 := ⟨RX4, TX4, 11, "NestsByKnots$Net", rfl, by decide, u_X4, w_0409, Or.inl rfl⟩
theorem p_X11_157_4 : FP RX11 157 4 7 (.object "NestsByKnots$Text") false := ⟨RX4, TX4, 11, tyX4, rfl, by decide, u_X4, w_0409, tyX4_ok, nmX4, rfl, by decide +kernel, fun h => absurd h (by decide)⟩
theorem f_X4_31_4 : FA RX4 31 4 8 := ⟨RX4, TX4, 11, "NestsByKnots$Net", rfl, by decide, u_X4, w_0410, Or.inl rfl⟩
theorem p_X4_31_4 : FP RX4 31 4 8 (.array .int) true := ⟨RX4, TX4, 11, tyX4, rfl, by decide, u_X4, w_0410, tyX4_ok, nmX4, rfl, by decide +kernel, fun _ => rfl⟩
theorem f_X4_34_4 : FA RX4 34 4 9 := ⟨RX4, TX4, 11, "NestsByKnots$Net", rfl, by decide, u_X4, w_0411, Or.inl rfl⟩
theorem p_X4_34_4 : FP RX4 34 4 9 (.array .int) true := ⟨RX4, TX4, 11, tyX4, rfl, by decide, u_X4, w_0411, tyX4_ok, nmX4, rfl, by decide +kernel, fun _ => rfl⟩
theorem f_X4_40_4 : FA RX4 40 4 10 := ⟨RX4, TX4, 11, "NestsByKnots$Net", rfl, by decide, u_X4, w_0412, Or.inl rfl⟩
theorem p_X4_40_4 : FP RX4 40 4 10 (.object "NestsByKnots$Choice") true := ⟨RX4, TX4, 11, tyX4, rfl, by decide, u_X4, w_0412, tyX4_ok, nmX4, rfl, by decide +kernel, fun _ => rfl⟩
theorem f_X7_9_7 : FA RX7 9 7 0 := ⟨RX7, TX7, 3, "NestsByKnots$Sheet", rfl, by decide, u_X7, w_0441, Or.inl rfl⟩
theorem p_X7_9_7 : FP RX7 9 7 0 .int false := ⟨RX7, TX7, 3, tyX7, rfl, by decide, u_X7, w_0441, tyX7_ok, nmX7, rfl, by decide +kernel, fun h => absurd h (by decide)⟩
theorem f_X11_256_7 : FA RX11 256 7 0 := ⟨RX7, TX7, 3, "NestsByKnots$Sheet", rfl, by decide, u_X7, w_0442, Or.inl rfl⟩
theorem p_X11_256_7 : FP RX11 256 7 0 .int false := ⟨RX7, TX7, 3, tyX7, rfl, by decide, u_X7, w_0442, tyX7_ok, nmX7, rfl, by decide +kernel, fun h => absurd h (by decide)⟩
theorem f_X7_19_7 : FA RX7 19 7 1 := ⟨RX7, TX7, 3, "NestsByKnots$Sheet", rfl, by decide, u_X7, w_0443, Or.inl rfl⟩
theorem p_X7_19_7 : FP RX7 19 7 1 .int false := ⟨RX7, TX7, 3, tyX7, rfl, by decide, u_X7, w_0443, tyX7_ok, nmX7, rfl, by decide +kernel, fun h => absurd h (by decide)⟩
theorem f_X11_259_7 : FA RX11 259 7 1 := ⟨RX7, TX7, 3, "NestsByKnots$Sheet", rfl, by decide, u_X7, w_0444, Or.inl rfl⟩
theorem p_X11_259_7 : FP RX11 259 7 1 .int false := ⟨RX7, TX7, 3, tyX7, rfl, by decide, u_X7, w_0444, tyX7_ok, nmX7, rfl, by decide +kernel, fun h => absurd h (by decide)⟩
theorem f_X7_15_7 : FA RX7 15 7 2 := ⟨RX7, TX7, 3, "NestsByKnots$Sheet", rfl, by decide, u_X7, w_0445, Or.inl rfl⟩
theorem p_X7_15_7 : FP RX7 15 7 2 (.array .int) true := ⟨RX7, TX7, 3, tyX7, rfl, by decide, u_X7, w_0445, tyX7_ok, nmX7, rfl, by decide +kernel, fun _ => rfl⟩
theorem f_X11_266_7 : FA RX11 266 7 2 := ⟨RX7, TX7, 3, "NestsByKnots$Sheet", rfl, by decide, u_X7, w_0446, Or.inl rfl⟩
theorem f_X11_10_11 : FA RX11 10 11 0 := ⟨RX11, TX11, 7, "NestsByKnots", rfl, by decide, u_X11, w_0454, Or.inl rfl⟩
theorem p_X11_10_11 : FP RX11 10 11 0 (.object "NestsByKnots$Reader") true := ⟨RX11, TX11, 7, tyX11, rfl, by decide, u_X11, w_0454, tyX11_ok, nmX11, rfl, by decide +kernel, fun _ => rfl⟩
theorem f_X11_18_11 : FA RX11 18 11 1 := ⟨RX11, TX11, 7, "NestsByKnots", rfl, by decide, u_X11, w_0455, Or.inl rfl⟩
theorem p_X11_18_11 : FP RX11 18 11 1 (.array (.object "NestsByKnots$Text")) true := ⟨RX11, TX11, 7, tyX11, rfl, by decide, u_X11, w_0455, tyX11_ok, nmX11, rfl, by decide +kernel, fun _ => rfl⟩
theorem f_X11_51_11 : FA RX11 51 11 2 := ⟨RX11, TX11, 7, "NestsByKnots", rfl, by decide, u_X11, w_0456, Or.inl rfl⟩
theorem p_X11_51_11 : FP RX11 51 11 2 .int false := ⟨RX11, TX11, 7, tyX11, rfl, by decide, u_X11, w_0456, tyX11_ok, nmX11, rfl, by decide +kernel, fun h => absurd h (by decide)⟩
theorem f_X11_60_11 : FA RX11 60 11 3 := ⟨RX11, TX11, 7, "NestsByKnots", rfl, by decide, u_X11, w_0457, Or.inl rfl⟩
theorem p_X11_60_11 : FP RX11 60 11 3 (.object "NestsByKnots$Net") true := ⟨RX11, TX11, 7, tyX11, rfl, by decide, u_X11, w_0457, tyX11_ok, nmX11, rfl, by decide +kernel, fun _ => rfl⟩
theorem f_X11_64_11 : FA RX11 64 11 4 := ⟨RX11, TX11, 7, "NestsByKnots", rfl, by decide, u_X11, w_0458, Or.inl rfl⟩
theorem p_X11_64_11 : FP RX11 64 11 4 (.object "NestsByKnots$Net") true := ⟨RX11, TX11, 7, tyX11, rfl, by decide, u_X11, w_0458, tyX11_ok, nmX11, rfl, by decide +kernel, fun _ => rfl⟩
theorem f_X11_240_11 : FA RX11 240 11 5 := ⟨RX11, TX11, 7, "NestsByKnots", rfl, by decide, u_X11, w_0459, Or.inl rfl⟩
theorem p_X11_240_11 : FP RX11 240 11 5 .boolean false := ⟨RX11, TX11, 7, tyX11, rfl, by decide, u_X11, w_0459, tyX11_ok, nmX11, rfl, by decide +kernel, fun h => absurd h (by decide)⟩
theorem f_X11_24_11 : FA RX11 24 11 6 := ⟨RX11, TX11, 7, "NestsByKnots", rfl, by decide, u_X11, w_0460, Or.inl rfl⟩
theorem p_X11_24_11 : FP RX11 24 11 6 (.array (.object "NestsByKnots$Sheet")) true := ⟨RX11, TX11, 7, tyX11, rfl, by decide, u_X11, w_0460, tyX11_ok, nmX11, rfl, by decide +kernel, fun _ => rfl⟩
theorem f_X10_7_1 : FA RX10 7 1 0 := ⟨RX1, TX1, 1, "NestsByKnots$Tuck", rfl, by decide, u_X1, w_0520, Or.inl rfl⟩
theorem p_X10_7_1 : FP RX10 7 1 0 .int true := ⟨RX1, TX1, 1, tyX1, rfl, by decide, u_X1, w_0520, tyX1_ok, nmX1, rfl, by decide +kernel, fun _ => rfl⟩
theorem f_X10_7_2 : FA RX10 7 2 0 := ⟨RX2, TX2, 1, "NestsByKnots$Tuck", rfl, by decide, u_X2, w_0520, Or.inl rfl⟩
theorem p_X10_7_2 : FP RX10 7 2 0 .int true := ⟨RX2, TX2, 1, tyX2, rfl, by decide, u_X2, w_0520, tyX2_ok, nmX2, rfl, by decide +kernel, fun _ => rfl⟩
theorem f_X10_7_3 : FA RX10 7 3 0 := ⟨RX3, TX3, 1, "NestsByKnots$Tuck", rfl, by decide, u_X3, w_0520, Or.inl rfl⟩
theorem p_X10_7_3 : FP RX10 7 3 0 .int true := ⟨RX3, TX3, 1, tyX3, rfl, by decide, u_X3, w_0520, tyX3_ok, nmX3, rfl, by decide +kernel, fun _ => rfl⟩
theorem f_X10_7_5 : FA RX10 7 5 0 := ⟨RX5, TX5, 1, "NestsByKnots$Tuck", rfl, by decide, u_X5, w_0520, Or.inl rfl⟩
theorem p_X10_7_5 : FP RX10 7 5 0 .int true := ⟨RX5, TX5, 1, tyX5, rfl, by decide, u_X5, w_0520, tyX5_ok, nmX5, rfl, by decide +kernel, fun _ => rfl⟩
theorem f_X10_7_8 : FA RX10 7 8 0 := ⟨RX8, TX8, 1, "NestsByKnots$Tuck", rfl, by decide, u_X8, w_0520, Or.inl rfl⟩
theorem p_X10_7_8 : FP RX10 7 8 0 .int true := ⟨RX8, TX8, 1, tyX8, rfl, by decide, u_X8, w_0520, tyX8_ok, nmX8, rfl, by decide +kernel, fun _ => rfl⟩
theorem f_X10_7_10 : FA RX10 7 10 0 := ⟨RX10, TX10, 1, "NestsByKnots$Tuck", rfl, by decide, u_X10, w_0520, Or.inl rfl⟩
theorem p_X10_7_10 : FP RX10 7 10 0 .int true := ⟨RX10, TX10, 1, tyX10, rfl, by decide, u_X10, w_0520, tyX10_ok, nmX10, rfl, by decide +kernel, fun _ => rfl⟩
theorem f_X1_11_1 : FA RX1 11 1 0 := ⟨RX1, TX1, 1, "NestsByKnots$DoubleHitch", rfl, by decide, u_X1, w_0521, Or.inr w_0522⟩
theorem f_X5_11_5 : FA RX5 11 5 0 := ⟨RX5, TX5, 1, "NestsByKnots$Play", rfl, by decide, u_X5, w_0523, Or.inr w_0524⟩
theorem f_X11_282_1 : FA RX11 282 1 0 := ⟨RX1, TX1, 1, "NestsByKnots$Tuck", rfl, by decide, u_X1, w_0525, Or.inl rfl⟩
theorem f_X11_282_2 : FA RX11 282 2 0 := ⟨RX2, TX2, 1, "NestsByKnots$Tuck", rfl, by decide, u_X2, w_0525, Or.inl rfl⟩
theorem f_X11_282_3 : FA RX11 282 3 0 := ⟨RX3, TX3, 1, "NestsByKnots$Tuck", rfl, by decide, u_X3, w_0525, Or.inl rfl⟩
theorem f_X11_282_5 : FA RX11 282 5 0 := ⟨RX5, TX5, 1, "NestsByKnots$Tuck", rfl, by decide, u_X5, w_0525, Or.inl rfl⟩
theorem f_X11_282_8 : FA RX11 282 8 0 := ⟨RX8, TX8, 1, "NestsByKnots$Tuck", rfl, by decide, u_X8, w_0525, Or.inl rfl⟩
theorem f_X11_282_10 : FA RX11 282 10 0 := ⟨RX10, TX10, 1, "NestsByKnots$Tuck", rfl, by decide, u_X10, w_0525, Or.inl rfl⟩
theorem f_X12_13_12 : FA RX12 13 12 1 := ⟨RX12, TX12, 40, "NestsByKnotsModel", rfl, by decide, u_X12, w_1002, Or.inl rfl⟩
theorem p_X12_13_12 : FP RX12 13 12 1 (.array .int) true := ⟨RX12, TX12, 40, tyX12, rfl, by decide, u_X12, w_1002, tyX12_ok, nmX12, rfl, by decide +kernel, fun _ => rfl⟩
theorem f_X12_17_12 : FA RX12 17 12 2 := ⟨RX12, TX12, 40, "NestsByKnotsModel", rfl, by decide, u_X12, w_1003, Or.inl rfl⟩
theorem p_X12_17_12 : FP RX12 17 12 2 (.array .int) true := ⟨RX12, TX12, 40, tyX12, rfl, by decide, u_X12, w_1003, tyX12_ok, nmX12, rfl, by decide +kernel, fun _ => rfl⟩
theorem f_X12_75_12 : FA RX12 75 12 3 := ⟨RX12, TX12, 40, "NestsByKnotsModel", rfl, by decide, u_X12, w_1004, Or.inl rfl⟩
theorem p_X12_75_12 : FP RX12 75 12 3 .int false := ⟨RX12, TX12, 40, tyX12, rfl, by decide, u_X12, w_1004, tyX12_ok, nmX12, rfl, by decide +kernel, fun h => absurd h (by decide)⟩
theorem f_X12_131_12 : FA RX12 131 12 4 := ⟨RX12, TX12, 40, "NestsByKnotsModel", rfl, by decide, u_X12, w_1005, Or.inl rfl⟩
theorem p_X12_131_12 : FP RX12 131 12 4 .int false := ⟨RX12, TX12, 40, tyX12, rfl, by decide, u_X12, w_1005, tyX12_ok, nmX12, rfl, by decide +kernel, fun h => absurd h (by decide)⟩
theorem f_X12_20_12 : FA RX12 20 12 5 := ⟨RX12, TX12, 40, "NestsByKnotsModel", rfl, by decide, u_X12, w_1006, Or.inl rfl⟩
theorem p_X12_20_12 : FP RX12 20 12 5 (.array .int) true := ⟨RX12, TX12, 40, tyX12, rfl, by decide, u_X12, w_1006, tyX12_ok, nmX12, rfl, by decide +kernel, fun _ => rfl⟩
theorem f_X12_162_12 : FA RX12 162 12 6 := ⟨RX12, TX12, 40, "NestsByKnotsModel", rfl, by decide, u_X12, w_1007, Or.inl rfl⟩
theorem p_X12_162_12 : FP RX12 162 12 6 .int false := ⟨RX12, TX12, 40, tyX12, rfl, by decide, u_X12, w_1007, tyX12_ok, nmX12, rfl, by decide +kernel, fun h => absurd h (by decide)⟩
theorem f_X12_23_12 : FA RX12 23 12 7 := ⟨RX12, TX12, 40, "NestsByKnotsModel", rfl, by decide, u_X12, w_1008, Or.inl rfl⟩
theorem p_X12_23_12 : FP RX12 23 12 7 (.array .int) true := ⟨RX12, TX12, 40, tyX12, rfl, by decide, u_X12, w_1008, tyX12_ok, nmX12, rfl, by decide +kernel, fun _ => rfl⟩
theorem f_X12_26_12 : FA RX12 26 12 8 := ⟨RX12, TX12, 40, "NestsByKnotsModel", rfl, by decide, u_X12, w_1009, Or.inl rfl⟩
theorem p_X12_26_12 : FP RX12 26 12 8 (.array .int) true := ⟨RX12, TX12, 40, tyX12, rfl, by decide, u_X12, w_1009, tyX12_ok, nmX12, rfl, by decide +kernel, fun _ => rfl⟩
theorem f_X12_29_12 : FA RX12 29 12 9 := ⟨RX12, TX12, 40, "NestsByKnotsModel", rfl, by decide, u_X12, w_1010, Or.inl rfl⟩
theorem p_X12_29_12 : FP RX12 29 12 9 (.array .int) true := ⟨RX12, TX12, 40, tyX12, rfl, by decide, u_X12, w_1010, tyX12_ok, nmX12, rfl, by decide +kernel, fun _ => rfl⟩
theorem f_X12_32_12 : FA RX12 32 12 10 := ⟨RX12, TX12, 40, "NestsByKnotsModel", rfl, by decide, u_X12, w_1011, Or.inl rfl⟩
theorem p_X12_32_12 : FP RX12 32 12 10 (.array .int) true := ⟨RX12, TX12, 40, tyX12, rfl, by decide, u_X12, w_1011, tyX12_ok, nmX12, rfl, by decide +kernel, fun _ => rfl⟩
theorem f_X12_35_12 : FA RX12 35 12 11 := ⟨RX12, TX12, 40, "NestsByKnotsModel", rfl, by decide, u_X12, w_1012, Or.inl rfl⟩
theorem p_X12_35_12 : FP RX12 35 12 11 (.array .int) true := ⟨RX12, TX12, 40, tyX12, rfl, by decide, u_X12, w_1012, tyX12_ok, nmX12, rfl, by decide +kernel, fun _ => rfl⟩
theorem f_X12_90_12 : FA RX12 90 12 12 := ⟨RX12, TX12, 40, "NestsByKnotsModel", rfl, by decide, u_X12, w_1013, Or.inl rfl⟩
theorem p_X12_90_12 : FP RX12 90 12 12 .int false := ⟨RX12, TX12, 40, tyX12, rfl, by decide, u_X12, w_1013, tyX12_ok, nmX12, rfl, by decide +kernel, fun h => absurd h (by decide)⟩
theorem f_X12_95_12 : FA RX12 95 12 13 := ⟨RX12, TX12, 40, "NestsByKnotsModel", rfl, by decide, u_X12, w_1014, Or.inl rfl⟩
theorem p_X12_95_12 : FP RX12 95 12 13 .int false := ⟨RX12, TX12, 40, tyX12, rfl, by decide, u_X12, w_1014, tyX12_ok, nmX12, rfl, by decide +kernel, fun h => absurd h (by decide)⟩
theorem f_X12_38_12 : FA RX12 38 12 14 := ⟨RX12, TX12, 40, "NestsByKnotsModel", rfl, by decide, u_X12, w_1015, Or.inl rfl⟩
theorem p_X12_38_12 : FP RX12 38 12 14 .int false := ⟨RX12, TX12, 40, tyX12, rfl, by decide, u_X12, w_1015, tyX12_ok, nmX12, rfl, by decide +kernel, fun h => absurd h (by decide)⟩
theorem f_X12_168_12 : FA RX12 168 12 15 := ⟨RX12, TX12, 40, "NestsByKnotsModel", rfl, by decide, u_X12, w_1016, Or.inl rfl⟩
theorem p_X12_168_12 : FP RX12 168 12 15 .int false := ⟨RX12, TX12, 40, tyX12, rfl, by decide, u_X12, w_1016, tyX12_ok, nmX12, rfl, by decide +kernel, fun h => absurd h (by decide)⟩
theorem f_X12_165_12 : FA RX12 165 12 16 := ⟨RX12, TX12, 40, "NestsByKnotsModel", rfl, by decide, u_X12, w_1017, Or.inl rfl⟩
theorem p_X12_165_12 : FP RX12 165 12 16 .int false := ⟨RX12, TX12, 40, tyX12, rfl, by decide, u_X12, w_1017, tyX12_ok, nmX12, rfl, by decide +kernel, fun h => absurd h (by decide)⟩
theorem f_X12_180_12 : FA RX12 180 12 17 := ⟨RX12, TX12, 40, "NestsByKnotsModel", rfl, by decide, u_X12, w_1018, Or.inl rfl⟩
theorem p_X12_180_12 : FP RX12 180 12 17 .int false := ⟨RX12, TX12, 40, tyX12, rfl, by decide, u_X12, w_1018, tyX12_ok, nmX12, rfl, by decide +kernel, fun h => absurd h (by decide)⟩
theorem f_X12_177_12 : FA RX12 177 12 18 := ⟨RX12, TX12, 40, "NestsByKnotsModel", rfl, by decide, u_X12, w_1019, Or.inl rfl⟩
theorem p_X12_177_12 : FP RX12 177 12 18 .int false := ⟨RX12, TX12, 40, tyX12, rfl, by decide, u_X12, w_1019, tyX12_ok, nmX12, rfl, by decide +kernel, fun h => absurd h (by decide)⟩
theorem f_X12_187_12 : FA RX12 187 12 19 := ⟨RX12, TX12, 40, "NestsByKnotsModel", rfl, by decide, u_X12, w_1020, Or.inl rfl⟩
theorem p_X12_187_12 : FP RX12 187 12 19 .long false := ⟨RX12, TX12, 40, tyX12, rfl, by decide, u_X12, w_1020, tyX12_ok, nmX12, rfl, by decide +kernel, fun h => absurd h (by decide)⟩
theorem f_X12_171_12 : FA RX12 171 12 20 := ⟨RX12, TX12, 40, "NestsByKnotsModel", rfl, by decide, u_X12, w_1021, Or.inl rfl⟩
theorem p_X12_171_12 : FP RX12 171 12 20 .int false := ⟨RX12, TX12, 40, tyX12, rfl, by decide, u_X12, w_1021, tyX12_ok, nmX12, rfl, by decide +kernel, fun h => absurd h (by decide)⟩
theorem f_X12_210_12 : FA RX12 210 12 21 := ⟨RX12, TX12, 40, "NestsByKnotsModel", rfl, by decide, u_X12, w_1022, Or.inl rfl⟩
theorem p_X12_210_12 : FP RX12 210 12 21 .int false := ⟨RX12, TX12, 40, tyX12, rfl, by decide, u_X12, w_1022, tyX12_ok, nmX12, rfl, by decide +kernel, fun h => absurd h (by decide)⟩
theorem f_X12_203_12 : FA RX12 203 12 22 := ⟨RX12, TX12, 40, "NestsByKnotsModel", rfl, by decide, u_X12, w_1023, Or.inl rfl⟩
theorem p_X12_203_12 : FP RX12 203 12 22 .boolean false := ⟨RX12, TX12, 40, tyX12, rfl, by decide, u_X12, w_1023, tyX12_ok, nmX12, rfl, by decide +kernel, fun h => absurd h (by decide)⟩
theorem f_X12_207_12 : FA RX12 207 12 23 := ⟨RX12, TX12, 40, "NestsByKnotsModel", rfl, by decide, u_X12, w_1024, Or.inl rfl⟩
theorem p_X12_207_12 : FP RX12 207 12 23 .int false := ⟨RX12, TX12, 40, tyX12, rfl, by decide, u_X12, w_1024, tyX12_ok, nmX12, rfl, by decide +kernel, fun h => absurd h (by decide)⟩
theorem f_X12_223_12 : FA RX12 223 12 24 := ⟨RX12, TX12, 40, "NestsByKnotsModel", rfl, by decide, u_X12, w_1025, Or.inl rfl⟩
theorem p_X12_223_12 : FP RX12 223 12 24 .int false := ⟨RX12, TX12, 40, tyX12, rfl, by decide, u_X12, w_1025, tyX12_ok, nmX12, rfl, by decide +kernel, fun h => absurd h (by decide)⟩
theorem f_X12_228_12 : FA RX12 228 12 25 := ⟨RX12, TX12, 40, "NestsByKnotsModel", rfl, by decide, u_X12, w_1026, Or.inl rfl⟩
theorem p_X12_228_12 : FP RX12 228 12 25 .int false := ⟨RX12, TX12, 40, tyX12, rfl, by decide, u_X12, w_1026, tyX12_ok, nmX12, rfl, by decide +kernel, fun h => absurd h (by decide)⟩
theorem f_X12_233_12 : FA RX12 233 12 26 := ⟨RX12, TX12, 40, "NestsByKnotsModel", rfl, by decide, u_X12, w_1027, Or.inl rfl⟩
theorem p_X12_233_12 : FP RX12 233 12 26 .int false := ⟨RX12, TX12, 40, tyX12, rfl, by decide, u_X12, w_1027, tyX12_ok, nmX12, rfl, by decide +kernel, fun h => absurd h (by decide)⟩
theorem f_X12_238_12 : FA RX12 238 12 27 := ⟨RX12, TX12, 40, "NestsByKnotsModel", rfl, by decide, u_X12, w_1028, Or.inl rfl⟩
theorem p_X12_238_12 : FP RX12 238 12 27 .int false := ⟨RX12, TX12, 40, tyX12, rfl, by decide, u_X12, w_1028, tyX12_ok, nmX12, rfl, by decide +kernel, fun h => absurd h (by decide)⟩
theorem f_X12_243_12 : FA RX12 243 12 28 := ⟨RX12, TX12, 40, "NestsByKnotsModel", rfl, by decide, u_X12, w_1029, Or.inl rfl⟩
theorem p_X12_243_12 : FP RX12 243 12 28 .int false := ⟨RX12, TX12, 40, tyX12, rfl, by decide, u_X12, w_1029, tyX12_ok, nmX12, rfl, by decide +kernel, fun h => absurd h (by decide)⟩
theorem f_X12_248_12 : FA RX12 248 12 29 := ⟨RX12, TX12, 40, "NestsByKnotsModel", rfl, by decide, u_X12, w_1030, Or.inl rfl⟩
theorem p_X12_248_12 : FP RX12 248 12 29 .int false := ⟨RX12, TX12, 40, tyX12, rfl, by decide, u_X12, w_1030, tyX12_ok, nmX12, rfl, by decide +kernel, fun h => absurd h (by decide)⟩
theorem f_X12_41_12 : FA RX12 41 12 30 := ⟨RX12, TX12, 40, "NestsByKnotsModel", rfl, by decide, u_X12, w_1031, Or.inl rfl⟩
theorem p_X12_41_12 : FP RX12 41 12 30 (.array .int) true := ⟨RX12, TX12, 40, tyX12, rfl, by decide, u_X12, w_1031, tyX12_ok, nmX12, rfl, by decide +kernel, fun _ => rfl⟩
theorem f_X12_339_12 : FA RX12 339 12 31 := ⟨RX12, TX12, 40, "NestsByKnotsModel", rfl, by decide, u_X12, w_1032, Or.inl rfl⟩
theorem p_X12_339_12 : FP RX12 339 12 31 .boolean false := ⟨RX12, TX12, 40, tyX12, rfl, by decide, u_X12, w_1032, tyX12_ok, nmX12, rfl, by decide +kernel, fun h => absurd h (by decide)⟩
theorem f_X12_342_12 : FA RX12 342 12 32 := ⟨RX12, TX12, 40, "NestsByKnotsModel", rfl, by decide, u_X12, w_1033, Or.inl rfl⟩
theorem p_X12_342_12 : FP RX12 342 12 32 .int false := ⟨RX12, TX12, 40, tyX12, rfl, by decide, u_X12, w_1033, tyX12_ok, nmX12, rfl, by decide +kernel, fun h => absurd h (by decide)⟩
theorem f_X12_345_12 : FA RX12 345 12 33 := ⟨RX12, TX12, 40, "NestsByKnotsModel", rfl, by decide, u_X12, w_1034, Or.inl rfl⟩
theorem p_X12_345_12 : FP RX12 345 12 33 .int false := ⟨RX12, TX12, 40, tyX12, rfl, by decide, u_X12, w_1034, tyX12_ok, nmX12, rfl, by decide +kernel, fun h => absurd h (by decide)⟩
theorem f_X12_348_12 : FA RX12 348 12 34 := ⟨RX12, TX12, 40, "NestsByKnotsModel", rfl, by decide, u_X12, w_1035, Or.inl rfl⟩
theorem p_X12_348_12 : FP RX12 348 12 34 .int false := ⟨RX12, TX12, 40, tyX12, rfl, by decide, u_X12, w_1035, tyX12_ok, nmX12, rfl, by decide +kernel, fun h => absurd h (by decide)⟩
theorem f_X12_351_12 : FA RX12 351 12 35 := ⟨RX12, TX12, 40, "NestsByKnotsModel", rfl, by decide, u_X12, w_1036, Or.inl rfl⟩
theorem p_X12_351_12 : FP RX12 351 12 35 .int false := ⟨RX12, TX12, 40, tyX12, rfl, by decide, u_X12, w_1036, tyX12_ok, nmX12, rfl, by decide +kernel, fun h => absurd h (by decide)⟩
theorem f_X12_44_12 : FA RX12 44 12 36 := ⟨RX12, TX12, 40, "NestsByKnotsModel", rfl, by decide, u_X12, w_1037, Or.inl rfl⟩
theorem p_X12_44_12 : FP RX12 44 12 36 (.array .boolean) true := ⟨RX12, TX12, 40, tyX12, rfl, by decide, u_X12, w_1037, tyX12_ok, nmX12, rfl, by decide +kernel, fun _ => rfl⟩
theorem f_X12_48_12 : FA RX12 48 12 37 := ⟨RX12, TX12, 40, "NestsByKnotsModel", rfl, by decide, u_X12, w_1038, Or.inl rfl⟩
theorem p_X12_48_12 : FP RX12 48 12 37 (.array .int) true := ⟨RX12, TX12, 40, tyX12, rfl, by decide, u_X12, w_1038, tyX12_ok, nmX12, rfl, by decide +kernel, fun _ => rfl⟩
theorem f_X12_51_12 : FA RX12 51 12 38 := ⟨RX12, TX12, 40, "NestsByKnotsModel", rfl, by decide, u_X12, w_1039, Or.inl rfl⟩
theorem p_X12_51_12 : FP RX12 51 12 38 (.array .int) true := ⟨RX12, TX12, 40, tyX12, rfl, by decide, u_X12, w_1039, tyX12_ok, nmX12, rfl, by decide +kernel, fun _ => rfl⟩
theorem f_X12_54_12 : FA RX12 54 12 39 := ⟨RX12, TX12, 40, "NestsByKnotsModel", rfl, by decide, u_X12, w_1040, Or.inl rfl⟩
theorem p_X12_54_12 : FP RX12 54 12 39 (.array .int) true := ⟨RX12, TX12, 40, tyX12, rfl, by decide, u_X12, w_1040, tyX12_ok, nmX12, rfl, by decide +kernel, fun _ => rfl⟩
theorem c_L_9 : CaI RL 9 mX11_init 0 := ⟨k_X11_init, w_0082, by decide +kernel, rfl, Or.inl w_0081⟩
theorem c_X11_30 : CaV RX11 30 RJ0 mJ0_length_8abf5 0 := ⟨k_J0_length_8abf5, w_0133, w_0134, w_0132⟩
theorem c_J0_335 : CaV RJ0 335 RJ0 mJ0_coder_7d493 0 := ⟨k_J0_coder_7d493, w_0137, w_0138, w_0136⟩
theorem c_X11_36 : CaV RX11 36 RJ0 mJ0_charAt_5068e 1 := ⟨k_J0_charAt_5068e, w_0143, w_0144, w_0142⟩
theorem c_J0_492 : CaV RJ0 492 RJ0 mJ0_isLatin1_aae02 0 := ⟨k_J0_isLatin1_aae02, w_0147, w_0148, w_0146⟩
theorem c_J0_495 : CaS RJ0 495 mJ1_charAt_3b067 2 := ⟨k_J1_charAt_3b067, w_0151, Or.inl w_0150⟩
theorem c_J1_9 : CaS RJ1 9 mJ0_checkIndex_df160 2 := ⟨k_J0_checkIndex_df160, w_0154, Or.inl w_0153⟩
theorem c_J0_1059 : CaS RJ0 1059 mJ3_checkIndex_8e157 3 := ⟨k_J3_checkIndex_8e157, w_0159, Or.inl w_0158⟩
theorem c_J0_498 : CaS RJ0 498 mJ2_charAt_3b067 2 := ⟨k_J2_charAt_3b067, w_0162, Or.inl w_0161⟩
theorem c_J2_67 : CaS RJ2 67 mJ2_checkIndex_2214a 2 := ⟨k_J2_checkIndex_2214a, w_0165, Or.inl w_0164⟩
theorem c_J2_48 : CaS RJ2 48 mJ2_length_9d52b 1 := ⟨k_J2_length_9d52b, w_0168, Or.inl w_0167⟩
theorem c_J2_414 : CaS RJ2 414 mJ0_checkIndex_df160 2 := ⟨k_J0_checkIndex_df160, w_0154, Or.inl w_0170⟩
theorem c_J2_71 : CaS RJ2 71 mJ2_getChar_3b067 2 := ⟨k_J2_getChar_3b067, w_0172, Or.inl w_0171⟩
theorem c_X11_40 : CaV RX11 40 RX6 mX6_append 1 := ⟨k_X6_append, w_0181, w_0182, w_0180⟩
theorem c_X11_44 : CaV RX11 44 RX6 mX6_readTape 0 := ⟨k_X6_readTape, w_0185, w_0186, w_0184⟩
theorem c_X6_35 : CaV RX6 35 RX6 mX6_advance 0 := ⟨k_X6_advance, w_0190, w_0000, w_0188⟩
theorem c_X6_95 : CaS RX6 95 mX6_isLetter 1 := ⟨k_X6_isLetter, w_0193, Or.inl w_0192⟩
theorem c_X6_99 : CaV RX6 99 RX6 mX6_word 0 := ⟨k_X6_word, w_0197, w_0001, w_0195⟩
theorem c_X6_111 : CaV RX6 111 RX6 mX6_nameHere 0 := ⟨k_X6_nameHere, w_0201, w_0002, w_0199⟩
theorem c_X6_120 : CaV RX6 120 RX6 mX6_spells 1 := ⟨k_X6_spells, w_0206, w_0003, w_0204⟩
theorem c_X6_146 : CaV RX6 146 RJ0 mJ0_length_8abf5 0 := ⟨k_J0_length_8abf5, w_0133, w_0134, w_0208⟩
theorem c_X6_150 : CaV RX6 150 RJ0 mJ0_charAt_5068e 1 := ⟨k_J0_charAt_5068e, w_0143, w_0144, w_0209⟩
theorem c_X6_115 : CaV RX6 115 RX6 mX6_keyHere 0 := ⟨k_X6_keyHere, w_0217, w_0004, w_0215⟩
theorem c_X6_102 : CaS RX6 102 mX6_isDigit 1 := ⟨k_X6_isDigit, w_0226, Or.inl w_0225⟩
theorem c_X6_105 : CaV RX6 105 RX6 mX6_digits 0 := ⟨k_X6_digits, w_0230, w_0005, w_0228⟩
theorem c_X6_108 : CaS RX6 108 mX6_isSign 1 := ⟨k_X6_isSign, w_0233, Or.inl w_0232⟩
theorem c_X6_156 : CaV RX6 156 RJ0 mJ0_indexOf_0f7a4 1 := ⟨k_J0_indexOf_0f7a4, w_0237, w_0238, w_0236⟩
theorem c_J0_633 : CaV RJ0 633 RJ0 mJ0_indexOf_7cf53 2 := ⟨k_J0_indexOf_7cf53, w_0241, w_0242, w_0240⟩
theorem c_J0_505 : CaV RJ0 505 RJ0 mJ0_length_8abf5 0 := ⟨k_J0_length_8abf5, w_0133, w_0134, w_0244⟩
theorem c_J0_637 : CaS RJ0 637 mJ1_indexOf_4cfef 4 := ⟨k_J1_indexOf_4cfef, w_0246, Or.inl w_0245⟩
theorem c_J1_88 : CaS RJ1 88 mJ1_canEncode_9a6ad 1 := ⟨k_J1_canEncode_9a6ad, w_0249, Or.inl w_0248⟩
theorem c_J1_92 : CaS RJ1 92 mJ9_max_7cf53 2 := ⟨k_J9_max_7cf53, w_0252, Or.inl w_0251⟩
theorem c_J1_38 : CaS RJ1 38 mJ9_min_7cf53 2 := ⟨k_J9_min_7cf53, w_0255, Or.inl w_0254⟩
theorem c_J1_95 : CaS RJ1 95 mJ1_indexOfChar_4cfef 4 := ⟨k_J1_indexOfChar_4cfef, w_0258, Or.inl w_0257⟩
theorem c_J0_640 : CaS RJ0 640 mJ2_indexOf_4cfef 4 := ⟨k_J2_indexOf_4cfef, w_0261, Or.inl w_0260⟩
theorem c_J2_224 : CaS RJ2 224 mJ9_max_7cf53 2 := ⟨k_J9_max_7cf53, w_0252, Or.inl w_0263⟩
theorem c_J2_183 : CaS RJ2 183 mJ9_min_7cf53 2 := ⟨k_J9_min_7cf53, w_0255, Or.inl w_0264⟩
theorem c_J2_228 : CaS RJ2 228 mJ2_indexOfChar_4cfef 4 := ⟨k_J2_indexOfChar_4cfef, w_0267, Or.inl w_0266⟩
theorem c_J2_96 : CaS RJ2 96 mJ2_checkBoundsBeginEnd_d044e 3 := ⟨k_J2_checkBoundsBeginEnd_d044e, w_0270, Or.inl w_0269⟩
theorem c_J2_241 : CaS RJ2 241 mJ0_checkBoundsBeginEnd_23922 3 := ⟨k_J0_checkBoundsBeginEnd_23922, w_0273, Or.inl w_0272⟩
theorem c_J0_1062 : CaS RJ0 1062 mJ3_checkFromToIndex_8c36e 4 := ⟨k_J3_checkFromToIndex_8c36e, w_0276, Or.inl w_0275⟩
theorem c_J2_244 : CaS RJ2 244 mJ2_indexOfCharUnsafe_4cfef 4 := ⟨k_J2_indexOfCharUnsafe_4cfef, w_0279, Or.inl w_0278⟩
theorem c_J2_232 : CaS RJ2 232 mJ2_indexOfSupplementary_4cfef 4 := ⟨k_J2_indexOfSupplementary_4cfef, w_0282, Or.inl w_0281⟩
theorem c_J2_164 : CaS RJ2 164 mJ11_isValidCodePoint_9a6ad 1 := ⟨k_J11_isValidCodePoint_9a6ad, w_0285, Or.inl w_0284⟩
theorem c_J2_157 : CaS RJ2 157 mJ11_highSurrogate_5068e 1 := ⟨k_J11_highSurrogate_5068e, w_0288, Or.inl w_0287⟩
theorem c_J2_161 : CaS RJ2 161 mJ11_lowSurrogate_5068e 1 := ⟨k_J11_lowSurrogate_5068e, w_0292, Or.inl w_0291⟩
theorem c_X6_38 : CaV RX6 38 RX6 mX6_part 2 := ⟨k_X6_part, w_0297, w_0006, w_0295⟩
theorem c_X6_64 : CaV RX6 64 RX6 mX6_expect 1 := ⟨k_X6_expect, w_0301, w_0007, w_0299⟩
theorem c_X6_45 : CaV RX6 45 RX6 mX6_refuse 0 := ⟨k_X6_refuse, w_0305, w_0008, w_0303⟩
theorem c_X6_68 : CaV RX6 68 RX6 mX6_either 1 := ⟨k_X6_either, w_0309, w_0009, w_0307⟩
theorem c_X6_74 : CaV RX6 74 RX6 mX6_both 1 := ⟨k_X6_both, w_0313, w_0010, w_0311⟩
theorem c_X6_80 : CaV RX6 80 RX6 mX6_denied 1 := ⟨k_X6_denied, w_0317, w_0011, w_0315⟩
theorem c_X6_77 : CaV RX6 77 RX6 mX6_emit 1 := ⟨k_X6_emit, w_0321, w_0012, w_0319⟩
theorem c_X6_83 : CaV RX6 83 RX6 mX6_sum 1 := ⟨k_X6_sum, w_0325, w_0013, w_0323⟩
theorem c_X6_86 : CaV RX6 86 RX6 mX6_term 1 := ⟨k_X6_term, w_0329, w_0014, w_0327⟩
theorem c_X6_89 : CaV RX6 89 RX6 mX6_one 1 := ⟨k_X6_one, w_0333, w_0015, w_0331⟩
theorem c_X11_47 : CaV RX11 47 RX6 mX6_made 1 := ⟨k_X6_made, w_0336, w_0337, w_0335⟩
theorem c_X6_50 : CaS RX6 50 mJ7_copyOf_59c91 2 := ⟨k_J7_copyOf_59c91, w_0342, Or.inl w_0341⟩
theorem c_J7_304 : CaS RJ7 304 mJ9_min_7cf53 2 := ⟨k_J9_min_7cf53, w_0255, Or.inl w_0351⟩
theorem c_X6_61 : CaI RX6 61 mX9_init 3 := ⟨k_X9_init, w_0358, by decide +kernel, rfl, Or.inl w_0357⟩
theorem c_X11_57 : CaI RX11 57 mX4_init 1 := ⟨k_X4_init, w_0375, by decide +kernel, rfl, Or.inl w_0374⟩
theorem c_L_13 : CaV RL 13 RX11 mX11_lay 3 := ⟨k_X11_lay, w_0477, w_0478, w_0476⟩
theorem c_X11_68 : CaS RX11 68 mX11_canBeLaid 3 := ⟨k_X11_canBeLaid, w_0481, Or.inl w_0480⟩
theorem c_X11_210 : CaS RX11 210 mX11_isKnot 2 := ⟨k_X11_isKnot, w_0484, Or.inl w_0483⟩
theorem c_X11_190 : CaS RX11 190 mX11_fits 1 := ⟨k_X11_fits, w_0487, Or.inl w_0486⟩
theorem c_X11_283 : CaS RX11 283 mX11_firstOf 1 := ⟨k_X11_firstOf, w_0490, Or.inl w_0489⟩
theorem c_X11_149 : CaS RX11 149 mX11_isCrossing 1 := ⟨k_X11_isCrossing, w_0493, Or.inl w_0492⟩
theorem c_X11_286 : CaS RX11 286 mX11_wayOf 1 := ⟨k_X11_wayOf, w_0496, Or.inl w_0495⟩
theorem c_X11_289 : CaS RX11 289 mX11_longOf 1 := ⟨k_X11_longOf, w_0499, Or.inl w_0498⟩
theorem c_X11_198 : CaS RX11 198 mX11_isLong 1 := ⟨k_X11_isLong, w_0502, Or.inl w_0501⟩
theorem c_X11_72 : CaV RX11 72 RX4 mX4_leastFree 0 := ⟨k_X4_leastFree, w_0505, w_0506, w_0504⟩
theorem c_X11_75 : CaS RX11 75 mX11_knotOf 2 := ⟨k_X11_knotOf, w_0509, Or.inl w_0508⟩
theorem c_X11_294 : CaI RX11 294 mX3_init 1 := ⟨k_X3_init, w_0514, by decide +kernel, rfl, Or.inl w_0513⟩
theorem c_X3_1 : CaI RX3 1 mX10_init 1 := ⟨k_X10_init, w_0517, by decide +kernel, rfl, Or.inl w_0516⟩
theorem c_X11_298 : CaI RX11 298 mX2_init 1 := ⟨k_X2_init, w_0532, by decide +kernel, rfl, Or.inl w_0531⟩
theorem c_X2_1 : CaI RX2 1 mX3_init 1 := ⟨k_X3_init, w_0514, by decide +kernel, rfl, Or.inl w_0534⟩
theorem c_X11_301 : CaI RX11 301 mX8_init 1 := ⟨k_X8_init, w_0540, by decide +kernel, rfl, Or.inl w_0539⟩
theorem c_X8_1 : CaI RX8 1 mX3_init 1 := ⟨k_X3_init, w_0514, by decide +kernel, rfl, Or.inl w_0542⟩
theorem c_X11_304 : CaI RX11 304 mX1_init 1 := ⟨k_X1_init, w_0548, by decide +kernel, rfl, Or.inl w_0547⟩
theorem c_X1_1 : CaI RX1 1 mX2_init 1 := ⟨k_X2_init, w_0532, by decide +kernel, rfl, Or.inl w_0550⟩
theorem c_X11_307 : CaI RX11 307 mX5_init 1 := ⟨k_X5_init, w_0556, by decide +kernel, rfl, Or.inl w_0555⟩
theorem c_X5_1 : CaI RX5 1 mX10_init 1 := ⟨k_X10_init, w_0517, by decide +kernel, rfl, Or.inl w_0558⟩
theorem c_X11_308 : CaI RX11 308 mX10_init 1 := ⟨k_X10_init, w_0517, by decide +kernel, rfl, Or.inl w_0563⟩
theorem c_X11_79 : CaV RX11 79 RX4 mX4_put 3 := ⟨k_X4_put, w_0567, w_0568, w_0566⟩
theorem c_L_18 : CaV RL 18 RX11 mX11_out 1 := ⟨k_X11_out, w_0576, w_0577, w_0575⟩
theorem c_X11_83 : CaV RX11 83 RX4 mX4_has 1 := ⟨k_X4_has, w_0580, w_0581, w_0579⟩
theorem c_X11_87 : CaV RX11 87 RX4 mX4_drop 1 := ⟨k_X4_drop, w_0584, w_0585, w_0583⟩
theorem c_X11_91 : CaV RX11 91 RX4 mX4_size 0 := ⟨k_X4_size, w_0588, w_0589, w_0587⟩
theorem c_X4_51 : CaS RX4 51 mJ6_bitCount_0f7a4 1 := ⟨k_J6_bitCount_0f7a4, w_0592, Or.inl w_0591⟩
theorem c_L_23 : CaV RL 23 RX11 mX11_hours 1 := ⟨k_X11_hours, w_0598, w_0599, w_0597⟩
theorem c_L_27 : CaV RL 27 RX11 mX11_green 1 := ⟨k_X11_green, w_0602, w_0603, w_0601⟩
theorem c_L_31 : CaV RL 31 RX11 mX11_told 2 := ⟨k_X11_told, w_0606, w_0607, w_0605⟩
theorem c_X11_104 : CaV RX11 104 RX4 mX4_ageOf 2 := ⟨k_X4_ageOf, w_0610, w_0611, w_0609⟩
theorem c_X11_108 : CaV RX11 108 RX10 mX10_kind 0 := ⟨k_X10_kind, w_0614, w_0615, w_0613⟩
theorem c_X11_117 : CaV RX11 117 RX10 mX10_knot 1 := ⟨k_X10_knot, w_0634, w_0635, w_0633⟩
theorem c_X3_7 : CaV RX3 7 RX10 mX10_knot 1 := ⟨k_X10_knot, w_0634, w_0635, w_0646⟩
theorem c_X5_7 : CaV RX5 7 RX10 mX10_knot 1 := ⟨k_X10_knot, w_0634, w_0635, w_0652⟩
theorem c_X11_121 : CaS RX11 121 mJ9_max_7cf53 2 := ⟨k_J9_max_7cf53, w_0252, Or.inl w_0658⟩
theorem c_X11_126 : CaV RX11 126 RX10 mX10_slips 1 := ⟨k_X10_slips, w_0660, w_0661, w_0659⟩
theorem c_X11_129 : CaV RX11 129 RX10 mX10_ties 0 := ⟨k_X10_ties, w_0674, w_0675, w_0673⟩
theorem c_X3_11 : CaV RX3 11 RX10 mX10_ties 0 := ⟨k_X10_ties, w_0674, w_0675, w_0685⟩
theorem c_X11_135 : CaV RX11 135 RX4 mX4_crosses 2 := ⟨k_X4_crosses, w_0692, w_0693, w_0691⟩
theorem c_X4_88 : CaV RX4 88 RX4 mX4_met 3 := ⟨k_X4_met, w_0697, w_0016, w_0695⟩
theorem c_X4_96 : CaS RX4 96 mJ9_min_7cf53 2 := ⟨k_J9_min_7cf53, w_0255, Or.inl w_0699⟩
theorem c_X11_138 : CaV RX11 138 RX4 mX4_rubs 2 := ⟨k_X4_rubs, w_0701, w_0702, w_0700⟩
theorem c_X4_77 : CaV RX4 77 RX4 mX4_has 1 := ⟨k_X4_has, w_0580, w_0581, w_0704⟩
theorem c_X4_92 : CaV RX4 92 RX10 mX10_ties 0 := ⟨k_X10_ties, w_0674, w_0675, w_0705⟩
theorem c_X11_141 : CaV RX11 141 RX4 mX4_hold 3 := ⟨k_X4_hold, w_0707, w_0708, w_0706⟩
theorem c_X4_73 : CaV RX4 73 RX4 mX4_ageOf 2 := ⟨k_X4_ageOf, w_0610, w_0611, w_0710⟩
theorem c_X4_101 : CaV RX4 101 RX4 mX4_crosses 2 := ⟨k_X4_crosses, w_0692, w_0693, w_0711⟩
theorem c_X4_104 : CaV RX4 104 RX4 mX4_nameStrip 4 := ⟨k_X4_nameStrip, w_0714, w_0017, w_0712⟩
theorem c_X4_123 : CaV RX4 123 RX4 mX4_name 6 := ⟨k_X4_name, w_0718, w_0018, w_0716⟩
theorem c_X4_108 : CaV RX4 108 RX9 mX9_worth 3 := ⟨k_X9_worth, w_0721, w_0722, w_0720⟩
theorem c_X9_22 : CaS RX9 22 mX9_ofOne 2 := ⟨k_X9_ofOne, w_0725, Or.inl w_0724⟩
theorem c_X9_30 : CaS RX9 30 mX9_bit 1 := ⟨k_X9_bit, w_0728, Or.inl w_0727⟩
theorem c_X9_26 : CaS RX9 26 mX9_ofTwo 3 := ⟨k_X9_ofTwo, w_0731, Or.inl w_0730⟩
theorem c_X4_114 : CaS RX4 114 mJ9_max_7cf53 2 := ⟨k_J9_max_7cf53, w_0252, Or.inl w_0733⟩
theorem c_X4_117 : CaV RX4 117 RX10 mX10_knot 1 := ⟨k_X10_knot, w_0634, w_0635, w_0734⟩
theorem c_X4_120 : CaV RX4 120 RX4 mX4_rubs 2 := ⟨k_X4_rubs, w_0701, w_0702, w_0735⟩
theorem c_X11_145 : CaV RX11 145 RX4 mX4_isGreen 2 := ⟨k_X4_isGreen, w_0737, w_0738, w_0736⟩
theorem c_L_36 : CaV RL 36 RX11 mX11_at 1 := ⟨k_X11_at, w_0741, w_0742, w_0740⟩
theorem c_L_42 : CaV RL 42 RX11 mX11_feed 2 := ⟨k_X11_feed, w_0745, w_0746, w_0744⟩
theorem c_L_47 : CaV RL 47 RX11 mX11_text 0 := ⟨k_X11_text, w_0749, w_0750, w_0748⟩
theorem c_L_52 : CaV RL 52 RX11 mX11_force 1 := ⟨k_X11_force, w_0753, w_0754, w_0752⟩
theorem c_L_56 : CaV RL 56 RX11 mX11_pull 3 := ⟨k_X11_pull, w_0757, w_0758, w_0756⟩
theorem c_X11_164 : CaS RX11 164 mX11_isPull 2 := ⟨k_X11_isPull, w_0761, Or.inl w_0760⟩
theorem c_X11_167 : CaV RX11 167 RX4 mX4_takenByPull 2 := ⟨k_X4_takenByPull, w_0764, w_0765, w_0763⟩
theorem c_X4_136 : CaV RX4 136 RX4 mX4_looseAt 3 := ⟨k_X4_looseAt, w_0769, w_0019, w_0767⟩
theorem c_X4_127 : CaV RX4 127 RX4 mX4_hold 3 := ⟨k_X4_hold, w_0707, w_0708, w_0771⟩
theorem c_X11_170 : CaV RX11 170 RX4 mX4_withFallen 1 := ⟨k_X4_withFallen, w_0773, w_0774, w_0772⟩
theorem c_X4_133 : CaV RX4 133 RX4 mX4_falling 1 := ⟨k_X4_falling, w_0777, w_0778, w_0776⟩
theorem c_X4_130 : CaV RX4 130 RX4 mX4_hanging 1 := ⟨k_X4_hanging, w_0781, w_0782, w_0780⟩
theorem c_L_60 : CaV RL 60 RX11 mX11_pulled 2 := ⟨k_X11_pulled, w_0785, w_0786, w_0784⟩
theorem c_X11_173 : CaV RX11 173 RX4 mX4_lose 1 := ⟨k_X4_lose, w_0789, w_0790, w_0788⟩
theorem c_X4_69 : CaV RX4 69 RX4 mX4_drop 1 := ⟨k_X4_drop, w_0584, w_0585, w_0792⟩
theorem c_L_64 : CaV RL 64 RX11 mX11_falls 0 := ⟨k_X11_falls, w_0794, w_0795, w_0793⟩
theorem c_X11_176 : CaV RX11 176 RX4 mX4_falling 1 := ⟨k_X4_falling, w_0777, w_0778, w_0797⟩
theorem c_L_68 : CaV RL 68 RX11 mX11_least 2 := ⟨k_X11_least, w_0799, w_0800, w_0798⟩
theorem c_X11_179 : CaV RX11 179 RX4 mX4_leastPull 1 := ⟨k_X4_leastPull, w_0803, w_0804, w_0802⟩
theorem c_X4_139 : CaV RX4 139 RX4 mX4_weakestAt 2 := ⟨k_X4_weakestAt, w_0808, w_0020, w_0806⟩
theorem c_X11_182 : CaV RX11 182 RX4 mX4_hanging 1 := ⟨k_X4_hanging, w_0781, w_0782, w_0810⟩
theorem c_X11_185 : CaS RX11 185 mJ6_bitCount_0f7a4 1 := ⟨k_J6_bitCount_0f7a4, w_0592, Or.inl w_0811⟩
theorem c_L_72 : CaV RL 72 RX11 mX11_good 1 := ⟨k_X11_good, w_0813, w_0814, w_0812⟩
theorem c_X11_193 : CaV RX11 193 RX4 mX4_worthNext 1 := ⟨k_X4_worthNext, w_0817, w_0818, w_0816⟩
theorem c_X4_142 : CaV RX4 142 RX4 mX4_size 0 := ⟨k_X4_size, w_0588, w_0589, w_0820⟩
theorem c_L_77 : CaV RL 77 RX11 mX11_next 1 := ⟨k_X11_next, w_0823, w_0824, w_0822⟩
theorem c_X11_201 : CaV RX11 201 RX4 mX4_nextOf 1 := ⟨k_X4_nextOf, w_0827, w_0828, w_0826⟩
theorem c_X4_145 : CaV RX4 145 RX0 mX0_clear 0 := ⟨k_X0_clear, w_0831, w_0832, w_0830⟩
theorem c_X4_154 : CaV RX4 154 RX4 mX4_worthNext 1 := ⟨k_X4_worthNext, w_0817, w_0818, w_0838⟩
theorem c_X4_157 : CaV RX4 157 RX0 mX0_offer 2 := ⟨k_X0_offer, w_0840, w_0841, w_0839⟩
theorem c_L_81 : CaV RL 81 RX11 mX11_build 2 := ⟨k_X11_build, w_0844, w_0845, w_0843⟩
theorem c_L_85 : CaV RL 85 RX11 mX11_best 4 := ⟨k_X11_best, w_0848, w_0849, w_0847⟩
theorem c_X11_213 : CaV RX11 213 RX4 mX4_bestOf 3 := ⟨k_X4_bestOf, w_0852, w_0853, w_0851⟩
theorem c_X4_161 : CaV RX4 161 RX4 mX4_put 3 := ⟨k_X4_put, w_0567, w_0568, w_0855⟩
theorem c_X4_165 : CaV RX4 165 RX4 mX4_leastHold 1 := ⟨k_X4_leastHold, w_0858, w_0021, w_0856⟩
theorem c_L_90 : CaV RL 90 RX11 mX11_takes 0 := ⟨k_X11_takes, w_0861, w_0862, w_0860⟩
theorem c_X11_220 : CaV RX11 220 RX4 mX4_isTaken 1 := ⟨k_X4_isTaken, w_0865, w_0866, w_0864⟩
theorem c_X4_171 : CaV RX4 171 RX4 mX4_covered 0 := ⟨k_X4_covered, w_0869, w_0870, w_0868⟩
theorem c_X4_177 : CaV RX4 177 RX4 mX4_greenBits 1 := ⟨k_X4_greenBits, w_0873, w_0874, w_0872⟩
theorem c_X4_81 : CaV RX4 81 RX4 mX4_isGreen 2 := ⟨k_X4_isGreen, w_0737, w_0738, w_0876⟩
theorem c_L_94 : CaV RL 94 RX11 mX11_when 0 := ⟨k_X11_when, w_0878, w_0879, w_0877⟩
theorem c_L_98 : CaV RL 98 RX11 mX11_spare 0 := ⟨k_X11_spare, w_0882, w_0883, w_0881⟩
theorem c_L_102 : CaV RL 102 RX11 mX11_brown 1 := ⟨k_X11_brown, w_0886, w_0887, w_0885⟩
theorem c_X11_223 : CaV RX11 223 RX4 mX4_greenBits 1 := ⟨k_X4_greenBits, w_0873, w_0874, w_0889⟩
theorem c_L_106 : CaV RL 106 RX11 mX11_holes 0 := ⟨k_X11_holes, w_0891, w_0892, w_0890⟩
theorem c_X11_226 : CaV RX11 226 RX4 mX4_holeBits 0 := ⟨k_X4_holeBits, w_0895, w_0896, w_0894⟩
theorem c_X4_174 : CaS RX4 174 mX4_isEnclosed 2 := ⟨k_X4_isEnclosed, w_0899, Or.inl w_0898⟩
theorem c_L_110 : CaV RL 110 RX11 mX11_closes 2 := ⟨k_X11_closes, w_0902, w_0903, w_0901⟩
theorem c_X11_229 : CaV RX11 229 RX4 mX4_closingOf 2 := ⟨k_X4_closingOf, w_0906, w_0907, w_0905⟩
theorem c_X4_168 : CaS RX4 168 mX4_crossingsOf 1 := ⟨k_X4_crossingsOf, w_0910, Or.inl w_0909⟩
theorem c_L_114 : CaV RL 114 RX11 mX11_slipped 0 := ⟨k_X11_slipped, w_0913, w_0914, w_0912⟩
theorem c_X11_233 : CaV RX11 233 RX4 mX4_slipping 0 := ⟨k_X4_slipping, w_0917, w_0918, w_0916⟩
theorem c_X4_85 : CaV RX4 85 RX10 mX10_slips 1 := ⟨k_X10_slips, w_0660, w_0661, w_0920⟩
theorem c_L_118 : CaV RL 118 RX11 mX11_image 0 := ⟨k_X11_image, w_0922, w_0923, w_0921⟩
theorem c_X11_236 : CaV RX11 236 RX4 mX4_becomes 1 := ⟨k_X4_becomes, w_0926, w_0927, w_0925⟩
theorem c_L_122 : CaV RL 122 RX11 mX11_back 0 := ⟨k_X11_back, w_0930, w_0931, w_0929⟩
theorem c_L_126 : CaV RL 126 RX11 mX11_count 1 := ⟨k_X11_count, w_0934, w_0935, w_0933⟩
theorem c_X11_244 : CaV RX11 244 RX4 mX4_covered 0 := ⟨k_X4_covered, w_0869, w_0870, w_0937⟩
theorem c_L_130 : CaV RL 130 RX11 mX11_sheet 3 := ⟨k_X11_sheet, w_0939, w_0940, w_0938⟩
theorem c_X11_247 : CaS RX11 247 mX11_isSheet 1 := ⟨k_X11_isSheet, w_0943, Or.inl w_0942⟩
theorem c_X11_250 : CaS RX11 250 mX11_isSort 1 := ⟨k_X11_isSort, w_0946, Or.inl w_0945⟩
theorem c_X11_253 : CaV RX11 253 RX7 mX7_becomes 2 := ⟨k_X7_becomes, w_0949, w_0950, w_0948⟩
theorem c_X7_22 : CaS RX7 22 mJ7_fill_53178 2 := ⟨k_J7_fill_53178, w_0953, Or.inl w_0952⟩
theorem c_L_134 : CaV RL 134 RX11 mX11_cell 3 := ⟨k_X11_cell, w_0956, w_0957, w_0955⟩
theorem c_X11_260 : CaV RX11 260 RX7 mX7_write 2 := ⟨k_X7_write, w_0960, w_0961, w_0959⟩
theorem c_L_138 : CaV RL 138 RX11 mX11_copy 5 := ⟨k_X11_copy, w_0964, w_0965, w_0963⟩
theorem c_X11_263 : CaV RX11 263 RX7 mX7_holds 2 := ⟨k_X7_holds, w_0968, w_0969, w_0967⟩
theorem c_L_143 : CaV RL 143 RX11 mX11_strips 4 := ⟨k_X11_strips, w_0973, w_0974, w_0972⟩
theorem c_X11_275 : CaV RX11 275 RX11 mX11_lay 3 := ⟨k_X11_lay, w_0477, w_0478, w_0976⟩
theorem c_L_147 : CaV RL 147 RX11 mX11_taken 2 := ⟨k_X11_taken, w_0978, w_0979, w_0977⟩
theorem c_X11_278 : CaS RX11 278 mX11_isUnder 2 := ⟨k_X11_isUnder, w_0982, Or.inl w_0981⟩
theorem c_L_12 : CaI RL 12 mX12_init 0 := ⟨k_X12_init, w_0987, by decide +kernel, rfl, Or.inl w_0986⟩
theorem c_X12_59 : CaV RX12 59 RX12 mX12_spell 2 := ⟨k_X12_spell, w_0993, w_0022, w_0991⟩
theorem c_L_17 : CaV RL 17 RX12 mX12_lay 3 := ⟨k_X12_lay, w_1124, w_1125, w_1123⟩
theorem c_X12_82 : CaS RX12 82 mX12_in 3 := ⟨k_X12_in, w_1129, Or.inl w_1128⟩
theorem c_X12_102 : CaS RX12 102 mX12_isWhere 1 := ⟨k_X12_isWhere, w_1132, Or.inl w_1131⟩
theorem c_X12_108 : CaV RX12 108 RX12 mX12_free 0 := ⟨k_X12_free, w_1138, w_0023, w_1136⟩
theorem c_X12_112 : CaV RX12 112 RX12 mX12_lays 4 := ⟨k_X12_lays, w_1142, w_0024, w_1140⟩
theorem c_X12_98 : CaS RX12 98 mX12_coversOf 1 := ⟨k_X12_coversOf, w_1145, Or.inl w_1144⟩
theorem c_L_22 : CaV RL 22 RX12 mX12_out 1 := ⟨k_X12_out, w_1148, w_1149, w_1147⟩
theorem c_X12_116 : CaV RX12 116 RX12 mX12_isStrip 1 := ⟨k_X12_isStrip, w_1153, w_0025, w_1151⟩
theorem c_X12_119 : CaS RX12 119 mX12_bitsOf 1 := ⟨k_X12_bitsOf, w_1157, Or.inl w_1156⟩
theorem c_L_26 : CaV RL 26 RX12 mX12_hours 1 := ⟨k_X12_hours, w_1160, w_1161, w_1159⟩
theorem c_L_30 : CaV RL 30 RX12 mX12_green 1 := ⟨k_X12_green, w_1165, w_1166, w_1164⟩
theorem c_L_35 : CaV RL 35 RX12 mX12_told 2 := ⟨k_X12_told, w_1169, w_1170, w_1168⟩
theorem c_X12_124 : CaV RX12 124 RX12 mX12_ageOf 1 := ⟨k_X12_ageOf, w_1174, w_0026, w_1172⟩
theorem c_X12_142 : CaV RX12 142 RX12 mX12_knotOf 1 := ⟨k_X12_knotOf, w_1178, w_0027, w_1176⟩
theorem c_X12_151 : CaV RX12 151 RX12 mX12_slips 1 := ⟨k_X12_slips, w_1182, w_0028, w_1180⟩
theorem c_X12_148 : CaV RX12 148 RX12 mX12_tiesOf 1 := ⟨k_X12_tiesOf, w_1186, w_0029, w_1184⟩
theorem c_X12_134 : CaV RX12 134 RX12 mX12_crosses 3 := ⟨k_X12_crosses, w_1190, w_0030, w_1188⟩
theorem c_X12_127 : CaV RX12 127 RX12 mX12_at1 2 := ⟨k_X12_at1, w_1194, w_0031, w_1192⟩
theorem c_X12_154 : CaV RX12 154 RX12 mX12_holdOf 2 := ⟨k_X12_holdOf, w_1198, w_0032, w_1196⟩
theorem c_X12_138 : CaV RX12 138 RX12 mX12_read 8 := ⟨k_X12_read, w_1202, w_0033, w_1200⟩
theorem c_X12_216 : CaV RX12 216 RX12 mX12_next1 0 := ⟨k_X12_next1, w_1206, w_0034, w_1204⟩
theorem c_X12_174 : CaV RX12 174 RX12 mX12_byteAt 1 := ⟨k_X12_byteAt, w_1210, w_0035, w_1208⟩
theorem c_X12_291 : CaV RX12 291 RX12 mX12_part 1 := ⟨k_X12_part, w_1223, w_0036, w_1221⟩
theorem c_X12_219 : CaV RX12 219 RX12 mX12_isWord 1 := ⟨k_X12_isWord, w_1227, w_0037, w_1225⟩
theorem c_X12_213 : CaV RX12 213 RX12 mX12_fail 0 := ⟨k_X12_fail, w_1231, w_0038, w_1229⟩
theorem c_X12_261 : CaV RX12 261 RX12 mX12_either 0 := ⟨k_X12_either, w_1235, w_0039, w_1233⟩
theorem c_X12_284 : CaV RX12 284 RX12 mX12_both 0 := ⟨k_X12_both, w_1239, w_0040, w_1237⟩
theorem c_X12_274 : CaV RX12 274 RX12 mX12_not 0 := ⟨k_X12_not, w_1243, w_0041, w_1241⟩
theorem c_X12_254 : CaV RX12 254 RX12 mX12_opens 0 := ⟨k_X12_opens, w_1248, w_0042, w_1246⟩
theorem c_X12_277 : CaV RX12 277 RX12 mX12_added 0 := ⟨k_X12_added, w_1252, w_0043, w_1250⟩
theorem c_X12_267 : CaV RX12 267 RX12 mX12_term 0 := ⟨k_X12_term, w_1256, w_0044, w_1254⟩
theorem c_X12_258 : CaV RX12 258 RX12 mX12_one 0 := ⟨k_X12_one, w_1260, w_0045, w_1258⟩
theorem c_X12_251 : CaV RX12 251 RX12 mX12_isSign 1 := ⟨k_X12_isSign, w_1264, w_0046, w_1262⟩
theorem c_X12_264 : CaV RX12 264 RX12 mX12_name 0 := ⟨k_X12_name, w_1268, w_0047, w_1266⟩
theorem c_X12_145 : CaS RX12 145 mX12_within 3 := ⟨k_X12_within, w_1283, Or.inl w_1282⟩
theorem c_L_39 : CaV RL 39 RX12 mX12_at 1 := ⟨k_X12_at, w_1286, w_1287, w_1285⟩
theorem c_X12_157 : CaS RX12 157 mX12_isCrossing 1 := ⟨k_X12_isCrossing, w_1290, Or.inl w_1289⟩
theorem c_L_46 : CaV RL 46 RX12 mX12_feed 2 := ⟨k_X12_feed, w_1293, w_1294, w_1292⟩
theorem c_L_51 : CaV RL 51 RX12 mX12_text 0 := ⟨k_X12_text, w_1298, w_1299, w_1297⟩
theorem c_L_55 : CaV RL 55 RX12 mX12_force 1 := ⟨k_X12_force, w_1302, w_1303, w_1301⟩
theorem c_L_67 : CaV RL 67 RX12 mX12_falls 0 := ⟨k_X12_falls, w_1306, w_1307, w_1305⟩
theorem c_X12_299 : CaV RX12 299 RX12 mX12_fallsOf 1 := ⟨k_X12_fallsOf, w_1311, w_0048, w_1309⟩
theorem c_L_59 : CaV RL 59 RX12 mX12_pull 3 := ⟨k_X12_pull, w_1314, w_1315, w_1313⟩
theorem c_X12_304 : CaV RX12 304 RX12 mX12_leftBy 2 := ⟨k_X12_leftBy, w_1320, w_0049, w_1318⟩
theorem c_L_63 : CaV RL 63 RX12 mX12_pulled 2 := ⟨k_X12_pulled, w_1323, w_1324, w_1322⟩
theorem c_L_71 : CaV RL 71 RX12 mX12_least 2 := ⟨k_X12_least, w_1327, w_1328, w_1326⟩
theorem c_L_76 : CaV RL 76 RX12 mX12_good 1 := ⟨k_X12_good, w_1331, w_1332, w_1330⟩
theorem c_X12_307 : CaV RX12 307 RX12 mX12_goodOf 1 := ⟨k_X12_goodOf, w_1336, w_0050, w_1334⟩
theorem c_L_80 : CaV RL 80 RX12 mX12_next 1 := ⟨k_X12_next, w_1340, w_1341, w_1339⟩
theorem c_X12_315 : CaV RX12 315 RX12 mX12_nextOf 1 := ⟨k_X12_nextOf, w_1345, w_0051, w_1343⟩
theorem c_X12_312 : CaS RX12 312 mX12_where 2 := ⟨k_X12_where, w_1348, Or.inl w_1347⟩
theorem c_L_84 : CaV RL 84 RX12 mX12_build 2 := ⟨k_X12_build, w_1351, w_1352, w_1350⟩
theorem c_L_89 : CaV RL 89 RX12 mX12_best 4 := ⟨k_X12_best, w_1355, w_1356, w_1354⟩
theorem c_X12_318 : CaV RX12 318 RX12 mX12_leastHold 0 := ⟨k_X12_leastHold, w_1360, w_0052, w_1358⟩
theorem c_L_93 : CaV RL 93 RX12 mX12_takes 0 := ⟨k_X12_takes, w_1363, w_1364, w_1362⟩
theorem c_X12_327 : CaV RX12 327 RX12 mX12_isTaken 0 := ⟨k_X12_isTaken, w_1368, w_0053, w_1366⟩
theorem c_X12_321 : CaV RX12 321 RX12 mX12_covered 0 := ⟨k_X12_covered, w_1372, w_0054, w_1370⟩
theorem c_X12_324 : CaV RX12 324 RX12 mX12_greens 0 := ⟨k_X12_greens, w_1376, w_0055, w_1374⟩
theorem c_L_97 : CaV RL 97 RX12 mX12_when 0 := ⟨k_X12_when, w_1379, w_1380, w_1378⟩
theorem c_L_101 : CaV RL 101 RX12 mX12_spare 0 := ⟨k_X12_spare, w_1383, w_1384, w_1382⟩
theorem c_L_105 : CaV RL 105 RX12 mX12_brown 1 := ⟨k_X12_brown, w_1387, w_1388, w_1386⟩
theorem c_L_109 : CaV RL 109 RX12 mX12_holes 0 := ⟨k_X12_holes, w_1391, w_1392, w_1390⟩
theorem c_X12_332 : CaS RX12 332 mX12_isBeyond 5 := ⟨k_X12_isBeyond, w_1395, Or.inl w_1394⟩
theorem c_L_113 : CaV RL 113 RX12 mX12_closes 2 := ⟨k_X12_closes, w_1399, w_1400, w_1398⟩
theorem c_X12_336 : CaV RX12 336 RX12 mX12_holes 0 := ⟨k_X12_holes, w_1391, w_1392, w_1402⟩
theorem c_L_117 : CaV RL 117 RX12 mX12_slipped 0 := ⟨k_X12_slipped, w_1404, w_1405, w_1403⟩
theorem c_L_121 : CaV RL 121 RX12 mX12_image 0 := ⟨k_X12_image, w_1408, w_1409, w_1407⟩
theorem c_L_125 : CaV RL 125 RX12 mX12_back 0 := ⟨k_X12_back, w_1412, w_1413, w_1411⟩
theorem c_L_129 : CaV RL 129 RX12 mX12_count 1 := ⟨k_X12_count, w_1416, w_1417, w_1415⟩
theorem c_L_133 : CaV RL 133 RX12 mX12_sheet 3 := ⟨k_X12_sheet, w_1420, w_1421, w_1419⟩
theorem c_X12_356 : CaS RX12 356 mX12_isSheet 1 := ⟨k_X12_isSheet, w_1424, Or.inl w_1423⟩
theorem c_L_137 : CaV RL 137 RX12 mX12_cell 3 := ⟨k_X12_cell, w_1429, w_1430, w_1428⟩
theorem c_L_142 : CaV RL 142 RX12 mX12_copy 5 := ⟨k_X12_copy, w_1433, w_1434, w_1432⟩
theorem c_L_146 : CaV RL 146 RX12 mX12_strips 4 := ⟨k_X12_strips, w_1437, w_1438, w_1436⟩
theorem c_X12_363 : CaV RX12 363 RX12 mX12_lay 3 := ⟨k_X12_lay, w_1124, w_1125, w_1441⟩
theorem c_L_150 : CaV RL 150 RX12 mX12_taken 2 := ⟨k_X12_taken, w_1443, w_1444, w_1442⟩
theorem c_X12_366 : CaS RX12 366 mX12_over 1 := ⟨k_X12_over, w_1447, Or.inl w_1446⟩
theorem c_X11_9 : CaI RX11 9 mX6_init 0 := ⟨k_X6_init, w_0090, by decide +kernel, rfl, Or.inr (List.mem_of_getElem? (i := 0) rfl)⟩
theorem c_X4_39 : CaI RX4 39 mX0_init 0 := ⟨k_X0_init, w_0383, by decide +kernel, rfl, Or.inr (List.mem_of_getElem? (i := 1) rfl)⟩
theorem c_X11_67 : CaI RX11 67 mX7_init 0 := ⟨k_X7_init, w_0438, by decide +kernel, rfl, Or.inr (List.mem_of_getElem? (i := 2) rfl)⟩
theorem c_X4_60 : CaS RX4 60 mX11_longOf 1 := ⟨k_X11_longOf, w_0499, Or.inr (List.mem_of_getElem? (i := 3) rfl)⟩
theorem c_X4_63 : CaS RX4 63 mX11_firstOf 1 := ⟨k_X11_firstOf, w_0490, Or.inr (List.mem_of_getElem? (i := 4) rfl)⟩
theorem c_X4_66 : CaS RX4 66 mX11_stepOf 1 := ⟨k_X11_stepOf, w_0573, Or.inr (List.mem_of_getElem? (i := 5) rfl)⟩
theorem c_X4_148 : CaS RX4 148 mX11_placeOf 2 := ⟨k_X11_placeOf, w_0835, Or.inr (List.mem_of_getElem? (i := 6) rfl)⟩
theorem c_X4_151 : CaS RX4 151 mX11_fits 1 := ⟨k_X11_fits, w_0487, Or.inr (List.mem_of_getElem? (i := 7) rfl)⟩
