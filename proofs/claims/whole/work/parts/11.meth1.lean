/-! the methods, with their rooms; their words among the good ones; links -/
theorem gw_at {w : Cond} (i : Nat) (h : lw_tbl[i]? = some w) (hg : goodWord w = true) : w ∈ gw := List.mem_filter.mpr ⟨List.mem_of_getElem? h, hg⟩
theorem nest_at {w : Cond} (hg : (match w with | .methodLinkNest .. => true | _ => false) = true) (i : Nat) (h : lw_tbl[i]? = some w) : w ∈ nestW := List.mem_filter.mpr ⟨List.mem_of_getElem? h, hg⟩
abbrev mm_J0_coder_7d493 : MT := (yJ0_coder_7d493, cJ0_coder_7d493, 1, (some .byte), { frames := 0, cells := 0, slots := 0, locals := 0 })
theorem ok_J0_coder_7d493 : okM mm_J0_coder_7d493 := ⟨gw_at 476 (by decide +kernel) rfl, gw_at 69 (by decide +kernel) rfl, by decide +kernel, by decide +kernel⟩
abbrev mm_J0_isLatin1_aae02 : MT := (yJ0_isLatin1_aae02, cJ0_isLatin1_aae02, 1, (some .boolean), { frames := 0, cells := 0, slots := 0, locals := 0 })
theorem ok_J0_isLatin1_aae02 : okM mm_J0_isLatin1_aae02 := ⟨gw_at 486 (by decide +kernel) rfl, gw_at 69 (by decide +kernel) rfl, by decide +kernel, by decide +kernel⟩
abbrev mm_J2_length_9d52b : MT := (yJ2_length_9d52b, cJ2_length_9d52b, 1, (some .int), { frames := 0, cells := 0, slots := 0, locals := 0 })
theorem ok_J2_length_9d52b : okM mm_J2_length_9d52b := ⟨gw_at 506 (by decide +kernel) rfl, gw_at 72 (by decide +kernel) rfl, by decide +kernel, by decide +kernel⟩
abbrev mm_J3_checkIndex_8e157 : MT := (yJ3_checkIndex_8e157, cJ3_checkIndex_8e157, 3, (some .int), { frames := 0, cells := 0, slots := 0, locals := 0 })
theorem ok_J3_checkIndex_8e157 : okM mm_J3_checkIndex_8e157 := ⟨gw_at 497 (by decide +kernel) rfl, gw_at 71 (by decide +kernel) rfl, by decide +kernel, by decide +kernel⟩
abbrev mm_X0_remember : MT := (yX0_remember, cX0_remember, 4, none, { frames := 0, cells := 0, slots := 0, locals := 0 })
theorem ok_X0_remember : okM mm_X0_remember := ⟨gw_at 835 (by decide +kernel) rfl, gw_at 66 (by decide +kernel) rfl, by decide +kernel, by decide +kernel⟩
abbrev mm_X0_toldOf : MT := (yX0_toldOf, cX0_toldOf, 3, (some .int), { frames := 0, cells := 0, slots := 0, locals := 0 })
theorem ok_X0_toldOf : okM mm_X0_toldOf := ⟨gw_at 839 (by decide +kernel) rfl, gw_at 66 (by decide +kernel) rfl, by decide +kernel, by decide +kernel⟩
abbrev mm_X10_allCells : MT := (yX10_allCells, cX10_allCells, 3, (some .int), { frames := 0, cells := 0, slots := 0, locals := 0 })
theorem ok_X10_allCells : okM mm_X10_allCells := ⟨gw_at 1288 (by decide +kernel) rfl, gw_at 68 (by decide +kernel) rfl, by decide +kernel, by decide +kernel⟩
abbrev mm_X10_changesMore : MT := (yX10_changesMore, cX10_changesMore, 4, none, { frames := 0, cells := 0, slots := 0, locals := 0 })
theorem ok_X10_changesMore : okM mm_X10_changesMore := ⟨gw_at 1194 (by decide +kernel) rfl, gw_at 68 (by decide +kernel) rfl, by decide +kernel, by decide +kernel⟩
abbrev mm_X10_copyPacket : MT := (yX10_copyPacket, cX10_copyPacket, 4, none, { frames := 0, cells := 0, slots := 0, locals := 0 })
theorem ok_X10_copyPacket : okM mm_X10_copyPacket := ⟨gw_at 1088 (by decide +kernel) rfl, gw_at 68 (by decide +kernel) rfl, by decide +kernel, by decide +kernel⟩
abbrev mm_X10_endAnew : MT := (yX10_endAnew, cX10_endAnew, 3, none, { frames := 0, cells := 0, slots := 0, locals := 0 })
theorem ok_X10_endAnew : okM mm_X10_endAnew := ⟨gw_at 1072 (by decide +kernel) rfl, gw_at 68 (by decide +kernel) rfl, by decide +kernel, by decide +kernel⟩
abbrev mm_X10_erase : MT := (yX10_erase, cX10_erase, 2, (some .int), { frames := 0, cells := 0, slots := 0, locals := 0 })
theorem ok_X10_erase : okM mm_X10_erase := ⟨gw_at 1022 (by decide +kernel) rfl, gw_at 68 (by decide +kernel) rfl, by decide +kernel, by decide +kernel⟩
abbrev mm_X10_firstPacket : MT := (yX10_firstPacket, cX10_firstPacket, 4, (some .int), { frames := 0, cells := 0, slots := 0, locals := 0 })
theorem ok_X10_firstPacket : okM mm_X10_firstPacket := ⟨gw_at 1174 (by decide +kernel) rfl, gw_at 68 (by decide +kernel) rfl, by decide +kernel, by decide +kernel⟩
abbrev mm_X10_in : MT := (yX10_in, cX10_in, 6, (some .boolean), { frames := 0, cells := 0, slots := 0, locals := 0 })
theorem ok_X10_in : okM mm_X10_in := ⟨gw_at 1018 (by decide +kernel) rfl, gw_at 68 (by decide +kernel) rfl, by decide +kernel, by decide +kernel⟩
abbrev mm_X10_isOpen : MT := (yX10_isOpen, cX10_isOpen, 5, (some .boolean), { frames := 0, cells := 0, slots := 0, locals := 0 })
theorem ok_X10_isOpen : okM mm_X10_isOpen := ⟨gw_at 1218 (by decide +kernel) rfl, gw_at 68 (by decide +kernel) rfl, by decide +kernel, by decide +kernel⟩
abbrev mm_X10_isReady : MT := (yX10_isReady, cX10_isReady, 2, (some .boolean), { frames := 0, cells := 0, slots := 0, locals := 0 })
theorem ok_X10_isReady : okM mm_X10_isReady := ⟨gw_at 1084 (by decide +kernel) rfl, gw_at 68 (by decide +kernel) rfl, by decide +kernel, by decide +kernel⟩
abbrev mm_X10_keys : MT := (yX10_keys, cX10_keys, 5, none, { frames := 0, cells := 0, slots := 0, locals := 0 })
theorem ok_X10_keys : okM mm_X10_keys := ⟨gw_at 1076 (by decide +kernel) rfl, gw_at 68 (by decide +kernel) rfl, by decide +kernel, by decide +kernel⟩
abbrev mm_X10_keysOf : MT := (yX10_keysOf, cX10_keysOf, 4, (some .int), { frames := 0, cells := 0, slots := 0, locals := 0 })
theorem ok_X10_keysOf : okM mm_X10_keysOf := ⟨gw_at 1121 (by decide +kernel) rfl, gw_at 68 (by decide +kernel) rfl, by decide +kernel, by decide +kernel⟩
abbrev mm_X10_oldest : MT := (yX10_oldest, cX10_oldest, 2, (some .int), { frames := 0, cells := 0, slots := 0, locals := 0 })
theorem ok_X10_oldest : okM mm_X10_oldest := ⟨gw_at 1214 (by decide +kernel) rfl, gw_at 68 (by decide +kernel) rfl, by decide +kernel, by decide +kernel⟩
abbrev mm_X10_readyEnds : MT := (yX10_readyEnds, cX10_readyEnds, 3, (some .int), { frames := 0, cells := 0, slots := 0, locals := 0 })
theorem ok_X10_readyEnds : okM mm_X10_readyEnds := ⟨gw_at 1138 (by decide +kernel) rfl, gw_at 68 (by decide +kernel) rfl, by decide +kernel, by decide +kernel⟩
abbrev mm_X10_reasonOf : MT := (yX10_reasonOf, cX10_reasonOf, 5, (some .int), { frames := 0, cells := 0, slots := 0, locals := 0 })
theorem ok_X10_reasonOf : okM mm_X10_reasonOf := ⟨gw_at 1190 (by decide +kernel) rfl, gw_at 68 (by decide +kernel) rfl, by decide +kernel, by decide +kernel⟩
abbrev mm_X10_sends : MT := (yX10_sends, cX10_sends, 8, none, { frames := 0, cells := 0, slots := 0, locals := 0 })
theorem ok_X10_sends : okM mm_X10_sends := ⟨gw_at 1182 (by decide +kernel) rfl, gw_at 68 (by decide +kernel) rfl, by decide +kernel, by decide +kernel⟩
abbrev mm_X10_tells : MT := (yX10_tells, cX10_tells, 8, none, { frames := 0, cells := 0, slots := 0, locals := 0 })
theorem ok_X10_tells : okM mm_X10_tells := ⟨gw_at 1157 (by decide +kernel) rfl, gw_at 68 (by decide +kernel) rfl, by decide +kernel, by decide +kernel⟩
abbrev mm_X10_wordHere : MT := (yX10_wordHere, cX10_wordHere, 4, (some .int), { frames := 0, cells := 0, slots := 0, locals := 0 })
theorem ok_X10_wordHere : okM mm_X10_wordHere := ⟨gw_at 1052 (by decide +kernel) rfl, gw_at 68 (by decide +kernel) rfl, by decide +kernel, by decide +kernel⟩
abbrev mm_X1_isAwaited : MT := (yX1_isAwaited, cX1_isAwaited, 3, (some .boolean), { frames := 0, cells := 0, slots := 0, locals := 0 })
theorem ok_X1_isAwaited : okM mm_X1_isAwaited := ⟨gw_at 787 (by decide +kernel) rfl, gw_at 65 (by decide +kernel) rfl, by decide +kernel, by decide +kernel⟩
abbrev mm_X1_postReceive : MT := (yX1_postReceive, cX1_postReceive, 2, (some .int), { frames := 0, cells := 0, slots := 0, locals := 0 })
theorem ok_X1_postReceive : okM mm_X1_postReceive := ⟨gw_at 750 (by decide +kernel) rfl, gw_at 65 (by decide +kernel) rfl, by decide +kernel, by decide +kernel⟩
abbrev mm_X1_restart : MT := (yX1_restart, cX1_restart, 2, none, { frames := 0, cells := 0, slots := 0, locals := 0 })
theorem ok_X1_restart : okM mm_X1_restart := ⟨gw_at 553 (by decide +kernel) rfl, gw_at 65 (by decide +kernel) rfl, by decide +kernel, by decide +kernel⟩
abbrev mm_X1_rightFor : MT := (yX1_rightFor, cX1_rightFor, 1, (some .int), { frames := 0, cells := 0, slots := 0, locals := 0 })
theorem ok_X1_rightFor : okM mm_X1_rightFor := ⟨gw_at 831 (by decide +kernel) rfl, gw_at 65 (by decide +kernel) rfl, by decide +kernel, by decide +kernel⟩
abbrev mm_X1_setAim : MT := (yX1_setAim, cX1_setAim, 3, none, { frames := 0, cells := 0, slots := 0, locals := 0 })
theorem ok_X1_setAim : okM mm_X1_setAim := ⟨gw_at 557 (by decide +kernel) rfl, gw_at 65 (by decide +kernel) rfl, by decide +kernel, by decide +kernel⟩
abbrev mm_X2_cellSum : MT := (yX2_cellSum, cX2_cellSum, 3, (some .int), { frames := 0, cells := 0, slots := 0, locals := 0 })
theorem ok_X2_cellSum : okM mm_X2_cellSum := ⟨gw_at 885 (by decide +kernel) rfl, gw_at 63 (by decide +kernel) rfl, by decide +kernel, by decide +kernel⟩
abbrev mm_X2_keyCount : MT := (yX2_keyCount, cX2_keyCount, 3, (some .int), { frames := 0, cells := 0, slots := 0, locals := 0 })
theorem ok_X2_keyCount : okM mm_X2_keyCount := ⟨gw_at 621 (by decide +kernel) rfl, gw_at 63 (by decide +kernel) rfl, by decide +kernel, by decide +kernel⟩
abbrev mm_X2_pullNotice : MT := (yX2_pullNotice, cX2_pullNotice, 2, (some (.object "RemoteCells$Notice")), { frames := 0, cells := 0, slots := 0, locals := 0 })
theorem ok_X2_pullNotice : okM mm_X2_pullNotice := ⟨gw_at 860 (by decide +kernel) rfl, gw_at 63 (by decide +kernel) rfl, by decide +kernel, by decide +kernel⟩
abbrev mm_X2_pushNotice : MT := (yX2_pushNotice, cX2_pushNotice, 2, none, { frames := 0, cells := 0, slots := 0, locals := 0 })
theorem ok_X2_pushNotice : okM mm_X2_pushNotice := ⟨gw_at 690 (by decide +kernel) rfl, gw_at 63 (by decide +kernel) rfl, by decide +kernel, by decide +kernel⟩
abbrev mm_X2_reset : MT := (yX2_reset, cX2_reset, 2, none, { frames := 0, cells := 0, slots := 0, locals := 0 })
theorem ok_X2_reset : okM mm_X2_reset := ⟨gw_at 545 (by decide +kernel) rfl, gw_at 63 (by decide +kernel) rfl, by decide +kernel, by decide +kernel⟩
abbrev mm_X2_setKey : MT := (yX2_setKey, cX2_setKey, 6, none, { frames := 0, cells := 0, slots := 0, locals := 0 })
theorem ok_X2_setKey : okM mm_X2_setKey := ⟨gw_at 565 (by decide +kernel) rfl, gw_at 63 (by decide +kernel) rfl, by decide +kernel, by decide +kernel⟩
abbrev mm_X5_beAnswer : MT := (yX5_beAnswer, cX5_beAnswer, 4, none, { frames := 0, cells := 0, slots := 0, locals := 0 })
theorem ok_X5_beAnswer : okM mm_X5_beAnswer := ⟨gw_at 816 (by decide +kernel) rfl, gw_at 61 (by decide +kernel) rfl, by decide +kernel, by decide +kernel⟩
abbrev mm_X5_beCopyOf : MT := (yX5_beCopyOf, cX5_beCopyOf, 2, none, { frames := 0, cells := 0, slots := 0, locals := 0 })
theorem ok_X5_beCopyOf : okM mm_X5_beCopyOf := ⟨gw_at 766 (by decide +kernel) rfl, gw_at 61 (by decide +kernel) rfl, by decide +kernel, by decide +kernel⟩
abbrev mm_X5_beRequest : MT := (yX5_beRequest, cX5_beRequest, 2, none, { frames := 0, cells := 0, slots := 0, locals := 0 })
theorem ok_X5_beRequest : okM mm_X5_beRequest := ⟨gw_at 726 (by decide +kernel) rfl, gw_at 61 (by decide +kernel) rfl, by decide +kernel, by decide +kernel⟩
abbrev mm_X6_append : MT := (yX6_append, cX6_append, 2, none, { frames := 0, cells := 0, slots := 0, locals := 0 })
theorem ok_X6_append : okM mm_X6_append := ⟨gw_at 426 (by decide +kernel) rfl, gw_at 62 (by decide +kernel) rfl, by decide +kernel, by decide +kernel⟩
abbrev mm_X6_isDigit : MT := (yX6_isDigit, cX6_isDigit, 1, (some .boolean), { frames := 0, cells := 0, slots := 0, locals := 0 })
theorem ok_X6_isDigit : okM mm_X6_isDigit := ⟨gw_at 456 (by decide +kernel) rfl, gw_at 62 (by decide +kernel) rfl, by decide +kernel, by decide +kernel⟩
abbrev mm_X6_isSmall : MT := (yX6_isSmall, cX6_isSmall, 1, (some .boolean), { frames := 0, cells := 0, slots := 0, locals := 0 })
theorem ok_X6_isSmall : okM mm_X6_isSmall := ⟨gw_at 453 (by decide +kernel) rfl, gw_at 62 (by decide +kernel) rfl, by decide +kernel, by decide +kernel⟩
abbrev mm_X6_rewind : MT := (yX6_rewind, cX6_rewind, 1, none, { frames := 0, cells := 0, slots := 0, locals := 0 })
theorem ok_X6_rewind : okM mm_X6_rewind := ⟨gw_at 442 (by decide +kernel) rfl, gw_at 62 (by decide +kernel) rfl, by decide +kernel, by decide +kernel⟩
abbrev mm_X7_firstPlace : MT := (yX7_firstPlace, cX7_firstPlace, 3, (some .int), { frames := 0, cells := 0, slots := 0, locals := 0 })
theorem ok_X7_firstPlace : okM mm_X7_firstPlace := ⟨gw_at 762 (by decide +kernel) rfl, gw_at 60 (by decide +kernel) rfl, by decide +kernel, by decide +kernel⟩
abbrev mm_X7_passTimeTo : MT := (yX7_passTimeTo, cX7_passTimeTo, 2, none, { frames := 0, cells := 0, slots := 0, locals := 0 })
theorem ok_X7_passTimeTo : okM mm_X7_passTimeTo := ⟨gw_at 770 (by decide +kernel) rfl, gw_at 60 (by decide +kernel) rfl, by decide +kernel, by decide +kernel⟩
abbrev mm_X7_removeAt : MT := (yX7_removeAt, cX7_removeAt, 4, none, { frames := 0, cells := 0, slots := 0, locals := 0 })
theorem ok_X7_removeAt : okM mm_X7_removeAt := ⟨gw_at 592 (by decide +kernel) rfl, gw_at 60 (by decide +kernel) rfl, by decide +kernel, by decide +kernel⟩
abbrev mm_X7_reset : MT := (yX7_reset, cX7_reset, 2, none, { frames := 0, cells := 0, slots := 0, locals := 0 })
theorem ok_X7_reset : okM mm_X7_reset := ⟨gw_at 561 (by decide +kernel) rfl, gw_at 60 (by decide +kernel) rfl, by decide +kernel, by decide +kernel⟩
abbrev mm_X9_erase : MT := (yX9_erase, cX9_erase, 2, (some .int), { frames := 0, cells := 0, slots := 0, locals := 0 })
theorem ok_X9_erase : okM mm_X9_erase := ⟨gw_at 430 (by decide +kernel) rfl, gw_at 59 (by decide +kernel) rfl, by decide +kernel, by decide +kernel⟩
abbrev mm_X9_firstEndOf : MT := (yX9_firstEndOf, cX9_firstEndOf, 1, (some .int), { frames := 0, cells := 0, slots := 0, locals := 0 })
theorem ok_X9_firstEndOf : okM mm_X9_firstEndOf := ⟨gw_at 573 (by decide +kernel) rfl, gw_at 59 (by decide +kernel) rfl, by decide +kernel, by decide +kernel⟩
abbrev mm_X9_isFetch : MT := (yX9_isFetch, cX9_isFetch, 1, (some .boolean), { frames := 0, cells := 0, slots := 0, locals := 0 })
theorem ok_X9_isFetch : okM mm_X9_isFetch := ⟨gw_at 709 (by decide +kernel) rfl, gw_at 59 (by decide +kernel) rfl, by decide +kernel, by decide +kernel⟩
abbrev mm_X9_isOutside : MT := (yX9_isOutside, cX9_isOutside, 3, (some .boolean), { frames := 0, cells := 0, slots := 0, locals := 0 })
theorem ok_X9_isOutside : okM mm_X9_isOutside := ⟨gw_at 422 (by decide +kernel) rfl, gw_at 59 (by decide +kernel) rfl, by decide +kernel, by decide +kernel⟩
abbrev mm_X9_lineOf : MT := (yX9_lineOf, cX9_lineOf, 1, (some .int), { frames := 0, cells := 0, slots := 0, locals := 0 })
theorem ok_X9_lineOf : okM mm_X9_lineOf := ⟨gw_at 588 (by decide +kernel) rfl, gw_at 59 (by decide +kernel) rfl, by decide +kernel, by decide +kernel⟩
abbrev mm_X9_otherEnd : MT := (yX9_otherEnd, cX9_otherEnd, 1, (some .int), { frames := 0, cells := 0, slots := 0, locals := 0 })
theorem ok_X9_otherEnd : okM mm_X9_otherEnd := ⟨gw_at 576 (by decide +kernel) rfl, gw_at 59 (by decide +kernel) rfl, by decide +kernel, by decide +kernel⟩
abbrev mm_X9_readyEnds : MT := (yX9_readyEnds, cX9_readyEnds, 3, (some .int), { frames := 0, cells := 0, slots := 0, locals := 0 })
theorem ok_X9_readyEnds : okM mm_X9_readyEnds := ⟨gw_at 640 (by decide +kernel) rfl, gw_at 59 (by decide +kernel) rfl, by decide +kernel, by decide +kernel⟩
abbrev mm_J0_checkIndex_df160 : MT := (yJ0_checkIndex_df160, cJ0_checkIndex_df160, 2, none, { frames := 1, cells := 0, slots := 0, locals := 22 })
theorem ok_J0_checkIndex_df160 : okM mm_J0_checkIndex_df160 := ⟨gw_at 492 (by decide +kernel) rfl, gw_at 69 (by decide +kernel) rfl, by decide +kernel, by decide +kernel⟩
abbrev mm_J0_length_8abf5 : MT := (yJ0_length_8abf5, cJ0_length_8abf5, 1, (some .int), { frames := 1, cells := 0, slots := 0, locals := 20 })
theorem ok_J0_length_8abf5 : okM mm_J0_length_8abf5 := ⟨gw_at 472 (by decide +kernel) rfl, gw_at 69 (by decide +kernel) rfl, by decide +kernel, by decide +kernel⟩
abbrev mm_J2_getChar_3b067 : MT := (yJ2_getChar_3b067, cJ2_getChar_3b067, 2, (some .char), { frames := 1, cells := 0, slots := 0, locals := 20 })
theorem ok_J2_getChar_3b067 : okM mm_J2_getChar_3b067 := ⟨gw_at 510 (by decide +kernel) rfl, gw_at 72 (by decide +kernel) rfl, by decide +kernel, by decide +kernel⟩
abbrev mm_X0_init : MT := (yX0_init, cX0_init, 1, none, { frames := 1, cells := 2, slots := 4, locals := 20 })
theorem ok_X0_init : okM mm_X0_init := ⟨gw_at 277 (by decide +kernel) rfl, gw_at 66 (by decide +kernel) rfl, by decide +kernel, by decide +kernel⟩
abbrev mm_X10_allAnew : MT := (yX10_allAnew, cX10_allAnew, 2, none, { frames := 1, cells := 0, slots := 0, locals := 22 })
theorem ok_X10_allAnew : okM mm_X10_allAnew := ⟨gw_at 1068 (by decide +kernel) rfl, gw_at 68 (by decide +kernel) rfl, by decide +kernel, by decide +kernel⟩
abbrev mm_X10_count : MT := (yX10_count, cX10_count, 2, (some .int), { frames := 1, cells := 0, slots := 0, locals := 22 })
theorem ok_X10_count : okM mm_X10_count := ⟨gw_at 1284 (by decide +kernel) rfl, gw_at 68 (by decide +kernel) rfl, by decide +kernel, by decide +kernel⟩
abbrev mm_X10_init : MT := (yX10_init, cX10_init, 1, none, { frames := 1, cells := 28, slots := 6754, locals := 20 })
theorem ok_X10_init : okM mm_X10_init := ⟨gw_at 890 (by decide +kernel) rfl, gw_at 68 (by decide +kernel) rfl, by decide +kernel, by decide +kernel⟩
abbrev mm_X10_isCell : MT := (yX10_isCell, cX10_isCell, 1, (some .boolean), { frames := 1, cells := 0, slots := 0, locals := 25 })
theorem ok_X10_isCell : okM mm_X10_isCell := ⟨gw_at 1102 (by decide +kernel) rfl, gw_at 68 (by decide +kernel) rfl, by decide +kernel, by decide +kernel⟩
abbrev mm_X10_isDigit : MT := (yX10_isDigit, cX10_isDigit, 1, (some .boolean), { frames := 1, cells := 0, slots := 0, locals := 25 })
theorem ok_X10_isDigit : okM mm_X10_isDigit := ⟨gw_at 1042 (by decide +kernel) rfl, gw_at 68 (by decide +kernel) rfl, by decide +kernel, by decide +kernel⟩
abbrev mm_X10_isEnd : MT := (yX10_isEnd, cX10_isEnd, 1, (some .boolean), { frames := 1, cells := 0, slots := 0, locals := 25 })
theorem ok_X10_isEnd : okM mm_X10_isEnd := ⟨gw_at 1145 (by decide +kernel) rfl, gw_at 68 (by decide +kernel) rfl, by decide +kernel, by decide +kernel⟩
abbrev mm_X10_isHost : MT := (yX10_isHost, cX10_isHost, 1, (some .boolean), { frames := 1, cells := 0, slots := 0, locals := 25 })
theorem ok_X10_isHost : okM mm_X10_isHost := ⟨gw_at 1099 (by decide +kernel) rfl, gw_at 68 (by decide +kernel) rfl, by decide +kernel, by decide +kernel⟩
abbrev mm_X10_isNumber : MT := (yX10_isNumber, cX10_isNumber, 1, (some .boolean), { frames := 1, cells := 0, slots := 0, locals := 25 })
theorem ok_X10_isNumber : okM mm_X10_isNumber := ⟨gw_at 1110 (by decide +kernel) rfl, gw_at 68 (by decide +kernel) rfl, by decide +kernel, by decide +kernel⟩
abbrev mm_X10_isSmall : MT := (yX10_isSmall, cX10_isSmall, 1, (some .boolean), { frames := 1, cells := 0, slots := 0, locals := 25 })
theorem ok_X10_isSmall : okM mm_X10_isSmall := ⟨gw_at 1037 (by decide +kernel) rfl, gw_at 68 (by decide +kernel) rfl, by decide +kernel, by decide +kernel⟩
abbrev mm_X10_joins : MT := (yX10_joins, cX10_joins, 4, none, { frames := 1, cells := 0, slots := 0, locals := 23 })
theorem ok_X10_joins : okM mm_X10_joins := ⟨gw_at 1080 (by decide +kernel) rfl, gw_at 68 (by decide +kernel) rfl, by decide +kernel, by decide +kernel⟩
abbrev mm_X10_packet : MT := (yX10_packet, cX10_packet, 3, (some .int), { frames := 1, cells := 0, slots := 0, locals := 25 })
theorem ok_X10_packet : okM mm_X10_packet := ⟨gw_at 1280 (by decide +kernel) rfl, gw_at 68 (by decide +kernel) rfl, by decide +kernel, by decide +kernel⟩
abbrev mm_X10_passes : MT := (yX10_passes, cX10_passes, 4, none, { frames := 1, cells := 0, slots := 0, locals := 27 })
theorem ok_X10_passes : okM mm_X10_passes := ⟨gw_at 1198 (by decide +kernel) rfl, gw_at 68 (by decide +kernel) rfl, by decide +kernel, by decide +kernel⟩
abbrev mm_X10_sendsWork : MT := (yX10_sendsWork, cX10_sendsWork, 4, none, { frames := 1, cells := 0, slots := 0, locals := 27 })
theorem ok_X10_sendsWork : okM mm_X10_sendsWork := ⟨gw_at 1226 (by decide +kernel) rfl, gw_at 68 (by decide +kernel) rfl, by decide +kernel, by decide +kernel⟩
abbrev mm_X10_taken : MT := (yX10_taken, cX10_taken, 2, (some .int), { frames := 1, cells := 0, slots := 0, locals := 25 })
theorem ok_X10_taken : okM mm_X10_taken := ⟨gw_at 1266 (by decide +kernel) rfl, gw_at 68 (by decide +kernel) rfl, by decide +kernel, by decide +kernel⟩
abbrev mm_X10_tellsAgain : MT := (yX10_tellsAgain, cX10_tellsAgain, 4, none, { frames := 1, cells := 0, slots := 0, locals := 27 })
theorem ok_X10_tellsAgain : okM mm_X10_tellsAgain := ⟨gw_at 1206 (by decide +kernel) rfl, gw_at 68 (by decide +kernel) rfl, by decide +kernel, by decide +kernel⟩
abbrev mm_X10_tellsOldest : MT := (yX10_tellsOldest, cX10_tellsOldest, 6, none, { frames := 1, cells := 0, slots := 0, locals := 27 })
theorem ok_X10_tellsOldest : okM mm_X10_tellsOldest := ⟨gw_at 1153 (by decide +kernel) rfl, gw_at 68 (by decide +kernel) rfl, by decide +kernel, by decide +kernel⟩
abbrev mm_X10_write : MT := (yX10_write, cX10_write, 2, (some .int), { frames := 1, cells := 0, slots := 0, locals := 25 })
theorem ok_X10_write : okM mm_X10_write := ⟨gw_at 1014 (by decide +kernel) rfl, gw_at 68 (by decide +kernel) rfl, by decide +kernel, by decide +kernel⟩
abbrev mm_X1_openFetches : MT := (yX1_openFetches, cX1_openFetches, 3, (some .int), { frames := 1, cells := 0, slots := 0, locals := 20 })
theorem ok_X1_openFetches : okM mm_X1_openFetches := ⟨gw_at 713 (by decide +kernel) rfl, gw_at 65 (by decide +kernel) rfl, by decide +kernel, by decide +kernel⟩
abbrev mm_X1_reasonAgainst : MT := (yX1_reasonAgainst, cX1_reasonAgainst, 3, (some .int), { frames := 1, cells := 0, slots := 0, locals := 20 })
theorem ok_X1_reasonAgainst : okM mm_X1_reasonAgainst := ⟨gw_at 828 (by decide +kernel) rfl, gw_at 65 (by decide +kernel) rfl, by decide +kernel, by decide +kernel⟩
abbrev mm_X1_reset : MT := (yX1_reset, cX1_reset, 1, none, { frames := 1, cells := 0, slots := 0, locals := 22 })
theorem ok_X1_reset : okM mm_X1_reset := ⟨gw_at 549 (by decide +kernel) rfl, gw_at 65 (by decide +kernel) rfl, by decide +kernel, by decide +kernel⟩
abbrev mm_X3_init : MT := (yX3_init, cX3_init, 1, none, { frames := 1, cells := 0, slots := 0, locals := 20 })
theorem ok_X3_init : okM mm_X3_init := ⟨gw_at 213 (by decide +kernel) rfl, gw_at 64 (by decide +kernel) rfl, by decide +kernel, by decide +kernel⟩
abbrev mm_X4_init : MT := (yX4_init, cX4_init, 6, none, { frames := 1, cells := 0, slots := 0, locals := 20 })
theorem ok_X4_init : okM mm_X4_init := ⟨gw_at 660 (by decide +kernel) rfl, gw_at 73 (by decide +kernel) rfl, by decide +kernel, by decide +kernel⟩
abbrev mm_X5_init : MT := (yX5_init, cX5_init, 1, none, { frames := 1, cells := 0, slots := 0, locals := 20 })
theorem ok_X5_init : okM mm_X5_init := ⟨gw_at 97 (by decide +kernel) rfl, gw_at 61 (by decide +kernel) rfl, by decide +kernel, by decide +kernel⟩
abbrev mm_X6_init : MT := (yX6_init, cX6_init, 1, none, { frames := 1, cells := 2, slots := 205, locals := 20 })
theorem ok_X6_init : okM mm_X6_init := ⟨gw_at 174 (by decide +kernel) rfl, gw_at 62 (by decide +kernel) rfl, by decide +kernel, by decide +kernel⟩
abbrev mm_X6_isAlike : MT := (yX6_isAlike, cX6_isAlike, 2, (some .boolean), { frames := 1, cells := 0, slots := 0, locals := 20 })
theorem ok_X6_isAlike : okM mm_X6_isAlike := ⟨gw_at 459 (by decide +kernel) rfl, gw_at 62 (by decide +kernel) rfl, by decide +kernel, by decide +kernel⟩
abbrev mm_X7_clearLine : MT := (yX7_clearLine, cX7_clearLine, 3, none, { frames := 1, cells := 0, slots := 0, locals := 23 })
theorem ok_X7_clearLine : okM mm_X7_clearLine := ⟨gw_at 585 (by decide +kernel) rfl, gw_at 60 (by decide +kernel) rfl, by decide +kernel, by decide +kernel⟩
abbrev mm_X7_placeFor : MT := (yX7_placeFor, cX7_placeFor, 3, (some (.object "RemoteCells$Packet")), { frames := 1, cells := 0, slots := 0, locals := 20 })
theorem ok_X7_placeFor : okM mm_X7_placeFor := ⟨gw_at 722 (by decide +kernel) rfl, gw_at 60 (by decide +kernel) rfl, by decide +kernel, by decide +kernel⟩
abbrev mm_X7_pullFirst : MT := (yX7_pullFirst, cX7_pullFirst, 2, (some (.object "RemoteCells$Packet")), { frames := 1, cells := 0, slots := 0, locals := 23 })
theorem ok_X7_pullFirst : okM mm_X7_pullFirst := ⟨gw_at 758 (by decide +kernel) rfl, gw_at 60 (by decide +kernel) rfl, by decide +kernel, by decide +kernel⟩
abbrev mm_X8_init : MT := (yX8_init, cX8_init, 1, none, { frames := 1, cells := 0, slots := 0, locals := 20 })
theorem ok_X8_init : okM mm_X8_init := ⟨gw_at 294 (by decide +kernel) rfl, gw_at 67 (by decide +kernel) rfl, by decide +kernel, by decide +kernel⟩
abbrev mm_X9_count : MT := (yX9_count, cX9_count, 2, (some .int), { frames := 1, cells := 0, slots := 0, locals := 22 })
theorem ok_X9_count : okM mm_X9_count := ⟨gw_at 881 (by decide +kernel) rfl, gw_at 59 (by decide +kernel) rfl, by decide +kernel, by decide +kernel⟩
abbrev mm_X9_hasReadyEnd : MT := (yX9_hasReadyEnd, cX9_hasReadyEnd, 2, (some .boolean), { frames := 1, cells := 0, slots := 0, locals := 20 })
theorem ok_X9_hasReadyEnd : okM mm_X9_hasReadyEnd := ⟨gw_at 570 (by decide +kernel) rfl, gw_at 59 (by decide +kernel) rfl, by decide +kernel, by decide +kernel⟩
abbrev mm_X9_isNoCell : MT := (yX9_isNoCell, cX9_isNoCell, 1, (some .boolean), { frames := 1, cells := 0, slots := 0, locals := 22 })
theorem ok_X9_isNoCell : okM mm_X9_isNoCell := ⟨gw_at 603 (by decide +kernel) rfl, gw_at 59 (by decide +kernel) rfl, by decide +kernel, by decide +kernel⟩
abbrev mm_X9_isNoEnd : MT := (yX9_isNoEnd, cX9_isNoEnd, 1, (some .boolean), { frames := 1, cells := 0, slots := 0, locals := 22 })
theorem ok_X9_isNoEnd : okM mm_X9_isNoEnd := ⟨gw_at 647 (by decide +kernel) rfl, gw_at 59 (by decide +kernel) rfl, by decide +kernel, by decide +kernel⟩
abbrev mm_X9_isNoHost : MT := (yX9_isNoHost, cX9_isNoHost, 1, (some .boolean), { frames := 1, cells := 0, slots := 0, locals := 22 })
theorem ok_X9_isNoHost : okM mm_X9_isNoHost := ⟨gw_at 600 (by decide +kernel) rfl, gw_at 59 (by decide +kernel) rfl, by decide +kernel, by decide +kernel⟩
abbrev mm_X9_isNoKey : MT := (yX9_isNoKey, cX9_isNoKey, 1, (some .boolean), { frames := 1, cells := 0, slots := 0, locals := 22 })
theorem ok_X9_isNoKey : okM mm_X9_isNoKey := ⟨gw_at 617 (by decide +kernel) rfl, gw_at 59 (by decide +kernel) rfl, by decide +kernel, by decide +kernel⟩
abbrev mm_X9_isNoLine : MT := (yX9_isNoLine, cX9_isNoLine, 1, (some .boolean), { frames := 1, cells := 0, slots := 0, locals := 22 })
theorem ok_X9_isNoLine : okM mm_X9_isNoLine := ⟨gw_at 636 (by decide +kernel) rfl, gw_at 59 (by decide +kernel) rfl, by decide +kernel, by decide +kernel⟩
abbrev mm_X9_isNoValue : MT := (yX9_isNoValue, cX9_isNoValue, 1, (some .boolean), { frames := 1, cells := 0, slots := 0, locals := 22 })
theorem ok_X9_isNoValue : okM mm_X9_isNoValue := ⟨gw_at 610 (by decide +kernel) rfl, gw_at 59 (by decide +kernel) rfl, by decide +kernel, by decide +kernel⟩
abbrev mm_X9_packet : MT := (yX9_packet, cX9_packet, 4, (some .int), { frames := 1, cells := 0, slots := 0, locals := 22 })
theorem ok_X9_packet : okM mm_X9_packet := ⟨gw_at 876 (by decide +kernel) rfl, gw_at 59 (by decide +kernel) rfl, by decide +kernel, by decide +kernel⟩
abbrev mm_X9_taken : MT := (yX9_taken, cX9_taken, 2, (some .int), { frames := 1, cells := 0, slots := 0, locals := 22 })
theorem ok_X9_taken : okM mm_X9_taken := ⟨gw_at 864 (by decide +kernel) rfl, gw_at 59 (by decide +kernel) rfl, by decide +kernel, by decide +kernel⟩
abbrev mm_X9_write : MT := (yX9_write, cX9_write, 2, (some .int), { frames := 1, cells := 0, slots := 0, locals := 22 })
theorem ok_X9_write : okM mm_X9_write := ⟨gw_at 419 (by decide +kernel) rfl, gw_at 59 (by decide +kernel) rfl, by decide +kernel, by decide +kernel⟩
abbrev mm_J1_charAt_3b067 : MT := (yJ1_charAt_3b067, cJ1_charAt_3b067, 2, (some .char), { frames := 2, cells := 0, slots := 0, locals := 43 })
theorem ok_J1_charAt_3b067 : okM mm_J1_charAt_3b067 := ⟨gw_at 489 (by decide +kernel) rfl, gw_at 70 (by decide +kernel) rfl, by decide +kernel, by decide +kernel⟩
abbrev mm_J2_checkIndex_2214a : MT := (yJ2_checkIndex_2214a, cJ2_checkIndex_2214a, 2, none, { frames := 2, cells := 0, slots := 0, locals := 43 })
theorem ok_J2_checkIndex_2214a : okM mm_J2_checkIndex_2214a := ⟨gw_at 503 (by decide +kernel) rfl, gw_at 72 (by decide +kernel) rfl, by decide +kernel, by decide +kernel⟩
abbrev mm_X10_aim : MT := (yX10_aim, cX10_aim, 5, (some .int), { frames := 2, cells := 0, slots := 0, locals := 45 })
theorem ok_X10_aim : okM mm_X10_aim := ⟨gw_at 1166 (by decide +kernel) rfl, gw_at 68 (by decide +kernel) rfl, by decide +kernel, by decide +kernel⟩
abbrev mm_X10_breaks : MT := (yX10_breaks, cX10_breaks, 3, none, { frames := 2, cells := 0, slots := 0, locals := 52 })
theorem ok_X10_breaks : okM mm_X10_breaks := ⟨gw_at 1149 (by decide +kernel) rfl, gw_at 68 (by decide +kernel) rfl, by decide +kernel, by decide +kernel⟩
abbrev mm_X10_cell : MT := (yX10_cell, cX10_cell, 3, (some .int), { frames := 2, cells := 0, slots := 0, locals := 45 })
theorem ok_X10_cell : okM mm_X10_cell := ⟨gw_at 1096 (by decide +kernel) rfl, gw_at 68 (by decide +kernel) rfl, by decide +kernel, by decide +kernel⟩
abbrev mm_X10_delay : MT := (yX10_delay, cX10_delay, 4, (some .int), { frames := 2, cells := 0, slots := 0, locals := 45 })
theorem ok_X10_delay : okM mm_X10_delay := ⟨gw_at 1161 (by decide +kernel) rfl, gw_at 68 (by decide +kernel) rfl, by decide +kernel, by decide +kernel⟩
abbrev mm_X10_does : MT := (yX10_does, cX10_does, 2, none, { frames := 2, cells := 0, slots := 0, locals := 46 })
theorem ok_X10_does : okM mm_X10_does := ⟨gw_at 1064 (by decide +kernel) rfl, gw_at 68 (by decide +kernel) rfl, by decide +kernel, by decide +kernel⟩
abbrev mm_X10_door : MT := (yX10_door, cX10_door, 5, (some .int), { frames := 2, cells := 0, slots := 0, locals := 45 })
theorem ok_X10_door : okM mm_X10_door := ⟨gw_at 1129 (by decide +kernel) rfl, gw_at 68 (by decide +kernel) rfl, by decide +kernel, by decide +kernel⟩
abbrev mm_X10_end : MT := (yX10_end, cX10_end, 3, (some .int), { frames := 2, cells := 0, slots := 0, locals := 45 })
theorem ok_X10_end : okM mm_X10_end := ⟨gw_at 1271 (by decide +kernel) rfl, gw_at 68 (by decide +kernel) rfl, by decide +kernel, by decide +kernel⟩
abbrev mm_X10_join : MT := (yX10_join, cX10_join, 2, (some .int), { frames := 2, cells := 0, slots := 0, locals := 46 })
theorem ok_X10_join : okM mm_X10_join := ⟨gw_at 1134 (by decide +kernel) rfl, gw_at 68 (by decide +kernel) rfl, by decide +kernel, by decide +kernel⟩
abbrev mm_X10_key : MT := (yX10_key, cX10_key, 6, (some .int), { frames := 2, cells := 0, slots := 0, locals := 45 })
theorem ok_X10_key : okM mm_X10_key := ⟨gw_at 1115 (by decide +kernel) rfl, gw_at 68 (by decide +kernel) rfl, by decide +kernel, by decide +kernel⟩
abbrev mm_X10_lock : MT := (yX10_lock, cX10_lock, 3, (some .int), { frames := 2, cells := 0, slots := 0, locals := 45 })
theorem ok_X10_lock : okM mm_X10_lock := ⟨gw_at 1125 (by decide +kernel) rfl, gw_at 68 (by decide +kernel) rfl, by decide +kernel, by decide +kernel⟩
abbrev mm_X10_next : MT := (yX10_next, cX10_next, 3, none, { frames := 2, cells := 0, slots := 0, locals := 45 })
theorem ok_X10_next : okM mm_X10_next := ⟨gw_at 1034 (by decide +kernel) rfl, gw_at 68 (by decide +kernel) rfl, by decide +kernel, by decide +kernel⟩
abbrev mm_X10_open : MT := (yX10_open, cX10_open, 4, (some .int), { frames := 2, cells := 0, slots := 0, locals := 45 })
theorem ok_X10_open : okM mm_X10_open := ⟨gw_at 1275 (by decide +kernel) rfl, gw_at 68 (by decide +kernel) rfl, by decide +kernel, by decide +kernel⟩
abbrev mm_X10_post : MT := (yX10_post, cX10_post, 8, (some .int), { frames := 2, cells := 0, slots := 0, locals := 50 })
theorem ok_X10_post : okM mm_X10_post := ⟨gw_at 1234 (by decide +kernel) rfl, gw_at 68 (by decide +kernel) rfl, by decide +kernel, by decide +kernel⟩
abbrev mm_X10_put : MT := (yX10_put, cX10_put, 5, (some .int), { frames := 2, cells := 0, slots := 0, locals := 45 })
theorem ok_X10_put : okM mm_X10_put := ⟨gw_at 1107 (by decide +kernel) rfl, gw_at 68 (by decide +kernel) rfl, by decide +kernel, by decide +kernel⟩
abbrev mm_X10_receive : MT := (yX10_receive, cX10_receive, 3, (some .int), { frames := 2, cells := 0, slots := 0, locals := 45 })
theorem ok_X10_receive : okM mm_X10_receive := ⟨gw_at 1254 (by decide +kernel) rfl, gw_at 68 (by decide +kernel) rfl, by decide +kernel, by decide +kernel⟩
abbrev mm_X10_receives : MT := (yX10_receives, cX10_receives, 5, none, { frames := 2, cells := 0, slots := 0, locals := 50 })
theorem ok_X10_receives : okM mm_X10_receives := ⟨gw_at 1202 (by decide +kernel) rfl, gw_at 68 (by decide +kernel) rfl, by decide +kernel, by decide +kernel⟩
abbrev mm_X10_take : MT := (yX10_take, cX10_take, 3, (some .int), { frames := 2, cells := 0, slots := 0, locals := 45 })
theorem ok_X10_take : okM mm_X10_take := ⟨gw_at 1262 (by decide +kernel) rfl, gw_at 68 (by decide +kernel) rfl, by decide +kernel, by decide +kernel⟩
abbrev mm_X1_answer : MT := (yX1_answer, cX1_answer, 5, none, { frames := 2, cells := 0, slots := 0, locals := 42 })
theorem ok_X1_answer : okM mm_X1_answer := ⟨gw_at 812 (by decide +kernel) rfl, gw_at 65 (by decide +kernel) rfl, by decide +kernel, by decide +kernel⟩
abbrev mm_X1_finishOldest : MT := (yX1_finishOldest, cX1_finishOldest, 5, none, { frames := 2, cells := 1, slots := 6, locals := 45 })
theorem ok_X1_finishOldest : okM mm_X1_finishOldest := ⟨gw_at 655 (by decide +kernel) rfl, gw_at 65 (by decide +kernel) rfl, by decide +kernel, by decide +kernel⟩
abbrev mm_X1_init : MT := (yX1_init, cX1_init, 5, none, { frames := 2, cells := 9, slots := 42, locals := 40 })
theorem ok_X1_init : okM mm_X1_init := ⟨gw_at 269 (by decide +kernel) rfl, gw_at 65 (by decide +kernel) rfl, by decide +kernel, by decide +kernel⟩
abbrev mm_X1_request : MT := (yX1_request, cX1_request, 3, none, { frames := 2, cells := 0, slots := 0, locals := 42 })
theorem ok_X1_request : okM mm_X1_request := ⟨gw_at 717 (by decide +kernel) rfl, gw_at 65 (by decide +kernel) rfl, by decide +kernel, by decide +kernel⟩
abbrev mm_X2_init : MT := (yX2_init, cX2_init, 2, none, { frames := 2, cells := 6, slots := 32, locals := 40 })
theorem ok_X2_init : okM mm_X2_init := ⟨gw_at 206 (by decide +kernel) rfl, gw_at 63 (by decide +kernel) rfl, by decide +kernel, by decide +kernel⟩
abbrev mm_X6_nextToken : MT := (yX6_nextToken, cX6_nextToken, 2, none, { frames := 2, cells := 0, slots := 0, locals := 41 })
theorem ok_X6_nextToken : okM mm_X6_nextToken := ⟨gw_at 450 (by decide +kernel) rfl, gw_at 62 (by decide +kernel) rfl, by decide +kernel, by decide +kernel⟩
abbrev mm_X7_init : MT := (yX7_init, cX7_init, 2, none, { frames := 2, cells := 27, slots := 276, locals := 40 })
theorem ok_X7_init : okM mm_X7_init := ⟨gw_at 90 (by decide +kernel) rfl, gw_at 60 (by decide +kernel) rfl, by decide +kernel, by decide +kernel⟩
abbrev mm_X7_repeat : MT := (yX7_repeat, cX7_repeat, 4, none, { frames := 2, cells := 0, slots := 0, locals := 42 })
theorem ok_X7_repeat : okM mm_X7_repeat := ⟨gw_at 774 (by decide +kernel) rfl, gw_at 60 (by decide +kernel) rfl, by decide +kernel, by decide +kernel⟩
abbrev mm_X9_aim : MT := (yX9_aim, cX9_aim, 5, (some .int), { frames := 2, cells := 0, slots := 0, locals := 42 })
theorem ok_X9_aim : okM mm_X9_aim := ⟨gw_at 698 (by decide +kernel) rfl, gw_at 59 (by decide +kernel) rfl, by decide +kernel, by decide +kernel⟩
abbrev mm_X9_cell : MT := (yX9_cell, cX9_cell, 3, (some .int), { frames := 2, cells := 0, slots := 0, locals := 42 })
theorem ok_X9_cell : okM mm_X9_cell := ⟨gw_at 597 (by decide +kernel) rfl, gw_at 59 (by decide +kernel) rfl, by decide +kernel, by decide +kernel⟩
abbrev mm_X9_delay : MT := (yX9_delay, cX9_delay, 4, (some .int), { frames := 2, cells := 0, slots := 0, locals := 42 })
theorem ok_X9_delay : okM mm_X9_delay := ⟨gw_at 694 (by decide +kernel) rfl, gw_at 59 (by decide +kernel) rfl, by decide +kernel, by decide +kernel⟩
abbrev mm_X9_door : MT := (yX9_door, cX9_door, 5, (some .int), { frames := 2, cells := 0, slots := 0, locals := 42 })
theorem ok_X9_door : okM mm_X9_door := ⟨gw_at 629 (by decide +kernel) rfl, gw_at 59 (by decide +kernel) rfl, by decide +kernel, by decide +kernel⟩
abbrev mm_X9_end : MT := (yX9_end, cX9_end, 4, (some .int), { frames := 2, cells := 0, slots := 0, locals := 42 })
theorem ok_X9_end : okM mm_X9_end := ⟨gw_at 868 (by decide +kernel) rfl, gw_at 59 (by decide +kernel) rfl, by decide +kernel, by decide +kernel⟩
abbrev mm_X9_joinLine : MT := (yX9_joinLine, cX9_joinLine, 2, none, { frames := 2, cells := 0, slots := 0, locals := 45 })
theorem ok_X9_joinLine : okM mm_X9_joinLine := ⟨gw_at 580 (by decide +kernel) rfl, gw_at 59 (by decide +kernel) rfl, by decide +kernel, by decide +kernel⟩
abbrev mm_X9_key : MT := (yX9_key, cX9_key, 6, (some .int), { frames := 2, cells := 0, slots := 0, locals := 42 })
theorem ok_X9_key : okM mm_X9_key := ⟨gw_at 614 (by decide +kernel) rfl, gw_at 59 (by decide +kernel) rfl, by decide +kernel, by decide +kernel⟩
abbrev mm_X9_lock : MT := (yX9_lock, cX9_lock, 3, (some .int), { frames := 2, cells := 0, slots := 0, locals := 42 })
theorem ok_X9_lock : okM mm_X9_lock := ⟨gw_at 625 (by decide +kernel) rfl, gw_at 59 (by decide +kernel) rfl, by decide +kernel, by decide +kernel⟩
abbrev mm_X9_open : MT := (yX9_open, cX9_open, 5, (some .int), { frames := 2, cells := 0, slots := 0, locals := 42 })
theorem ok_X9_open : okM mm_X9_open := ⟨gw_at 872 (by decide +kernel) rfl, gw_at 59 (by decide +kernel) rfl, by decide +kernel, by decide +kernel⟩
abbrev mm_X9_put : MT := (yX9_put, cX9_put, 5, (some .int), { frames := 2, cells := 0, slots := 0, locals := 42 })
theorem ok_X9_put : okM mm_X9_put := ⟨gw_at 607 (by decide +kernel) rfl, gw_at 59 (by decide +kernel) rfl, by decide +kernel, by decide +kernel⟩
abbrev mm_X9_receive : MT := (yX9_receive, cX9_receive, 3, (some .int), { frames := 2, cells := 0, slots := 0, locals := 42 })
theorem ok_X9_receive : okM mm_X9_receive := ⟨gw_at 746 (by decide +kernel) rfl, gw_at 59 (by decide +kernel) rfl, by decide +kernel, by decide +kernel⟩
abbrev mm_X9_resetAll : MT := (yX9_resetAll, cX9_resetAll, 2, none, { frames := 2, cells := 0, slots := 0, locals := 42 })
theorem ok_X9_resetAll : okM mm_X9_resetAll := ⟨gw_at 541 (by decide +kernel) rfl, gw_at 59 (by decide +kernel) rfl, by decide +kernel, by decide +kernel⟩
abbrev mm_X9_take : MT := (yX9_take, cX9_take, 3, (some .int), { frames := 2, cells := 0, slots := 0, locals := 42 })
theorem ok_X9_take : okM mm_X9_take := ⟨gw_at 856 (by decide +kernel) rfl, gw_at 59 (by decide +kernel) rfl, by decide +kernel, by decide +kernel⟩
abbrev mm_J2_charAt_3b067 : MT := (yJ2_charAt_3b067, cJ2_charAt_3b067, 2, (some .char), { frames := 3, cells := 0, slots := 0, locals := 64 })
theorem ok_J2_charAt_3b067 : okM mm_J2_charAt_3b067 := ⟨gw_at 500 (by decide +kernel) rfl, gw_at 72 (by decide +kernel) rfl, by decide +kernel, by decide +kernel⟩
abbrev mm_X10_accesses : MT := (yX10_accesses, cX10_accesses, 8, none, { frames := 3, cells := 0, slots := 0, locals := 74 })
theorem ok_X10_accesses : okM mm_X10_accesses := ⟨gw_at 1186 (by decide +kernel) rfl, gw_at 68 (by decide +kernel) rfl, by decide +kernel, by decide +kernel⟩
abbrev mm_X10_add : MT := (yX10_add, cX10_add, 4, (some .int), { frames := 3, cells := 0, slots := 0, locals := 77 })
theorem ok_X10_add : okM mm_X10_add := ⟨gw_at 1246 (by decide +kernel) rfl, gw_at 68 (by decide +kernel) rfl, by decide +kernel, by decide +kernel⟩
abbrev mm_X10_again : MT := (yX10_again, cX10_again, 3, none, { frames := 3, cells := 0, slots := 0, locals := 74 })
theorem ok_X10_again : okM mm_X10_again := ⟨gw_at 1222 (by decide +kernel) rfl, gw_at 68 (by decide +kernel) rfl, by decide +kernel, by decide +kernel⟩
abbrev mm_X10_read : MT := (yX10_read, cX10_read, 3, (some .int), { frames := 3, cells := 0, slots := 0, locals := 77 })
theorem ok_X10_read : okM mm_X10_read := ⟨gw_at 1242 (by decide +kernel) rfl, gw_at 68 (by decide +kernel) rfl, by decide +kernel, by decide +kernel⟩
abbrev mm_X10_reads : MT := (yX10_reads, cX10_reads, 6, (some .boolean), { frames := 3, cells := 0, slots := 0, locals := 67 })
theorem ok_X10_reads : okM mm_X10_reads := ⟨gw_at 1060 (by decide +kernel) rfl, gw_at 68 (by decide +kernel) rfl, by decide +kernel, by decide +kernel⟩
abbrev mm_X10_send : MT := (yX10_send, cX10_send, 3, (some .int), { frames := 3, cells := 0, slots := 0, locals := 77 })
theorem ok_X10_send : okM mm_X10_send := ⟨gw_at 1230 (by decide +kernel) rfl, gw_at 68 (by decide +kernel) rfl, by decide +kernel, by decide +kernel⟩
abbrev mm_X10_store : MT := (yX10_store, cX10_store, 3, (some .int), { frames := 3, cells := 0, slots := 0, locals := 77 })
theorem ok_X10_store : okM mm_X10_store := ⟨gw_at 1238 (by decide +kernel) rfl, gw_at 68 (by decide +kernel) rfl, by decide +kernel, by decide +kernel⟩
abbrev mm_X10_swap : MT := (yX10_swap, cX10_swap, 5, (some .int), { frames := 3, cells := 0, slots := 0, locals := 77 })
theorem ok_X10_swap : okM mm_X10_swap := ⟨gw_at 1250 (by decide +kernel) rfl, gw_at 68 (by decide +kernel) rfl, by decide +kernel, by decide +kernel⟩
abbrev mm_X10_tear : MT := (yX10_tear, cX10_tear, 3, (some .int), { frames := 3, cells := 0, slots := 0, locals := 74 })
theorem ok_X10_tear : okM mm_X10_tear := ⟨gw_at 1142 (by decide +kernel) rfl, gw_at 68 (by decide +kernel) rfl, by decide +kernel, by decide +kernel⟩
abbrev mm_X1_breakUp : MT := (yX1_breakUp, cX1_breakUp, 2, none, { frames := 3, cells := 7, slots := 42, locals := 69 })
theorem ok_X1_breakUp : okM mm_X1_breakUp := ⟨gw_at 651 (by decide +kernel) rfl, gw_at 65 (by decide +kernel) rfl, by decide +kernel, by decide +kernel⟩
abbrev mm_X1_bringHome : MT := (yX1_bringHome, cX1_bringHome, 2, none, { frames := 3, cells := 1, slots := 6, locals := 69 })
theorem ok_X1_bringHome : okM mm_X1_bringHome := ⟨gw_at 800 (by decide +kernel) rfl, gw_at 65 (by decide +kernel) rfl, by decide +kernel, by decide +kernel⟩
abbrev mm_X1_complain : MT := (yX1_complain, cX1_complain, 1, none, { frames := 3, cells := 0, slots := 0, locals := 66 })
theorem ok_X1_complain : okM mm_X1_complain := ⟨gw_at 808 (by decide +kernel) rfl, gw_at 65 (by decide +kernel) rfl, by decide +kernel, by decide +kernel⟩
abbrev mm_X1_finishBelow : MT := (yX1_finishBelow, cX1_finishBelow, 3, (some .boolean), { frames := 3, cells := 4, slots := 24, locals := 69 })
theorem ok_X1_finishBelow : okM mm_X1_finishBelow := ⟨gw_at 791 (by decide +kernel) rfl, gw_at 65 (by decide +kernel) rfl, by decide +kernel, by decide +kernel⟩
abbrev mm_X1_postWork : MT := (yX1_postWork, cX1_postWork, 6, (some .int), { frames := 3, cells := 0, slots := 0, locals := 64 })
theorem ok_X1_postWork : okM mm_X1_postWork := ⟨gw_at 706 (by decide +kernel) rfl, gw_at 65 (by decide +kernel) rfl, by decide +kernel, by decide +kernel⟩
abbrev mm_X1_takeIn : MT := (yX1_takeIn, cX1_takeIn, 3, (some .int), { frames := 3, cells := 1, slots := 6, locals := 66 })
theorem ok_X1_takeIn : okM mm_X1_takeIn := ⟨gw_at 847 (by decide +kernel) rfl, gw_at 65 (by decide +kernel) rfl, by decide +kernel, by decide +kernel⟩
abbrev mm_X6_readNumber : MT := (yX6_readNumber, cX6_readNumber, 7, (some .boolean), { frames := 3, cells := 0, slots := 0, locals := 62 })
theorem ok_X6_readNumber : okM mm_X6_readNumber := ⟨gw_at 525 (by decide +kernel) rfl, gw_at 62 (by decide +kernel) rfl, by decide +kernel, by decide +kernel⟩
abbrev mm_X9_doClause : MT := (yX9_doClause, cX9_doClause, 3, none, { frames := 3, cells := 0, slots := 0, locals := 66 })
theorem ok_X9_doClause : okM mm_X9_doClause := ⟨gw_at 537 (by decide +kernel) rfl, gw_at 59 (by decide +kernel) rfl, by decide +kernel, by decide +kernel⟩
abbrev mm_X9_init : MT := (yX9_init, cX9_init, 2, none, { frames := 3, cells := 87, slots := 808, locals := 64 })
theorem ok_X9_init : okM mm_X9_init := ⟨gw_at 78 (by decide +kernel) rfl, gw_at 59 (by decide +kernel) rfl, by decide +kernel, by decide +kernel⟩
abbrev mm_X9_join : MT := (yX9_join, cX9_join, 2, (some .int), { frames := 3, cells := 0, slots := 0, locals := 66 })
theorem ok_X9_join : okM mm_X9_join := ⟨gw_at 633 (by decide +kernel) rfl, gw_at 59 (by decide +kernel) rfl, by decide +kernel, by decide +kernel⟩
abbrev mm_J0_charAt_5068e : MT := (yJ0_charAt_5068e, cJ0_charAt_5068e, 2, (some .char), { frames := 4, cells := 0, slots := 0, locals := 85 })
theorem ok_J0_charAt_5068e : okM mm_J0_charAt_5068e := ⟨gw_at 482 (by decide +kernel) rfl, gw_at 69 (by decide +kernel) rfl, by decide +kernel, by decide +kernel⟩
abbrev mm_X10_answered : MT := (yX10_answered, cX10_answered, 6, none, { frames := 4, cells := 0, slots := 0, locals := 96 })
theorem ok_X10_answered : okM mm_X10_answered := ⟨gw_at 1210 (by decide +kernel) rfl, gw_at 68 (by decide +kernel) rfl, by decide +kernel, by decide +kernel⟩
abbrev mm_X10_readsRest : MT := (yX10_readsRest, cX10_readsRest, 2, (some .boolean), { frames := 4, cells := 0, slots := 0, locals := 92 })
theorem ok_X10_readsRest : okM mm_X10_readsRest := ⟨gw_at 1056 (by decide +kernel) rfl, gw_at 68 (by decide +kernel) rfl, by decide +kernel, by decide +kernel⟩
abbrev mm_X10_requested : MT := (yX10_requested, cX10_requested, 4, none, { frames := 4, cells := 0, slots := 0, locals := 101 })
theorem ok_X10_requested : okM mm_X10_requested := ⟨gw_at 1178 (by decide +kernel) rfl, gw_at 68 (by decide +kernel) rfl, by decide +kernel, by decide +kernel⟩
abbrev mm_X10_tick : MT := (yX10_tick, cX10_tick, 2, (some .int), { frames := 4, cells := 0, slots := 0, locals := 96 })
theorem ok_X10_tick : okM mm_X10_tick := ⟨gw_at 1258 (by decide +kernel) rfl, gw_at 68 (by decide +kernel) rfl, by decide +kernel, by decide +kernel⟩
abbrev mm_X1_bearBusy : MT := (yX1_bearBusy, cX1_bearBusy, 1, none, { frames := 4, cells := 8, slots := 48, locals := 90 })
theorem ok_X1_bearBusy : okM mm_X1_bearBusy := ⟨gw_at 804 (by decide +kernel) rfl, gw_at 65 (by decide +kernel) rfl, by decide +kernel, by decide +kernel⟩
abbrev mm_X1_reach : MT := (yX1_reach, cX1_reach, 5, (some .int), { frames := 4, cells := 7, slots := 42, locals := 90 })
theorem ok_X1_reach : okM mm_X1_reach := ⟨gw_at 824 (by decide +kernel) rfl, gw_at 65 (by decide +kernel) rfl, by decide +kernel, by decide +kernel⟩
abbrev mm_X1_tryAgain : MT := (yX1_tryAgain, cX1_tryAgain, 2, none, { frames := 4, cells := 8, slots := 48, locals := 90 })
theorem ok_X1_tryAgain : okM mm_X1_tryAgain := ⟨gw_at 795 (by decide +kernel) rfl, gw_at 65 (by decide +kernel) rfl, by decide +kernel, by decide +kernel⟩
abbrev mm_X9_add : MT := (yX9_add, cX9_add, 4, (some .int), { frames := 4, cells := 0, slots := 0, locals := 89 })
theorem ok_X9_add : okM mm_X9_add := ⟨gw_at 738 (by decide +kernel) rfl, gw_at 59 (by decide +kernel) rfl, by decide +kernel, by decide +kernel⟩
abbrev mm_X9_read : MT := (yX9_read, cX9_read, 3, (some .int), { frames := 4, cells := 0, slots := 0, locals := 89 })
theorem ok_X9_read : okM mm_X9_read := ⟨gw_at 734 (by decide +kernel) rfl, gw_at 59 (by decide +kernel) rfl, by decide +kernel, by decide +kernel⟩
abbrev mm_X9_send : MT := (yX9_send, cX9_send, 3, (some .int), { frames := 4, cells := 0, slots := 0, locals := 89 })
theorem ok_X9_send : okM mm_X9_send := ⟨gw_at 702 (by decide +kernel) rfl, gw_at 59 (by decide +kernel) rfl, by decide +kernel, by decide +kernel⟩
abbrev mm_X9_store : MT := (yX9_store, cX9_store, 3, (some .int), { frames := 4, cells := 0, slots := 0, locals := 89 })
theorem ok_X9_store : okM mm_X9_store := ⟨gw_at 730 (by decide +kernel) rfl, gw_at 59 (by decide +kernel) rfl, by decide +kernel, by decide +kernel⟩
abbrev mm_X9_swap : MT := (yX9_swap, cX9_swap, 5, (some .int), { frames := 4, cells := 0, slots := 0, locals := 89 })
theorem ok_X9_swap : okM mm_X9_swap := ⟨gw_at 742 (by decide +kernel) rfl, gw_at 59 (by decide +kernel) rfl, by decide +kernel, by decide +kernel⟩
abbrev mm_X9_tear : MT := (yX9_tear, cX9_tear, 4, (some .int), { frames := 4, cells := 7, slots := 42, locals := 90 })
theorem ok_X9_tear : okM mm_X9_tear := ⟨gw_at 644 (by decide +kernel) rfl, gw_at 59 (by decide +kernel) rfl, by decide +kernel, by decide +kernel⟩
abbrev mm_X10_readsClause : MT := (yX10_readsClause, cX10_readsClause, 2, (some .boolean), { frames := 5, cells := 0, slots := 0, locals := 113 })
theorem ok_X10_readsClause : okM mm_X10_readsClause := ⟨gw_at 1048 (by decide +kernel) rfl, gw_at 68 (by decide +kernel) rfl, by decide +kernel, by decide +kernel⟩
abbrev mm_X10_step : MT := (yX10_step, cX10_step, 4, (some .int), { frames := 5, cells := 0, slots := 0, locals := 124 })
theorem ok_X10_step : okM mm_X10_step := ⟨gw_at 1170 (by decide +kernel) rfl, gw_at 68 (by decide +kernel) rfl, by decide +kernel, by decide +kernel⟩
abbrev mm_X1_meetAnswer : MT := (yX1_meetAnswer, cX1_meetAnswer, 2, none, { frames := 5, cells := 12, slots := 72, locals := 111 })
theorem ok_X1_meetAnswer : okM mm_X1_meetAnswer := ⟨gw_at 783 (by decide +kernel) rfl, gw_at 65 (by decide +kernel) rfl, by decide +kernel, by decide +kernel⟩
abbrev mm_X1_meetExpected : MT := (yX1_meetExpected, cX1_meetExpected, 3, none, { frames := 5, cells := 7, slots := 42, locals := 114 })
theorem ok_X1_meetExpected : okM mm_X1_meetExpected := ⟨gw_at 843 (by decide +kernel) rfl, gw_at 65 (by decide +kernel) rfl, by decide +kernel, by decide +kernel⟩
abbrev mm_X1_meetOldRequest : MT := (yX1_meetOldRequest, cX1_meetOldRequest, 3, none, { frames := 5, cells := 7, slots := 42, locals := 114 })
theorem ok_X1_meetOldRequest : okM mm_X1_meetOldRequest := ⟨gw_at 820 (by decide +kernel) rfl, gw_at 65 (by decide +kernel) rfl, by decide +kernel, by decide +kernel⟩
abbrev mm_X6_isToken : MT := (yX6_isToken, cX6_isToken, 3, (some .boolean), { frames := 5, cells := 0, slots := 0, locals := 106 })
theorem ok_X6_isToken : okM mm_X6_isToken := ⟨gw_at 468 (by decide +kernel) rfl, gw_at 62 (by decide +kernel) rfl, by decide +kernel, by decide +kernel⟩
abbrev mm_X9_tick : MT := (yX9_tick, cX9_tick, 2, (some .int), { frames := 5, cells := 8, slots := 48, locals := 111 })
theorem ok_X9_tick : okM mm_X9_tick := ⟨gw_at 851 (by decide +kernel) rfl, gw_at 59 (by decide +kernel) rfl, by decide +kernel, by decide +kernel⟩
abbrev mm_X10_readsAll : MT := (yX10_readsAll, cX10_readsAll, 3, (some .boolean), { frames := 6, cells := 0, slots := 0, locals := 134 })
theorem ok_X10_readsAll : okM mm_X10_readsAll := ⟨gw_at 1030 (by decide +kernel) rfl, gw_at 68 (by decide +kernel) rfl, by decide +kernel, by decide +kernel⟩
abbrev mm_X1_meet : MT := (yX1_meet, cX1_meet, 2, none, { frames := 6, cells := 12, slots := 72, locals := 136 })
theorem ok_X1_meet : okM mm_X1_meet := ⟨gw_at 779 (by decide +kernel) rfl, gw_at 65 (by decide +kernel) rfl, by decide +kernel, by decide +kernel⟩
abbrev mm_X6_wordOfToken : MT := (yX6_wordOfToken, cX6_wordOfToken, 1, (some .int), { frames := 6, cells := 0, slots := 0, locals := 128 })
theorem ok_X6_wordOfToken : okM mm_X6_wordOfToken := ⟨gw_at 463 (by decide +kernel) rfl, gw_at 62 (by decide +kernel) rfl, by decide +kernel, by decide +kernel⟩
abbrev mm_X10_fault : MT := (yX10_fault, cX10_fault, 1, (some .int), { frames := 7, cells := 0, slots := 0, locals := 156 })
theorem ok_X10_fault : okM mm_X10_fault := ⟨gw_at 1026 (by decide +kernel) rfl, gw_at 68 (by decide +kernel) rfl, by decide +kernel, by decide +kernel⟩
abbrev mm_X10_tell : MT := (yX10_tell, cX10_tell, 1, (some .int), { frames := 7, cells := 0, slots := 0, locals := 156 })
theorem ok_X10_tell : okM mm_X10_tell := ⟨gw_at 1092 (by decide +kernel) rfl, gw_at 68 (by decide +kernel) rfl, by decide +kernel, by decide +kernel⟩
abbrev mm_X6_readClause : MT := (yX6_readClause, cX6_readClause, 1, (some .boolean), { frames := 7, cells := 0, slots := 0, locals := 148 })
theorem ok_X6_readClause : okM mm_X6_readClause := ⟨gw_at 446 (by decide +kernel) rfl, gw_at 62 (by decide +kernel) rfl, by decide +kernel, by decide +kernel⟩
abbrev mm_X9_step : MT := (yX9_step, cX9_step, 3, (some .int), { frames := 7, cells := 12, slots := 72, locals := 157 })
theorem ok_X9_step : okM mm_X9_step := ⟨gw_at 754 (by decide +kernel) rfl, gw_at 59 (by decide +kernel) rfl, by decide +kernel, by decide +kernel⟩
abbrev mm_X6_findFault : MT := (yX6_findFault, cX6_findFault, 2, (some .int), { frames := 8, cells := 0, slots := 0, locals := 168 })
theorem ok_X6_findFault : okM mm_X6_findFault := ⟨gw_at 438 (by decide +kernel) rfl, gw_at 62 (by decide +kernel) rfl, by decide +kernel, by decide +kernel⟩
abbrev mm_X9_fault : MT := (yX9_fault, cX9_fault, 1, (some .int), { frames := 9, cells := 0, slots := 0, locals := 189 })
theorem ok_X9_fault : okM mm_X9_fault := ⟨gw_at 434 (by decide +kernel) rfl, gw_at 59 (by decide +kernel) rfl, by decide +kernel, by decide +kernel⟩
abbrev mm_X9_tell : MT := (yX9_tell, cX9_tell, 3, (some .int), { frames := 9, cells := 0, slots := 0, locals := 189 })
theorem ok_X9_tell : okM mm_X9_tell := ⟨gw_at 531 (by decide +kernel) rfl, gw_at 59 (by decide +kernel) rfl, by decide +kernel, by decide +kernel⟩
abbrev mm_L_law : MT := (x, code, 4, ret, room_1)
