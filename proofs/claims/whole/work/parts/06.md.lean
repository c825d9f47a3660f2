def SH : List Ds := [.inr (.inr (7, [some 1, some 3, some 5, some 10, some 16, some 33, some 42, some 43, some 44, some 51, none, none])), .inr (.inr (5, [some 2, none, none, none, none, none])), .inl (1, 320), .inr (.inr (6, [some 4, none, none, none])), .inl (0, 3), .inr (.inr (0, [some 6, some 7, some 8, some 9, none, none])), .inl (0, 24), .inl (0, 24), .inl (0, 24), .inl (0, 24), .inr (.inr (1, [some 11, some 12, some 13, some 14, some 15, none])), .inl (0, 24), .inl (0, 24), .inl (0, 24), .inl (0, 24), .inl (0, 24), .inr (.inl (3, [17, 25])), .inr (.inr (2, [some 18, some 19, some 20, none, none, none])), .inl (0, 6), .inl (0, 6), .inr (.inr (0, [some 21, some 22, some 23, some 24, none, none])), .inl (0, 24), .inl (0, 24), .inl (0, 24), .inl (0, 24), .inr (.inr (2, [some 26, some 27, some 28, none, none, none])), .inl (0, 6), .inl (0, 6), .inr (.inr (0, [some 29, some 30, some 31, some 32, none, none])), .inl (0, 24), .inl (0, 24), .inl (0, 24), .inl (0, 24), .inr (.inl (4, [34, 36, 38, 40])), .inr (.inr (4, [some 35, none, none])), .inl (0, 40), .inr (.inr (4, [some 37, none, none])), .inl (0, 40), .inr (.inr (4, [some 39, none, none])), .inl (0, 40), .inr (.inr (4, [some 41, none, none])), .inl (0, 40), .inl (0, 6), .inl (0, 12), .inr (.inr (3, [some 45, some 46, some 47, some 48, some 49, some 50, none, none, none])), .inl (0, 6), .inl (0, 6), .inl (0, 6), .inl (0, 3), .inl (0, 12), .inl (0, 12), .inr (.inr (3, [some 52, some 53, some 54, some 55, some 56, some 57, none, none, none])), .inl (0, 6), .inl (0, 6), .inl (0, 6), .inl (0, 3), .inl (0, 12), .inl (0, 12), .inr (.inr (8, [some 59, some 60, some 61, none, some 62, none, none, some 63, some 64, none, some 65, none, some 66, none, none, none, none, some 67, none, none, none, none, none, none, none, none, some 68, some 69, some 70, some 71, some 72, some 73, some 74, some 75, some 76, some 77, some 78, none])), .inl (0, 480), .inl (0, 4), .inl (0, 3), .inl (0, 24), .inl (0, 6), .inl (0, 18), .inl (0, 6), .inl (0, 24), .inl (0, 320), .inl (0, 8), .inl (0, 30), .inl (0, 12), .inl (0, 24), .inl (0, 24), .inl (0, 24), .inl (0, 24), .inl (2, 2), .inl (0, 4), .inl (0, 4), .inl (0, 160)]
theorem SH_len : SH.length = NC := rfl
theorem pfI : parseFieldDescriptor "I" = some .int := by decide +kernel
theorem pfZ : parseFieldDescriptor "Z" = some .boolean := by decide +kernel
abbrev mX0_init : MD := (yX0_init, cX0_init, 1, none, { frames := 1, cells := 0, slots := 0, locals := 20 })
abbrev mX0_clear : MD := (yX0_clear, cX0_clear, 1, none, { frames := 0, cells := 0, slots := 0, locals := 0 })
theorem v_X0_clear : MV mX0_clear 0 := ⟨k_437, k_438, k_4, k_439, ⟨by decide, by decide, by decide +kernel⟩, rfl, rfl⟩
abbrev mX0_add : MD := (yX0_add, cX0_add, 4, (some .boolean), { frames := 0, cells := 0, slots := 0, locals := 0 })
theorem v_X0_add : MV mX0_add 3 := ⟨k_511, k_512, k_4, k_513, ⟨by decide, by decide, by decide +kernel⟩, rfl, rfl⟩
abbrev mX0_tonesOf : MD := (yX0_tonesOf, cX0_tonesOf, 4, (some .int), { frames := 0, cells := 0, slots := 0, locals := 0 })
theorem v_X0_tonesOf : MV mX0_tonesOf 1 := ⟨k_474, k_475, k_4, k_476, ⟨by decide, by decide, by decide +kernel⟩, rfl, rfl⟩
abbrev mX0_copyFrom : MD := (yX0_copyFrom, cX0_copyFrom, 2, none, { frames := 1, cells := 0, slots := 0, locals := 26 })
theorem v_X0_copyFrom : MV mX0_copyFrom 1 := ⟨k_726, k_727, k_4, k_728, ⟨by decide, by decide, by decide +kernel⟩, rfl, rfl⟩
abbrev mX1_init : MD := (yX1_init, cX1_init, 1, none, { frames := 1, cells := 0, slots := 0, locals := 20 })
abbrev mX1_begin : MD := (yX1_begin, cX1_begin, 3, none, { frames := 1, cells := 0, slots := 0, locals := 21 })
theorem v_X1_begin : MV mX1_begin 1 := ⟨k_652, k_653, k_5, k_654, ⟨by decide, by decide, by decide +kernel⟩, rfl, rfl⟩
abbrev mX1_allow : MD := (yX1_allow, cX1_allow, 3, none, { frames := 0, cells := 0, slots := 0, locals := 0 })
theorem v_X1_allow : MV mX1_allow 2 := ⟨k_662, k_663, k_5, k_664, ⟨by decide, by decide, by decide +kernel⟩, rfl, rfl⟩
abbrev mX1_findFree : MD := (yX1_findFree, cX1_findFree, 7, (some .int), { frames := 0, cells := 0, slots := 0, locals := 0 })
theorem v_X1_findFree : MV mX1_findFree 1 := ⟨k_671, kp_22, k_5, k_672, ⟨by decide, by decide, by decide +kernel⟩, rfl, rfl⟩
abbrev mX1_turnPath : MD := (yX1_turnPath, cX1_turnPath, 6, none, { frames := 0, cells := 0, slots := 0, locals := 0 })
theorem v_X1_turnPath : MV mX1_turnPath 1 := ⟨k_675, kp_23, k_5, k_676, ⟨by decide, by decide, by decide +kernel⟩, rfl, rfl⟩
abbrev mX1_least : MD := (yX1_least, cX1_least, 4, (some .int), { frames := 1, cells := 0, slots := 0, locals := 26 })
theorem v_X1_least : MV mX1_least 0 := ⟨k_666, k_667, k_5, k_668, ⟨by decide, by decide, by decide +kernel⟩, rfl, rfl⟩
abbrev mX2_init : MD := (yX2_init, cX2_init, 1, none, { frames := 2, cells := 0, slots := 0, locals := 40 })
abbrev mX2_take : MD := (yX2_take, cX2_take, 3, none, { frames := 2, cells := 0, slots := 0, locals := 47 })
theorem v_X2_take : MV mX2_take 2 := ⟨k_719, k_720, k_7, k_721, ⟨by decide, by decide, by decide +kernel⟩, rfl, rfl⟩
abbrev mX2_give : MD := (yX2_give, cX2_give, 3, none, { frames := 2, cells := 0, slots := 0, locals := 47 })
theorem v_X2_give : MV mX2_give 2 := ⟨k_735, k_736, k_7, k_737, ⟨by decide, by decide, by decide +kernel⟩, rfl, rfl⟩
abbrev mX3_clear : MD := (yX3_clear, cX3_clear, 1, none, { frames := 0, cells := 0, slots := 0, locals := 0 })
theorem v_X3_clear : MV mX3_clear 0 := ⟨k_144, k_145, k_6, k_146, ⟨by decide, by decide, by decide +kernel⟩, rfl, rfl⟩
abbrev mX3_init : MD := (yX3_init, cX3_init, 1, none, { frames := 1, cells := 0, slots := 0, locals := 20 })
abbrev mX7_isWithin : MD := (yX7_isWithin, cX7_isWithin, 2, (some .boolean), { frames := 0, cells := 0, slots := 0, locals := 0 })
theorem v_X7_isWithin : MS mX7_isWithin 2 := ⟨k_324, k_1, k_325, ⟨by decide, by decide, by decide +kernel⟩, rfl, rfl⟩
abbrev mX3_hasCell : MD := (yX3_hasCell, cX3_hasCell, 2, (some .boolean), { frames := 1, cells := 0, slots := 0, locals := 21 })
theorem v_X3_hasCell : MV mX3_hasCell 1 := ⟨k_320, k_321, k_6, k_322, ⟨by decide, by decide, by decide +kernel⟩, rfl, rfl⟩
abbrev mX3_hasTower : MD := (yX3_hasTower, cX3_hasTower, 2, (some .boolean), { frames := 1, cells := 0, slots := 0, locals := 21 })
theorem v_X3_hasTower : MV mX3_hasTower 1 := ⟨k_454, k_455, k_6, k_456, ⟨by decide, by decide, by decide +kernel⟩, rfl, rfl⟩
abbrev mX3_hasPipe : MD := (yX3_hasPipe, cX3_hasPipe, 3, (some .boolean), { frames := 0, cells := 0, slots := 0, locals := 0 })
theorem v_X3_hasPipe : MV mX3_hasPipe 2 := ⟨k_507, k_508, k_6, k_509, ⟨by decide, by decide, by decide +kernel⟩, rfl, rfl⟩
abbrev mX3_standsOnCells : MD := (yX3_standsOnCells, cX3_standsOnCells, 2, (some .boolean), { frames := 2, cells := 0, slots := 0, locals := 42 })
theorem v_X3_standsOnCells : MV mX3_standsOnCells 0 := ⟨k_316, k_317, k_6, k_318, ⟨by decide, by decide, by decide +kernel⟩, rfl, rfl⟩
abbrev mX3_howFar : MD := (yX3_howFar, cX3_howFar, 2, (some .int), { frames := 1, cells := 0, slots := 0, locals := 21 })
theorem v_X3_howFar : MS mX3_howFar 2 := ⟨k_497, k_6, k_498, ⟨by decide, by decide, by decide +kernel⟩, rfl, rfl⟩
abbrev mX3_against : MD := (yX3_against, cX3_against, 2, (some .int), { frames := 1, cells := 0, slots := 0, locals := 21 })
theorem v_X3_against : MS mX3_against 2 := ⟨k_491, k_6, k_492, ⟨by decide, by decide, by decide +kernel⟩, rfl, rfl⟩
abbrev mX3_sound : MD := (yX3_sound, cX3_sound, 4, (some .int), { frames := 2, cells := 0, slots := 0, locals := 42 })
theorem v_X3_sound : MV mX3_sound 2 := ⟨k_487, k_488, k_6, k_489, ⟨by decide, by decide, by decide +kernel⟩, rfl, rfl⟩
abbrev mX3_soundOf : MD := (yX3_soundOf, cX3_soundOf, 3, (some .int), { frames := 3, cells := 0, slots := 0, locals := 65 })
theorem v_X3_soundOf : MV mX3_soundOf 2 := ⟨k_556, k_557, k_6, k_558, ⟨by decide, by decide, by decide +kernel⟩, rfl, rfl⟩
abbrev mX3_psalmTones : MD := (yX3_psalmTones, cX3_psalmTones, 3, (some .int), { frames := 0, cells := 0, slots := 0, locals := 0 })
theorem v_X3_psalmTones : MV mX3_psalmTones 0 := ⟨k_618, k_619, k_6, k_620, ⟨by decide, by decide, by decide +kernel⟩, rfl, rfl⟩
abbrev mX3_pipesOfSet : MD := (yX3_pipesOfSet, cX3_pipesOfSet, 4, (some .int), { frames := 0, cells := 0, slots := 0, locals := 0 })
theorem v_X3_pipesOfSet : MV mX3_pipesOfSet 1 := ⟨k_640, k_641, k_6, k_642, ⟨by decide, by decide, by decide +kernel⟩, rfl, rfl⟩
abbrev mX3_latestBeat : MD := (yX3_latestBeat, cX3_latestBeat, 1, (some .int), { frames := 0, cells := 0, slots := 0, locals := 0 })
theorem v_X3_latestBeat : MV mX3_latestBeat 0 := ⟨k_413, k_414, k_6, k_415, ⟨by decide, by decide, by decide +kernel⟩, rfl, rfl⟩
abbrev mX3_addTower : MD := (yX3_addTower, cX3_addTower, 4, none, { frames := 0, cells := 0, slots := 0, locals := 0 })
theorem v_X3_addTower : MV mX3_addTower 3 := ⟨k_425, k_426, k_6, k_427, ⟨by decide, by decide, by decide +kernel⟩, rfl, rfl⟩
abbrev mX3_addHill : MD := (yX3_addHill, cX3_addHill, 3, none, { frames := 0, cells := 0, slots := 0, locals := 0 })
theorem v_X3_addHill : MV mX3_addHill 2 := ⟨k_429, k_430, k_6, k_431, ⟨by decide, by decide, by decide +kernel⟩, rfl, rfl⟩
abbrev mX3_addNote : MD := (yX3_addNote, cX3_addNote, 3, none, { frames := 0, cells := 0, slots := 0, locals := 0 })
theorem v_X3_addNote : MV mX3_addNote 2 := ⟨k_433, k_434, k_6, k_435, ⟨by decide, by decide, by decide +kernel⟩, rfl, rfl⟩
abbrev mX4_init : MD := (yX4_init, cX4_init, 1, none, { frames := 1, cells := 0, slots := 0, locals := 20 })
abbrev mX4_isNothing : MD := (yX4_isNothing, cX4_isNothing, 1, (some .boolean), { frames := 0, cells := 0, slots := 0, locals := 0 })
theorem v_X4_isNothing : MV mX4_isNothing 0 := ⟨k_751, k_752, k_8, k_753, ⟨by decide, by decide, by decide +kernel⟩, rfl, rfl⟩
abbrev mX4_renew : MD := (yX4_renew, cX4_renew, 4, none, { frames := 0, cells := 0, slots := 0, locals := 0 })
theorem v_X4_renew : MV mX4_renew 2 := ⟨k_743, k_744, k_8, k_745, ⟨by decide, by decide, by decide +kernel⟩, rfl, rfl⟩
abbrev mX4_put : MD := (yX4_put, cX4_put, 3, none, { frames := 0, cells := 0, slots := 0, locals := 0 })
theorem v_X4_put : MV mX4_put 2 := ⟨k_755, k_756, k_8, k_757, ⟨by decide, by decide, by decide +kernel⟩, rfl, rfl⟩
abbrev mX4_faultAs : MD := (yX4_faultAs, cX4_faultAs, 2, (some .int), { frames := 1, cells := 0, slots := 0, locals := 20 })
theorem v_X4_faultAs : MV mX4_faultAs 1 := ⟨k_763, k_764, k_8, k_765, ⟨by decide, by decide, by decide +kernel⟩, rfl, rfl⟩
abbrev mX4_hasBlowAt : MD := (yX4_hasBlowAt, cX4_hasBlowAt, 2, (some .boolean), { frames := 0, cells := 0, slots := 0, locals := 0 })
theorem v_X4_hasBlowAt : MV mX4_hasBlowAt 1 := ⟨k_768, k_769, k_8, k_770, ⟨by decide, by decide, by decide +kernel⟩, rfl, rfl⟩
abbrev mX5_init : MD := (yX5_init, cX5_init, 1, none, { frames := 1, cells := 0, slots := 0, locals := 20 })
abbrev mX5_put : MD := (yX5_put, cX5_put, 4, (some .boolean), { frames := 0, cells := 0, slots := 0, locals := 0 })
theorem v_X5_put : MV mX5_put 1 := ⟨k_277, k_278, k_2, k_279, ⟨by decide, by decide, by decide +kernel⟩, rfl, rfl⟩
abbrev mX5_rewind : MD := (yX5_rewind, cX5_rewind, 1, none, { frames := 0, cells := 0, slots := 0, locals := 0 })
theorem v_X5_rewind : MV mX5_rewind 0 := ⟨k_294, k_295, k_2, k_296, ⟨by decide, by decide, by decide +kernel⟩, rfl, rfl⟩
abbrev mX5_isLetter : MD := (yX5_isLetter, cX5_isLetter, 1, (some .boolean), { frames := 0, cells := 0, slots := 0, locals := 0 })
theorem v_X5_isLetter : MS mX5_isLetter 1 := ⟨k_302, k_2, k_303, ⟨by decide, by decide, by decide +kernel⟩, rfl, rfl⟩
abbrev mX5_readName : MD := (yX5_readName, cX5_readName, 1, none, { frames := 1, cells := 0, slots := 0, locals := 20 })
theorem v_X5_readName : MV mX5_readName 0 := ⟨k_306, kp_0, k_2, k_307, ⟨by decide, by decide, by decide +kernel⟩, rfl, rfl⟩
abbrev mX5_isFigure : MD := (yX5_isFigure, cX5_isFigure, 1, (some .boolean), { frames := 0, cells := 0, slots := 0, locals := 0 })
theorem v_X5_isFigure : MS mX5_isFigure 1 := ⟨k_309, k_2, k_310, ⟨by decide, by decide, by decide +kernel⟩, rfl, rfl⟩
abbrev mX5_readNumber : MD := (yX5_readNumber, cX5_readNumber, 1, none, { frames := 1, cells := 0, slots := 0, locals := 20 })
theorem v_X5_readNumber : MV mX5_readNumber 0 := ⟨k_313, kp_1, k_2, k_314, ⟨by decide, by decide, by decide +kernel⟩, rfl, rfl⟩
abbrev mX5_readToken : MD := (yX5_readToken, cX5_readToken, 1, none, { frames := 2, cells := 0, slots := 0, locals := 40 })
theorem v_X5_readToken : MV mX5_readToken 0 := ⟨k_298, k_299, k_2, k_300, ⟨by decide, by decide, by decide +kernel⟩, rfl, rfl⟩
abbrev mJ0_coder_7d493 : MD := (yJ0_coder_7d493, cJ0_coder_7d493, 1, (some .byte), { frames := 0, cells := 0, slots := 0, locals := 0 })
theorem v_J0_coder_7d493 : MV mJ0_coder_7d493 0 := ⟨k_356, k_357, k_10, k_358, ⟨by decide, by decide, by decide +kernel⟩, rfl, rfl⟩
abbrev mJ0_length_8abf5 : MD := (yJ0_length_8abf5, cJ0_length_8abf5, 1, (some .int), { frames := 1, cells := 0, slots := 0, locals := 20 })
theorem v_J0_length_8abf5 : MV mJ0_length_8abf5 0 := ⟨k_352, k_353, k_10, k_354, ⟨by decide, by decide, by decide +kernel⟩, rfl, rfl⟩
abbrev mJ0_isLatin1_aae02 : MD := (yJ0_isLatin1_aae02, cJ0_isLatin1_aae02, 1, (some .boolean), { frames := 0, cells := 0, slots := 0, locals := 0 })
theorem v_J0_isLatin1_aae02 : MV mJ0_isLatin1_aae02 0 := ⟨k_366, k_367, k_10, k_368, ⟨by decide, by decide, by decide +kernel⟩, rfl, rfl⟩
abbrev mJ3_checkIndex_8e157 : MD := (yJ3_checkIndex_8e157, cJ3_checkIndex_8e157, 3, (some .int), { frames := 0, cells := 0, slots := 0, locals := 0 })
theorem v_J3_checkIndex_8e157 : MS mJ3_checkIndex_8e157 3 := ⟨k_378, k_12, k_379, ⟨by decide, by decide, by decide +kernel⟩, rfl, rfl⟩
abbrev mJ0_checkIndex_df160 : MD := (yJ0_checkIndex_df160, cJ0_checkIndex_df160, 2, none, { frames := 1, cells := 0, slots := 0, locals := 22 })
theorem v_J0_checkIndex_df160 : MS mJ0_checkIndex_df160 2 := ⟨k_373, k_10, k_374, ⟨by decide, by decide, by decide +kernel⟩, rfl, rfl⟩
abbrev mJ1_charAt_3b067 : MD := (yJ1_charAt_3b067, cJ1_charAt_3b067, 2, (some .char), { frames := 2, cells := 0, slots := 0, locals := 43 })
theorem v_J1_charAt_3b067 : MS mJ1_charAt_3b067 2 := ⟨k_370, k_11, k_371, ⟨by decide, by decide, by decide +kernel⟩, rfl, rfl⟩
abbrev mJ2_length_9d52b : MD := (yJ2_length_9d52b, cJ2_length_9d52b, 1, (some .int), { frames := 0, cells := 0, slots := 0, locals := 0 })
theorem v_J2_length_9d52b : MS mJ2_length_9d52b 1 := ⟨k_387, k_13, k_388, ⟨by decide, by decide, by decide +kernel⟩, rfl, rfl⟩
abbrev mJ2_checkIndex_2214a : MD := (yJ2_checkIndex_2214a, cJ2_checkIndex_2214a, 2, none, { frames := 2, cells := 0, slots := 0, locals := 43 })
theorem v_J2_checkIndex_2214a : MS mJ2_checkIndex_2214a 2 := ⟨k_384, k_13, k_385, ⟨by decide, by decide, by decide +kernel⟩, rfl, rfl⟩
abbrev mJ2_getChar_3b067 : MD := (yJ2_getChar_3b067, cJ2_getChar_3b067, 2, (some .char), { frames := 1, cells := 0, slots := 0, locals := 20 })
theorem v_J2_getChar_3b067 : MS mJ2_getChar_3b067 2 := ⟨k_391, k_13, k_392, ⟨by decide, by decide, by decide +kernel⟩, rfl, rfl⟩
abbrev mJ2_charAt_3b067 : MD := (yJ2_charAt_3b067, cJ2_charAt_3b067, 2, (some .char), { frames := 3, cells := 0, slots := 0, locals := 64 })
theorem v_J2_charAt_3b067 : MS mJ2_charAt_3b067 2 := ⟨k_381, k_13, k_382, ⟨by decide, by decide, by decide +kernel⟩, rfl, rfl⟩
abbrev mJ0_charAt_5068e : MD := (yJ0_charAt_5068e, cJ0_charAt_5068e, 2, (some .char), { frames := 4, cells := 0, slots := 0, locals := 85 })
theorem v_J0_charAt_5068e : MV mJ0_charAt_5068e 1 := ⟨k_362, k_363, k_10, k_364, ⟨by decide, by decide, by decide +kernel⟩, rfl, rfl⟩
abbrev mX5_nameIs : MD := (yX5_nameIs, cX5_nameIs, 3, (some .boolean), { frames := 5, cells := 0, slots := 0, locals := 106 })
theorem v_X5_nameIs : MV mX5_nameIs 1 := ⟨k_348, k_349, k_2, k_350, ⟨by decide, by decide, by decide +kernel⟩, rfl, rfl⟩
abbrev mX6_init : MD := (yX6_init, cX6_init, 1, none, { frames := 1, cells := 0, slots := 0, locals := 20 })
abbrev mX6_refuse : MD := (yX6_refuse, cX6_refuse, 3, (some .int), { frames := 0, cells := 0, slots := 0, locals := 0 })
theorem v_X6_refuse : MV mX6_refuse 2 := ⟨k_328, kp_2, k_3, k_329, ⟨by decide, by decide, by decide +kernel⟩, rfl, rfl⟩
abbrev mX6_nameOf : MD := (yX6_nameOf, cX6_nameOf, 1, (some (.object "java/lang/String")), { frames := 0, cells := 0, slots := 0, locals := 0 })
theorem v_X6_nameOf : MS mX6_nameOf 1 := ⟨k_338, k_3, k_339, ⟨by decide, by decide, by decide +kernel⟩, rfl, rfl⟩
abbrev mX6_lineOfName : MD := (yX6_lineOfName, cX6_lineOfName, 2, (some .int), { frames := 6, cells := 0, slots := 0, locals := 128 })
theorem v_X6_lineOfName : MS mX6_lineOfName 1 := ⟨k_335, k_3, k_336, ⟨by decide, by decide, by decide +kernel⟩, rfl, rfl⟩
abbrev mX6_misplaced : MD := (yX6_misplaced, cX6_misplaced, 2, (some .boolean), { frames := 1, cells := 0, slots := 0, locals := 22 })
theorem v_X6_misplaced : MV mX6_misplaced 1 := ⟨k_401, kp_4, k_3, k_402, ⟨by decide, by decide, by decide +kernel⟩, rfl, rfl⟩
abbrev mX6_isFull : MD := (yX6_isFull, cX6_isFull, 2, (some .boolean), { frames := 0, cells := 0, slots := 0, locals := 0 })
theorem v_X6_isFull : MS mX6_isFull 2 := ⟨k_404, k_3, k_405, ⟨by decide, by decide, by decide +kernel⟩, rfl, rfl⟩
abbrev mX6_takeNumber : MD := (yX6_takeNumber, cX6_takeNumber, 7, (some .boolean), { frames := 3, cells := 0, slots := 0, locals := 60 })
theorem v_X6_takeNumber : MV mX6_takeNumber 4 := ⟨k_410, kp_5, k_3, k_411, ⟨by decide, by decide, by decide +kernel⟩, rfl, rfl⟩
abbrev mX6_write : MD := (yX6_write, cX6_write, 3, none, { frames := 1, cells := 0, slots := 0, locals := 23 })
theorem v_X6_write : MV mX6_write 2 := ⟨k_422, kp_6, k_3, k_423, ⟨by decide, by decide, by decide +kernel⟩, rfl, rfl⟩
abbrev mX6_tellLine : MD := (yX6_tellLine, cX6_tellLine, 5, (some .boolean), { frames := 7, cells := 0, slots := 0, locals := 149 })
theorem v_X6_tellLine : MV mX6_tellLine 2 := ⟨k_332, kp_3, k_3, k_333, ⟨by decide, by decide, by decide +kernel⟩, rfl, rfl⟩
abbrev mX6_tell : MD := (yX6_tell, cX6_tell, 4, (some .int), { frames := 8, cells := 0, slots := 0, locals := 173 })
theorem v_X6_tell : MV mX6_tell 2 := ⟨k_290, k_291, k_3, k_292, ⟨by decide, by decide, by decide +kernel⟩, rfl, rfl⟩
abbrev mX7_init : MD := (yX7_init, cX7_init, 2, none, { frames := 3, cells := 0, slots := 0, locals := 60 })
abbrev mX7_feed : MD := (yX7_feed, cX7_feed, 3, (some .int), { frames := 1, cells := 0, slots := 0, locals := 23 })
theorem v_X7_feed : MV mX7_feed 1 := ⟨k_273, k_274, k_1, k_275, ⟨by decide, by decide, by decide +kernel⟩, rfl, rfl⟩
abbrev mX7_end : MD := (yX7_end, cX7_end, 3, (some .int), { frames := 0, cells := 0, slots := 0, locals := 0 })
theorem v_X7_end : MV mX7_end 1 := ⟨k_281, k_282, k_1, k_283, ⟨by decide, by decide, by decide +kernel⟩, rfl, rfl⟩
abbrev mX7_land : MD := (yX7_land, cX7_land, 4, (some .int), { frames := 9, cells := 0, slots := 0, locals := 196 })
theorem v_X7_land : MV mX7_land 0 := ⟨k_285, k_286, k_1, k_287, ⟨by decide, by decide, by decide +kernel⟩, rfl, rfl⟩
abbrev mX7_fault : MD := (yX7_fault, cX7_fault, 1, (some .int), { frames := 0, cells := 0, slots := 0, locals := 0 })
theorem v_X7_fault : MV mX7_fault 0 := ⟨k_441, k_442, k_1, k_443, ⟨by decide, by decide, by decide +kernel⟩, rfl, rfl⟩
abbrev mX7_rule : MD := (yX7_rule, cX7_rule, 2, (some .int), { frames := 1, cells := 0, slots := 0, locals := 21 })
theorem v_X7_rule : MV mX7_rule 1 := ⟨k_445, k_446, k_1, k_447, ⟨by decide, by decide, by decide +kernel⟩, rfl, rfl⟩
abbrev mX7_tower : MD := (yX7_tower, cX7_tower, 3, (some .int), { frames := 2, cells := 0, slots := 0, locals := 42 })
theorem v_X7_tower : MV mX7_tower 2 := ⟨k_450, k_451, k_1, k_452, ⟨by decide, by decide, by decide +kernel⟩, rfl, rfl⟩
abbrev mX7_hill : MD := (yX7_hill, cX7_hill, 2, (some .int), { frames := 1, cells := 0, slots := 0, locals := 21 })
theorem v_X7_hill : MV mX7_hill 1 := ⟨k_458, k_459, k_1, k_460, ⟨by decide, by decide, by decide +kernel⟩, rfl, rfl⟩
abbrev mX7_note : MD := (yX7_note, cX7_note, 3, (some .int), { frames := 1, cells := 0, slots := 0, locals := 21 })
theorem v_X7_note : MV mX7_note 2 := ⟨k_462, k_463, k_1, k_464, ⟨by decide, by decide, by decide +kernel⟩, rfl, rfl⟩
abbrev mX7_wind : MD := (yX7_wind, cX7_wind, 4, (some .int), { frames := 1, cells := 0, slots := 0, locals := 21 })
theorem v_X7_wind : MV mX7_wind 2 := ⟨k_466, k_467, k_1, k_468, ⟨by decide, by decide, by decide +kernel⟩, rfl, rfl⟩
abbrev mX7_carry : MD := (yX7_carry, cX7_carry, 4, (some .int), { frames := 2, cells := 0, slots := 0, locals := 42 })
theorem v_X7_carry : MV mX7_carry 2 := ⟨k_470, k_471, k_1, k_472, ⟨by decide, by decide, by decide +kernel⟩, rfl, rfl⟩
abbrev mX7_move : MD := (yX7_move, cX7_move, 4, (some .int), { frames := 2, cells := 0, slots := 0, locals := 42 })
theorem v_X7_move : MV mX7_move 2 := ⟨k_478, k_479, k_1, k_480, ⟨by decide, by decide, by decide +kernel⟩, rfl, rfl⟩
abbrev mX7_takes : MD := (yX7_takes, cX7_takes, 3, (some .int), { frames := 3, cells := 0, slots := 0, locals := 65 })
theorem v_X7_takes : MV mX7_takes 2 := ⟨k_483, k_484, k_1, k_485, ⟨by decide, by decide, by decide +kernel⟩, rfl, rfl⟩
abbrev mX7_blow : MD := (yX7_blow, cX7_blow, 4, (some .int), { frames := 2, cells := 0, slots := 0, locals := 42 })
theorem v_X7_blow : MV mX7_blow 3 := ⟨k_503, k_504, k_1, k_505, ⟨by decide, by decide, by decide +kernel⟩, rfl, rfl⟩
abbrev mX7_silence : MD := (yX7_silence, cX7_silence, 2, (some .int), { frames := 1, cells := 0, slots := 0, locals := 20 })
theorem v_X7_silence : MV mX7_silence 0 := ⟨k_515, k_516, k_1, k_517, ⟨by decide, by decide, by decide +kernel⟩, rfl, rfl⟩
abbrev mX7_comes : MD := (yX7_comes, cX7_comes, 3, (some .int), { frames := 3, cells := 0, slots := 0, locals := 65 })
theorem v_X7_comes : MV mX7_comes 2 := ⟨k_524, kp_7, k_1, k_525, ⟨by decide, by decide, by decide +kernel⟩, rfl, rfl⟩
abbrev mX7_blown : MD := (yX7_blown, cX7_blown, 3, (some .int), { frames := 4, cells := 0, slots := 0, locals := 87 })
theorem v_X7_blown : MV mX7_blown 2 := ⟨k_519, k_520, k_1, k_521, ⟨by decide, by decide, by decide +kernel⟩, rfl, rfl⟩
abbrev mX7_comesBy : MD := (yX7_comesBy, cX7_comesBy, 5, (some .int), { frames := 4, cells := 0, slots := 0, locals := 87 })
theorem v_X7_comesBy : MV mX7_comesBy 3 := ⟨k_532, kp_8, k_1, k_533, ⟨by decide, by decide, by decide +kernel⟩, rfl, rfl⟩
abbrev mX7_heard : MD := (yX7_heard, cX7_heard, 8, (some .int), { frames := 5, cells := 0, slots := 0, locals := 111 })
theorem v_X7_heard : MV mX7_heard 3 := ⟨k_527, k_528, k_1, k_529, ⟨by decide, by decide, by decide +kernel⟩, rfl, rfl⟩
abbrev mX7_edge : MD := (yX7_edge, cX7_edge, 7, (some .int), { frames := 5, cells := 0, slots := 0, locals := 111 })
theorem v_X7_edge : MV mX7_edge 2 := ⟨k_540, kp_9, k_1, k_541, ⟨by decide, by decide, by decide +kernel⟩, rfl, rfl⟩
abbrev mX7_span : MD := (yX7_span, cX7_span, 3, (some .int), { frames := 6, cells := 0, slots := 0, locals := 137 })
theorem v_X7_span : MV mX7_span 2 := ⟨k_535, k_536, k_1, k_537, ⟨by decide, by decide, by decide +kernel⟩, rfl, rfl⟩
abbrev mX7_soonestTower : MD := (yX7_soonestTower, cX7_soonestTower, 6, (some .int), { frames := 4, cells := 0, slots := 0, locals := 87 })
theorem v_X7_soonestTower : MV mX7_soonestTower 2 := ⟨k_552, kp_10, k_1, k_553, ⟨by decide, by decide, by decide +kernel⟩, rfl, rfl⟩
abbrev mX7_blowChosen : MD := (yX7_blowChosen, cX7_blowChosen, 5, (some .int), { frames := 4, cells := 0, slots := 0, locals := 87 })
theorem v_X7_blowChosen : MV mX7_blowChosen 1 := ⟨k_562, kp_11, k_1, k_563, ⟨by decide, by decide, by decide +kernel⟩, rfl, rfl⟩
abbrev mX7_plays : MD := (yX7_plays, cX7_plays, 3, (some .int), { frames := 5, cells := 0, slots := 0, locals := 112 })
theorem v_X7_plays : MV mX7_plays 1 := ⟨k_547, k_548, k_1, k_549, ⟨by decide, by decide, by decide +kernel⟩, rfl, rfl⟩
abbrev mX7_offset : MD := (yX7_offset, cX7_offset, 4, (some .int), { frames := 4, cells := 0, slots := 0, locals := 87 })
theorem v_X7_offset : MV mX7_offset 1 := ⟨k_574, kp_13, k_1, k_575, ⟨by decide, by decide, by decide +kernel⟩, rfl, rfl⟩
abbrev mX7_freeNote : MD := (yX7_freeNote, cX7_freeNote, 6, (some .int), { frames := 0, cells := 0, slots := 0, locals := 0 })
theorem v_X7_freeNote : MV mX7_freeNote 3 := ⟨k_578, kp_14, k_1, k_579, ⟨by decide, by decide, by decide +kernel⟩, rfl, rfl⟩
abbrev mX7_isRight : MD := (yX7_isRight, cX7_isRight, 6, (some .boolean), { frames := 5, cells := 0, slots := 0, locals := 110 })
theorem v_X7_isRight : MV mX7_isRight 1 := ⟨k_570, kp_12, k_1, k_571, ⟨by decide, by decide, by decide +kernel⟩, rfl, rfl⟩
abbrev mX7_right : MD := (yX7_right, cX7_right, 2, (some .int), { frames := 6, cells := 0, slots := 0, locals := 135 })
theorem v_X7_right : MV mX7_right 1 := ⟨k_565, k_566, k_1, k_567, ⟨by decide, by decide, by decide +kernel⟩, rfl, rfl⟩
abbrev mX7_rights : MD := (yX7_rights, cX7_rights, 4, (some .int), { frames := 6, cells := 0, slots := 0, locals := 135 })
theorem v_X7_rights : MV mX7_rights 1 := ⟨k_581, k_582, k_1, k_583, ⟨by decide, by decide, by decide +kernel⟩, rfl, rfl⟩
abbrev mX7_blowsAreAsNotes : MD := (yX7_blowsAreAsNotes, cX7_blowsAreAsNotes, 2, (some .boolean), { frames := 0, cells := 0, slots := 0, locals := 0 })
theorem v_X7_blowsAreAsNotes : MV mX7_blowsAreAsNotes 0 := ⟨k_590, kp_15, k_1, k_591, ⟨by decide, by decide, by decide +kernel⟩, rfl, rfl⟩
abbrev mX7_offBy : MD := (yX7_offBy, cX7_offBy, 6, (some .int), { frames := 4, cells := 0, slots := 0, locals := 87 })
theorem v_X7_offBy : MV mX7_offBy 1 := ⟨k_594, kp_16, k_1, k_595, ⟨by decide, by decide, by decide +kernel⟩, rfl, rfl⟩
abbrev mX7_off : MD := (yX7_off, cX7_off, 2, (some .int), { frames := 5, cells := 0, slots := 0, locals := 112 })
theorem v_X7_off : MV mX7_off 1 := ⟨k_585, k_586, k_1, k_587, ⟨by decide, by decide, by decide +kernel⟩, rfl, rfl⟩
abbrev mX7_near : MD := (yX7_near, cX7_near, 8, (some .int), { frames := 5, cells := 0, slots := 0, locals := 112 })
theorem v_X7_near : MV mX7_near 2 := ⟨k_598, k_599, k_1, k_600, ⟨by decide, by decide, by decide +kernel⟩, rfl, rfl⟩
abbrev mX7_measureLags : MD := (yX7_measureLags, cX7_measureLags, 4, none, { frames := 4, cells := 0, slots := 0, locals := 87 })
theorem v_X7_measureLags : MV mX7_measureLags 2 := ⟨k_607, kp_17, k_1, k_608, ⟨by decide, by decide, by decide +kernel⟩, rfl, rfl⟩
abbrev mX7_isFirstOfLag : MD := (yX7_isFirstOfLag, cX7_isFirstOfLag, 3, (some .boolean), { frames := 0, cells := 0, slots := 0, locals := 0 })
theorem v_X7_isFirstOfLag : MV mX7_isFirstOfLag 1 := ⟨k_611, kp_18, k_1, k_612, ⟨by decide, by decide, by decide +kernel⟩, rfl, rfl⟩
abbrev mX7_lagCanBe : MD := (yX7_lagCanBe, cX7_lagCanBe, 4, (some .boolean), { frames := 1, cells := 0, slots := 0, locals := 22 })
theorem v_X7_lagCanBe : MV mX7_lagCanBe 1 := ⟨k_615, kp_19, k_1, k_616, ⟨by decide, by decide, by decide +kernel⟩, rfl, rfl⟩
abbrev mX7_towerOfLag : MD := (yX7_towerOfLag, cX7_towerOfLag, 4, (some .int), { frames := 1, cells := 0, slots := 0, locals := 22 })
theorem v_X7_towerOfLag : MV mX7_towerOfLag 2 := ⟨k_623, kp_20, k_1, k_624, ⟨by decide, by decide, by decide +kernel⟩, rfl, rfl⟩
abbrev mX7_twice : MD := (yX7_twice, cX7_twice, 9, (some .int), { frames := 5, cells := 0, slots := 0, locals := 110 })
theorem v_X7_twice : MV mX7_twice 3 := ⟨k_602, k_603, k_1, k_604, ⟨by decide, by decide, by decide +kernel⟩, rfl, rfl⟩
abbrev mX7_both : MD := (yX7_both, cX7_both, 5, (some .int), { frames := 5, cells := 0, slots := 0, locals := 111 })
theorem v_X7_both : MV mX7_both 3 := ⟨k_626, k_627, k_1, k_628, ⟨by decide, by decide, by decide +kernel⟩, rfl, rfl⟩
abbrev mJ6_bitCount_0f7a4 : MD := (yJ6_bitCount_0f7a4, cJ6_bitCount_0f7a4, 1, (some .int), { frames := 0, cells := 0, slots := 0, locals := 0 })
theorem v_J6_bitCount_0f7a4 : MS mJ6_bitCount_0f7a4 1 := ⟨k_634, k_15, k_635, ⟨by decide, by decide, by decide +kernel⟩, rfl, rfl⟩
abbrev mX7_fewest : MD := (yX7_fewest, cX7_fewest, 6, (some .int), { frames := 1, cells := 0, slots := 0, locals := 23 })
theorem v_X7_fewest : MV mX7_fewest 1 := ⟨k_630, k_631, k_1, k_632, ⟨by decide, by decide, by decide +kernel⟩, rfl, rfl⟩
abbrev mX7_pipes : MD := (yX7_pipes, cX7_pipes, 8, (some .int), { frames := 1, cells := 0, slots := 0, locals := 23 })
theorem v_X7_pipes : MV mX7_pipes 1 := ⟨k_644, k_645, k_1, k_646, ⟨by decide, by decide, by decide +kernel⟩, rfl, rfl⟩
abbrev mX7_canRun : MD := (yX7_canRun, cX7_canRun, 4, (some .boolean), { frames := 2, cells := 0, slots := 0, locals := 42 })
theorem v_X7_canRun : MV mX7_canRun 2 := ⟨k_658, kp_21, k_1, k_659, ⟨by decide, by decide, by decide +kernel⟩, rfl, rfl⟩
abbrev mX7_men : MD := (yX7_men, cX7_men, 3, (some .int), { frames := 3, cells := 0, slots := 0, locals := 65 })
theorem v_X7_men : MV mX7_men 0 := ⟨k_648, k_649, k_1, k_650, ⟨by decide, by decide, by decide +kernel⟩, rfl, rfl⟩
abbrev mX7_runs : MD := (yX7_runs, cX7_runs, 3, (some .int), { frames := 3, cells := 0, slots := 0, locals := 65 })
theorem v_X7_runs : MV mX7_runs 2 := ⟨k_678, k_679, k_1, k_680, ⟨by decide, by decide, by decide +kernel⟩, rfl, rfl⟩
abbrev mX7_noted : MD := (yX7_noted, cX7_noted, 2, (some .int), { frames := 0, cells := 0, slots := 0, locals := 0 })
theorem v_X7_noted : MV mX7_noted 1 := ⟨k_682, k_683, k_1, k_684, ⟨by decide, by decide, by decide +kernel⟩, rfl, rfl⟩
abbrev mX7_forget : MD := (yX7_forget, cX7_forget, 2, (some .int), { frames := 0, cells := 0, slots := 0, locals := 0 })
theorem v_X7_forget : MV mX7_forget 0 := ⟨k_686, k_687, k_1, k_688, ⟨by decide, by decide, by decide +kernel⟩, rfl, rfl⟩
abbrev mX7_lateness : MD := (yX7_lateness, cX7_lateness, 3, (some .int), { frames := 4, cells := 0, slots := 0, locals := 87 })
theorem v_X7_lateness : MV mX7_lateness 2 := ⟨k_699, kp_25, k_1, k_700, ⟨by decide, by decide, by decide +kernel⟩, rfl, rfl⟩
abbrev mX7_wrongBy : MD := (yX7_wrongBy, cX7_wrongBy, 6, (some .int), { frames := 5, cells := 0, slots := 0, locals := 109 })
theorem v_X7_wrongBy : MV mX7_wrongBy 2 := ⟨k_695, kp_24, k_1, k_696, ⟨by decide, by decide, by decide +kernel⟩, rfl, rfl⟩
abbrev mX7_watch : MD := (yX7_watch, cX7_watch, 6, (some .int), { frames := 6, cells := 0, slots := 0, locals := 134 })
theorem v_X7_watch : MV mX7_watch 2 := ⟨k_690, k_691, k_1, k_692, ⟨by decide, by decide, by decide +kernel⟩, rfl, rfl⟩
abbrev mX7_couldBeAt : MD := (yX7_couldBeAt, cX7_couldBeAt, 4, (some .boolean), { frames := 5, cells := 0, slots := 0, locals := 109 })
theorem v_X7_couldBeAt : MV mX7_couldBeAt 1 := ⟨k_708, kp_26, k_1, k_709, ⟨by decide, by decide, by decide +kernel⟩, rfl, rfl⟩
abbrev mX7_lost : MD := (yX7_lost, cX7_lost, 4, (some .int), { frames := 6, cells := 0, slots := 0, locals := 132 })
theorem v_X7_lost : MV mX7_lost 1 := ⟨k_703, k_704, k_1, k_705, ⟨by decide, by decide, by decide +kernel⟩, rfl, rfl⟩
abbrev mX7_fits : MD := (yX7_fits, cX7_fits, 4, (some .int), { frames := 5, cells := 0, slots := 0, locals := 109 })
theorem v_X7_fits : MV mX7_fits 1 := ⟨k_711, k_712, k_1, k_713, ⟨by decide, by decide, by decide +kernel⟩, rfl, rfl⟩
abbrev mX7_keep : MD := (yX7_keep, cX7_keep, 3, (some .int), { frames := 3, cells := 0, slots := 0, locals := 69 })
theorem v_X7_keep : MV mX7_keep 1 := ⟨k_715, k_716, k_1, k_717, ⟨by decide, by decide, by decide +kernel⟩, rfl, rfl⟩
abbrev mX7_back : MD := (yX7_back, cX7_back, 2, (some .int), { frames := 3, cells := 0, slots := 0, locals := 69 })
theorem v_X7_back : MV mX7_back 1 := ⟨k_731, k_732, k_1, k_733, ⟨by decide, by decide, by decide +kernel⟩, rfl, rfl⟩
abbrev mX7_sheet : MD := (yX7_sheet, cX7_sheet, 4, (some .int), { frames := 1, cells := 0, slots := 0, locals := 23 })
theorem v_X7_sheet : MV mX7_sheet 3 := ⟨k_739, k_740, k_1, k_741, ⟨by decide, by decide, by decide +kernel⟩, rfl, rfl⟩
abbrev mX7_lay : MD := (yX7_lay, cX7_lay, 5, (some .int), { frames := 1, cells := 0, slots := 0, locals := 22 })
theorem v_X7_lay : MV mX7_lay 3 := ⟨k_747, k_748, k_1, k_749, ⟨by decide, by decide, by decide +kernel⟩, rfl, rfl⟩
abbrev mX7_read : MD := (yX7_read, cX7_read, 10, (some .int), { frames := 3, cells := 0, slots := 0, locals := 65 })
theorem v_X7_read : MV mX7_read 4 := ⟨k_759, k_760, k_1, k_761, ⟨by decide, by decide, by decide +kernel⟩, rfl, rfl⟩
abbrev mX7_torn : MD := (yX7_torn, cX7_torn, 1, (some .int), { frames := 0, cells := 0, slots := 0, locals := 0 })
theorem v_X7_torn : MV mX7_torn 0 := ⟨k_773, k_774, k_1, k_775, ⟨by decide, by decide, by decide +kernel⟩, rfl, rfl⟩
abbrev mX7_count : MD := (yX7_count, cX7_count, 2, (some .int), { frames := 1, cells := 0, slots := 0, locals := 20 })
theorem v_X7_count : MV mX7_count 1 := ⟨k_777, k_778, k_1, k_779, ⟨by decide, by decide, by decide +kernel⟩, rfl, rfl⟩
abbrev mX8_init : MD := (yX8_init, cX8_init, 1, none, { frames := 1, cells := 0, slots := 0, locals := 20 })
abbrev mX8_in : MD := (yX8_in, cX8_in, 6, (some .boolean), { frames := 0, cells := 0, slots := 0, locals := 0 })
theorem v_X8_in : MS mX8_in 3 := ⟨k_911, k_9, k_912, ⟨by decide, by decide, by decide +kernel⟩, rfl, rfl⟩
abbrev mX8_awake : MD := (yX8_awake, cX8_awake, 1, none, { frames := 0, cells := 0, slots := 0, locals := 0 })
theorem v_X8_awake : MV mX8_awake 0 := ⟨k_967, kp_36, k_9, k_968, ⟨by decide, by decide, by decide +kernel⟩, rfl, rfl⟩
abbrev mX8_feed : MD := (yX8_feed, cX8_feed, 4, (some .int), { frames := 0, cells := 0, slots := 0, locals := 0 })
theorem v_X8_feed : MV mX8_feed 1 := ⟨k_903, k_904, k_9, k_905, ⟨by decide, by decide, by decide +kernel⟩, rfl, rfl⟩
abbrev mX8_end : MD := (yX8_end, cX8_end, 3, (some .int), { frames := 1, cells := 0, slots := 0, locals := 25 })
theorem v_X8_end : MV mX8_end 1 := ⟨k_907, k_908, k_9, k_909, ⟨by decide, by decide, by decide +kernel⟩, rfl, rfl⟩
abbrev mX8_byteAt : MD := (yX8_byteAt, cX8_byteAt, 2, (some .int), { frames := 0, cells := 0, slots := 0, locals := 0 })
theorem v_X8_byteAt : MV mX8_byteAt 1 := ⟨k_923, kp_28, k_9, k_924, ⟨by decide, by decide, by decide +kernel⟩, rfl, rfl⟩
abbrev mX8_fails : MD := (yX8_fails, cX8_fails, 2, none, { frames := 0, cells := 0, slots := 0, locals := 0 })
theorem v_X8_fails : MV mX8_fails 1 := ⟨k_931, kp_29, k_9, k_932, ⟨by decide, by decide, by decide +kernel⟩, rfl, rfl⟩
abbrev mX8_nameHere : MD := (yX8_nameHere, cX8_nameHere, 4, (some .int), { frames := 1, cells := 0, slots := 0, locals := 21 })
theorem v_X8_nameHere : MV mX8_nameHere 0 := ⟨k_939, kp_31, k_9, k_940, ⟨by decide, by decide, by decide +kernel⟩, rfl, rfl⟩
abbrev mX8_step : MD := (yX8_step, cX8_step, 2, none, { frames := 1, cells := 0, slots := 0, locals := 25 })
theorem v_X8_step : MV mX8_step 0 := ⟨k_919, kp_27, k_9, k_920, ⟨by decide, by decide, by decide +kernel⟩, rfl, rfl⟩
abbrev mX8_number : MD := (yX8_number, cX8_number, 4, (some .int), { frames := 2, cells := 0, slots := 0, locals := 46 })
theorem v_X8_number : MV mX8_number 2 := ⟨k_947, kp_33, k_9, k_948, ⟨by decide, by decide, by decide +kernel⟩, rfl, rfl⟩
abbrev mX8_readCell : MD := (yX8_readCell, cX8_readCell, 5, none, { frames := 3, cells := 0, slots := 0, locals := 69 })
theorem v_X8_readCell : MV mX8_readCell 2 := ⟨k_951, kp_34, k_9, k_952, ⟨by decide, by decide, by decide +kernel⟩, rfl, rfl⟩
abbrev mX8_readOnce : MD := (yX8_readOnce, cX8_readOnce, 2, none, { frames := 3, cells := 0, slots := 0, locals := 69 })
theorem v_X8_readOnce : MV mX8_readOnce 1 := ⟨k_943, kp_32, k_9, k_944, ⟨by decide, by decide, by decide +kernel⟩, rfl, rfl⟩
abbrev mX8_readLine : MD := (yX8_readLine, cX8_readLine, 2, none, { frames := 4, cells := 0, slots := 0, locals := 93 })
theorem v_X8_readLine : MV mX8_readLine 0 := ⟨k_935, kp_30, k_9, k_936, ⟨by decide, by decide, by decide +kernel⟩, rfl, rfl⟩
abbrev mX8_takes2 : MD := (yX8_takes2, cX8_takes2, 2, none, { frames := 0, cells := 0, slots := 0, locals := 0 })
theorem v_X8_takes2 : MV mX8_takes2 0 := ⟨k_955, kp_35, k_9, k_956, ⟨by decide, by decide, by decide +kernel⟩, rfl, rfl⟩
abbrev mX8_land : MD := (yX8_land, cX8_land, 3, (some .int), { frames := 5, cells := 0, slots := 0, locals := 114 })
theorem v_X8_land : MV mX8_land 0 := ⟨k_914, k_915, k_9, k_916, ⟨by decide, by decide, by decide +kernel⟩, rfl, rfl⟩
abbrev mX8_fault : MD := (yX8_fault, cX8_fault, 1, (some .int), { frames := 0, cells := 0, slots := 0, locals := 0 })
theorem v_X8_fault : MV mX8_fault 0 := ⟨k_958, k_959, k_9, k_960, ⟨by decide, by decide, by decide +kernel⟩, rfl, rfl⟩
abbrev mX8_rule : MD := (yX8_rule, cX8_rule, 2, (some .int), { frames := 1, cells := 0, slots := 0, locals := 25 })
theorem v_X8_rule : MV mX8_rule 1 := ⟨k_962, k_963, k_9, k_964, ⟨by decide, by decide, by decide +kernel⟩, rfl, rfl⟩
abbrev mX8_isTower : MD := (yX8_isTower, cX8_isTower, 2, (some .boolean), { frames := 1, cells := 0, slots := 0, locals := 25 })
theorem v_X8_isTower : MV mX8_isTower 1 := ⟨k_976, kp_37, k_9, k_977, ⟨by decide, by decide, by decide +kernel⟩, rfl, rfl⟩
abbrev mX8_isCell : MD := (yX8_isCell, cX8_isCell, 2, (some .boolean), { frames := 1, cells := 0, slots := 0, locals := 20 })
theorem v_X8_isCell : MV mX8_isCell 1 := ⟨k_1014, kp_41, k_9, k_1015, ⟨by decide, by decide, by decide +kernel⟩, rfl, rfl⟩
abbrev mX8_tower : MD := (yX8_tower, cX8_tower, 3, (some .int), { frames := 2, cells := 0, slots := 0, locals := 46 })
theorem v_X8_tower : MV mX8_tower 2 := ⟨k_971, k_972, k_9, k_973, ⟨by decide, by decide, by decide +kernel⟩, rfl, rfl⟩
abbrev mX8_hill : MD := (yX8_hill, cX8_hill, 2, (some .int), { frames := 1, cells := 0, slots := 0, locals := 25 })
theorem v_X8_hill : MV mX8_hill 1 := ⟨k_979, k_980, k_9, k_981, ⟨by decide, by decide, by decide +kernel⟩, rfl, rfl⟩
abbrev mX8_note : MD := (yX8_note, cX8_note, 3, (some .int), { frames := 1, cells := 0, slots := 0, locals := 25 })
theorem v_X8_note : MV mX8_note 2 := ⟨k_983, k_984, k_9, k_985, ⟨by decide, by decide, by decide +kernel⟩, rfl, rfl⟩
abbrev mX8_wind : MD := (yX8_wind, cX8_wind, 4, (some .int), { frames := 1, cells := 0, slots := 0, locals := 25 })
theorem v_X8_wind : MV mX8_wind 2 := ⟨k_987, k_988, k_9, k_989, ⟨by decide, by decide, by decide +kernel⟩, rfl, rfl⟩
abbrev mX8_blows : MD := (yX8_blows, cX8_blows, 1, (some .int), { frames := 0, cells := 0, slots := 0, locals := 0 })
theorem v_X8_blows : MV mX8_blows 0 := ⟨k_998, kp_38, k_9, k_999, ⟨by decide, by decide, by decide +kernel⟩, rfl, rfl⟩
abbrev mX8_towerOf : MD := (yX8_towerOf, cX8_towerOf, 2, (some .int), { frames := 0, cells := 0, slots := 0, locals := 0 })
theorem v_X8_towerOf : MV mX8_towerOf 1 := ⟨k_1002, kp_39, k_9, k_1003, ⟨by decide, by decide, by decide +kernel⟩, rfl, rfl⟩
abbrev mX8_beatOf : MD := (yX8_beatOf, cX8_beatOf, 2, (some .int), { frames := 0, cells := 0, slots := 0, locals := 0 })
theorem v_X8_beatOf : MV mX8_beatOf 1 := ⟨k_1061, kp_46, k_9, k_1062, ⟨by decide, by decide, by decide +kernel⟩, rfl, rfl⟩
abbrev mX8_toneOf : MD := (yX8_toneOf, cX8_toneOf, 2, (some .int), { frames := 0, cells := 0, slots := 0, locals := 0 })
theorem v_X8_toneOf : MV mX8_toneOf 1 := ⟨k_1006, kp_40, k_9, k_1007, ⟨by decide, by decide, by decide +kernel⟩, rfl, rfl⟩
abbrev mX8_carry : MD := (yX8_carry, cX8_carry, 4, (some .int), { frames := 2, cells := 0, slots := 0, locals := 46 })
theorem v_X8_carry : MV mX8_carry 2 := ⟨k_992, k_993, k_9, k_994, ⟨by decide, by decide, by decide +kernel⟩, rfl, rfl⟩
abbrev mX8_move : MD := (yX8_move, cX8_move, 4, (some .int), { frames := 2, cells := 0, slots := 0, locals := 46 })
theorem v_X8_move : MV mX8_move 2 := ⟨k_1009, k_1010, k_9, k_1011, ⟨by decide, by decide, by decide +kernel⟩, rfl, rfl⟩
abbrev mX8_size : MD := (yX8_size, cX8_size, 1, (some .int), { frames := 0, cells := 0, slots := 0, locals := 0 })
theorem v_X8_size : MS mX8_size 1 := ⟨k_1028, k_9, k_1029, ⟨by decide, by decide, by decide +kernel⟩, rfl, rfl⟩
abbrev mX8_farOf : MD := (yX8_farOf, cX8_farOf, 4, (some .int), { frames := 1, cells := 0, slots := 0, locals := 20 })
theorem v_X8_farOf : MS mX8_farOf 2 := ⟨k_1025, k_9, k_1026, ⟨by decide, by decide, by decide +kernel⟩, rfl, rfl⟩
abbrev mX8_against : MD := (yX8_against, cX8_against, 2, (some .int), { frames := 1, cells := 0, slots := 0, locals := 20 })
theorem v_X8_against : MS mX8_against 2 := ⟨k_1031, k_9, k_1032, ⟨by decide, by decide, by decide +kernel⟩, rfl, rfl⟩
abbrev mX8_takesOf : MD := (yX8_takesOf, cX8_takesOf, 3, (some .int), { frames := 2, cells := 0, slots := 0, locals := 43 })
theorem v_X8_takesOf : MV mX8_takesOf 2 := ⟨k_1022, kp_42, k_9, k_1023, ⟨by decide, by decide, by decide +kernel⟩, rfl, rfl⟩
abbrev mX8_takes : MD := (yX8_takes, cX8_takes, 3, (some .int), { frames := 3, cells := 0, slots := 0, locals := 65 })
theorem v_X8_takes : MV mX8_takes 2 := ⟨k_1017, k_1018, k_9, k_1019, ⟨by decide, by decide, by decide +kernel⟩, rfl, rfl⟩
abbrev mX8_puts : MD := (yX8_puts, cX8_puts, 5, none, { frames := 0, cells := 0, slots := 0, locals := 0 })
theorem v_X8_puts : MV mX8_puts 4 := ⟨k_1045, kp_44, k_9, k_1046, ⟨by decide, by decide, by decide +kernel⟩, rfl, rfl⟩
abbrev mX8_blowing : MD := (yX8_blowing, cX8_blowing, 4, (some .int), { frames := 2, cells := 0, slots := 0, locals := 46 })
theorem v_X8_blowing : MV mX8_blowing 3 := ⟨k_1039, kp_43, k_9, k_1040, ⟨by decide, by decide, by decide +kernel⟩, rfl, rfl⟩
abbrev mX8_blow : MD := (yX8_blow, cX8_blow, 4, (some .int), { frames := 3, cells := 0, slots := 0, locals := 69 })
theorem v_X8_blow : MV mX8_blow 3 := ⟨k_1034, k_1035, k_9, k_1036, ⟨by decide, by decide, by decide +kernel⟩, rfl, rfl⟩
abbrev mX8_silence : MD := (yX8_silence, cX8_silence, 2, (some .int), { frames := 1, cells := 0, slots := 0, locals := 20 })
theorem v_X8_silence : MV mX8_silence 0 := ⟨k_1048, k_1049, k_9, k_1050, ⟨by decide, by decide, by decide +kernel⟩, rfl, rfl⟩
abbrev mX8_comes : MD := (yX8_comes, cX8_comes, 3, (some .int), { frames := 3, cells := 0, slots := 0, locals := 65 })
theorem v_X8_comes : MV mX8_comes 2 := ⟨k_1057, kp_45, k_9, k_1058, ⟨by decide, by decide, by decide +kernel⟩, rfl, rfl⟩
abbrev mX8_comesBy : MD := (yX8_comesBy, cX8_comesBy, 4, (some .int), { frames := 4, cells := 0, slots := 0, locals := 87 })
theorem v_X8_comesBy : MV mX8_comesBy 3 := ⟨k_1070, kp_47, k_9, k_1071, ⟨by decide, by decide, by decide +kernel⟩, rfl, rfl⟩
abbrev mX8_blown : MD := (yX8_blown, cX8_blown, 3, (some .int), { frames := 4, cells := 0, slots := 0, locals := 87 })
theorem v_X8_blown : MV mX8_blown 2 := ⟨k_1052, k_1053, k_9, k_1054, ⟨by decide, by decide, by decide +kernel⟩, rfl, rfl⟩
abbrev mX8_heard : MD := (yX8_heard, cX8_heard, 7, (some .int), { frames := 5, cells := 0, slots := 0, locals := 110 })
theorem v_X8_heard : MV mX8_heard 3 := ⟨k_1064, k_1065, k_9, k_1066, ⟨by decide, by decide, by decide +kernel⟩, rfl, rfl⟩
abbrev mX8_span : MD := (yX8_span, cX8_span, 8, (some .int), { frames := 5, cells := 0, slots := 0, locals := 110 })
theorem v_X8_span : MV mX8_span 2 := ⟨k_1073, k_1074, k_9, k_1075, ⟨by decide, by decide, by decide +kernel⟩, rfl, rfl⟩
abbrev mX8_soonest : MD := (yX8_soonest, cX8_soonest, 5, (some .int), { frames := 3, cells := 0, slots := 0, locals := 65 })
theorem v_X8_soonest : MV mX8_soonest 1 := ⟨k_1086, kp_49, k_9, k_1087, ⟨by decide, by decide, by decide +kernel⟩, rfl, rfl⟩
abbrev mX8_has : MD := (yX8_has, cX8_has, 3, (some .boolean), { frames := 0, cells := 0, slots := 0, locals := 0 })
theorem v_X8_has : MV mX8_has 2 := ⟨k_1082, kp_48, k_9, k_1083, ⟨by decide, by decide, by decide +kernel⟩, rfl, rfl⟩
abbrev mX8_plays : MD := (yX8_plays, cX8_plays, 6, (some .int), { frames := 4, cells := 0, slots := 0, locals := 89 })
theorem v_X8_plays : MV mX8_plays 1 := ⟨k_1077, k_1078, k_9, k_1079, ⟨by decide, by decide, by decide +kernel⟩, rfl, rfl⟩
abbrev mX8_rightAt : MD := (yX8_rightAt, cX8_rightAt, 7, (some .int), { frames := 4, cells := 0, slots := 0, locals := 87 })
theorem v_X8_rightAt : MV mX8_rightAt 1 := ⟨k_1094, kp_50, k_9, k_1095, ⟨by decide, by decide, by decide +kernel⟩, rfl, rfl⟩
abbrev mX8_right : MD := (yX8_right, cX8_right, 2, (some .int), { frames := 5, cells := 0, slots := 0, locals := 113 })
theorem v_X8_right : MV mX8_right 1 := ⟨k_1089, k_1090, k_9, k_1091, ⟨by decide, by decide, by decide +kernel⟩, rfl, rfl⟩
abbrev mX8_rights : MD := (yX8_rights, cX8_rights, 5, (some .int), { frames := 5, cells := 0, slots := 0, locals := 113 })
theorem v_X8_rights : MV mX8_rights 1 := ⟨k_1097, k_1098, k_9, k_1099, ⟨by decide, by decide, by decide +kernel⟩, rfl, rfl⟩
abbrev mX8_areLike : MD := (yX8_areLike, cX8_areLike, 3, (some .boolean), { frames := 1, cells := 0, slots := 0, locals := 21 })
theorem v_X8_areLike : MV mX8_areLike 0 := ⟨k_1106, kp_51, k_9, k_1107, ⟨by decide, by decide, by decide +kernel⟩, rfl, rfl⟩
abbrev mX8_offAt : MD := (yX8_offAt, cX8_offAt, 6, (some .int), { frames := 4, cells := 0, slots := 0, locals := 87 })
theorem v_X8_offAt : MV mX8_offAt 1 := ⟨k_1110, kp_52, k_9, k_1111, ⟨by decide, by decide, by decide +kernel⟩, rfl, rfl⟩
abbrev mX8_off : MD := (yX8_off, cX8_off, 2, (some .int), { frames := 5, cells := 0, slots := 0, locals := 112 })
theorem v_X8_off : MV mX8_off 1 := ⟨k_1101, k_1102, k_9, k_1103, ⟨by decide, by decide, by decide +kernel⟩, rfl, rfl⟩
abbrev mX8_near : MD := (yX8_near, cX8_near, 8, (some .int), { frames := 5, cells := 0, slots := 0, locals := 112 })
theorem v_X8_near : MV mX8_near 2 := ⟨k_1113, k_1114, k_9, k_1115, ⟨by decide, by decide, by decide +kernel⟩, rfl, rfl⟩
abbrev mX8_towerBy : MD := (yX8_towerBy, cX8_towerBy, 7, (some .int), { frames := 3, cells := 0, slots := 0, locals := 65 })
theorem v_X8_towerBy : MV mX8_towerBy 4 := ⟨k_1128, kp_54, k_9, k_1129, ⟨by decide, by decide, by decide +kernel⟩, rfl, rfl⟩
abbrev mX8_canLag : MD := (yX8_canLag, cX8_canLag, 6, (some .boolean), { frames := 4, cells := 0, slots := 0, locals := 91 })
theorem v_X8_canLag : MV mX8_canLag 3 := ⟨k_1124, kp_53, k_9, k_1125, ⟨by decide, by decide, by decide +kernel⟩, rfl, rfl⟩
abbrev mX8_twice : MD := (yX8_twice, cX8_twice, 8, (some .int), { frames := 5, cells := 0, slots := 0, locals := 116 })
theorem v_X8_twice : MV mX8_twice 3 := ⟨k_1118, k_1119, k_9, k_1120, ⟨by decide, by decide, by decide +kernel⟩, rfl, rfl⟩
abbrev mX8_both : MD := (yX8_both, cX8_both, 4, (some .int), { frames := 5, cells := 0, slots := 0, locals := 116 })
theorem v_X8_both : MV mX8_both 3 := ⟨k_1131, k_1132, k_9, k_1133, ⟨by decide, by decide, by decide +kernel⟩, rfl, rfl⟩
abbrev mX8_bitsOf : MD := (yX8_bitsOf, cX8_bitsOf, 3, (some .int), { frames := 0, cells := 0, slots := 0, locals := 0 })
theorem v_X8_bitsOf : MS mX8_bitsOf 1 := ⟨k_1148, k_9, k_1149, ⟨by decide, by decide, by decide +kernel⟩, rfl, rfl⟩
abbrev mX8_wanted : MD := (yX8_wanted, cX8_wanted, 3, (some .int), { frames := 0, cells := 0, slots := 0, locals := 0 })
theorem v_X8_wanted : MV mX8_wanted 0 := ⟨k_1145, kp_56, k_9, k_1146, ⟨by decide, by decide, by decide +kernel⟩, rfl, rfl⟩
abbrev mX8_lack : MD := (yX8_lack, cX8_lack, 4, (some .int), { frames := 1, cells := 0, slots := 0, locals := 22 })
theorem v_X8_lack : MV mX8_lack 1 := ⟨k_1141, kp_55, k_9, k_1142, ⟨by decide, by decide, by decide +kernel⟩, rfl, rfl⟩
abbrev mX8_fewest : MD := (yX8_fewest, cX8_fewest, 4, (some .int), { frames := 2, cells := 0, slots := 0, locals := 45 })
theorem v_X8_fewest : MV mX8_fewest 1 := ⟨k_1136, k_1137, k_9, k_1138, ⟨by decide, by decide, by decide +kernel⟩, rfl, rfl⟩
abbrev mX8_pipes : MD := (yX8_pipes, cX8_pipes, 5, (some .int), { frames := 2, cells := 0, slots := 0, locals := 45 })
theorem v_X8_pipes : MV mX8_pipes 1 := ⟨k_1151, k_1152, k_9, k_1153, ⟨by decide, by decide, by decide +kernel⟩, rfl, rfl⟩
abbrev mX8_canRun : MD := (yX8_canRun, cX8_canRun, 5, (some .boolean), { frames := 2, cells := 0, slots := 0, locals := 43 })
theorem v_X8_canRun : MV mX8_canRun 2 := ⟨k_1164, kp_58, k_9, k_1165, ⟨by decide, by decide, by decide +kernel⟩, rfl, rfl⟩
abbrev mX8_turns : MD := (yX8_turns, cX8_turns, 5, none, { frames := 0, cells := 0, slots := 0, locals := 0 })
theorem v_X8_turns : MV mX8_turns 1 := ⟨k_1168, kp_59, k_9, k_1169, ⟨by decide, by decide, by decide +kernel⟩, rfl, rfl⟩
abbrev mX8_pairs : MD := (yX8_pairs, cX8_pairs, 7, (some .boolean), { frames := 3, cells := 0, slots := 0, locals := 67 })
theorem v_X8_pairs : MV mX8_pairs 1 := ⟨k_1160, kp_57, k_9, k_1161, ⟨by decide, by decide, by decide +kernel⟩, rfl, rfl⟩
abbrev mX8_men : MD := (yX8_men, cX8_men, 4, (some .int), { frames := 4, cells := 0, slots := 0, locals := 93 })
theorem v_X8_men : MV mX8_men 0 := ⟨k_1155, k_1156, k_9, k_1157, ⟨by decide, by decide, by decide +kernel⟩, rfl, rfl⟩
abbrev mX8_runs : MD := (yX8_runs, cX8_runs, 3, (some .int), { frames := 3, cells := 0, slots := 0, locals := 67 })
theorem v_X8_runs : MV mX8_runs 2 := ⟨k_1171, k_1172, k_9, k_1173, ⟨by decide, by decide, by decide +kernel⟩, rfl, rfl⟩
abbrev mX8_noteds : MD := (yX8_noteds, cX8_noteds, 1, (some .int), { frames := 0, cells := 0, slots := 0, locals := 0 })
theorem v_X8_noteds : MV mX8_noteds 0 := ⟨k_1181, kp_60, k_9, k_1182, ⟨by decide, by decide, by decide +kernel⟩, rfl, rfl⟩
abbrev mX8_noted : MD := (yX8_noted, cX8_noted, 2, (some .int), { frames := 1, cells := 0, slots := 0, locals := 25 })
theorem v_X8_noted : MV mX8_noted 1 := ⟨k_1175, k_1176, k_9, k_1177, ⟨by decide, by decide, by decide +kernel⟩, rfl, rfl⟩
abbrev mX8_forget : MD := (yX8_forget, cX8_forget, 2, (some .int), { frames := 1, cells := 0, slots := 0, locals := 20 })
theorem v_X8_forget : MV mX8_forget 0 := ⟨k_1184, k_1185, k_9, k_1186, ⟨by decide, by decide, by decide +kernel⟩, rfl, rfl⟩
abbrev mX8_isWrong : MD := (yX8_isWrong, cX8_isWrong, 7, (some .boolean), { frames := 4, cells := 0, slots := 0, locals := 87 })
theorem v_X8_isWrong : MV mX8_isWrong 3 := ⟨k_1193, kp_61, k_9, k_1194, ⟨by decide, by decide, by decide +kernel⟩, rfl, rfl⟩
abbrev mX8_watch : MD := (yX8_watch, cX8_watch, 8, (some .int), { frames := 5, cells := 0, slots := 0, locals := 113 })
theorem v_X8_watch : MV mX8_watch 2 := ⟨k_1188, k_1189, k_9, k_1190, ⟨by decide, by decide, by decide +kernel⟩, rfl, rfl⟩
abbrev mX8_lost : MD := (yX8_lost, cX8_lost, 7, (some .int), { frames := 4, cells := 0, slots := 0, locals := 87 })
theorem v_X8_lost : MV mX8_lost 1 := ⟨k_1196, k_1197, k_9, k_1198, ⟨by decide, by decide, by decide +kernel⟩, rfl, rfl⟩
abbrev mX8_fits : MD := (yX8_fits, cX8_fits, 4, (some .int), { frames := 4, cells := 0, slots := 0, locals := 87 })
theorem v_X8_fits : MV mX8_fits 1 := ⟨k_1200, k_1201, k_9, k_1202, ⟨by decide, by decide, by decide +kernel⟩, rfl, rfl⟩
abbrev mX8_copies : MD := (yX8_copies, cX8_copies, 4, none, { frames := 0, cells := 0, slots := 0, locals := 0 })
theorem v_X8_copies : MV mX8_copies 2 := ⟨k_1209, kp_62, k_9, k_1210, ⟨by decide, by decide, by decide +kernel⟩, rfl, rfl⟩
abbrev mX8_keep : MD := (yX8_keep, cX8_keep, 3, (some .int), { frames := 1, cells := 0, slots := 0, locals := 25 })
theorem v_X8_keep : MV mX8_keep 1 := ⟨k_1204, k_1205, k_9, k_1206, ⟨by decide, by decide, by decide +kernel⟩, rfl, rfl⟩
abbrev mX8_back : MD := (yX8_back, cX8_back, 2, (some .int), { frames := 1, cells := 0, slots := 0, locals := 25 })
theorem v_X8_back : MV mX8_back 1 := ⟨k_1212, k_1213, k_9, k_1214, ⟨by decide, by decide, by decide +kernel⟩, rfl, rfl⟩
abbrev mX8_sheet : MD := (yX8_sheet, cX8_sheet, 5, (some .int), { frames := 1, cells := 0, slots := 0, locals := 25 })
theorem v_X8_sheet : MV mX8_sheet 3 := ⟨k_1216, k_1217, k_9, k_1218, ⟨by decide, by decide, by decide +kernel⟩, rfl, rfl⟩
abbrev mX8_lay : MD := (yX8_lay, cX8_lay, 4, (some .int), { frames := 1, cells := 0, slots := 0, locals := 25 })
theorem v_X8_lay : MV mX8_lay 3 := ⟨k_1220, k_1221, k_9, k_1222, ⟨by decide, by decide, by decide +kernel⟩, rfl, rfl⟩
abbrev mX8_read : MD := (yX8_read, cX8_read, 10, (some .int), { frames := 3, cells := 0, slots := 0, locals := 69 })
theorem v_X8_read : MV mX8_read 4 := ⟨k_1224, k_1225, k_9, k_1226, ⟨by decide, by decide, by decide +kernel⟩, rfl, rfl⟩
abbrev mX8_torn : MD := (yX8_torn, cX8_torn, 1, (some .int), { frames := 0, cells := 0, slots := 0, locals := 0 })
theorem v_X8_torn : MV mX8_torn 0 := ⟨k_1229, k_1230, k_9, k_1231, ⟨by decide, by decide, by decide +kernel⟩, rfl, rfl⟩
abbrev mX8_count : MD := (yX8_count, cX8_count, 2, (some .int), { frames := 1, cells := 0, slots := 0, locals := 20 })
theorem v_X8_count : MV mX8_count 1 := ⟨k_1233, k_1234, k_9, k_1235, ⟨by decide, by decide, by decide +kernel⟩, rfl, rfl⟩
