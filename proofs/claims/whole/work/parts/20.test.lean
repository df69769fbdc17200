theorem k_30 : zW (.selects "GlassPalace$Plan" yX6_addedFor yX6_addedFor) := ⟨List.mem_of_getElem? (i := 30) (by decide +kernel), rfl⟩
theorem k_31 : zW (.selects "GlassPalace$Plan" yX6_isAhead yX6_isAhead) := ⟨List.mem_of_getElem? (i := 31) (by decide +kernel), rfl⟩
theorem k_32 : zW (.selects "GlassPalace$Plan" yX6_coinOf yX6_coinOf) := ⟨List.mem_of_getElem? (i := 32) (by decide +kernel), rfl⟩
theorem k_36 : zW (.selects "GlassPalace$Acts" yX0_fitsFrom yX0_fitsFrom) := ⟨List.mem_of_getElem? (i := 36) (by decide +kernel), rfl⟩
theorem k_37 : zW (.selects "GlassPalace$Acts" yX0_begin yX0_begin) := ⟨List.mem_of_getElem? (i := 37) (by decide +kernel), rfl⟩
theorem k_44 : zW (.selects "GlassPalace$Tape" yX8_trimmed yX8_trimmed) := ⟨List.mem_of_getElem? (i := 44) (by decide +kernel), rfl⟩
theorem k_106 : zW (.initialized "GlassPalace$Text") := ⟨List.mem_of_getElem? (i := 106) (by decide +kernel), rfl⟩
theorem k_108 : zW (.initialized "GlassPalace$Plan") := ⟨List.mem_of_getElem? (i := 108) (by decide +kernel), rfl⟩
theorem k_110 : zW (.initialized "GlassPalace$Acts") := ⟨List.mem_of_getElem? (i := 110) (by decide +kernel), rfl⟩
theorem k_111 : zW (.initialized "GlassPalace$Bay") := ⟨List.mem_of_getElem? (i := 111) (by decide +kernel), rfl⟩
theorem k_112 : zW (.initialized "GlassPalace$Tape") := ⟨List.mem_of_getElem? (i := 112) (by decide +kernel), rfl⟩
theorem k_114 : zW (.initialized "GlassPalace$Lot") := ⟨List.mem_of_getElem? (i := 114) (by decide +kernel), rfl⟩
theorem k_115 : zW (.initialized "java/lang/Math") := ⟨List.mem_of_getElem? (i := 115) (by decide +kernel), rfl⟩
theorem k_121 : zW (.initialized "java/lang/Integer") := ⟨List.mem_of_getElem? (i := 121) (by decide +kernel), rfl⟩
theorem k_171 : zW (.fieldLink "GlassPalace$Text" 25 "GlassPalace$Text" "codeCount" "I") := ⟨List.mem_of_getElem? (i := 171) (by decide +kernel), rfl⟩
theorem k_176 : zW (.fieldLink "GlassPalace$Text" 18 "GlassPalace$Text" "codes" "[I") := ⟨List.mem_of_getElem? (i := 176) (by decide +kernel), rfl⟩
theorem k_234 : zW (.fieldLink "GlassPalace$Plan" 36 "GlassPalace$Plan" "rows" "I") := ⟨List.mem_of_getElem? (i := 234) (by decide +kernel), rfl⟩
theorem k_236 : zW (.fieldLink "GlassPalace$Plan" 40 "GlassPalace$Plan" "additions" "I") := ⟨List.mem_of_getElem? (i := 236) (by decide +kernel), rfl⟩
theorem k_238 : zW (.fieldLink "GlassPalace$Plan" 9 "GlassPalace$Plan" "kinds" "[I") := ⟨List.mem_of_getElem? (i := 238) (by decide +kernel), rfl⟩
theorem k_240 : zW (.fieldLink "GlassPalace$Plan" 15 "GlassPalace$Plan" "days" "[I") := ⟨List.mem_of_getElem? (i := 240) (by decide +kernel), rfl⟩
theorem k_242 : zW (.fieldLink "GlassPalace$Plan" 18 "GlassPalace$Plan" "missing" "[I") := ⟨List.mem_of_getElem? (i := 242) (by decide +kernel), rfl⟩
theorem k_245 : zW (.fieldLink "GlassPalace$Plan" 24 "GlassPalace$Plan" "addedKinds" "[I") := ⟨List.mem_of_getElem? (i := 245) (by decide +kernel), rfl⟩
theorem k_246 : zW (.fieldLink "GlassPalace$Plan" 27 "GlassPalace$Plan" "added" "[I") := ⟨List.mem_of_getElem? (i := 246) (by decide +kernel), rfl⟩
theorem k_247 : zW (.fieldLink "GlassPalace$Plan" 30 "GlassPalace$Plan" "addedDays" "[I") := ⟨List.mem_of_getElem? (i := 247) (by decide +kernel), rfl⟩
theorem k_248 : zW (.fieldLink "GlassPalace$Plan" 33 "GlassPalace$Plan" "coins" "[I") := ⟨List.mem_of_getElem? (i := 248) (by decide +kernel), rfl⟩
theorem k_295 : zW (.fieldLink "GlassPalace$Acts" 15 "GlassPalace$Acts" "ran" "I") := ⟨List.mem_of_getElem? (i := 295) (by decide +kernel), rfl⟩
theorem k_297 : zW (.fieldLink "GlassPalace$Acts" 9 "GlassPalace$Acts" "bodies" "[I") := ⟨List.mem_of_getElem? (i := 297) (by decide +kernel), rfl⟩
theorem k_320 : zW (.fieldLink "GlassPalace$Bay" 30 "GlassPalace$Bay" "panes" "I") := ⟨List.mem_of_getElem? (i := 320) (by decide +kernel), rfl⟩
theorem k_322 : zW (.fieldLink "GlassPalace$Bay" 9 "GlassPalace$Bay" "leadsTo" "I") := ⟨List.mem_of_getElem? (i := 322) (by decide +kernel), rfl⟩
theorem k_325 : zW (.fieldLink "GlassPalace$Bay" 17 "GlassPalace$Bay" "single" "[LGlassPalace$Lot;") := ⟨List.mem_of_getElem? (i := 325) (by decide +kernel), rfl⟩
theorem k_326 : zW (.fieldLink "GlassPalace$Bay" 21 "GlassPalace$Bay" "paneLots" "[LGlassPalace$Lot;") := ⟨List.mem_of_getElem? (i := 326) (by decide +kernel), rfl⟩
theorem k_349 : zW (.fieldLink "GlassPalace$Tape" 9 "GlassPalace$Tape" "sort" "I") := ⟨List.mem_of_getElem? (i := 349) (by decide +kernel), rfl⟩
theorem k_351 : zW (.fieldLink "GlassPalace$Tape" 15 "GlassPalace$Tape" "items" "[J") := ⟨List.mem_of_getElem? (i := 351) (by decide +kernel), rfl⟩
theorem k_353 : zW (.fieldLink "GlassPalace$Tape" 19 "GlassPalace$Tape" "size" "I") := ⟨List.mem_of_getElem? (i := 353) (by decide +kernel), rfl⟩
theorem k_427 : zW (.methodLink "GlassPalace$Bay" 37 yX1_has) := ⟨List.mem_of_getElem? (i := 427) (by decide +kernel), rfl⟩
theorem k_428 : zW (.instanceMethod yX1_has) := ⟨List.mem_of_getElem? (i := 428) (by decide +kernel), rfl⟩
theorem k_429 : zW (.selects "GlassPalace$Bay" yX1_has yX1_has) := ⟨List.mem_of_getElem? (i := 429) (by decide +kernel), rfl⟩
theorem k_430 : zW (.code yX1_has cX1_has 2 (some .boolean)) := ⟨List.mem_of_getElem? (i := 430) (by decide +kernel), rfl⟩
theorem k_431 : zW (.methodLink "GlassPalace$Bay" 33 yX1_latestAt) := ⟨List.mem_of_getElem? (i := 431) (by decide +kernel), rfl⟩
theorem k_432 : zW (.instanceMethod yX1_latestAt) := ⟨List.mem_of_getElem? (i := 432) (by decide +kernel), rfl⟩
theorem k_433 : zW (.selects "GlassPalace$Bay" yX1_latestAt yX1_latestAt) := ⟨List.mem_of_getElem? (i := 433) (by decide +kernel), rfl⟩
theorem k_434 : zW (.code yX1_latestAt cX1_latestAt 2 (some (.object "GlassPalace$Lot"))) := ⟨List.mem_of_getElem? (i := 434) (by decide +kernel), rfl⟩
theorem k_458 : zW (.fieldLink "GlassPalace$Acts" 38 "GlassPalace$Lot" "number" "I") := ⟨List.mem_of_getElem? (i := 458) (by decide +kernel), rfl⟩
theorem k_460 : zW (.fieldLink "GlassPalace$Lot" 21 "GlassPalace$Lot" "kind" "I") := ⟨List.mem_of_getElem? (i := 460) (by decide +kernel), rfl⟩
theorem k_466 : zW (.fieldLink "GlassPalace$Lot" 27 "GlassPalace$Lot" "pieces" "I") := ⟨List.mem_of_getElem? (i := 466) (by decide +kernel), rfl⟩
theorem k_470 : zW (.fieldLink "GlassPalace$Acts" 41 "GlassPalace$Lot" "v" "I") := ⟨List.mem_of_getElem? (i := 470) (by decide +kernel), rfl⟩
theorem k_474 : zW (.fieldLink "GlassPalace$Lot" 9 "GlassPalace$Lot" "cameOn" "I") := ⟨List.mem_of_getElem? (i := 474) (by decide +kernel), rfl⟩
theorem k_478 : zW (.fieldLink "GlassPalace$Lot" 40 "GlassPalace$Lot" "standing" "I") := ⟨List.mem_of_getElem? (i := 478) (by decide +kernel), rfl⟩
theorem k_479 : zW (.fieldLink "GlassPalace$Bay" 49 "GlassPalace$Lot" "standing" "I") := ⟨List.mem_of_getElem? (i := 479) (by decide +kernel), rfl⟩
theorem k_481 : zW (.fieldLink "GlassPalace$Lot" 43 "GlassPalace$Lot" "broken" "I") := ⟨List.mem_of_getElem? (i := 481) (by decide +kernel), rfl⟩
theorem k_483 : zW (.fieldLink "GlassPalace$Lot" 46 "GlassPalace$Lot" "sold" "I") := ⟨List.mem_of_getElem? (i := 483) (by decide +kernel), rfl⟩
theorem k_517 : zW (.instanceMethod yX4_isTold) := ⟨List.mem_of_getElem? (i := 517) (by decide +kernel), rfl⟩
theorem k_518 : zW (.selects "GlassPalace$Lot" yX4_isTold yX4_isTold) := ⟨List.mem_of_getElem? (i := 518) (by decide +kernel), rfl⟩
theorem k_519 : zW (.code yX4_isTold cX4_isTold 1 (some .boolean)) := ⟨List.mem_of_getElem? (i := 519) (by decide +kernel), rfl⟩
theorem k_528 : zW (.methodLink "GlassPalace$Lot" 36 yX4_isTold) := ⟨List.mem_of_getElem? (i := 528) (by decide +kernel), rfl⟩
theorem k_561 : zW (.methodLink "GlassPalace$Text" 32 Lib.Math.max.name) := ⟨List.mem_of_getElem? (i := 561) (by decide +kernel), rfl⟩
theorem k_562 : zW (.static Lib.Math.max.name) := ⟨List.mem_of_getElem? (i := 562) (by decide +kernel), rfl⟩
theorem k_563 : zW (.code Lib.Math.max.name Lib.Math.max.code 2 (some .int)) := ⟨List.mem_of_getElem? (i := 563) (by decide +kernel), rfl⟩
theorem k_564 : zW (.methodLink "GlassPalace$Text" 38 yX9_testHolds) := ⟨List.mem_of_getElem? (i := 564) (by decide +kernel), rfl⟩
theorem k_565 : zW (.static yX9_testHolds) := ⟨List.mem_of_getElem? (i := 565) (by decide +kernel), rfl⟩
theorem k_566 : zW (.code yX9_testHolds cX9_testHolds 6 (some .boolean)) := ⟨List.mem_of_getElem? (i := 566) (by decide +kernel), rfl⟩
theorem k_602 : zW (.instanceMethod yX4_place) := ⟨List.mem_of_getElem? (i := 602) (by decide +kernel), rfl⟩
theorem k_603 : zW (.selects "GlassPalace$Lot" yX4_place yX4_place) := ⟨List.mem_of_getElem? (i := 603) (by decide +kernel), rfl⟩
theorem k_604 : zW (.code yX4_place cX4_place 1 (some .int)) := ⟨List.mem_of_getElem? (i := 604) (by decide +kernel), rfl⟩
theorem k_606 : zW (.instanceMethod yX1_room) := ⟨List.mem_of_getElem? (i := 606) (by decide +kernel), rfl⟩
theorem k_607 : zW (.selects "GlassPalace$Bay" yX1_room yX1_room) := ⟨List.mem_of_getElem? (i := 607) (by decide +kernel), rfl⟩
theorem k_608 : zW (.code yX1_room cX1_room 2 (some .int)) := ⟨List.mem_of_getElem? (i := 608) (by decide +kernel), rfl⟩
theorem k_634 : zW (.methodLink "GlassPalace$Bay" 41 yX4_place) := ⟨List.mem_of_getElem? (i := 634) (by decide +kernel), rfl⟩
theorem k_635 : zW (.methodLink "GlassPalace$Bay" 45 yX1_room) := ⟨List.mem_of_getElem? (i := 635) (by decide +kernel), rfl⟩
theorem k_983 : zW (.instanceMethod yX6_firstLack) := ⟨List.mem_of_getElem? (i := 983) (by decide +kernel), rfl⟩
theorem k_984 : zW (.selects "GlassPalace$Plan" yX6_firstLack yX6_firstLack) := ⟨List.mem_of_getElem? (i := 984) (by decide +kernel), rfl⟩
theorem k_985 : zW (.code yX6_firstLack cX6_firstLack 4 (some .int)) := ⟨List.mem_of_getElem? (i := 985) (by decide +kernel), rfl⟩
theorem k_986 : zW (.methodLink "GlassPalace$Plan" 43 yX6_addedFor) := ⟨List.mem_of_getElem? (i := 986) (by decide +kernel), rfl⟩
theorem k_988 : zW (.instanceMethod yX6_addedFor) := ⟨List.mem_of_getElem? (i := 988) (by decide +kernel), rfl⟩
theorem k_989 : zW (.code yX6_addedFor cX6_addedFor 5 (some .int)) := ⟨List.mem_of_getElem? (i := 989) (by decide +kernel), rfl⟩
theorem k_990 : zW (.methodLink "GlassPalace$Plan" 47 yX6_isAhead) := ⟨List.mem_of_getElem? (i := 990) (by decide +kernel), rfl⟩
theorem k_992 : zW (.instanceMethod yX6_isAhead) := ⟨List.mem_of_getElem? (i := 992) (by decide +kernel), rfl⟩
theorem k_993 : zW (.code yX6_isAhead cX6_isAhead 3 (some .boolean)) := ⟨List.mem_of_getElem? (i := 993) (by decide +kernel), rfl⟩
theorem k_1010 : zW (.methodLink "GlassPalace$Plan" 51 yX6_coinOf) := ⟨List.mem_of_getElem? (i := 1010) (by decide +kernel), rfl⟩
theorem k_1012 : zW (.instanceMethod yX6_coinOf) := ⟨List.mem_of_getElem? (i := 1012) (by decide +kernel), rfl⟩
theorem k_1013 : zW (.code yX6_coinOf cX6_coinOf 4 (some .int)) := ⟨List.mem_of_getElem? (i := 1013) (by decide +kernel), rfl⟩
theorem k_1014 : zW (.methodLink "GlassPalace$Plan" 55 yJ6_bitCount_0f7a4) := ⟨List.mem_of_getElem? (i := 1014) (by decide +kernel), rfl⟩
theorem k_1015 : zW (.static yJ6_bitCount_0f7a4) := ⟨List.mem_of_getElem? (i := 1015) (by decide +kernel), rfl⟩
theorem k_1016 : zW (.code yJ6_bitCount_0f7a4 cJ6_bitCount_0f7a4 1 (some .int)) := ⟨List.mem_of_getElem? (i := 1016) (by decide +kernel), rfl⟩
theorem k_1017 : zW (.constant "java/lang/Integer" 265 (1431655765)) := ⟨List.mem_of_getElem? (i := 1017) (by decide +kernel), rfl⟩
theorem k_1018 : zW (.constant "java/lang/Integer" 266 (858993459)) := ⟨List.mem_of_getElem? (i := 1018) (by decide +kernel), rfl⟩
theorem k_1019 : zW (.constant "java/lang/Integer" 267 (252645135)) := ⟨List.mem_of_getElem? (i := 1019) (by decide +kernel), rfl⟩
theorem k_1020 : zW (.methodLink "GlassPalace$Plan" 60 yX6_firstLack) := ⟨List.mem_of_getElem? (i := 1020) (by decide +kernel), rfl⟩
theorem k_1064 : zW (.methodLink "GlassPalace$Acts" 24 yX0_fitsFrom) := ⟨List.mem_of_getElem? (i := 1064) (by decide +kernel), rfl⟩
theorem k_1066 : zW (.instanceMethod yX0_fitsFrom) := ⟨List.mem_of_getElem? (i := 1066) (by decide +kernel), rfl⟩
theorem k_1067 : zW (.code yX0_fitsFrom cX0_fitsFrom 4 (some .int)) := ⟨List.mem_of_getElem? (i := 1067) (by decide +kernel), rfl⟩
theorem k_1068 : zW (.methodLink "GlassPalace$Acts" 34 yX0_begin) := ⟨List.mem_of_getElem? (i := 1068) (by decide +kernel), rfl⟩
theorem k_1070 : zW (.instanceMethod yX0_begin) := ⟨List.mem_of_getElem? (i := 1070) (by decide +kernel), rfl⟩
theorem k_1071 : zW (.code yX0_begin cX0_begin 2 none) := ⟨List.mem_of_getElem? (i := 1071) (by decide +kernel), rfl⟩
theorem k_1108 : zW (.instanceMethod yX8_hasItem) := ⟨List.mem_of_getElem? (i := 1108) (by decide +kernel), rfl⟩
theorem k_1109 : zW (.selects "GlassPalace$Tape" yX8_hasItem yX8_hasItem) := ⟨List.mem_of_getElem? (i := 1109) (by decide +kernel), rfl⟩
theorem k_1110 : zW (.code yX8_hasItem cX8_hasItem 3 (some .boolean)) := ⟨List.mem_of_getElem? (i := 1110) (by decide +kernel), rfl⟩
theorem k_1111 : zW (.constantLong "GlassPalace$Tape" 22 (60)) := ⟨List.mem_of_getElem? (i := 1111) (by decide +kernel), rfl⟩
theorem k_1117 : zW (.methodLink "GlassPalace$Tape" 24 yX8_hasItem) := ⟨List.mem_of_getElem? (i := 1117) (by decide +kernel), rfl⟩
theorem k_1151 : zW (.methodLink "GlassPalace$Tape" 28 yX8_trimmed) := ⟨List.mem_of_getElem? (i := 1151) (by decide +kernel), rfl⟩
theorem k_1153 : zW (.instanceMethod yX8_trimmed) := ⟨List.mem_of_getElem? (i := 1153) (by decide +kernel), rfl⟩
theorem k_1154 : zW (.code yX8_trimmed cX8_trimmed 3 (some .long)) := ⟨List.mem_of_getElem? (i := 1154) (by decide +kernel), rfl⟩
theorem mw_X4_isTold : MW yX4_isTold cX4_isTold 1 (some .boolean) 0 := ⟨k_519, k_114, by decide, by decide, by decide +kernel⟩
theorem mv_X4_isTold : zW (.instanceMethod yX4_isTold) ∧ Cond.selects (yX4_isTold).cls yX4_isTold yX4_isTold ∈ ztb := ⟨k_517, (k_518).mem⟩
theorem mw_X1_latestAt : MW yX1_latestAt cX1_latestAt 2 (some (.object "GlassPalace$Lot")) 1 := ⟨k_434, k_111, by decide, by decide, by decide +kernel⟩
theorem mv_X1_latestAt : zW (.instanceMethod yX1_latestAt) ∧ Cond.selects (yX1_latestAt).cls yX1_latestAt yX1_latestAt ∈ ztb := ⟨k_432, (k_433).mem⟩
theorem mw_X1_has : MW yX1_has cX1_has 2 (some .boolean) 1 := ⟨k_430, k_111, by decide, by decide, by decide +kernel⟩
theorem mv_X1_has : zW (.instanceMethod yX1_has) ∧ Cond.selects (yX1_has).cls yX1_has yX1_has ∈ ztb := ⟨k_428, (k_429).mem⟩
theorem mw_X4_place : MW yX4_place cX4_place 1 (some .int) 0 := ⟨k_604, k_114, by decide, by decide, by decide +kernel⟩
theorem mv_X4_place : zW (.instanceMethod yX4_place) ∧ Cond.selects (yX4_place).cls yX4_place yX4_place ∈ ztb := ⟨k_602, (k_603).mem⟩
theorem mw_X1_room : MW yX1_room cX1_room 2 (some .int) 1 := ⟨k_608, k_111, by decide, by decide, by decide +kernel⟩
theorem mv_X1_room : zW (.instanceMethod yX1_room) ∧ Cond.selects (yX1_room).cls yX1_room yX1_room ∈ ztb := ⟨k_606, (k_607).mem⟩
theorem mw_X0_begin : MW yX0_begin cX0_begin 2 none 1 := ⟨k_1071, k_110, by decide, by decide, by decide +kernel⟩
theorem mv_X0_begin : zW (.instanceMethod yX0_begin) ∧ Cond.selects (yX0_begin).cls yX0_begin yX0_begin ∈ ztb := ⟨k_1070, (k_37).mem⟩
theorem mw_X0_fitsFrom : MW yX0_fitsFrom cX0_fitsFrom 4 (some .int) 3 := ⟨k_1067, k_110, by decide, by decide, by decide +kernel⟩
theorem mv_X0_fitsFrom : zW (.instanceMethod yX0_fitsFrom) ∧ Cond.selects (yX0_fitsFrom).cls yX0_fitsFrom yX0_fitsFrom ∈ ztb := ⟨k_1066, (k_36).mem⟩
theorem mw_X8_hasItem : MW yX8_hasItem cX8_hasItem 3 (some .boolean) 1 := ⟨k_1110, k_112, by decide, by decide, by decide +kernel⟩
theorem mv_X8_hasItem : zW (.instanceMethod yX8_hasItem) ∧ Cond.selects (yX8_hasItem).cls yX8_hasItem yX8_hasItem ∈ ztb := ⟨k_1108, (k_1109).mem⟩
theorem mw_X8_trimmed : MW yX8_trimmed cX8_trimmed 3 (some .long) 1 := ⟨k_1154, k_112, by decide, by decide, by decide +kernel⟩
theorem mv_X8_trimmed : zW (.instanceMethod yX8_trimmed) ∧ Cond.selects (yX8_trimmed).cls yX8_trimmed yX8_trimmed ∈ ztb := ⟨k_1153, (k_44).mem⟩
theorem mw_X9_testHolds : MW yX9_testHolds cX9_testHolds 6 (some .boolean) 2 := ⟨k_566, k_106, by decide, by decide, by decide +kernel⟩
theorem mv_X9_testHolds : zW (.static yX9_testHolds) := k_565
theorem mw_X6_addedFor : MW yX6_addedFor cX6_addedFor 5 (some .int) 2 := ⟨k_989, k_108, by decide, by decide, by decide +kernel⟩
theorem mv_X6_addedFor : zW (.instanceMethod yX6_addedFor) ∧ Cond.selects (yX6_addedFor).cls yX6_addedFor yX6_addedFor ∈ ztb := ⟨k_988, (k_30).mem⟩
theorem mw_X6_isAhead : MW yX6_isAhead cX6_isAhead 3 (some .boolean) 2 := ⟨k_993, k_108, by decide, by decide, by decide +kernel⟩
theorem mv_X6_isAhead : zW (.instanceMethod yX6_isAhead) ∧ Cond.selects (yX6_isAhead).cls yX6_isAhead yX6_isAhead ∈ ztb := ⟨k_992, (k_31).mem⟩
theorem mw_X6_coinOf : MW yX6_coinOf cX6_coinOf 4 (some .int) 1 := ⟨k_1013, k_108, by decide, by decide, by decide +kernel⟩
theorem mv_X6_coinOf : zW (.instanceMethod yX6_coinOf) ∧ Cond.selects (yX6_coinOf).cls yX6_coinOf yX6_coinOf ∈ ztb := ⟨k_1012, (k_32).mem⟩
theorem mw_X6_firstLack : MW yX6_firstLack cX6_firstLack 4 (some .int) 1 := ⟨k_985, k_108, by decide, by decide, by decide +kernel⟩
theorem mv_X6_firstLack : zW (.instanceMethod yX6_firstLack) ∧ Cond.selects (yX6_firstLack).cls yX6_firstLack yX6_firstLack ∈ ztb := ⟨k_983, (k_984).mem⟩
theorem mw_J6_bitCount_0f7a4 : MW yJ6_bitCount_0f7a4 cJ6_bitCount_0f7a4 1 (some .int) 1 := ⟨k_1016, k_121, by decide, by decide, by decide +kernel⟩
theorem mv_J6_bitCount_0f7a4 : zW (.static yJ6_bitCount_0f7a4) := k_1015
theorem dX4_isTold_0 : decode cX4_isTold 0 = .ok (.aload_n 0, 1) := by decide +kernel
theorem dX4_isTold_1 : decode cX4_isTold 1 = .ok (.getfield 9, 3) := by decide +kernel
theorem dX4_isTold_4 : decode cX4_isTold 4 = .ok (.bipush (-5), 2) := by decide +kernel
theorem dX4_isTold_6 : decode cX4_isTold 6 = .ok (.if_icmp .eq 7, 3) := by decide +kernel
theorem dX4_isTold_9 : decode cX4_isTold 9 = .ok (.iconst 1, 1) := by decide +kernel
theorem dX4_isTold_10 : decode cX4_isTold 10 = .ok (.goto 4, 3) := by decide +kernel
theorem dX4_isTold_13 : decode cX4_isTold 13 = .ok (.iconst 0, 1) := by decide +kernel
theorem dX4_isTold_14 : decode cX4_isTold 14 = .ok (.ireturn, 1) := by decide +kernel
def f_X4_isTold (fl : Nat) (o : Nat) (M0 : Mem) : Option (Int32 × Mem) :=
  if (gI M0 23 o 6) = (-5) then
    some (0, M0)
  else
    some (1, M0)
set_option maxRecDepth 100000 in
set_option maxHeartbeats 4000000 in
theorem c_X4_isTold {l : Launch} {K : KG} {ad : Nat → Nat → Nat} {fl : Nat} {o : Nat} {M0 : Mem} {r9 : Int32} {M9 : Mem} (ho : o < gR M0 999 23 0) (hf : f_X4_isTold fl o M0 = some (r9, M9)) : Met l yX4_isTold (Cond.code yX4_isTold cX4_isTold 1 (some .boolean) :: ztb) (RM (1) 0 0) (zPc K LC ad M0 [.ref (ad 23 o)]) (zQ K LC ad (some (.int r9)) M9) 0 0 (zA ad) := by
  refine z_enter (by decide) (Nat.le_of_ble_eq_true rfl) ?_
  intro p e s m args below meth c ls C hin hargs Z hl
  replace C : Cx p s m args meth c cX4_isTold 1 "GlassPalace$Lot" (some .boolean) := C
  replace hl : lv_has ls 1 [(0, .ref (ad 23 o))] := hl
  have hR : 1 ≤ (RM (1) 0 0).frames ∧ 40 * (1) ≤ (RM (1) 0 0).locals := ⟨Nat.le_refl _, Nat.le_refl _⟩
  have hB : 0 ≤ (RM (1) 0 0).cells ∧ 0 ≤ (RM (1) 0 0).slots := ⟨Nat.zero_le _, Nat.zero_le _⟩
  unfold f_X4_isTold at hf
  refine lv_aload_n C.x C.b dX4_isTold_0 rfl (lv_at hl 0 rfl) ?_
  refine z_get C Z (lvC23 ho) kC23 zc4 zin4 6 (by decide) k_474 rfl svC23_6 dX4_isTold_1 ?_
  refine lv_bipush (v := (-5)) C.x C.b dX4_isTold_4 (by decide) ?_
  refine lv_icmp_eq (tgt := 13) C.x C.b dX4_isTold_6 (by decide) (fun hc1 => ?_) (fun hc1 => ?_)
  · replace hf := ite_t hf hc1
    refine lv_iconst (v := 0) C.x C.b dX4_isTold_13 (by decide) ?_
    cases hf
    exact z_zret C Z rfl dX4_isTold_14
  · replace hf := ite_f hf hc1
    refine lv_iconst (v := 1) C.x C.b dX4_isTold_9 (by decide) ?_
    refine lv_goto (tgt := 14) C.x C.b dX4_isTold_10 (by decide) ?_
    cases hf
    exact z_zret C Z rfl dX4_isTold_14
theorem dX4_stock_0 : decode cX4_stock 0 = .ok (.aload_n 0, 1) := by decide +kernel
theorem dX4_stock_1 : decode cX4_stock 1 = .ok (.invokevirtual 36, 3) := by decide +kernel
theorem dX4_stock_4 : decode cX4_stock 4 = .ok (.ifCond .eq 25, 3) := by decide +kernel
theorem dX4_stock_7 : decode cX4_stock 7 = .ok (.aload_n 0, 1) := by decide +kernel
theorem dX4_stock_8 : decode cX4_stock 8 = .ok (.getfield 27, 3) := by decide +kernel
theorem dX4_stock_11 : decode cX4_stock 11 = .ok (.aload_n 0, 1) := by decide +kernel
theorem dX4_stock_12 : decode cX4_stock 12 = .ok (.getfield 40, 3) := by decide +kernel
theorem dX4_stock_15 : decode cX4_stock 15 = .ok (.isub, 1) := by decide +kernel
theorem dX4_stock_16 : decode cX4_stock 16 = .ok (.aload_n 0, 1) := by decide +kernel
theorem dX4_stock_17 : decode cX4_stock 17 = .ok (.getfield 43, 3) := by decide +kernel
theorem dX4_stock_20 : decode cX4_stock 20 = .ok (.isub, 1) := by decide +kernel
theorem dX4_stock_21 : decode cX4_stock 21 = .ok (.aload_n 0, 1) := by decide +kernel
theorem dX4_stock_22 : decode cX4_stock 22 = .ok (.getfield 46, 3) := by decide +kernel
theorem dX4_stock_25 : decode cX4_stock 25 = .ok (.isub, 1) := by decide +kernel
theorem dX4_stock_26 : decode cX4_stock 26 = .ok (.goto 4, 3) := by decide +kernel
theorem dX4_stock_29 : decode cX4_stock 29 = .ok (.iconst 0, 1) := by decide +kernel
theorem dX4_stock_30 : decode cX4_stock 30 = .ok (.ireturn, 1) := by decide +kernel
def f_X4_stock (fl : Nat) (o : Nat) (M0 : Mem) : Option (Int32 × Mem) :=
  bn2 (f_X4_isTold fl o M0) fun v2 M1 =>
  if v2 = 0 then
    some (0, M1)
  else
    asr (o < gR M1 999 23 0) <|
    some (((((gI M1 23 o 3) - (gI M1 23 o 8)) - (gI M1 23 o 9)) - (gI M1 23 o 10)), M1)
set_option maxRecDepth 100000 in
set_option maxHeartbeats 4000000 in
theorem c_X4_stock {l : Launch} {K : KG} {ad : Nat → Nat → Nat} {fl : Nat} {o : Nat} {M0 : Mem} {r9 : Int32} {M9 : Mem} (ho : o < gR M0 999 23 0) (hf : f_X4_stock fl o M0 = some (r9, M9)) : Met l yX4_stock (Cond.code yX4_stock cX4_stock 1 (some .int) :: ztb) (RM (2) 0 0) (zPc K LC ad M0 [.ref (ad 23 o)]) (zQ K LC ad (some (.int r9)) M9) 0 0 (zA ad) := by
  refine z_enter (by decide) (Nat.le_of_ble_eq_true rfl) ?_
  intro p e s m args below meth c ls C hin hargs Z hl
  replace C : Cx p s m args meth c cX4_stock 1 "GlassPalace$Lot" (some .int) := C
  replace hl : lv_has ls 1 [(0, .ref (ad 23 o))] := hl
  have hR : 2 ≤ (RM (2) 0 0).frames ∧ 40 * (2) ≤ (RM (2) 0 0).locals := ⟨Nat.le_refl _, Nat.le_refl _⟩
  have hB : 0 ≤ (RM (2) 0 0).cells ∧ 0 ≤ (RM (2) 0 0).slots := ⟨Nat.zero_le _, Nat.zero_le _⟩
  unfold f_X4_stock at hf
  refine lv_aload_n C.x C.b dX4_stock_0 rfl (lv_at hl 0 rfl) ?_
  replace hf := bn2_s hf; obtain ⟨v2, M1, hkM1, hf⟩ := hf
  refine z_cV (As := []) (rest := []) (st1 := [.int v2]) C Z mw_X4_isTold mv_X4_isTold k_528 (by decide) (z_hR hR (by decide)) (lvC23 ho) kC23 zc4 (c_X4_isTold (l := l) (K := K) (ad := ad) ho hkM1) rfl hl.1 rfl (Nat.le_of_ble_eq_true rfl) dX4_stock_1 hB rfl (fun H locs Z => ?_)
  refine lv_if_eq (tgt := 29) C.x C.b dX4_stock_4 (by decide) (fun hc3 => ?_) (fun hc3 => ?_)
  · replace hf := ite_t hf hc3
    refine lv_iconst (v := 0) C.x C.b dX4_stock_29 (by decide) ?_
    cases hf
    exact z_iret C Z dX4_stock_30
  · replace hf := ite_f hf hc3
    refine lv_aload_n C.x C.b dX4_stock_7 rfl (lv_at hl 0 rfl) ?_
    replace hf := asr_s hf; obtain ⟨hq4, hf⟩ := hf
    refine z_get C Z (lvC23 hq4) kC23 zc4 zin4 3 (by decide) k_466 rfl svC23_3 dX4_stock_8 ?_
    refine lv_aload_n C.x C.b dX4_stock_11 rfl (lv_at hl 0 rfl) ?_
    refine z_get C Z (lvC23 hq4) kC23 zc4 zin4 8 (by decide) k_478 rfl svC23_8 dX4_stock_12 ?_
    refine lv_isub C.x C.b dX4_stock_15 ?_
    refine lv_aload_n C.x C.b dX4_stock_16 rfl (lv_at hl 0 rfl) ?_
    refine z_get C Z (lvC23 hq4) kC23 zc4 zin4 9 (by decide) k_481 rfl svC23_9 dX4_stock_17 ?_
    refine lv_isub C.x C.b dX4_stock_20 ?_
    refine lv_aload_n C.x C.b dX4_stock_21 rfl (lv_at hl 0 rfl) ?_
    refine z_get C Z (lvC23 hq4) kC23 zc4 zin4 10 (by decide) k_483 rfl svC23_10 dX4_stock_22 ?_
    refine lv_isub C.x C.b dX4_stock_25 ?_
    refine lv_goto (tgt := 30) C.x C.b dX4_stock_26 (by decide) ?_
    cases hf
    exact z_iret C Z dX4_stock_30
theorem dX4_place_0 : decode cX4_place 0 = .ok (.aload_n 0, 1) := by decide +kernel
theorem dX4_place_1 : decode cX4_place 1 = .ok (.getfield 21, 3) := by decide +kernel
theorem dX4_place_4 : decode cX4_place 4 = .ok (.bipush 6, 2) := by decide +kernel
theorem dX4_place_6 : decode cX4_place 6 = .ok (.if_icmp .ne 7, 3) := by decide +kernel
theorem dX4_place_9 : decode cX4_place 9 = .ok (.iconst 1, 1) := by decide +kernel
theorem dX4_place_10 : decode cX4_place 10 = .ok (.goto 7, 3) := by decide +kernel
theorem dX4_place_13 : decode cX4_place 13 = .ok (.aload_n 0, 1) := by decide +kernel
theorem dX4_place_14 : decode cX4_place 14 = .ok (.getfield 21, 3) := by decide +kernel
theorem dX4_place_17 : decode cX4_place 17 = .ok (.ireturn, 1) := by decide +kernel
def f_X4_place (fl : Nat) (o : Nat) (M0 : Mem) : Option (Int32 × Mem) :=
  if (gI M0 23 o 1) = 6 then
    some (1, M0)
  else
    some ((gI M0 23 o 1), M0)
set_option maxRecDepth 100000 in
set_option maxHeartbeats 4000000 in
theorem c_X4_place {l : Launch} {K : KG} {ad : Nat → Nat → Nat} {fl : Nat} {o : Nat} {M0 : Mem} {r9 : Int32} {M9 : Mem} (ho : o < gR M0 999 23 0) (hf : f_X4_place fl o M0 = some (r9, M9)) : Met l yX4_place (Cond.code yX4_place cX4_place 1 (some .int) :: ztb) (RM (1) 0 0) (zPc K LC ad M0 [.ref (ad 23 o)]) (zQ K LC ad (some (.int r9)) M9) 0 0 (zA ad) := by
  refine z_enter (by decide) (Nat.le_of_ble_eq_true rfl) ?_
  intro p e s m args below meth c ls C hin hargs Z hl
  replace C : Cx p s m args meth c cX4_place 1 "GlassPalace$Lot" (some .int) := C
  replace hl : lv_has ls 1 [(0, .ref (ad 23 o))] := hl
  have hR : 1 ≤ (RM (1) 0 0).frames ∧ 40 * (1) ≤ (RM (1) 0 0).locals := ⟨Nat.le_refl _, Nat.le_refl _⟩
  have hB : 0 ≤ (RM (1) 0 0).cells ∧ 0 ≤ (RM (1) 0 0).slots := ⟨Nat.zero_le _, Nat.zero_le _⟩
  unfold f_X4_place at hf
  refine lv_aload_n C.x C.b dX4_place_0 rfl (lv_at hl 0 rfl) ?_
  refine z_get C Z (lvC23 ho) kC23 zc4 zin4 1 (by decide) k_460 rfl svC23_1 dX4_place_1 ?_
  refine lv_bipush (v := 6) C.x C.b dX4_place_4 (by decide) ?_
  refine lv_icmp_ne (tgt := 13) C.x C.b dX4_place_6 (by decide) (fun hc1 => ?_) (fun hc1 => ?_)
  · replace hf := ite_f hf hc1
    refine lv_aload_n C.x C.b dX4_place_13 rfl (lv_at hl 0 rfl) ?_
    refine z_get C Z (lvC23 ho) kC23 zc4 zin4 1 (by decide) k_460 rfl svC23_1 dX4_place_14 ?_
    cases hf
    exact z_iret C Z dX4_place_17
  · replace hf := ite_t hf hc1
    refine lv_iconst (v := 1) C.x C.b dX4_place_9 (by decide) ?_
    refine lv_goto (tgt := 17) C.x C.b dX4_place_10 (by decide) ?_
    cases hf
    exact z_iret C Z dX4_place_17
theorem dX4_isUnder_0 : decode cX4_isUnder 0 = .ok (.aload_n 0, 1) := by decide +kernel
theorem dX4_isUnder_1 : decode cX4_isUnder 1 = .ok (.getfield 21, 3) := by decide +kernel
theorem dX4_isUnder_4 : decode cX4_isUnder 4 = .ok (.iload_n 1, 1) := by decide +kernel
theorem dX4_isUnder_5 : decode cX4_isUnder 5 = .ok (.if_icmp .eq 21, 3) := by decide +kernel
theorem dX4_isUnder_8 : decode cX4_isUnder 8 = .ok (.iload_n 1, 1) := by decide +kernel
theorem dX4_isUnder_9 : decode cX4_isUnder 9 = .ok (.ifCond .eq 17, 3) := by decide +kernel
theorem dX4_isUnder_12 : decode cX4_isUnder 12 = .ok (.iload_n 1, 1) := by decide +kernel
theorem dX4_isUnder_13 : decode cX4_isUnder 13 = .ok (.iconst 1, 1) := by decide +kernel
theorem dX4_isUnder_14 : decode cX4_isUnder 14 = .ok (.if_icmp .ne 16, 3) := by decide +kernel
theorem dX4_isUnder_17 : decode cX4_isUnder 17 = .ok (.aload_n 0, 1) := by decide +kernel
theorem dX4_isUnder_18 : decode cX4_isUnder 18 = .ok (.getfield 21, 3) := by decide +kernel
theorem dX4_isUnder_21 : decode cX4_isUnder 21 = .ok (.bipush 6, 2) := by decide +kernel
theorem dX4_isUnder_23 : decode cX4_isUnder 23 = .ok (.if_icmp .ne 7, 3) := by decide +kernel
theorem dX4_isUnder_26 : decode cX4_isUnder 26 = .ok (.iconst 1, 1) := by decide +kernel
theorem dX4_isUnder_27 : decode cX4_isUnder 27 = .ok (.goto 4, 3) := by decide +kernel
theorem dX4_isUnder_30 : decode cX4_isUnder 30 = .ok (.iconst 0, 1) := by decide +kernel
theorem dX4_isUnder_31 : decode cX4_isUnder 31 = .ok (.ireturn, 1) := by decide +kernel
def f_X4_isUnder (fl : Nat) (o : Nat) (a1 : Int32) (M0 : Mem) : Option (Int32 × Mem) :=
  if (gI M0 23 o 1) = a1 then
    some (1, M0)
  else
    if a1 = 0 then
      some (1, M0)
    else
      if a1 = 1 then
        if (gI M0 23 o 1) = 6 then
          some (1, M0)
        else
          some (0, M0)
      else
        some (0, M0)
set_option maxRecDepth 100000 in
set_option maxHeartbeats 4000000 in
theorem c_X4_isUnder {l : Launch} {K : KG} {ad : Nat → Nat → Nat} {fl : Nat} {o : Nat} {a1 : Int32} {M0 : Mem} {r9 : Int32} {M9 : Mem} (ho : o < gR M0 999 23 0) (hf : f_X4_isUnder fl o a1 M0 = some (r9, M9)) : Met l yX4_isUnder (Cond.code yX4_isUnder cX4_isUnder 2 (some .boolean) :: ztb) (RM (1) 0 0) (zPc K LC ad M0 [.ref (ad 23 o), .int a1]) (zQ K LC ad (some (.int r9)) M9) 0 0 (zA ad) := by
  refine z_enter (by decide) (Nat.le_of_ble_eq_true rfl) ?_
  intro p e s m args below meth c ls C hin hargs Z hl
  replace C : Cx p s m args meth c cX4_isUnder 2 "GlassPalace$Lot" (some .boolean) := C
  replace hl : lv_has ls 2 [(0, .ref (ad 23 o)), (1, .int a1)] := hl
  have hR : 1 ≤ (RM (1) 0 0).frames ∧ 40 * (1) ≤ (RM (1) 0 0).locals := ⟨Nat.le_refl _, Nat.le_refl _⟩
  have hB : 0 ≤ (RM (1) 0 0).cells ∧ 0 ≤ (RM (1) 0 0).slots := ⟨Nat.zero_le _, Nat.zero_le _⟩
  unfold f_X4_isUnder at hf
  refine lv_aload_n C.x C.b dX4_isUnder_0 rfl (lv_at hl 0 rfl) ?_
  refine z_get C Z (lvC23 ho) kC23 zc4 zin4 1 (by decide) k_460 rfl svC23_1 dX4_isUnder_1 ?_
  refine lv_iload_n C.x C.b dX4_isUnder_4 rfl (lv_at hl 1 rfl) ?_
  refine lv_icmp_eq (tgt := 26) C.x C.b dX4_isUnder_5 (by decide) (fun hc1 => ?_) (fun hc1 => ?_)
  · replace hf := ite_t hf hc1
    refine lv_iconst (v := 1) C.x C.b dX4_isUnder_26 (by decide) ?_
    refine lv_goto (tgt := 31) C.x C.b dX4_isUnder_27 (by decide) ?_
    cases hf
    exact z_zret C Z rfl dX4_isUnder_31
  · replace hf := ite_f hf hc1
    refine lv_iload_n C.x C.b dX4_isUnder_8 rfl (lv_at hl 1 rfl) ?_
    refine lv_if_eq (tgt := 26) C.x C.b dX4_isUnder_9 (by decide) (fun hc2 => ?_) (fun hc2 => ?_)
    · replace hf := ite_t hf hc2
      refine lv_iconst (v := 1) C.x C.b dX4_isUnder_26 (by decide) ?_
      refine lv_goto (tgt := 31) C.x C.b dX4_isUnder_27 (by decide) ?_
      cases hf
      exact z_zret C Z rfl dX4_isUnder_31
    · replace hf := ite_f hf hc2
      refine lv_iload_n C.x C.b dX4_isUnder_12 rfl (lv_at hl 1 rfl) ?_
      refine lv_iconst (v := 1) C.x C.b dX4_isUnder_13 (by decide) ?_
      refine lv_icmp_ne (tgt := 30) C.x C.b dX4_isUnder_14 (by decide) (fun hc3 => ?_) (fun hc3 => ?_)
      · replace hf := ite_f hf hc3
        refine lv_iconst (v := 0) C.x C.b dX4_isUnder_30 (by decide) ?_
        cases hf
        exact z_zret C Z rfl dX4_isUnder_31
      · replace hf := ite_t hf hc3
        refine lv_aload_n C.x C.b dX4_isUnder_17 rfl (lv_at hl 0 rfl) ?_
        refine z_get C Z (lvC23 ho) kC23 zc4 zin4 1 (by decide) k_460 rfl svC23_1 dX4_isUnder_18 ?_
        refine lv_bipush (v := 6) C.x C.b dX4_isUnder_21 (by decide) ?_
        refine lv_icmp_ne (tgt := 30) C.x C.b dX4_isUnder_23 (by decide) (fun hc4 => ?_) (fun hc4 => ?_)
        · replace hf := ite_f hf hc4
          refine lv_iconst (v := 0) C.x C.b dX4_isUnder_30 (by decide) ?_
          cases hf
          exact z_zret C Z rfl dX4_isUnder_31
        · replace hf := ite_t hf hc4
          refine lv_iconst (v := 1) C.x C.b dX4_isUnder_26 (by decide) ?_
          refine lv_goto (tgt := 31) C.x C.b dX4_isUnder_27 (by decide) ?_
          cases hf
          exact z_zret C Z rfl dX4_isUnder_31
theorem dX1_latestAt_0 : decode cX1_latestAt 0 = .ok (.iload_n 1, 1) := by decide +kernel
theorem dX1_latestAt_1 : decode cX1_latestAt 1 = .ok (.iconst 3, 1) := by decide +kernel
theorem dX1_latestAt_2 : decode cX1_latestAt 2 = .ok (.if_icmp .ne 35, 3) := by decide +kernel
theorem dX1_latestAt_5 : decode cX1_latestAt 5 = .ok (.aload_n 0, 1) := by decide +kernel
theorem dX1_latestAt_6 : decode cX1_latestAt 6 = .ok (.getfield 30, 3) := by decide +kernel
theorem dX1_latestAt_9 : decode cX1_latestAt 9 = .ok (.ifCond .le 26, 3) := by decide +kernel
theorem dX1_latestAt_12 : decode cX1_latestAt 12 = .ok (.aload_n 0, 1) := by decide +kernel
theorem dX1_latestAt_13 : decode cX1_latestAt 13 = .ok (.getfield 30, 3) := by decide +kernel
theorem dX1_latestAt_16 : decode cX1_latestAt 16 = .ok (.bipush 24, 2) := by decide +kernel
theorem dX1_latestAt_18 : decode cX1_latestAt 18 = .ok (.if_icmp .gt 17, 3) := by decide +kernel
theorem dX1_latestAt_21 : decode cX1_latestAt 21 = .ok (.aload_n 0, 1) := by decide +kernel
theorem dX1_latestAt_22 : decode cX1_latestAt 22 = .ok (.getfield 21, 3) := by decide +kernel
theorem dX1_latestAt_25 : decode cX1_latestAt 25 = .ok (.aload_n 0, 1) := by decide +kernel
theorem dX1_latestAt_26 : decode cX1_latestAt 26 = .ok (.getfield 30, 3) := by decide +kernel
theorem dX1_latestAt_29 : decode cX1_latestAt 29 = .ok (.iconst 1, 1) := by decide +kernel
theorem dX1_latestAt_30 : decode cX1_latestAt 30 = .ok (.isub, 1) := by decide +kernel
theorem dX1_latestAt_31 : decode cX1_latestAt 31 = .ok (.aaload, 1) := by decide +kernel
theorem dX1_latestAt_32 : decode cX1_latestAt 32 = .ok (.goto 4, 3) := by decide +kernel
theorem dX1_latestAt_35 : decode cX1_latestAt 35 = .ok (.aconst_null, 1) := by decide +kernel
theorem dX1_latestAt_36 : decode cX1_latestAt 36 = .ok (.areturn, 1) := by decide +kernel
theorem dX1_latestAt_37 : decode cX1_latestAt 37 = .ok (.iload_n 1, 1) := by decide +kernel
theorem dX1_latestAt_38 : decode cX1_latestAt 38 = .ok (.iconst 1, 1) := by decide +kernel
theorem dX1_latestAt_39 : decode cX1_latestAt 39 = .ok (.if_icmp .lt 17, 3) := by decide +kernel
theorem dX1_latestAt_42 : decode cX1_latestAt 42 = .ok (.iload_n 1, 1) := by decide +kernel
theorem dX1_latestAt_43 : decode cX1_latestAt 43 = .ok (.iconst 5, 1) := by decide +kernel
theorem dX1_latestAt_44 : decode cX1_latestAt 44 = .ok (.if_icmp .gt 12, 3) := by decide +kernel
theorem dX1_latestAt_47 : decode cX1_latestAt 47 = .ok (.aload_n 0, 1) := by decide +kernel
theorem dX1_latestAt_48 : decode cX1_latestAt 48 = .ok (.getfield 17, 3) := by decide +kernel
theorem dX1_latestAt_51 : decode cX1_latestAt 51 = .ok (.iload_n 1, 1) := by decide +kernel
theorem dX1_latestAt_52 : decode cX1_latestAt 52 = .ok (.aaload, 1) := by decide +kernel
theorem dX1_latestAt_53 : decode cX1_latestAt 53 = .ok (.goto 4, 3) := by decide +kernel
theorem dX1_latestAt_56 : decode cX1_latestAt 56 = .ok (.aconst_null, 1) := by decide +kernel
theorem dX1_latestAt_57 : decode cX1_latestAt 57 = .ok (.areturn, 1) := by decide +kernel
def f_X1_latestAt (fl : Nat) (o : Nat) (a1 : Int32) (M0 : Mem) : Option (Nat × Mem) :=
  if a1 = 3 then
    if (gI M0 13 o 4) ≤ 0 then
      some (0, M0)
    else
      if 24 < (gI M0 13 o 4) then
        some (0, M0)
      else
        asr (vq ((gI M0 13 o 4) - 1) 24) <|
        some ((gR M0 15 o (Int32.toNatClampNeg ((gI M0 13 o 4) - 1))), M0)
  else
    if a1 < 1 then
      some (0, M0)
    else
      if 5 < a1 then
        some (0, M0)
      else
        asr (vq a1 6) <|
        some ((gR M0 14 o (Int32.toNatClampNeg a1)), M0)
set_option maxRecDepth 100000 in
set_option maxHeartbeats 4000000 in
theorem c_X1_latestAt {l : Launch} {K : KG} {ad : Nat → Nat → Nat} {fl : Nat} {o : Nat} {a1 : Int32} {M0 : Mem} {r9 : Nat} {M9 : Mem} (ho : o < 30) (hf : f_X1_latestAt fl o a1 M0 = some (r9, M9)) : Met l yX1_latestAt (Cond.code yX1_latestAt cX1_latestAt 2 (some (.object "GlassPalace$Lot")) :: ztb) (RM (1) 0 0) (zPc K LC ad M0 [.ref (ad 13 o), .int a1]) (zQ K LC ad (some (rf (ad 23) r9)) M9) 0 0 (zA ad) := by
  refine z_enter (by decide) (Nat.le_of_ble_eq_true rfl) ?_
  intro p e s m args below meth c ls C hin hargs Z hl
  replace C : Cx p s m args meth c cX1_latestAt 2 "GlassPalace$Bay" (some (.object "GlassPalace$Lot")) := C
  replace hl : lv_has ls 2 [(0, .ref (ad 13 o)), (1, .int a1)] := hl
  have hR : 1 ≤ (RM (1) 0 0).frames ∧ 40 * (1) ≤ (RM (1) 0 0).locals := ⟨Nat.le_refl _, Nat.le_refl _⟩
  have hB : 0 ≤ (RM (1) 0 0).cells ∧ 0 ≤ (RM (1) 0 0).slots := ⟨Nat.zero_le _, Nat.zero_le _⟩
  unfold f_X1_latestAt at hf
  refine lv_iload_n C.x C.b dX1_latestAt_0 rfl (lv_at hl 1 rfl) ?_
  refine lv_iconst (v := 3) C.x C.b dX1_latestAt_1 (by decide) ?_
  refine lv_icmp_ne (tgt := 37) C.x C.b dX1_latestAt_2 (by decide) (fun hc1 => ?_) (fun hc1 => ?_)
  · replace hf := ite_f hf hc1
    refine lv_iload_n C.x C.b dX1_latestAt_37 rfl (lv_at hl 1 rfl) ?_
    refine lv_iconst (v := 1) C.x C.b dX1_latestAt_38 (by decide) ?_
    refine lv_icmp_lt (tgt := 56) C.x C.b dX1_latestAt_39 (by decide) (fun hc2 => ?_) (fun hc2 => ?_)
    · replace hf := ite_t hf hc2
      refine lv_null C.x C.b dX1_latestAt_56 ?_
      cases hf
      exact z_aret (f := ad 23) (k := 0) C Z dX1_latestAt_57
    · replace hf := ite_f hf hc2
      refine lv_iload_n C.x C.b dX1_latestAt_42 rfl (lv_at hl 1 rfl) ?_
      refine lv_iconst (v := 5) C.x C.b dX1_latestAt_43 (by decide) ?_
      refine lv_icmp_gt (tgt := 56) C.x C.b dX1_latestAt_44 (by decide) (fun hc3 => ?_) (fun hc3 => ?_)
      · replace hf := ite_t hf hc3
        refine lv_null C.x C.b dX1_latestAt_56 ?_
        cases hf
        exact z_aret (f := ad 23) (k := 0) C Z dX1_latestAt_57
      · replace hf := ite_f hf hc3
        refine lv_aload_n C.x C.b dX1_latestAt_47 rfl (lv_at hl 0 rfl) ?_
        refine z_get C Z (lvC13 ho) kC13 zc1 zin1 6 (by decide) k_325 rfl svC13_6 dX1_latestAt_48 ?_
        refine lv_iload_n C.x C.b dX1_latestAt_51 rfl (lv_at hl 1 rfl) ?_
        replace hf := asr_s hf; obtain ⟨hq4, hf⟩ := hf
        refine z_aald C Z (lvC14 ho) kC14 3 rfl hq4 svC14 dX1_latestAt_52 ?_
        refine lv_goto (tgt := 57) C.x C.b dX1_latestAt_53 (by decide) ?_
        cases hf
        exact z_aret (f := ad 23) (k := (gR M0 14 o (Int32.toNatClampNeg a1))) C Z dX1_latestAt_57
  · replace hf := ite_t hf hc1
    refine lv_aload_n C.x C.b dX1_latestAt_5 rfl (lv_at hl 0 rfl) ?_
    refine z_get C Z (lvC13 ho) kC13 zc1 zin1 4 (by decide) k_320 rfl svC13_4 dX1_latestAt_6 ?_
    refine lv_if_le (tgt := 35) C.x C.b dX1_latestAt_9 (by decide) (fun hc5 => ?_) (fun hc5 => ?_)
    · replace hf := ite_t hf hc5
      refine lv_null C.x C.b dX1_latestAt_35 ?_
      cases hf
      exact z_aret (f := ad 23) (k := 0) C Z dX1_latestAt_36
    · replace hf := ite_f hf hc5
      refine lv_aload_n C.x C.b dX1_latestAt_12 rfl (lv_at hl 0 rfl) ?_
      refine z_get C Z (lvC13 ho) kC13 zc1 zin1 4 (by decide) k_320 rfl svC13_4 dX1_latestAt_13 ?_
      refine lv_bipush (v := 24) C.x C.b dX1_latestAt_16 (by decide) ?_
      refine lv_icmp_gt (tgt := 35) C.x C.b dX1_latestAt_18 (by decide) (fun hc6 => ?_) (fun hc6 => ?_)
      · replace hf := ite_t hf hc6
        refine lv_null C.x C.b dX1_latestAt_35 ?_
        cases hf
        exact z_aret (f := ad 23) (k := 0) C Z dX1_latestAt_36
      · replace hf := ite_f hf hc6
        refine lv_aload_n C.x C.b dX1_latestAt_21 rfl (lv_at hl 0 rfl) ?_
        refine z_get C Z (lvC13 ho) kC13 zc1 zin1 7 (by decide) k_326 rfl svC13_7 dX1_latestAt_22 ?_
        refine lv_aload_n C.x C.b dX1_latestAt_25 rfl (lv_at hl 0 rfl) ?_
        refine z_get C Z (lvC13 ho) kC13 zc1 zin1 4 (by decide) k_320 rfl svC13_4 dX1_latestAt_26 ?_
        refine lv_iconst (v := 1) C.x C.b dX1_latestAt_29 (by decide) ?_
        refine lv_isub C.x C.b dX1_latestAt_30 ?_
        replace hf := asr_s hf; obtain ⟨hq7, hf⟩ := hf
        refine z_aald C Z (lvC15 ho) kC15 3 rfl hq7 svC15 dX1_latestAt_31 ?_
        refine lv_goto (tgt := 36) C.x C.b dX1_latestAt_32 (by decide) ?_
        cases hf
        exact z_aret (f := ad 23) (k := (gR M0 15 o (Int32.toNatClampNeg ((gI M0 13 o 4) - 1)))) C Z dX1_latestAt_36
theorem dX1_has_0 : decode cX1_has 0 = .ok (.aload_n 0, 1) := by decide +kernel
theorem dX1_has_1 : decode cX1_has 1 = .ok (.iload_n 1, 1) := by decide +kernel
theorem dX1_has_2 : decode cX1_has 2 = .ok (.invokevirtual 33, 3) := by decide +kernel
theorem dX1_has_5 : decode cX1_has 5 = .ok (.ifnull 7, 3) := by decide +kernel
theorem dX1_has_8 : decode cX1_has 8 = .ok (.iconst 1, 1) := by decide +kernel
theorem dX1_has_9 : decode cX1_has 9 = .ok (.goto 4, 3) := by decide +kernel
theorem dX1_has_12 : decode cX1_has 12 = .ok (.iconst 0, 1) := by decide +kernel
theorem dX1_has_13 : decode cX1_has 13 = .ok (.ireturn, 1) := by decide +kernel
def f_X1_has (fl : Nat) (o : Nat) (a1 : Int32) (M0 : Mem) : Option (Int32 × Mem) :=
  bn2 (f_X1_latestAt fl o a1 M0) fun c2 M1 =>
  if c2 = 0 then
    some (0, M1)
  else
    some (1, M1)
set_option maxRecDepth 100000 in
set_option maxHeartbeats 4000000 in
theorem c_X1_has {l : Launch} {K : KG} {ad : Nat → Nat → Nat} {fl : Nat} {o : Nat} {a1 : Int32} {M0 : Mem} {r9 : Int32} {M9 : Mem} (ho : o < 30) (hf : f_X1_has fl o a1 M0 = some (r9, M9)) : Met l yX1_has (Cond.code yX1_has cX1_has 2 (some .boolean) :: ztb) (RM (2) 0 0) (zPc K LC ad M0 [.ref (ad 13 o), .int a1]) (zQ K LC ad (some (.int r9)) M9) 0 0 (zA ad) := by
  refine z_enter (by decide) (Nat.le_of_ble_eq_true rfl) ?_
  intro p e s m args below meth c ls C hin hargs Z hl
  replace C : Cx p s m args meth c cX1_has 2 "GlassPalace$Bay" (some .boolean) := C
  replace hl : lv_has ls 2 [(0, .ref (ad 13 o)), (1, .int a1)] := hl
  have hR : 2 ≤ (RM (2) 0 0).frames ∧ 40 * (2) ≤ (RM (2) 0 0).locals := ⟨Nat.le_refl _, Nat.le_refl _⟩
  have hB : 0 ≤ (RM (2) 0 0).cells ∧ 0 ≤ (RM (2) 0 0).slots := ⟨Nat.zero_le _, Nat.zero_le _⟩
  unfold f_X1_has at hf
  refine lv_aload_n C.x C.b dX1_has_0 rfl (lv_at hl 0 rfl) ?_
  refine lv_iload_n C.x C.b dX1_has_1 rfl (lv_at hl 1 rfl) ?_
  replace hf := bn2_s hf; obtain ⟨c2, M1, hkM1, hf⟩ := hf
  refine z_cV (As := [.int a1]) (rest := []) (st1 := [rf (ad 23) c2]) C Z mw_X1_latestAt mv_X1_latestAt k_431 (by decide) (z_hR hR (by decide)) (lvC13 ho) kC13 zc1 (c_X1_latestAt (l := l) (K := K) (ad := ad) ho hkM1) rfl hl.1 rfl (Nat.le_of_ble_eq_true rfl) dX1_has_2 hB rfl (fun H locs Z => ?_)
  refine z_ifnull C dX1_has_5 (tgt := 12) (by decide) (fun hc3 => ?_) (fun hc3 => ?_)
  · replace hf := ite_t hf hc3
    refine lv_iconst (v := 0) C.x C.b dX1_has_12 (by decide) ?_
    cases hf
    exact z_zret C Z rfl dX1_has_13
  · replace hf := ite_f hf hc3
    refine lv_iconst (v := 1) C.x C.b dX1_has_8 (by decide) ?_
    refine lv_goto (tgt := 13) C.x C.b dX1_has_9 (by decide) ?_
    cases hf
    exact z_zret C Z rfl dX1_has_13
theorem dX1_room_0 : decode cX1_room 0 = .ok (.iload_n 1, 1) := by decide +kernel
theorem dX1_room_1 : decode cX1_room 1 = .ok (.iconst 3, 1) := by decide +kernel
theorem dX1_room_2 : decode cX1_room 2 = .ok (.if_icmp .ne 11, 3) := by decide +kernel
theorem dX1_room_5 : decode cX1_room 5 = .ok (.bipush 24, 2) := by decide +kernel
theorem dX1_room_7 : decode cX1_room 7 = .ok (.aload_n 0, 1) := by decide +kernel
theorem dX1_room_8 : decode cX1_room 8 = .ok (.getfield 30, 3) := by decide +kernel
theorem dX1_room_11 : decode cX1_room 11 = .ok (.isub, 1) := by decide +kernel
theorem dX1_room_12 : decode cX1_room 12 = .ok (.ireturn, 1) := by decide +kernel
theorem dX1_room_13 : decode cX1_room 13 = .ok (.aload_n 0, 1) := by decide +kernel
theorem dX1_room_14 : decode cX1_room 14 = .ok (.iload_n 1, 1) := by decide +kernel
theorem dX1_room_15 : decode cX1_room 15 = .ok (.invokevirtual 37, 3) := by decide +kernel
theorem dX1_room_18 : decode cX1_room 18 = .ok (.ifCond .eq 7, 3) := by decide +kernel
theorem dX1_room_21 : decode cX1_room 21 = .ok (.iconst 0, 1) := by decide +kernel
theorem dX1_room_22 : decode cX1_room 22 = .ok (.goto 4, 3) := by decide +kernel
theorem dX1_room_25 : decode cX1_room 25 = .ok (.iconst 1, 1) := by decide +kernel
theorem dX1_room_26 : decode cX1_room 26 = .ok (.ireturn, 1) := by decide +kernel
def f_X1_room (fl : Nat) (o : Nat) (a1 : Int32) (M0 : Mem) : Option (Int32 × Mem) :=
  if a1 = 3 then
    some ((24 - (gI M0 13 o 4)), M0)
  else
    bn2 (f_X1_has fl o a1 M0) fun v3 M2 =>
    if v3 = 0 then
      some (1, M2)
    else
      some (0, M2)
set_option maxRecDepth 100000 in
set_option maxHeartbeats 4000000 in
theorem c_X1_room {l : Launch} {K : KG} {ad : Nat → Nat → Nat} {fl : Nat} {o : Nat} {a1 : Int32} {M0 : Mem} {r9 : Int32} {M9 : Mem} (ho : o < 30) (hf : f_X1_room fl o a1 M0 = some (r9, M9)) : Met l yX1_room (Cond.code yX1_room cX1_room 2 (some .int) :: ztb) (RM (3) 0 0) (zPc K LC ad M0 [.ref (ad 13 o), .int a1]) (zQ K LC ad (some (.int r9)) M9) 0 0 (zA ad) := by
  refine z_enter (by decide) (Nat.le_of_ble_eq_true rfl) ?_
  intro p e s m args below meth c ls C hin hargs Z hl
  replace C : Cx p s m args meth c cX1_room 2 "GlassPalace$Bay" (some .int) := C
  replace hl : lv_has ls 2 [(0, .ref (ad 13 o)), (1, .int a1)] := hl
  have hR : 3 ≤ (RM (3) 0 0).frames ∧ 40 * (3) ≤ (RM (3) 0 0).locals := ⟨Nat.le_refl _, Nat.le_refl _⟩
  have hB : 0 ≤ (RM (3) 0 0).cells ∧ 0 ≤ (RM (3) 0 0).slots := ⟨Nat.zero_le _, Nat.zero_le _⟩
  unfold f_X1_room at hf
  refine lv_iload_n C.x C.b dX1_room_0 rfl (lv_at hl 1 rfl) ?_
  refine lv_iconst (v := 3) C.x C.b dX1_room_1 (by decide) ?_
  refine lv_icmp_ne (tgt := 13) C.x C.b dX1_room_2 (by decide) (fun hc1 => ?_) (fun hc1 => ?_)
  · replace hf := ite_f hf hc1
    refine lv_aload_n C.x C.b dX1_room_13 rfl (lv_at hl 0 rfl) ?_
    refine lv_iload_n C.x C.b dX1_room_14 rfl (lv_at hl 1 rfl) ?_
    replace hf := bn2_s hf; obtain ⟨v3, M2, hkM2, hf⟩ := hf
    refine z_cV (As := [.int a1]) (rest := []) (st1 := [.int v3]) C Z mw_X1_has mv_X1_has k_427 (by decide) (z_hR hR (by decide)) (lvC13 ho) kC13 zc1 (c_X1_has (l := l) (K := K) (ad := ad) ho hkM2) rfl hl.1 rfl (Nat.le_of_ble_eq_true rfl) dX1_room_15 hB rfl (fun H locs Z => ?_)
    refine lv_if_eq (tgt := 25) C.x C.b dX1_room_18 (by decide) (fun hc4 => ?_) (fun hc4 => ?_)
    · replace hf := ite_t hf hc4
      refine lv_iconst (v := 1) C.x C.b dX1_room_25 (by decide) ?_
      cases hf
      exact z_iret C Z dX1_room_26
    · replace hf := ite_f hf hc4
      refine lv_iconst (v := 0) C.x C.b dX1_room_21 (by decide) ?_
      refine lv_goto (tgt := 26) C.x C.b dX1_room_22 (by decide) ?_
      cases hf
      exact z_iret C Z dX1_room_26
  · replace hf := ite_t hf hc1
    refine lv_bipush (v := 24) C.x C.b dX1_room_5 (by decide) ?_
    refine lv_aload_n C.x C.b dX1_room_7 rfl (lv_at hl 0 rfl) ?_
    refine z_get C Z (lvC13 ho) kC13 zc1 zin1 4 (by decide) k_320 rfl svC13_4 dX1_room_8 ?_
    refine lv_isub C.x C.b dX1_room_11 ?_
    cases hf
    exact z_iret C Z dX1_room_12
theorem dX1_put_0 : decode cX1_put 0 = .ok (.aload_n 1, 1) := by decide +kernel
theorem dX1_put_1 : decode cX1_put 1 = .ok (.invokevirtual 41, 3) := by decide +kernel
theorem dX1_put_4 : decode cX1_put 4 = .ok (.istore_n 2, 1) := by decide +kernel
theorem dX1_put_5 : decode cX1_put 5 = .ok (.aload_n 0, 1) := by decide +kernel
theorem dX1_put_6 : decode cX1_put 6 = .ok (.iload_n 2, 1) := by decide +kernel
theorem dX1_put_7 : decode cX1_put 7 = .ok (.invokevirtual 45, 3) := by decide +kernel
theorem dX1_put_10 : decode cX1_put 10 = .ok (.iconst 1, 1) := by decide +kernel
theorem dX1_put_11 : decode cX1_put 11 = .ok (.if_icmp .ge 4, 3) := by decide +kernel
theorem dX1_put_14 : decode cX1_put 14 = .ok (.return_, 1) := by decide +kernel
theorem dX1_put_15 : decode cX1_put 15 = .ok (.iload_n 2, 1) := by decide +kernel
theorem dX1_put_16 : decode cX1_put 16 = .ok (.iconst 3, 1) := by decide +kernel
theorem dX1_put_17 : decode cX1_put 17 = .ok (.if_icmp .ne 33, 3) := by decide +kernel
theorem dX1_put_20 : decode cX1_put 20 = .ok (.aload_n 0, 1) := by decide +kernel
theorem dX1_put_21 : decode cX1_put 21 = .ok (.getfield 30, 3) := by decide +kernel
theorem dX1_put_24 : decode cX1_put 24 = .ok (.ifCond .lt 26, 3) := by decide +kernel
theorem dX1_put_27 : decode cX1_put 27 = .ok (.aload_n 0, 1) := by decide +kernel
theorem dX1_put_28 : decode cX1_put 28 = .ok (.getfield 21, 3) := by decide +kernel
theorem dX1_put_31 : decode cX1_put 31 = .ok (.aload_n 0, 1) := by decide +kernel
theorem dX1_put_32 : decode cX1_put 32 = .ok (.getfield 30, 3) := by decide +kernel
theorem dX1_put_35 : decode cX1_put 35 = .ok (.aload_n 1, 1) := by decide +kernel
theorem dX1_put_36 : decode cX1_put 36 = .ok (.aastore, 1) := by decide +kernel
theorem dX1_put_37 : decode cX1_put 37 = .ok (.aload_n 0, 1) := by decide +kernel
theorem dX1_put_38 : decode cX1_put 38 = .ok (.dup, 1) := by decide +kernel
theorem dX1_put_39 : decode cX1_put 39 = .ok (.getfield 30, 3) := by decide +kernel
theorem dX1_put_42 : decode cX1_put 42 = .ok (.iconst 1, 1) := by decide +kernel
theorem dX1_put_43 : decode cX1_put 43 = .ok (.iadd, 1) := by decide +kernel
theorem dX1_put_44 : decode cX1_put 44 = .ok (.putfield 30, 3) := by decide +kernel
theorem dX1_put_47 : decode cX1_put 47 = .ok (.goto 20, 3) := by decide +kernel
theorem dX1_put_50 : decode cX1_put 50 = .ok (.iload_n 2, 1) := by decide +kernel
theorem dX1_put_51 : decode cX1_put 51 = .ok (.iconst 1, 1) := by decide +kernel
theorem dX1_put_52 : decode cX1_put 52 = .ok (.if_icmp .lt 15, 3) := by decide +kernel
theorem dX1_put_55 : decode cX1_put 55 = .ok (.iload_n 2, 1) := by decide +kernel
theorem dX1_put_56 : decode cX1_put 56 = .ok (.iconst 5, 1) := by decide +kernel
theorem dX1_put_57 : decode cX1_put 57 = .ok (.if_icmp .gt 10, 3) := by decide +kernel
theorem dX1_put_60 : decode cX1_put 60 = .ok (.aload_n 0, 1) := by decide +kernel
theorem dX1_put_61 : decode cX1_put 61 = .ok (.getfield 17, 3) := by decide +kernel
theorem dX1_put_64 : decode cX1_put 64 = .ok (.iload_n 2, 1) := by decide +kernel
theorem dX1_put_65 : decode cX1_put 65 = .ok (.aload_n 1, 1) := by decide +kernel
theorem dX1_put_66 : decode cX1_put 66 = .ok (.aastore, 1) := by decide +kernel
theorem dX1_put_67 : decode cX1_put 67 = .ok (.iload_n 2, 1) := by decide +kernel
theorem dX1_put_68 : decode cX1_put 68 = .ok (.iconst 4, 1) := by decide +kernel
theorem dX1_put_69 : decode cX1_put 69 = .ok (.if_icmp .ne 8, 3) := by decide +kernel
theorem dX1_put_72 : decode cX1_put 72 = .ok (.aload_n 0, 1) := by decide +kernel
theorem dX1_put_73 : decode cX1_put 73 = .ok (.iconst (-1), 1) := by decide +kernel
theorem dX1_put_74 : decode cX1_put 74 = .ok (.putfield 9, 3) := by decide +kernel
theorem dX1_put_77 : decode cX1_put 77 = .ok (.aload_n 1, 1) := by decide +kernel
theorem dX1_put_78 : decode cX1_put 78 = .ok (.dup, 1) := by decide +kernel
theorem dX1_put_79 : decode cX1_put 79 = .ok (.getfield 49, 3) := by decide +kernel
theorem dX1_put_82 : decode cX1_put 82 = .ok (.iconst 1, 1) := by decide +kernel
theorem dX1_put_83 : decode cX1_put 83 = .ok (.iadd, 1) := by decide +kernel
theorem dX1_put_84 : decode cX1_put 84 = .ok (.putfield 49, 3) := by decide +kernel
theorem dX1_put_87 : decode cX1_put 87 = .ok (.return_, 1) := by decide +kernel
def f_X1_put_b77 (fl : Nat) (g1 : Nat) (M0 : Mem) : Option (Mem) :=
  drf (gR M0 999 23 0) g1 fun j13 =>
  lt1 (sI M0 23 j13 8 ((gI M0 23 j13 8) + 1)) fun M16 =>
  some M16
def f_X1_put_b67 (fl : Nat) (g0 : Nat) (g1 : Nat) (g2 : Int32) (M0 : Mem) : Option (Mem) :=
  bn1 (
    if g2 = 4 then
      lt1 (sI M0 13 g0 5 (-1)) fun M18 =>
      some M18
    else
      some M0
  ) fun M12 =>
  f_X1_put_b77 fl g1 M12
def f_X1_put (fl : Nat) (o : Nat) (a1 : Nat) (M0 : Mem) : Option (Mem) :=
  drf (gR M0 999 23 0) a1 fun j1 =>
  bn2 (f_X4_place fl j1 M0) fun v5 M4 =>
  bn2 (f_X1_room fl o v5 M4) fun v7 M6 =>
  if 1 ≤ v7 then
    bn1 (
      if v5 = 3 then
        if (gI M6 13 o 4) < 0 then
          if v5 < 1 then
            some M6
          else
            if 5 < v5 then
              some M6
            else
              asr (vq v5 6) <|
              asr ((j1 + 1) ≤ (gR M6 999 23 0)) <|
              lt1 (sR M6 14 o (Int32.toNatClampNeg v5) (j1 + 1)) fun M30 =>
              some M30
        else
          asr (vq (gI M6 13 o 4) 24) <|
          asr ((j1 + 1) ≤ (gR M6 999 23 0)) <|
          lt1 (sR M6 15 o (Int32.toNatClampNeg (gI M6 13 o 4)) (j1 + 1)) fun M33 =>
          lt1 (sI M33 13 o 4 ((gI M33 13 o 4) + 1)) fun M34 =>
          some M34
      else
        if v5 < 1 then
          some M6
        else
          if 5 < v5 then
            some M6
          else
            asr (vq v5 6) <|
            asr ((j1 + 1) ≤ (gR M6 999 23 0)) <|
            lt1 (sR M6 14 o (Int32.toNatClampNeg v5) (j1 + 1)) fun M24 =>
            some M24
    ) fun M10 =>
    f_X1_put_b67 fl o (j1 + 1) v5 M10
  else
    some M6
set_option maxRecDepth 100000 in
set_option maxHeartbeats 4000000 in
theorem w_X1_put_b77 {p : Program} {l : Launch} {e : Env} {s : State} {m : MethodId} {args : Array Value} {below : List Frame} {meth : Method} {c : Code} {K : KG} {ad : Nat → Nat → Nat} {fl : Nat} {H : Heap} {locs : List Loc} {ls : Array Slot} {g1 : Nat} {M0 : Mem} {M9 : Mem} (C : Cx p s m args meth c cX1_put 3 "GlassPalace$Bay" none) (hR : 4 ≤ (RM (4) 0 0).frames ∧ 40 * (4) ≤ (RM (4) 0 0).locals) (hB : 0 ≤ (RM (4) 0 0).cells ∧ 0 ≤ (RM (4) 0 0).slots) (Z : Zd K LC ad M0 s H locs) (hl : lv_has ls 3 [(1, rf (ad 23) g1)]) (hf : f_X1_put_b77 fl g1 M0 = some M9) : W p l e (RM (4) 0 0) s m args below meth c H locs 0 0 (MQ below (zQ K LC ad (none) M9) args s 0 0 (zA ad)) (F0 m 77 ls []) := by
  unfold f_X1_put_b77 at hf
  refine z_aload_n C dX1_put_77 rfl (lv_at hl 0 rfl) ?_
  refine lv_dup C.x C.b dX1_put_78 (rf_cat _ _) ?_
  replace hf := drf_s hf; obtain ⟨j13, ej15, hj14, hf⟩ := hf
  subst ej15
  refine z_nn [] (y := j13 + 1) rfl ?_
  refine z_get C Z (lvC23 hj14) kC23 zc4 zin4 8 (by decide) k_479 rfl svC23_8 dX1_put_79 ?_
  refine lv_iconst (v := 1) C.x C.b dX1_put_82 (by decide) ?_
  refine lv_iadd C.x C.b dX1_put_83 ?_
  replace hf := lt1_s hf; obtain ⟨M16, eM16, hf⟩ := hf
  refine z_put (M1 := M16) C Z (lvC23 hj14) (by decide) kC23 zc4 zin4 tyX4_ok nmX4 8 (by decide) k_479 rfl (zUp_I eM16 stC23_8u) (Or.inl rfl) rfl rfl dX1_put_84 (fun H locs Z => ?_)
  cases hf
  exact z_vret C Z dX1_put_87
set_option maxRecDepth 100000 in
set_option maxHeartbeats 4000000 in
theorem w_X1_put_b67 {p : Program} {l : Launch} {e : Env} {s : State} {m : MethodId} {args : Array Value} {below : List Frame} {meth : Method} {c : Code} {K : KG} {ad : Nat → Nat → Nat} {fl : Nat} {H : Heap} {locs : List Loc} {ls : Array Slot} {g0 : Nat} {g1 : Nat} {g2 : Int32} {M0 : Mem} {M9 : Mem} (C : Cx p s m args meth c cX1_put 3 "GlassPalace$Bay" none) (hR : 4 ≤ (RM (4) 0 0).frames ∧ 40 * (4) ≤ (RM (4) 0 0).locals) (hB : 0 ≤ (RM (4) 0 0).cells ∧ 0 ≤ (RM (4) 0 0).slots) (hg0 : g0 < 30) (Z : Zd K LC ad M0 s H locs) (hl : lv_has ls 3 [(0, .ref (ad 13 g0)), (1, rf (ad 23) g1), (2, .int g2)]) (hf : f_X1_put_b67 fl g0 g1 g2 M0 = some M9) : W p l e (RM (4) 0 0) s m args below meth c H locs 0 0 (MQ below (zQ K LC ad (none) M9) args s 0 0 (zA ad)) (F0 m 67 ls []) := by
  unfold f_X1_put_b67 at hf
  refine lv_iload_n C.x C.b dX1_put_67 rfl (lv_at hl 2 rfl) ?_
  refine lv_iconst (v := 4) C.x C.b dX1_put_68 (by decide) ?_
  replace hf := bn1_s hf; obtain ⟨M12, hq11, hf⟩ := hf
  have kq11 : ∀ (H : Heap) (locs : List Loc) (ls : Array Slot), Zd K LC ad M12 s H locs → lv_has ls 3 [(1, rf (ad 23) g1)] → W p l e (RM (4) 0 0) s m args below meth c H locs 0 0 (MQ below (zQ K LC ad (none) M9) args s 0 0 (zA ad)) (F0 m 77 ls []) := by
    intro H locs ls Z hl
    exact w_X1_put_b77 C hR hB  Z (lv_sub hl [0] rfl) hf
  clear hf
  refine lv_icmp_ne (tgt := 77) C.x C.b dX1_put_69 (by decide) (fun hc17 => ?_) (fun hc17 => ?_)
  · have hf := ite_f hq11 hc17; clear hq11
    cases hf
    exact kq11 _ _ _ Z (lv_sub hl [1] rfl)
  · have hf := ite_t hq11 hc17; clear hq11
    refine lv_aload_n C.x C.b dX1_put_72 rfl (lv_at hl 0 rfl) ?_
    refine lv_iconst (v := (-1)) C.x C.b dX1_put_73 (by decide) ?_
    replace hf := lt1_s hf; obtain ⟨M18, eM18, hf⟩ := hf
    refine z_put (M1 := M18) C Z (lvC13 hg0) (by decide) kC13 zc1 zin1 tyX1_ok nmX1 5 (by decide) k_322 rfl (zUp_I eM18 stC13_5u) (Or.inl rfl) rfl rfl dX1_put_74 (fun H locs Z => ?_)
    cases hf
    exact kq11 _ _ _ Z (lv_sub hl [1] rfl)
set_option maxRecDepth 100000 in
set_option maxHeartbeats 4000000 in
theorem c_X1_put {l : Launch} {K : KG} {ad : Nat → Nat → Nat} {fl : Nat} {o : Nat} {a1 : Nat} {M0 : Mem} {M9 : Mem} (ho : o < 30) (hf : f_X1_put fl o a1 M0 = some M9) : Met l yX1_put (Cond.code yX1_put cX1_put 3 none :: ztb) (RM (4) 0 0) (zPc K LC ad M0 [.ref (ad 13 o), rf (ad 23) a1]) (zQ K LC ad (none) M9) 0 0 (zA ad) := by
  refine z_enter (by decide) (by simp [lg_sl, rf_cat, cat_i, cat_l, cat_r, cat_n]) ?_
  intro p e s m args below meth c ls C hin hargs Z hl
  replace C : Cx p s m args meth c cX1_put 3 "GlassPalace$Bay" none := C
  replace hl : lv_has ls 3 [(0, .ref (ad 13 o)), (1, rf (ad 23) a1)] := by simpa [lv_args, rf_cat, cat_i, cat_l, cat_r, cat_n] using hl
  have hR : 4 ≤ (RM (4) 0 0).frames ∧ 40 * (4) ≤ (RM (4) 0 0).locals := ⟨Nat.le_refl _, Nat.le_refl _⟩
  have hB : 0 ≤ (RM (4) 0 0).cells ∧ 0 ≤ (RM (4) 0 0).slots := ⟨Nat.zero_le _, Nat.zero_le _⟩
  unfold f_X1_put at hf
  refine z_aload_n C dX1_put_0 rfl (lv_at hl 1 rfl) ?_
  replace hf := drf_s hf; obtain ⟨j1, ej3, hj2, hf⟩ := hf
  subst ej3
  refine z_nn [] (y := j1 + 1) rfl ?_
  replace hf := bn2_s hf; obtain ⟨v5, M4, hkM4, hf⟩ := hf
  refine z_cV (As := []) (rest := []) (st1 := [.int v5]) C Z mw_X4_place mv_X4_place k_634 (by decide) (z_hR hR (by decide)) (lvC23 hj2) kC23 zc4 (c_X4_place (l := l) (K := K) (ad := ad) hj2 hkM4) rfl hl.1 rfl (Nat.le_of_ble_eq_true rfl) dX1_put_1 hB rfl (fun H locs Z => ?_)
  refine z_istore_n (lv' := [(2, .int v5), (0, .ref (ad 13 o)), (1, .ref (ad 23 j1))]) C dX1_put_4 rfl hl (by decide) rfl (onlast 1 rfl rfl rfl) (fun ls hl => ?_)
  refine lv_aload_n C.x C.b dX1_put_5 rfl (lv_at hl 1 rfl) ?_
  refine lv_iload_n C.x C.b dX1_put_6 rfl (lv_at hl 0 rfl) ?_
  replace hf := bn2_s hf; obtain ⟨v7, M6, hkM6, hf⟩ := hf
  refine z_cV (As := [.int v5]) (rest := []) (st1 := [.int v7]) C Z mw_X1_room mv_X1_room k_635 (by decide) (z_hR hR (by decide)) (lvC13 ho) kC13 zc1 (c_X1_room (l := l) (K := K) (ad := ad) ho hkM6) rfl hl.1 rfl (Nat.le_of_ble_eq_true rfl) dX1_put_7 hB rfl (fun H locs Z => ?_)
  refine lv_iconst (v := 1) C.x C.b dX1_put_10 (by decide) ?_
  refine lv_icmp_ge (tgt := 15) C.x C.b dX1_put_11 (by decide) (fun hc8 => ?_) (fun hc8 => ?_)
  · replace hf := ite_t hf hc8
    refine lv_iload_n C.x C.b dX1_put_15 rfl (lv_at hl 0 rfl) ?_
    refine lv_iconst (v := 3) C.x C.b dX1_put_16 (by decide) ?_
    replace hf := bn1_s hf; obtain ⟨M10, hq9, hf⟩ := hf
    have kq9 : ∀ (H : Heap) (locs : List Loc) (ls : Array Slot), Zd K LC ad M10 s H locs → lv_has ls 3 [(0, .ref (ad 13 o)), (1, .ref (ad 23 j1)), (2, .int v5)] → W p l e (RM (4) 0 0) s m args below meth c H locs 0 0 (MQ below (zQ K LC ad (none) M9) args s 0 0 (zA ad)) (F0 m 67 ls []) := by
      intro H locs ls Z hl
      exact w_X1_put_b67 C hR hB ho Z (lv_sub hl [0, 1, 2] rfl) hf
    clear hf
    refine lv_icmp_ne (tgt := 50) C.x C.b dX1_put_17 (by decide) (fun hc19 => ?_) (fun hc19 => ?_)
    · have hf := ite_f hq9 hc19; clear hq9
      refine lv_iload_n C.x C.b dX1_put_50 rfl (lv_at hl 0 rfl) ?_
      refine lv_iconst (v := 1) C.x C.b dX1_put_51 (by decide) ?_
      refine lv_icmp_lt (tgt := 67) C.x C.b dX1_put_52 (by decide) (fun hc20 => ?_) (fun hc20 => ?_)
      · replace hf := ite_t hf hc20
        cases hf
        exact kq9 _ _ _ Z (lv_sub hl [1, 2, 0] rfl)
      · replace hf := ite_f hf hc20
        refine lv_iload_n C.x C.b dX1_put_55 rfl (lv_at hl 0 rfl) ?_
        refine lv_iconst (v := 5) C.x C.b dX1_put_56 (by decide) ?_
        refine lv_icmp_gt (tgt := 67) C.x C.b dX1_put_57 (by decide) (fun hc21 => ?_) (fun hc21 => ?_)
        · replace hf := ite_t hf hc21
          cases hf
          exact kq9 _ _ _ Z (lv_sub hl [1, 2, 0] rfl)
        · replace hf := ite_f hf hc21
          refine lv_aload_n C.x C.b dX1_put_60 rfl (lv_at hl 1 rfl) ?_
          refine z_get C Z (lvC13 ho) kC13 zc1 zin1 6 (by decide) k_325 rfl svC13_6 dX1_put_61 ?_
          refine lv_iload_n C.x C.b dX1_put_64 rfl (lv_at hl 0 rfl) ?_
          refine lv_aload_n C.x C.b dX1_put_65 rfl (lv_at hl 2 rfl) ?_
          replace hf := asr_s hf; obtain ⟨hq22, hf⟩ := hf
          replace hf := asr_s hf; obtain ⟨hq23, hf⟩ := hf
          replace hf := lt1_s hf; obtain ⟨M24, eM24, hf⟩ := hf
          refine z_aast (M1 := M24) (x := (j1 + 1)) C Z (lvC14 ho) (by decide) kC14 (t := 3) rfl kC23 zc4 (fun j ej => lvC23 (by omega)) hq22 eM24 stC14 dX1_put_66 (fun H locs Z => ?_)
          cases hf
          exact kq9 _ _ _ Z (lv_sub hl [1, 2, 0] rfl)
    · have hf := ite_t hq9 hc19; clear hq9
      refine lv_aload_n C.x C.b dX1_put_20 rfl (lv_at hl 1 rfl) ?_
      refine z_get C Z (lvC13 ho) kC13 zc1 zin1 4 (by decide) k_320 rfl svC13_4 dX1_put_21 ?_
      refine lv_if_lt (tgt := 50) C.x C.b dX1_put_24 (by decide) (fun hc25 => ?_) (fun hc25 => ?_)
      · replace hf := ite_t hf hc25
        refine lv_iload_n C.x C.b dX1_put_50 rfl (lv_at hl 0 rfl) ?_
        refine lv_iconst (v := 1) C.x C.b dX1_put_51 (by decide) ?_
        refine lv_icmp_lt (tgt := 67) C.x C.b dX1_put_52 (by decide) (fun hc26 => ?_) (fun hc26 => ?_)
        · replace hf := ite_t hf hc26
          cases hf
          exact kq9 _ _ _ Z (lv_sub hl [1, 2, 0] rfl)
        · replace hf := ite_f hf hc26
          refine lv_iload_n C.x C.b dX1_put_55 rfl (lv_at hl 0 rfl) ?_
          refine lv_iconst (v := 5) C.x C.b dX1_put_56 (by decide) ?_
          refine lv_icmp_gt (tgt := 67) C.x C.b dX1_put_57 (by decide) (fun hc27 => ?_) (fun hc27 => ?_)
          · replace hf := ite_t hf hc27
            cases hf
            exact kq9 _ _ _ Z (lv_sub hl [1, 2, 0] rfl)
          · replace hf := ite_f hf hc27
            refine lv_aload_n C.x C.b dX1_put_60 rfl (lv_at hl 1 rfl) ?_
            refine z_get C Z (lvC13 ho) kC13 zc1 zin1 6 (by decide) k_325 rfl svC13_6 dX1_put_61 ?_
            refine lv_iload_n C.x C.b dX1_put_64 rfl (lv_at hl 0 rfl) ?_
            refine lv_aload_n C.x C.b dX1_put_65 rfl (lv_at hl 2 rfl) ?_
            replace hf := asr_s hf; obtain ⟨hq28, hf⟩ := hf
            replace hf := asr_s hf; obtain ⟨hq29, hf⟩ := hf
            replace hf := lt1_s hf; obtain ⟨M30, eM30, hf⟩ := hf
            refine z_aast (M1 := M30) (x := (j1 + 1)) C Z (lvC14 ho) (by decide) kC14 (t := 3) rfl kC23 zc4 (fun j ej => lvC23 (by omega)) hq28 eM30 stC14 dX1_put_66 (fun H locs Z => ?_)
            cases hf
            exact kq9 _ _ _ Z (lv_sub hl [1, 2, 0] rfl)
      · replace hf := ite_f hf hc25
        refine lv_aload_n C.x C.b dX1_put_27 rfl (lv_at hl 1 rfl) ?_
        refine z_get C Z (lvC13 ho) kC13 zc1 zin1 7 (by decide) k_326 rfl svC13_7 dX1_put_28 ?_
        refine lv_aload_n C.x C.b dX1_put_31 rfl (lv_at hl 1 rfl) ?_
        refine z_get C Z (lvC13 ho) kC13 zc1 zin1 4 (by decide) k_320 rfl svC13_4 dX1_put_32 ?_
        refine lv_aload_n C.x C.b dX1_put_35 rfl (lv_at hl 2 rfl) ?_
        replace hf := asr_s hf; obtain ⟨hq31, hf⟩ := hf
        replace hf := asr_s hf; obtain ⟨hq32, hf⟩ := hf
        replace hf := lt1_s hf; obtain ⟨M33, eM33, hf⟩ := hf
        refine z_aast (M1 := M33) (x := (j1 + 1)) C Z (lvC15 ho) (by decide) kC15 (t := 3) rfl kC23 zc4 (fun j ej => lvC23 (by omega)) hq31 eM33 stC15 dX1_put_36 (fun H locs Z => ?_)
        refine lv_aload_n C.x C.b dX1_put_37 rfl (lv_at hl 1 rfl) ?_
        refine lv_dup C.x C.b dX1_put_38 rfl ?_
        refine z_get C Z (lvC13 ho) kC13 zc1 zin1 4 (by decide) k_320 rfl svC13_4 dX1_put_39 ?_
        refine lv_iconst (v := 1) C.x C.b dX1_put_42 (by decide) ?_
        refine lv_iadd C.x C.b dX1_put_43 ?_
        replace hf := lt1_s hf; obtain ⟨M34, eM34, hf⟩ := hf
        refine z_put (M1 := M34) C Z (lvC13 ho) (by decide) kC13 zc1 zin1 tyX1_ok nmX1 4 (by decide) k_320 rfl (zUp_I eM34 stC13_4u) (Or.inl rfl) rfl rfl dX1_put_44 (fun H locs Z => ?_)
        refine lv_goto (tgt := 67) C.x C.b dX1_put_47 (by decide) ?_
        cases hf
        exact kq9 _ _ _ Z (lv_sub hl [1, 2, 0] rfl)
  · replace hf := ite_f hf hc8
    cases hf
    exact z_vret C Z dX1_put_14
theorem dX1_remove_0 : decode cX1_remove 0 = .ok (.aload_n 1, 1) := by decide +kernel
theorem dX1_remove_1 : decode cX1_remove 1 = .ok (.invokevirtual 41, 3) := by decide +kernel
theorem dX1_remove_4 : decode cX1_remove 4 = .ok (.istore_n 2, 1) := by decide +kernel
theorem dX1_remove_5 : decode cX1_remove 5 = .ok (.iload_n 2, 1) := by decide +kernel
theorem dX1_remove_6 : decode cX1_remove 6 = .ok (.iconst 3, 1) := by decide +kernel
theorem dX1_remove_7 : decode cX1_remove 7 = .ok (.if_icmp .ne 16, 3) := by decide +kernel
theorem dX1_remove_10 : decode cX1_remove 10 = .ok (.aload_n 0, 1) := by decide +kernel
theorem dX1_remove_11 : decode cX1_remove 11 = .ok (.dup, 1) := by decide +kernel
theorem dX1_remove_12 : decode cX1_remove 12 = .ok (.getfield 30, 3) := by decide +kernel
theorem dX1_remove_15 : decode cX1_remove 15 = .ok (.iconst 1, 1) := by decide +kernel
theorem dX1_remove_16 : decode cX1_remove 16 = .ok (.isub, 1) := by decide +kernel
theorem dX1_remove_17 : decode cX1_remove 17 = .ok (.putfield 30, 3) := by decide +kernel
theorem dX1_remove_20 : decode cX1_remove 20 = .ok (.goto 20, 3) := by decide +kernel
theorem dX1_remove_23 : decode cX1_remove 23 = .ok (.iload_n 2, 1) := by decide +kernel
theorem dX1_remove_24 : decode cX1_remove 24 = .ok (.iconst 1, 1) := by decide +kernel
theorem dX1_remove_25 : decode cX1_remove 25 = .ok (.if_icmp .lt 15, 3) := by decide +kernel
theorem dX1_remove_28 : decode cX1_remove 28 = .ok (.iload_n 2, 1) := by decide +kernel
theorem dX1_remove_29 : decode cX1_remove 29 = .ok (.iconst 5, 1) := by decide +kernel
theorem dX1_remove_30 : decode cX1_remove 30 = .ok (.if_icmp .gt 10, 3) := by decide +kernel
theorem dX1_remove_33 : decode cX1_remove 33 = .ok (.aload_n 0, 1) := by decide +kernel
theorem dX1_remove_34 : decode cX1_remove 34 = .ok (.getfield 17, 3) := by decide +kernel
theorem dX1_remove_37 : decode cX1_remove 37 = .ok (.iload_n 2, 1) := by decide +kernel
theorem dX1_remove_38 : decode cX1_remove 38 = .ok (.aconst_null, 1) := by decide +kernel
theorem dX1_remove_39 : decode cX1_remove 39 = .ok (.aastore, 1) := by decide +kernel
theorem dX1_remove_40 : decode cX1_remove 40 = .ok (.aload_n 1, 1) := by decide +kernel
theorem dX1_remove_41 : decode cX1_remove 41 = .ok (.dup, 1) := by decide +kernel
theorem dX1_remove_42 : decode cX1_remove 42 = .ok (.getfield 49, 3) := by decide +kernel
theorem dX1_remove_45 : decode cX1_remove 45 = .ok (.iconst 1, 1) := by decide +kernel
theorem dX1_remove_46 : decode cX1_remove 46 = .ok (.isub, 1) := by decide +kernel
theorem dX1_remove_47 : decode cX1_remove 47 = .ok (.putfield 49, 3) := by decide +kernel
theorem dX1_remove_50 : decode cX1_remove 50 = .ok (.return_, 1) := by decide +kernel
def f_X1_remove_b40 (fl : Nat) (g1 : Nat) (M0 : Mem) : Option (Mem) :=
  drf (gR M0 999 23 0) g1 fun j8 =>
  lt1 (sI M0 23 j8 8 ((gI M0 23 j8 8) - 1)) fun M11 =>
  some M11
def f_X1_remove (fl : Nat) (o : Nat) (a1 : Nat) (M0 : Mem) : Option (Mem) :=
  drf (gR M0 999 23 0) a1 fun j1 =>
  bn2 (f_X4_place fl j1 M0) fun v5 M4 =>
  bn1 (
    if v5 = 3 then
      lt1 (sI M4 13 o 4 ((gI M4 13 o 4) - 1)) fun M18 =>
      some M18
    else
      if v5 < 1 then
        some M4
      else
        if 5 < v5 then
          some M4
        else
          asr (vq v5 6) <|
          asr (0 ≤ (gR M4 999 23 0)) <|
          lt1 (sR M4 14 o (Int32.toNatClampNeg v5) 0) fun M17 =>
          some M17
  ) fun M7 =>
  f_X1_remove_b40 fl (j1 + 1) M7
set_option maxRecDepth 100000 in
set_option maxHeartbeats 4000000 in
theorem w_X1_remove_b40 {p : Program} {l : Launch} {e : Env} {s : State} {m : MethodId} {args : Array Value} {below : List Frame} {meth : Method} {c : Code} {K : KG} {ad : Nat → Nat → Nat} {fl : Nat} {H : Heap} {locs : List Loc} {ls : Array Slot} {g1 : Nat} {M0 : Mem} {M9 : Mem} (C : Cx p s m args meth c cX1_remove 3 "GlassPalace$Bay" none) (hR : 2 ≤ (RM (2) 0 0).frames ∧ 40 * (2) ≤ (RM (2) 0 0).locals) (hB : 0 ≤ (RM (2) 0 0).cells ∧ 0 ≤ (RM (2) 0 0).slots) (Z : Zd K LC ad M0 s H locs) (hl : lv_has ls 3 [(1, rf (ad 23) g1)]) (hf : f_X1_remove_b40 fl g1 M0 = some M9) : W p l e (RM (2) 0 0) s m args below meth c H locs 0 0 (MQ below (zQ K LC ad (none) M9) args s 0 0 (zA ad)) (F0 m 40 ls []) := by
  unfold f_X1_remove_b40 at hf
  refine z_aload_n C dX1_remove_40 rfl (lv_at hl 0 rfl) ?_
  refine lv_dup C.x C.b dX1_remove_41 (rf_cat _ _) ?_
  replace hf := drf_s hf; obtain ⟨j8, ej10, hj9, hf⟩ := hf
  subst ej10
  refine z_nn [] (y := j8 + 1) rfl ?_
  refine z_get C Z (lvC23 hj9) kC23 zc4 zin4 8 (by decide) k_479 rfl svC23_8 dX1_remove_42 ?_
  refine lv_iconst (v := 1) C.x C.b dX1_remove_45 (by decide) ?_
  refine lv_isub C.x C.b dX1_remove_46 ?_
  replace hf := lt1_s hf; obtain ⟨M11, eM11, hf⟩ := hf
  refine z_put (M1 := M11) C Z (lvC23 hj9) (by decide) kC23 zc4 zin4 tyX4_ok nmX4 8 (by decide) k_479 rfl (zUp_I eM11 stC23_8u) (Or.inl rfl) rfl rfl dX1_remove_47 (fun H locs Z => ?_)
  cases hf
  exact z_vret C Z dX1_remove_50
set_option maxRecDepth 100000 in
set_option maxHeartbeats 4000000 in
theorem c_X1_remove {l : Launch} {K : KG} {ad : Nat → Nat → Nat} {fl : Nat} {o : Nat} {a1 : Nat} {M0 : Mem} {M9 : Mem} (ho : o < 30) (hf : f_X1_remove fl o a1 M0 = some M9) : Met l yX1_remove (Cond.code yX1_remove cX1_remove 3 none :: ztb) (RM (2) 0 0) (zPc K LC ad M0 [.ref (ad 13 o), rf (ad 23) a1]) (zQ K LC ad (none) M9) 0 0 (zA ad) := by
  refine z_enter (by decide) (by simp [lg_sl, rf_cat, cat_i, cat_l, cat_r, cat_n]) ?_
  intro p e s m args below meth c ls C hin hargs Z hl
  replace C : Cx p s m args meth c cX1_remove 3 "GlassPalace$Bay" none := C
  replace hl : lv_has ls 3 [(0, .ref (ad 13 o)), (1, rf (ad 23) a1)] := by simpa [lv_args, rf_cat, cat_i, cat_l, cat_r, cat_n] using hl
  have hR : 2 ≤ (RM (2) 0 0).frames ∧ 40 * (2) ≤ (RM (2) 0 0).locals := ⟨Nat.le_refl _, Nat.le_refl _⟩
  have hB : 0 ≤ (RM (2) 0 0).cells ∧ 0 ≤ (RM (2) 0 0).slots := ⟨Nat.zero_le _, Nat.zero_le _⟩
  unfold f_X1_remove at hf
  refine z_aload_n C dX1_remove_0 rfl (lv_at hl 1 rfl) ?_
  replace hf := drf_s hf; obtain ⟨j1, ej3, hj2, hf⟩ := hf
  subst ej3
  refine z_nn [] (y := j1 + 1) rfl ?_
  replace hf := bn2_s hf; obtain ⟨v5, M4, hkM4, hf⟩ := hf
  refine z_cV (As := []) (rest := []) (st1 := [.int v5]) C Z mw_X4_place mv_X4_place k_634 (by decide) (z_hR hR (by decide)) (lvC23 hj2) kC23 zc4 (c_X4_place (l := l) (K := K) (ad := ad) hj2 hkM4) rfl hl.1 rfl (Nat.le_of_ble_eq_true rfl) dX1_remove_1 hB rfl (fun H locs Z => ?_)
  refine z_istore_n (lv' := [(2, .int v5), (0, .ref (ad 13 o)), (1, .ref (ad 23 j1))]) C dX1_remove_4 rfl hl (by decide) rfl (onlast 1 rfl rfl rfl) (fun ls hl => ?_)
  refine lv_iload_n C.x C.b dX1_remove_5 rfl (lv_at hl 0 rfl) ?_
  refine lv_iconst (v := 3) C.x C.b dX1_remove_6 (by decide) ?_
  replace hf := bn1_s hf; obtain ⟨M7, hq6, hf⟩ := hf
  have kq6 : ∀ (H : Heap) (locs : List Loc) (ls : Array Slot), Zd K LC ad M7 s H locs → lv_has ls 3 [(1, .ref (ad 23 j1))] → W p l e (RM (2) 0 0) s m args below meth c H locs 0 0 (MQ below (zQ K LC ad (none) M9) args s 0 0 (zA ad)) (F0 m 40 ls []) := by
    intro H locs ls Z hl
    exact w_X1_remove_b40 C hR hB  Z (lv_sub hl [0] rfl) hf
  clear hf
  refine lv_icmp_ne (tgt := 23) C.x C.b dX1_remove_7 (by decide) (fun hc12 => ?_) (fun hc12 => ?_)
  · have hf := ite_f hq6 hc12; clear hq6
    refine lv_iload_n C.x C.b dX1_remove_23 rfl (lv_at hl 0 rfl) ?_
    refine lv_iconst (v := 1) C.x C.b dX1_remove_24 (by decide) ?_
    refine lv_icmp_lt (tgt := 40) C.x C.b dX1_remove_25 (by decide) (fun hc13 => ?_) (fun hc13 => ?_)
    · replace hf := ite_t hf hc13
      cases hf
      exact kq6 _ _ _ Z (lv_sub hl [2] rfl)
    · replace hf := ite_f hf hc13
      refine lv_iload_n C.x C.b dX1_remove_28 rfl (lv_at hl 0 rfl) ?_
      refine lv_iconst (v := 5) C.x C.b dX1_remove_29 (by decide) ?_
      refine lv_icmp_gt (tgt := 40) C.x C.b dX1_remove_30 (by decide) (fun hc14 => ?_) (fun hc14 => ?_)
      · replace hf := ite_t hf hc14
        cases hf
        exact kq6 _ _ _ Z (lv_sub hl [2] rfl)
      · replace hf := ite_f hf hc14
        refine lv_aload_n C.x C.b dX1_remove_33 rfl (lv_at hl 1 rfl) ?_
        refine z_get C Z (lvC13 ho) kC13 zc1 zin1 6 (by decide) k_325 rfl svC13_6 dX1_remove_34 ?_
        refine lv_iload_n C.x C.b dX1_remove_37 rfl (lv_at hl 0 rfl) ?_
        refine lv_null C.x C.b dX1_remove_38 ?_
        replace hf := asr_s hf; obtain ⟨hq15, hf⟩ := hf
        replace hf := asr_s hf; obtain ⟨hq16, hf⟩ := hf
        replace hf := lt1_s hf; obtain ⟨M17, eM17, hf⟩ := hf
        refine z_aast (M1 := M17) (x := 0) C Z (lvC14 ho) (by decide) kC14 (t := 3) rfl kC23 zc4 (fun j ej => lvC23 (by omega)) hq15 eM17 stC14 dX1_remove_39 (fun H locs Z => ?_)
        cases hf
        exact kq6 _ _ _ Z (lv_sub hl [2] rfl)
  · have hf := ite_t hq6 hc12; clear hq6
    refine lv_aload_n C.x C.b dX1_remove_10 rfl (lv_at hl 1 rfl) ?_
    refine lv_dup C.x C.b dX1_remove_11 rfl ?_
    refine z_get C Z (lvC13 ho) kC13 zc1 zin1 4 (by decide) k_320 rfl svC13_4 dX1_remove_12 ?_
    refine lv_iconst (v := 1) C.x C.b dX1_remove_15 (by decide) ?_
    refine lv_isub C.x C.b dX1_remove_16 ?_
    replace hf := lt1_s hf; obtain ⟨M18, eM18, hf⟩ := hf
    refine z_put (M1 := M18) C Z (lvC13 ho) (by decide) kC13 zc1 zin1 tyX1_ok nmX1 4 (by decide) k_320 rfl (zUp_I eM18 stC13_4u) (Or.inl rfl) rfl rfl dX1_remove_17 (fun H locs Z => ?_)
    refine lv_goto (tgt := 40) C.x C.b dX1_remove_20 (by decide) ?_
    cases hf
    exact kq6 _ _ _ Z (lv_sub hl [2] rfl)
theorem dX1_isBare_0 : decode cX1_isBare 0 = .ok (.iconst 1, 1) := by decide +kernel
theorem dX1_isBare_1 : decode cX1_isBare 1 = .ok (.istore_n 1, 1) := by decide +kernel
theorem dX1_isBare_2 : decode cX1_isBare 2 = .ok (.iconst 1, 1) := by decide +kernel
theorem dX1_isBare_3 : decode cX1_isBare 3 = .ok (.istore_n 2, 1) := by decide +kernel
theorem dX1_isBare_4 : decode cX1_isBare 4 = .ok (.iload_n 2, 1) := by decide +kernel
theorem dX1_isBare_5 : decode cX1_isBare 5 = .ok (.iconst 5, 1) := by decide +kernel
theorem dX1_isBare_6 : decode cX1_isBare 6 = .ok (.if_icmp .gt 27, 3) := by decide +kernel
theorem dX1_isBare_9 : decode cX1_isBare 9 = .ok (.iload_n 1, 1) := by decide +kernel
theorem dX1_isBare_10 : decode cX1_isBare 10 = .ok (.ifCond .eq 15, 3) := by decide +kernel
theorem dX1_isBare_13 : decode cX1_isBare 13 = .ok (.aload_n 0, 1) := by decide +kernel
theorem dX1_isBare_14 : decode cX1_isBare 14 = .ok (.iload_n 2, 1) := by decide +kernel
theorem dX1_isBare_15 : decode cX1_isBare 15 = .ok (.invokevirtual 37, 3) := by decide +kernel
theorem dX1_isBare_18 : decode cX1_isBare 18 = .ok (.ifCond .ne 7, 3) := by decide +kernel
theorem dX1_isBare_21 : decode cX1_isBare 21 = .ok (.iconst 1, 1) := by decide +kernel
theorem dX1_isBare_22 : decode cX1_isBare 22 = .ok (.goto 4, 3) := by decide +kernel
theorem dX1_isBare_25 : decode cX1_isBare 25 = .ok (.iconst 0, 1) := by decide +kernel
theorem dX1_isBare_26 : decode cX1_isBare 26 = .ok (.istore_n 1, 1) := by decide +kernel
theorem dX1_isBare_27 : decode cX1_isBare 27 = .ok (.iinc 2 1, 3) := by decide +kernel
theorem dX1_isBare_30 : decode cX1_isBare 30 = .ok (.goto (-26), 3) := by decide +kernel
theorem dX1_isBare_33 : decode cX1_isBare 33 = .ok (.iload_n 1, 1) := by decide +kernel
theorem dX1_isBare_34 : decode cX1_isBare 34 = .ok (.ireturn, 1) := by decide +kernel
def f_X1_isBare_l4_b (rk : Int32 → Int32 → Mem → Option (Int32 × Mem)) (fl : Nat) (g0 : Nat) (x1 : Int32) (x2 : Int32) (M0 : Mem) : Option (Int32 × Mem) :=
  if 5 < x2 then
    some (x1, M0)
  else
    if x1 = 0 then
      lt1 (x2 + 1) fun (x3 : Int32) =>
      rk 0 x3 M0
    else
      bn2 (f_X1_has fl g0 x2 M0) fun v5 M4 =>
      if v5 = 0 then
        lt1 (x2 + 1) fun (x8 : Int32) =>
        rk 1 x8 M4
      else
        lt1 (x2 + 1) fun (x7 : Int32) =>
        rk 0 x7 M4
def f_X1_isBare_l4 (fl : Nat) (g0 : Nat) : Nat → Int32 → Int32 → Mem → Option (Int32 × Mem)
  | 0 => fun _ _ _ => none
  | n + 1 => fun x1 x2 M0 => f_X1_isBare_l4_b (f_X1_isBare_l4 fl g0 n) fl g0 x1 x2 M0
def f_X1_isBare (fl : Nat) (o : Nat) (M0 : Mem) : Option (Int32 × Mem) :=
  bn2 (f_X1_isBare_l4 fl o fl 1 1 M0) fun (q9 : Int32) M10 =>
  asr (q9 = 0 ∨ q9 = 1) <|
  some (q9, M10)
set_option maxRecDepth 100000 in
set_option maxHeartbeats 4000000 in
theorem w_X1_isBare_l4 {p : Program} {l : Launch} {e : Env} {R : Room} {s : State} {m : MethodId} {args : Array Value} {below : List Frame} {meth : Method} {c : Code} {cells slots : Nat} {Q : State → Prop} {K : KG} {ad : Nat → Nat → Nat} {fl : Nat} {g0 : Nat} (C : Cx p s m args meth c cX1_isBare 3 "GlassPalace$Bay" (some .boolean)) (hR : 3 ≤ R.frames ∧ 40 * (3) ≤ R.locals) (hB : cells ≤ R.cells ∧ slots ≤ R.slots) (hg0 : g0 < 30) : ∀ (n : Nat) (x1 : Int32) (x2 : Int32) (M0 : Mem) (H : Heap) (locs : List Loc) (ls : Array Slot), Zd K LC ad M0 s H locs → lv_has ls 3 [(0, .ref (ad 13 g0)), (1, .int x1), (2, .int x2)] → ∀ (q : Int32) (Mq : Mem), f_X1_isBare_l4 fl g0 n x1 x2 M0 = some (q, Mq) → (∀ (H : Heap) (locs : List Loc) (ls : Array Slot), Zd K LC ad Mq s H locs → lv_has ls 3 [(1, .int q)] → W p l e R s m args below meth c H locs cells slots Q (F0 m 33 ls [])) → W p l e R s m args below meth c H locs cells slots Q (F0 m 4 ls []) := by
  intro n
  induction n with
  | zero =>
    intro x1 x2 M0 H locs ls Z hl q Mq hf
    have hf : (none : Option (Int32 × Mem)) = some (q, Mq) := hf
    cases hf
  | succ n ih =>
    intro x1 x2 M0 H locs ls Z hl q Mq hf kx0
    replace hf : f_X1_isBare_l4_b (f_X1_isBare_l4 fl g0 n) fl g0 x1 x2 M0 = some (q, Mq) := hf
    unfold f_X1_isBare_l4_b at hf
    refine lv_iload_n C.x C.b dX1_isBare_4 rfl (lv_at hl 2 rfl) ?_
    refine lv_iconst (v := 5) C.x C.b dX1_isBare_5 (by decide) ?_
    refine lv_icmp_gt (tgt := 33) C.x C.b dX1_isBare_6 (by decide) (fun hc1 => ?_) (fun hc1 => ?_)
    · replace hf := ite_t hf hc1
      cases hf
      exact kx0 _ _ _ Z (lv_sub hl [1] rfl)
    · replace hf := ite_f hf hc1
      refine lv_iload_n C.x C.b dX1_isBare_9 rfl (lv_at hl 1 rfl) ?_
      refine lv_if_eq (tgt := 25) C.x C.b dX1_isBare_10 (by decide) (fun hc2 => ?_) (fun hc2 => ?_)
      · replace hf := ite_t hf hc2
        refine lv_iconst (v := 0) C.x C.b dX1_isBare_25 (by decide) ?_
        refine z_istore_n (lv' := [(1, .int 0), (0, .ref (ad 13 g0)), (2, .int x2)]) C dX1_isBare_26 rfl hl (by decide) rfl (onlast 0 rfl rfl rfl) (fun ls hl => ?_)
        replace hf := lt1_s hf; obtain ⟨x3, ex3, hf⟩ := hf
        refine z_iinc (v := x3) (lv' := [(2, .int x3), (1, .int 0), (0, .ref (ad 13 g0))]) C dX1_isBare_27 hl (k := 2) rfl (by rw [ex3]; rfl) (by decide) rfl (onlast 0 rfl rfl rfl) (fun ls hl => ?_)
        refine lv_goto (tgt := 4) C.x C.b dX1_isBare_30 (by decide) ?_
        exact ih _ _ _ _ _ _ Z (lv_sub hl [2, 1, 0] rfl) _ _ hf kx0
      · replace hf := ite_f hf hc2
        refine lv_aload_n C.x C.b dX1_isBare_13 rfl (lv_at hl 0 rfl) ?_
        refine lv_iload_n C.x C.b dX1_isBare_14 rfl (lv_at hl 2 rfl) ?_
        replace hf := bn2_s hf; obtain ⟨v5, M4, hkM4, hf⟩ := hf
        refine z_cV (As := [.int x2]) (rest := []) (st1 := [.int v5]) C Z mw_X1_has mv_X1_has k_427 (by decide) (z_hR hR (by decide)) (lvC13 hg0) kC13 zc1 (c_X1_has (l := l) (K := K) (ad := ad) hg0 hkM4) rfl hl.1 rfl (Nat.le_of_ble_eq_true rfl) dX1_isBare_15 hB rfl (fun H locs Z => ?_)
        refine lv_if_ne (tgt := 25) C.x C.b dX1_isBare_18 (by decide) (fun hc6 => ?_) (fun hc6 => ?_)
        · replace hf := ite_f hf hc6
          refine lv_iconst (v := 0) C.x C.b dX1_isBare_25 (by decide) ?_
          refine z_istore_n (lv' := [(1, .int 0), (0, .ref (ad 13 g0)), (2, .int x2)]) C dX1_isBare_26 rfl hl (by decide) rfl (onlast 0 rfl rfl rfl) (fun ls hl => ?_)
          replace hf := lt1_s hf; obtain ⟨x7, ex7, hf⟩ := hf
          refine z_iinc (v := x7) (lv' := [(2, .int x7), (1, .int 0), (0, .ref (ad 13 g0))]) C dX1_isBare_27 hl (k := 2) rfl (by rw [ex7]; rfl) (by decide) rfl (onlast 0 rfl rfl rfl) (fun ls hl => ?_)
          refine lv_goto (tgt := 4) C.x C.b dX1_isBare_30 (by decide) ?_
          exact ih _ _ _ _ _ _ Z (lv_sub hl [2, 1, 0] rfl) _ _ hf kx0
        · replace hf := ite_t hf hc6
          refine lv_iconst (v := 1) C.x C.b dX1_isBare_21 (by decide) ?_
          refine lv_goto (tgt := 26) C.x C.b dX1_isBare_22 (by decide) ?_
          refine z_istore_n (lv' := [(1, .int 1), (0, .ref (ad 13 g0)), (2, .int x2)]) C dX1_isBare_26 rfl hl (by decide) rfl (onlast 0 rfl rfl rfl) (fun ls hl => ?_)
          replace hf := lt1_s hf; obtain ⟨x8, ex8, hf⟩ := hf
          refine z_iinc (v := x8) (lv' := [(2, .int x8), (1, .int 1), (0, .ref (ad 13 g0))]) C dX1_isBare_27 hl (k := 2) rfl (by rw [ex8]; rfl) (by decide) rfl (onlast 0 rfl rfl rfl) (fun ls hl => ?_)
          refine lv_goto (tgt := 4) C.x C.b dX1_isBare_30 (by decide) ?_
          exact ih _ _ _ _ _ _ Z (lv_sub hl [2, 1, 0] rfl) _ _ hf kx0
set_option maxRecDepth 100000 in
set_option maxHeartbeats 4000000 in
theorem c_X1_isBare {l : Launch} {K : KG} {ad : Nat → Nat → Nat} {fl : Nat} {o : Nat} {M0 : Mem} {r9 : Int32} {M9 : Mem} (ho : o < 30) (hf : f_X1_isBare fl o M0 = some (r9, M9)) : Met l yX1_isBare (Cond.code yX1_isBare cX1_isBare 3 (some .boolean) :: ztb) (RM (3) 0 0) (zPc K LC ad M0 [.ref (ad 13 o)]) (zQ K LC ad (some (.int r9)) M9) 0 0 (zA ad) := by
  refine z_enter (by decide) (Nat.le_of_ble_eq_true rfl) ?_
  intro p e s m args below meth c ls C hin hargs Z hl
  replace C : Cx p s m args meth c cX1_isBare 3 "GlassPalace$Bay" (some .boolean) := C
  replace hl : lv_has ls 3 [(0, .ref (ad 13 o))] := hl
  have hR : 3 ≤ (RM (3) 0 0).frames ∧ 40 * (3) ≤ (RM (3) 0 0).locals := ⟨Nat.le_refl _, Nat.le_refl _⟩
  have hB : 0 ≤ (RM (3) 0 0).cells ∧ 0 ≤ (RM (3) 0 0).slots := ⟨Nat.zero_le _, Nat.zero_le _⟩
  unfold f_X1_isBare at hf
  refine lv_iconst (v := 1) C.x C.b dX1_isBare_0 (by decide) ?_
  refine z_istore_n (lv' := [(1, .int 1), (0, .ref (ad 13 o))]) C dX1_isBare_1 rfl hl (by decide) rfl (onlast 0 rfl rfl rfl) (fun ls hl => ?_)
  refine lv_iconst (v := 1) C.x C.b dX1_isBare_2 (by decide) ?_
  refine z_istore_n (lv' := [(2, .int 1), (1, .int 1), (0, .ref (ad 13 o))]) C dX1_isBare_3 rfl hl (by decide) rfl (onlast 0 rfl rfl rfl) (fun ls hl => ?_)
  replace hf := bn2_s hf; obtain ⟨q9, M10, hq9, hf⟩ := hf
  refine w_X1_isBare_l4 C hR hB ho fl _ _ _ _ _ _ Z (lv_sub hl [2, 1, 0] rfl) _ _ hq9 (fun H locs ls Z hl => ?_)
  refine lv_iload_n C.x C.b dX1_isBare_33 rfl (lv_at hl 0 rfl) ?_
  replace hf := asr_s hf; obtain ⟨hq11, hf⟩ := hf
  cases hf
  exact z_zret C Z (jz01 hq11) dX1_isBare_34
theorem dX0_begin_0 : decode cX0_begin 0 = .ok (.aload_n 0, 1) := by decide +kernel
theorem dX0_begin_1 : decode cX0_begin 1 = .ok (.getfield 15, 3) := by decide +kernel
theorem dX0_begin_4 : decode cX0_begin 4 = .ok (.ifCond .lt 25, 3) := by decide +kernel
theorem dX0_begin_7 : decode cX0_begin 7 = .ok (.aload_n 0, 1) := by decide +kernel
theorem dX0_begin_8 : decode cX0_begin 8 = .ok (.getfield 15, 3) := by decide +kernel
theorem dX0_begin_11 : decode cX0_begin 11 = .ok (.aload_n 0, 1) := by decide +kernel
theorem dX0_begin_12 : decode cX0_begin 12 = .ok (.getfield 9, 3) := by decide +kernel
theorem dX0_begin_15 : decode cX0_begin 15 = .ok (.arraylength, 1) := by decide +kernel
theorem dX0_begin_16 : decode cX0_begin 16 = .ok (.if_icmp .ge 13, 3) := by decide +kernel
theorem dX0_begin_19 : decode cX0_begin 19 = .ok (.aload_n 0, 1) := by decide +kernel
theorem dX0_begin_20 : decode cX0_begin 20 = .ok (.getfield 9, 3) := by decide +kernel
theorem dX0_begin_23 : decode cX0_begin 23 = .ok (.aload_n 0, 1) := by decide +kernel
theorem dX0_begin_24 : decode cX0_begin 24 = .ok (.getfield 15, 3) := by decide +kernel
theorem dX0_begin_27 : decode cX0_begin 27 = .ok (.iload_n 1, 1) := by decide +kernel
theorem dX0_begin_28 : decode cX0_begin 28 = .ok (.iastore, 1) := by decide +kernel
theorem dX0_begin_29 : decode cX0_begin 29 = .ok (.aload_n 0, 1) := by decide +kernel
theorem dX0_begin_30 : decode cX0_begin 30 = .ok (.dup, 1) := by decide +kernel
theorem dX0_begin_31 : decode cX0_begin 31 = .ok (.getfield 15, 3) := by decide +kernel
theorem dX0_begin_34 : decode cX0_begin 34 = .ok (.iconst 1, 1) := by decide +kernel
theorem dX0_begin_35 : decode cX0_begin 35 = .ok (.iadd, 1) := by decide +kernel
theorem dX0_begin_36 : decode cX0_begin 36 = .ok (.putfield 15, 3) := by decide +kernel
theorem dX0_begin_39 : decode cX0_begin 39 = .ok (.return_, 1) := by decide +kernel
def f_X0_begin_b29 (fl : Nat) (M0 : Mem) : Option (Mem) :=
  lt1 (sI M0 11 0 0 ((gI M0 11 0 0) + 1)) fun M3 =>
  some M3
def f_X0_begin (fl : Nat) (a1 : Int32) (M0 : Mem) : Option (Mem) :=
  bn1 (
    if (gI M0 11 0 0) < 0 then
      some M0
    else
      if 20 ≤ (gI M0 11 0 0) then
        some M0
      else
        asr (vq (gI M0 11 0 0) 20) <|
        lt1 (sI M0 41 0 (Int32.toNatClampNeg (gI M0 11 0 0)) a1) fun M7 =>
        some M7
  ) fun M2 =>
  f_X0_begin_b29 fl  M2
set_option maxRecDepth 100000 in
set_option maxHeartbeats 4000000 in
theorem w_X0_begin_b29 {p : Program} {l : Launch} {e : Env} {s : State} {m : MethodId} {args : Array Value} {below : List Frame} {meth : Method} {c : Code} {K : KG} {ad : Nat → Nat → Nat} {fl : Nat} {H : Heap} {locs : List Loc} {ls : Array Slot} {M0 : Mem} {M9 : Mem} (C : Cx p s m args meth c cX0_begin 2 "GlassPalace$Acts" none) (hR : 1 ≤ (RM (1) 0 0).frames ∧ 40 * (1) ≤ (RM (1) 0 0).locals) (hB : 0 ≤ (RM (1) 0 0).cells ∧ 0 ≤ (RM (1) 0 0).slots) (Z : Zd K LC ad M0 s H locs) (hl : lv_has ls 2 [(0, .ref (ad 11 0))]) (hf : f_X0_begin_b29 fl  M0 = some M9) : W p l e (RM (1) 0 0) s m args below meth c H locs 0 0 (MQ below (zQ K LC ad (none) M9) args s 0 0 (zA ad)) (F0 m 29 ls []) := by
  unfold f_X0_begin_b29 at hf
  refine lv_aload_n C.x C.b dX0_begin_29 rfl (lv_at hl 0 rfl) ?_
  refine lv_dup C.x C.b dX0_begin_30 rfl ?_
  refine z_get C Z (lvC11 Nat.zero_lt_one) kC11 zc0 zin0 0 (by decide) k_295 rfl svC11_0 dX0_begin_31 ?_
  refine lv_iconst (v := 1) C.x C.b dX0_begin_34 (by decide) ?_
  refine lv_iadd C.x C.b dX0_begin_35 ?_
  replace hf := lt1_s hf; obtain ⟨M3, eM3, hf⟩ := hf
  refine z_put (M1 := M3) C Z (lvC11 Nat.zero_lt_one) (by decide) kC11 zc0 zin0 tyX0_ok nmX0 0 (by decide) k_295 rfl (zUp_I eM3 stC11_0u) (Or.inl rfl) rfl rfl dX0_begin_36 (fun H locs Z => ?_)
  cases hf
  exact z_vret C Z dX0_begin_39
set_option maxRecDepth 100000 in
set_option maxHeartbeats 4000000 in
theorem c_X0_begin {l : Launch} {K : KG} {ad : Nat → Nat → Nat} {fl : Nat} {a1 : Int32} {M0 : Mem} {M9 : Mem} (hf : f_X0_begin fl a1 M0 = some M9) : Met l yX0_begin (Cond.code yX0_begin cX0_begin 2 none :: ztb) (RM (1) 0 0) (zPc K LC ad M0 [.ref (ad 11 0), .int a1]) (zQ K LC ad (none) M9) 0 0 (zA ad) := by
  refine z_enter (by decide) (Nat.le_of_ble_eq_true rfl) ?_
  intro p e s m args below meth c ls C hin hargs Z hl
  replace C : Cx p s m args meth c cX0_begin 2 "GlassPalace$Acts" none := C
  replace hl : lv_has ls 2 [(0, .ref (ad 11 0)), (1, .int a1)] := hl
  have hR : 1 ≤ (RM (1) 0 0).frames ∧ 40 * (1) ≤ (RM (1) 0 0).locals := ⟨Nat.le_refl _, Nat.le_refl _⟩
  have hB : 0 ≤ (RM (1) 0 0).cells ∧ 0 ≤ (RM (1) 0 0).slots := ⟨Nat.zero_le _, Nat.zero_le _⟩
  unfold f_X0_begin at hf
  refine lv_aload_n C.x C.b dX0_begin_0 rfl (lv_at hl 0 rfl) ?_
  refine z_get C Z (lvC11 Nat.zero_lt_one) kC11 zc0 zin0 0 (by decide) k_295 rfl svC11_0 dX0_begin_1 ?_
  replace hf := bn1_s hf; obtain ⟨M2, hq1, hf⟩ := hf
  have kq1 : ∀ (H : Heap) (locs : List Loc) (ls : Array Slot), Zd K LC ad M2 s H locs → lv_has ls 2 [(0, .ref (ad 11 0))] → W p l e (RM (1) 0 0) s m args below meth c H locs 0 0 (MQ below (zQ K LC ad (none) M9) args s 0 0 (zA ad)) (F0 m 29 ls []) := by
    intro H locs ls Z hl
    exact w_X0_begin_b29 C hR hB  Z (lv_sub hl [0] rfl) hf
  clear hf
  refine lv_if_lt (tgt := 29) C.x C.b dX0_begin_4 (by decide) (fun hc4 => ?_) (fun hc4 => ?_)
  · have hf := ite_t hq1 hc4; clear hq1
    cases hf
    exact kq1 _ _ _ Z (lv_sub hl [0] rfl)
  · have hf := ite_f hq1 hc4; clear hq1
    refine lv_aload_n C.x C.b dX0_begin_7 rfl (lv_at hl 0 rfl) ?_
    refine z_get C Z (lvC11 Nat.zero_lt_one) kC11 zc0 zin0 0 (by decide) k_295 rfl svC11_0 dX0_begin_8 ?_
    refine lv_aload_n C.x C.b dX0_begin_11 rfl (lv_at hl 0 rfl) ?_
    refine z_get C Z (lvC11 Nat.zero_lt_one) kC11 zc0 zin0 1 (by decide) k_297 rfl svC11_1 dX0_begin_12 ?_
    refine z_alen C Z (lvC41 Nat.zero_lt_one) kC41 0 rfl (v := 20) (by decide) dX0_begin_15 ?_
    refine lv_icmp_ge (tgt := 29) C.x C.b dX0_begin_16 (by decide) (fun hc5 => ?_) (fun hc5 => ?_)
    · replace hf := ite_t hf hc5
      cases hf
      exact kq1 _ _ _ Z (lv_sub hl [0] rfl)
    · replace hf := ite_f hf hc5
      refine lv_aload_n C.x C.b dX0_begin_19 rfl (lv_at hl 0 rfl) ?_
      refine z_get C Z (lvC11 Nat.zero_lt_one) kC11 zc0 zin0 1 (by decide) k_297 rfl svC11_1 dX0_begin_20 ?_
      refine lv_aload_n C.x C.b dX0_begin_23 rfl (lv_at hl 0 rfl) ?_
      refine z_get C Z (lvC11 Nat.zero_lt_one) kC11 zc0 zin0 0 (by decide) k_295 rfl svC11_0 dX0_begin_24 ?_
      refine lv_iload_n C.x C.b dX0_begin_27 rfl (lv_at hl 1 rfl) ?_
      replace hf := asr_s hf; obtain ⟨hq6, hf⟩ := hf
      replace hf := lt1_s hf; obtain ⟨M7, eM7, hf⟩ := hf
      refine z_iast (M1 := M7) C Z (lvC41 Nat.zero_lt_one) (by decide) kC41 hq6 eM7 stC41u dX0_begin_28 (fun H locs Z => ?_)
      cases hf
      exact kq1 _ _ _ Z (lv_sub hl [0] rfl)
theorem dX0_fitsFrom_0 : decode cX0_fitsFrom 0 = .ok (.iload_n 2, 1) := by decide +kernel
theorem dX0_fitsFrom_1 : decode cX0_fitsFrom 1 = .ok (.lookupswitch 85 #[(1, 35), (3, 54), (6, 69)], 35) := by decide +kernel
theorem dX0_fitsFrom_36 : decode cX0_fitsFrom 36 = .ok (.aload_n 0, 1) := by decide +kernel
theorem dX0_fitsFrom_37 : decode cX0_fitsFrom 37 = .ok (.bipush 20, 2) := by decide +kernel
theorem dX0_fitsFrom_39 : decode cX0_fitsFrom 39 = .ok (.invokevirtual 34, 3) := by decide +kernel
theorem dX0_fitsFrom_42 : decode cX0_fitsFrom 42 = .ok (.aload_n 0, 1) := by decide +kernel
theorem dX0_fitsFrom_43 : decode cX0_fitsFrom 43 = .ok (.aload_n 1, 1) := by decide +kernel
theorem dX0_fitsFrom_44 : decode cX0_fitsFrom 44 = .ok (.iconst 0, 1) := by decide +kernel
theorem dX0_fitsFrom_45 : decode cX0_fitsFrom 45 = .ok (.iload_n 3, 1) := by decide +kernel
theorem dX0_fitsFrom_46 : decode cX0_fitsFrom 46 = .ok (.invokevirtual 24, 3) := by decide +kernel
theorem dX0_fitsFrom_49 : decode cX0_fitsFrom 49 = .ok (.aload_n 1, 1) := by decide +kernel
theorem dX0_fitsFrom_50 : decode cX0_fitsFrom 50 = .ok (.getfield 38, 3) := by decide +kernel
theorem dX0_fitsFrom_53 : decode cX0_fitsFrom 53 = .ok (.ixor, 1) := by decide +kernel
theorem dX0_fitsFrom_54 : decode cX0_fitsFrom 54 = .ok (.ireturn, 1) := by decide +kernel
theorem dX0_fitsFrom_55 : decode cX0_fitsFrom 55 = .ok (.aload_n 0, 1) := by decide +kernel
theorem dX0_fitsFrom_56 : decode cX0_fitsFrom 56 = .ok (.bipush 40, 2) := by decide +kernel
theorem dX0_fitsFrom_58 : decode cX0_fitsFrom 58 = .ok (.invokevirtual 34, 3) := by decide +kernel
theorem dX0_fitsFrom_61 : decode cX0_fitsFrom 61 = .ok (.aload_n 0, 1) := by decide +kernel
theorem dX0_fitsFrom_62 : decode cX0_fitsFrom 62 = .ok (.aload_n 1, 1) := by decide +kernel
theorem dX0_fitsFrom_63 : decode cX0_fitsFrom 63 = .ok (.iconst 0, 1) := by decide +kernel
theorem dX0_fitsFrom_64 : decode cX0_fitsFrom 64 = .ok (.iload_n 3, 1) := by decide +kernel
theorem dX0_fitsFrom_65 : decode cX0_fitsFrom 65 = .ok (.invokevirtual 24, 3) := by decide +kernel
theorem dX0_fitsFrom_68 : decode cX0_fitsFrom 68 = .ok (.ineg, 1) := by decide +kernel
theorem dX0_fitsFrom_69 : decode cX0_fitsFrom 69 = .ok (.ireturn, 1) := by decide +kernel
theorem dX0_fitsFrom_70 : decode cX0_fitsFrom 70 = .ok (.aload_n 0, 1) := by decide +kernel
theorem dX0_fitsFrom_71 : decode cX0_fitsFrom 71 = .ok (.bipush 70, 2) := by decide +kernel
theorem dX0_fitsFrom_73 : decode cX0_fitsFrom 73 = .ok (.invokevirtual 34, 3) := by decide +kernel
theorem dX0_fitsFrom_76 : decode cX0_fitsFrom 76 = .ok (.aload_n 0, 1) := by decide +kernel
theorem dX0_fitsFrom_77 : decode cX0_fitsFrom 77 = .ok (.aload_n 1, 1) := by decide +kernel
theorem dX0_fitsFrom_78 : decode cX0_fitsFrom 78 = .ok (.iconst 1, 1) := by decide +kernel
theorem dX0_fitsFrom_79 : decode cX0_fitsFrom 79 = .ok (.iload_n 3, 1) := by decide +kernel
theorem dX0_fitsFrom_80 : decode cX0_fitsFrom 80 = .ok (.iconst 2, 1) := by decide +kernel
theorem dX0_fitsFrom_81 : decode cX0_fitsFrom 81 = .ok (.isub, 1) := by decide +kernel
theorem dX0_fitsFrom_82 : decode cX0_fitsFrom 82 = .ok (.invokevirtual 24, 3) := by decide +kernel
theorem dX0_fitsFrom_85 : decode cX0_fitsFrom 85 = .ok (.ireturn, 1) := by decide +kernel
theorem dX0_fitsFrom_86 : decode cX0_fitsFrom 86 = .ok (.aload_n 0, 1) := by decide +kernel
theorem dX0_fitsFrom_87 : decode cX0_fitsFrom 87 = .ok (.bipush 10, 2) := by decide +kernel
theorem dX0_fitsFrom_89 : decode cX0_fitsFrom 89 = .ok (.invokevirtual 34, 3) := by decide +kernel
theorem dX0_fitsFrom_92 : decode cX0_fitsFrom 92 = .ok (.iload_n 3, 1) := by decide +kernel
theorem dX0_fitsFrom_93 : decode cX0_fitsFrom 93 = .ok (.aload_n 1, 1) := by decide +kernel
theorem dX0_fitsFrom_94 : decode cX0_fitsFrom 94 = .ok (.getfield 41, 3) := by decide +kernel
theorem dX0_fitsFrom_97 : decode cX0_fitsFrom 97 = .ok (.iadd, 1) := by decide +kernel
theorem dX0_fitsFrom_98 : decode cX0_fitsFrom 98 = .ok (.ireturn, 1) := by decide +kernel
def f_X0_fitsFrom_b (rk : Nat → Int32 → Int32 → Mem → Option (Int32 × Mem)) (fl : Nat) (a1 : Nat) (a2 : Int32) (a3 : Int32) (M0 : Mem) : Option (Int32 × Mem) :=
  if a2 = 1 then
    bn1 (f_X0_begin fl 20 M0) fun M2 =>
    bn2 (rk a1 0 a3 M2) fun v4 M3 =>
    drf (gR M3 999 23 0) a1 fun j5 =>
    some ((v4 ^^^ (gI M3 23 j5 0)), M3)
  else
  if a2 = 3 then
    bn1 (f_X0_begin fl 40 M0) fun M9 =>
    bn2 (rk a1 0 a3 M9) fun v11 M10 =>
    some ((-v11), M10)
  else
  if a2 = 6 then
    bn1 (f_X0_begin fl 70 M0) fun M13 =>
    bn2 (rk a1 1 (a3 - 2) M13) fun v15 M14 =>
    some (v15, M14)
  else
    bn1 (f_X0_begin fl 10 M0) fun M16 =>
    drf (gR M16 999 23 0) a1 fun j17 =>
    some ((a3 + (gI M16 23 j17 4)), M16)
def f_X0_fitsFrom (fl : Nat) : Nat → Nat → Int32 → Int32 → Mem → Option (Int32 × Mem)
  | 0 => fun _ _ _ _ => none
  | d + 1 => fun a1 a2 a3 M0 => f_X0_fitsFrom_b (f_X0_fitsFrom fl d) fl a1 a2 a3 M0
set_option maxRecDepth 100000 in
set_option maxHeartbeats 4000000 in
theorem c_X0_fitsFrom {l : Launch} {K : KG} {ad : Nat → Nat → Nat} {fl : Nat} : ∀ (d : Nat) (a1 : Nat) (a2 : Int32) (a3 : Int32) (M0 : Mem) (r9 : Int32) (M9 : Mem), f_X0_fitsFrom fl d a1 a2 a3 M0 = some (r9, M9) → Met l yX0_fitsFrom (Cond.code yX0_fitsFrom cX0_fitsFrom 4 (some .int) :: ztb) (RM (4 + 2 * d) 0 0) (zPc K LC ad M0 [.ref (ad 11 0), rf (ad 23) a1, .int a2, .int a3]) (zQ K LC ad (some (.int r9)) M9) 0 0 (zA ad) := by
  intro d
  induction d with
  | zero =>
    intro a1 a2 a3 M0 r9 M9 hf
    have hf : (none : Option (Int32 × Mem)) = some (r9, M9) := hf
    cases hf
  | succ d ih =>
    intro a1 a2 a3 M0 r9 M9 hf
    replace hf : f_X0_fitsFrom_b (f_X0_fitsFrom fl d) fl a1 a2 a3 M0 = some (r9, M9) := hf
    refine z_enter (by decide) (by simp [lg_sl, rf_cat, cat_i, cat_l, cat_r, cat_n]) ?_
    intro p e s m args below meth c ls C hin hargs Z hl
    replace C : Cx p s m args meth c cX0_fitsFrom 4 "GlassPalace$Acts" (some .int) := C
    replace hl : lv_has ls 4 [(0, .ref (ad 11 0)), (1, rf (ad 23) a1), (2, .int a2), (3, .int a3)] := by simpa [lv_args, rf_cat, cat_i, cat_l, cat_r, cat_n] using hl
    have hR : 4 + 2 * (d + 1) ≤ (RM (4 + 2 * (d + 1)) 0 0).frames ∧ 40 * (4 + 2 * (d + 1)) ≤ (RM (4 + 2 * (d + 1)) 0 0).locals := ⟨Nat.le_refl _, Nat.le_refl _⟩
    have hB : 0 ≤ (RM (4 + 2 * (d + 1)) 0 0).cells ∧ 0 ≤ (RM (4 + 2 * (d + 1)) 0 0).slots := ⟨Nat.zero_le _, Nat.zero_le _⟩
    unfold f_X0_fitsFrom_b at hf
    refine lv_iload_n C.x C.b dX0_fitsFrom_0 rfl (lv_at hl 2 rfl) ?_
    by_cases hx1 : a2 = 1
    · replace hf := ite_t hf hx1
      refine lv_lookup (tgt := 36) (off := 35) C.x C.b dX0_fitsFrom_1 (by decide) (by rw [hx1]; rfl) (by decide) ?_
      refine lv_aload_n C.x C.b dX0_fitsFrom_36 rfl (lv_at hl 0 rfl) ?_
      refine lv_bipush (v := 20) C.x C.b dX0_fitsFrom_37 (by decide) ?_
      replace hf := bn1_s hf; obtain ⟨M2, hkM2, hf⟩ := hf
      refine z_cV (As := [.int 20]) (rest := []) (st1 := []) C Z mw_X0_begin mv_X0_begin k_1068 (by decide) (z_hR hR (by omega)) (lvC11 Nat.zero_lt_one) kC11 zc0 (c_X0_begin (l := l) (K := K) (ad := ad) hkM2) rfl hl.1 rfl (Nat.le_of_ble_eq_true rfl) dX0_fitsFrom_39 hB rfl (fun H locs Z => ?_)
      refine lv_aload_n C.x C.b dX0_fitsFrom_42 rfl (lv_at hl 0 rfl) ?_
      refine z_aload_n C dX0_fitsFrom_43 rfl (lv_at hl 1 rfl) ?_
      refine lv_iconst (v := 0) C.x C.b dX0_fitsFrom_44 (by decide) ?_
      refine lv_iload_n C.x C.b dX0_fitsFrom_45 rfl (lv_at hl 3 rfl) ?_
      replace hf := bn2_s hf; obtain ⟨v4, M3, hkM3, hf⟩ := hf
      refine z_cV (As := [rf (ad 23) a1, .int 0, .int a3]) (rest := []) (st1 := [.int v4]) C Z mw_X0_fitsFrom mv_X0_fitsFrom k_1064 (by decide) (z_hR hR (by omega)) (lvC11 Nat.zero_lt_one) kC11 zc0 (ih _ _ _ _ _ _ hkM3) rfl hl.1 rfl (Nat.le_of_ble_eq_true rfl) dX0_fitsFrom_46 hB rfl (fun H locs Z => ?_)
      refine z_aload_n C dX0_fitsFrom_49 rfl (lv_at hl 1 rfl) ?_
      replace hf := drf_s hf; obtain ⟨j5, ej7, hj6, hf⟩ := hf
      subst ej7
      refine z_nn [] (y := j5 + 1) rfl ?_
      refine z_get C Z (lvC23 hj6) kC23 zc4 zin4 0 (by decide) k_458 rfl svC23_0 dX0_fitsFrom_50 ?_
      refine lv_ixor C.x C.b dX0_fitsFrom_53 ?_
      cases hf
      exact z_iret C Z dX0_fitsFrom_54
    replace hf := ite_f hf hx1
    by_cases hx8 : a2 = 3
    · replace hf := ite_t hf hx8
      refine lv_lookup (tgt := 55) (off := 54) C.x C.b dX0_fitsFrom_1 (by decide) (by rw [hx8]; rfl) (by decide) ?_
      refine lv_aload_n C.x C.b dX0_fitsFrom_55 rfl (lv_at hl 0 rfl) ?_
      refine lv_bipush (v := 40) C.x C.b dX0_fitsFrom_56 (by decide) ?_
      replace hf := bn1_s hf; obtain ⟨M9, hkM9, hf⟩ := hf
      refine z_cV (As := [.int 40]) (rest := []) (st1 := []) C Z mw_X0_begin mv_X0_begin k_1068 (by decide) (z_hR hR (by omega)) (lvC11 Nat.zero_lt_one) kC11 zc0 (c_X0_begin (l := l) (K := K) (ad := ad) hkM9) rfl hl.1 rfl (Nat.le_of_ble_eq_true rfl) dX0_fitsFrom_58 hB rfl (fun H locs Z => ?_)
      refine lv_aload_n C.x C.b dX0_fitsFrom_61 rfl (lv_at hl 0 rfl) ?_
      refine z_aload_n C dX0_fitsFrom_62 rfl (lv_at hl 1 rfl) ?_
      refine lv_iconst (v := 0) C.x C.b dX0_fitsFrom_63 (by decide) ?_
      refine lv_iload_n C.x C.b dX0_fitsFrom_64 rfl (lv_at hl 3 rfl) ?_
      replace hf := bn2_s hf; obtain ⟨v11, M10, hkM10, hf⟩ := hf
      refine z_cV (As := [rf (ad 23) a1, .int 0, .int a3]) (rest := []) (st1 := [.int v11]) C Z mw_X0_fitsFrom mv_X0_fitsFrom k_1064 (by decide) (z_hR hR (by omega)) (lvC11 Nat.zero_lt_one) kC11 zc0 (ih _ _ _ _ _ _ hkM10) rfl hl.1 rfl (Nat.le_of_ble_eq_true rfl) dX0_fitsFrom_65 hB rfl (fun H locs Z => ?_)
      refine lv_ineg C.x C.b dX0_fitsFrom_68 ?_
      cases hf
      exact z_iret C Z dX0_fitsFrom_69
    replace hf := ite_f hf hx8
    by_cases hx12 : a2 = 6
    · replace hf := ite_t hf hx12
      refine lv_lookup (tgt := 70) (off := 69) C.x C.b dX0_fitsFrom_1 (by decide) (by rw [hx12]; rfl) (by decide) ?_
      refine lv_aload_n C.x C.b dX0_fitsFrom_70 rfl (lv_at hl 0 rfl) ?_
      refine lv_bipush (v := 70) C.x C.b dX0_fitsFrom_71 (by decide) ?_
      replace hf := bn1_s hf; obtain ⟨M13, hkM13, hf⟩ := hf
      refine z_cV (As := [.int 70]) (rest := []) (st1 := []) C Z mw_X0_begin mv_X0_begin k_1068 (by decide) (z_hR hR (by omega)) (lvC11 Nat.zero_lt_one) kC11 zc0 (c_X0_begin (l := l) (K := K) (ad := ad) hkM13) rfl hl.1 rfl (Nat.le_of_ble_eq_true rfl) dX0_fitsFrom_73 hB rfl (fun H locs Z => ?_)
      refine lv_aload_n C.x C.b dX0_fitsFrom_76 rfl (lv_at hl 0 rfl) ?_
      refine z_aload_n C dX0_fitsFrom_77 rfl (lv_at hl 1 rfl) ?_
      refine lv_iconst (v := 1) C.x C.b dX0_fitsFrom_78 (by decide) ?_
      refine lv_iload_n C.x C.b dX0_fitsFrom_79 rfl (lv_at hl 3 rfl) ?_
      refine lv_iconst (v := 2) C.x C.b dX0_fitsFrom_80 (by decide) ?_
      refine lv_isub C.x C.b dX0_fitsFrom_81 ?_
      replace hf := bn2_s hf; obtain ⟨v15, M14, hkM14, hf⟩ := hf
      refine z_cV (As := [rf (ad 23) a1, .int 1, .int (a3 - 2)]) (rest := []) (st1 := [.int v15]) C Z mw_X0_fitsFrom mv_X0_fitsFrom k_1064 (by decide) (z_hR hR (by omega)) (lvC11 Nat.zero_lt_one) kC11 zc0 (ih _ _ _ _ _ _ hkM14) rfl hl.1 rfl (Nat.le_of_ble_eq_true rfl) dX0_fitsFrom_82 hB rfl (fun H locs Z => ?_)
      cases hf
      exact z_iret C Z dX0_fitsFrom_85
    replace hf := ite_f hf hx12
    refine lv_lookup (tgt := 86) (off := 85) C.x C.b dX0_fitsFrom_1 (by decide) (by show Op.lookupswitch.offset [(1, 35), (3, 54), (6, 69)] 85 _ = 85; rw [lv_osw (a := 1) hx1 (by decide), lv_osw (a := 3) hx8 (by decide), lv_osw (a := 6) hx12 (by decide)]; rfl) (by decide) ?_
    refine lv_aload_n C.x C.b dX0_fitsFrom_86 rfl (lv_at hl 0 rfl) ?_
    refine lv_bipush (v := 10) C.x C.b dX0_fitsFrom_87 (by decide) ?_
    replace hf := bn1_s hf; obtain ⟨M16, hkM16, hf⟩ := hf
    refine z_cV (As := [.int 10]) (rest := []) (st1 := []) C Z mw_X0_begin mv_X0_begin k_1068 (by decide) (z_hR hR (by omega)) (lvC11 Nat.zero_lt_one) kC11 zc0 (c_X0_begin (l := l) (K := K) (ad := ad) hkM16) rfl hl.1 rfl (Nat.le_of_ble_eq_true rfl) dX0_fitsFrom_89 hB rfl (fun H locs Z => ?_)
    refine lv_iload_n C.x C.b dX0_fitsFrom_92 rfl (lv_at hl 3 rfl) ?_
    refine z_aload_n C dX0_fitsFrom_93 rfl (lv_at hl 1 rfl) ?_
    replace hf := drf_s hf; obtain ⟨j17, ej19, hj18, hf⟩ := hf
    subst ej19
    refine z_nn [] (y := j17 + 1) rfl ?_
    refine z_get C Z (lvC23 hj18) kC23 zc4 zin4 4 (by decide) k_470 rfl svC23_4 dX0_fitsFrom_94 ?_
    refine lv_iadd C.x C.b dX0_fitsFrom_97 ?_
    cases hf
    exact z_iret C Z dX0_fitsFrom_98
theorem dX8_become_0 : decode cX8_become 0 = .ok (.aload_n 0, 1) := by decide +kernel
theorem dX8_become_1 : decode cX8_become 1 = .ok (.iload_n 1, 1) := by decide +kernel
theorem dX8_become_2 : decode cX8_become 2 = .ok (.putfield 9, 3) := by decide +kernel
theorem dX8_become_5 : decode cX8_become 5 = .ok (.aload_n 0, 1) := by decide +kernel
theorem dX8_become_6 : decode cX8_become 6 = .ok (.iload_n 2, 1) := by decide +kernel
theorem dX8_become_7 : decode cX8_become 7 = .ok (.putfield 19, 3) := by decide +kernel
theorem dX8_become_10 : decode cX8_become 10 = .ok (.iconst 0, 1) := by decide +kernel
theorem dX8_become_11 : decode cX8_become 11 = .ok (.istore_n 3, 1) := by decide +kernel
theorem dX8_become_12 : decode cX8_become 12 = .ok (.iload_n 3, 1) := by decide +kernel
theorem dX8_become_13 : decode cX8_become 13 = .ok (.bipush 60, 2) := by decide +kernel
theorem dX8_become_15 : decode cX8_become 15 = .ok (.if_icmp .ge 16, 3) := by decide +kernel
theorem dX8_become_18 : decode cX8_become 18 = .ok (.aload_n 0, 1) := by decide +kernel
theorem dX8_become_19 : decode cX8_become 19 = .ok (.getfield 15, 3) := by decide +kernel
theorem dX8_become_22 : decode cX8_become 22 = .ok (.iload_n 3, 1) := by decide +kernel
theorem dX8_become_23 : decode cX8_become 23 = .ok (.lconst 0, 1) := by decide +kernel
theorem dX8_become_24 : decode cX8_become 24 = .ok (.lastore, 1) := by decide +kernel
theorem dX8_become_25 : decode cX8_become 25 = .ok (.iinc 3 1, 3) := by decide +kernel
theorem dX8_become_28 : decode cX8_become 28 = .ok (.goto (-16), 3) := by decide +kernel
theorem dX8_become_31 : decode cX8_become 31 = .ok (.return_, 1) := by decide +kernel
def f_X8_become_l12_b (rk : Int32 → Mem → Option (Mem)) (fl : Nat) (g0 : Nat) (x3 : Int32) (M0 : Mem) : Option (Mem) :=
  if 60 ≤ x3 then
    some M0
  else
    asr (vq x3 60) <|
    lt1 (sL M0 43 g0 (Int32.toNatClampNeg x3) 0) fun M5 =>
    lt1 (x3 + 1) fun (x6 : Int32) =>
    rk x6 M5
def f_X8_become_l12 (fl : Nat) (g0 : Nat) : Nat → Int32 → Mem → Option (Mem)
  | 0 => fun _ _ => none
  | n + 1 => fun x3 M0 => f_X8_become_l12_b (f_X8_become_l12 fl g0 n) fl g0 x3 M0
def f_X8_become (fl : Nat) (o : Nat) (a1 : Int32) (a2 : Int32) (M0 : Mem) : Option (Mem) :=
  lt1 (sI M0 42 o 0 a1) fun M1 =>
  lt1 (sI M1 42 o 2 a2) fun M2 =>
  bn1 (f_X8_become_l12 fl o fl 0 M2) fun M8 =>
  some M8
set_option maxRecDepth 100000 in
set_option maxHeartbeats 4000000 in
theorem w_X8_become_l12 {p : Program} {l : Launch} {e : Env} {R : Room} {s : State} {m : MethodId} {args : Array Value} {below : List Frame} {meth : Method} {c : Code} {cells slots : Nat} {Q : State → Prop} {K : KG} {ad : Nat → Nat → Nat} {fl : Nat} {g0 : Nat} (C : Cx p s m args meth c cX8_become 4 "GlassPalace$Tape" none) (hR : 1 ≤ R.frames ∧ 40 * (1) ≤ R.locals) (hB : cells ≤ R.cells ∧ slots ≤ R.slots) (hg0 : g0 < 6) : ∀ (n : Nat) (x3 : Int32) (M0 : Mem) (H : Heap) (locs : List Loc) (ls : Array Slot), Zd K LC ad M0 s H locs → lv_has ls 4 [(0, .ref (ad 42 g0)), (3, .int x3)] → ∀ (Mq : Mem), f_X8_become_l12 fl g0 n x3 M0 = some Mq → (∀ (H : Heap) (locs : List Loc) (ls : Array Slot), Zd K LC ad Mq s H locs → lv_has ls 4 [] → W p l e R s m args below meth c H locs cells slots Q (F0 m 31 ls [])) → W p l e R s m args below meth c H locs cells slots Q (F0 m 12 ls []) := by
  intro n
  induction n with
  | zero =>
    intro x3 M0 H locs ls Z hl Mq hf
    have hf : (none : Option (Mem)) = some Mq := hf
    cases hf
  | succ n ih =>
    intro x3 M0 H locs ls Z hl Mq hf kx0
    replace hf : f_X8_become_l12_b (f_X8_become_l12 fl g0 n) fl g0 x3 M0 = some Mq := hf
    unfold f_X8_become_l12_b at hf
    refine lv_iload_n C.x C.b dX8_become_12 rfl (lv_at hl 1 rfl) ?_
    refine lv_bipush (v := 60) C.x C.b dX8_become_13 (by decide) ?_
    refine lv_icmp_ge (tgt := 31) C.x C.b dX8_become_15 (by decide) (fun hc3 => ?_) (fun hc3 => ?_)
    · replace hf := ite_t hf hc3
      cases hf
      exact kx0 _ _ _ Z (lv_sub hl [] rfl)
    · replace hf := ite_f hf hc3
      refine lv_aload_n C.x C.b dX8_become_18 rfl (lv_at hl 0 rfl) ?_
      refine z_get C Z (lvC42 hg0) kC42 zc8 zin8 1 (by decide) k_351 rfl svC42_1 dX8_become_19 ?_
      refine lv_iload_n C.x C.b dX8_become_22 rfl (lv_at hl 1 rfl) ?_
      refine lv_lconst (v := 0) C.x C.b dX8_become_23 (by decide) ?_
      replace hf := asr_s hf; obtain ⟨hq4, hf⟩ := hf
      replace hf := lt1_s hf; obtain ⟨M5, eM5, hf⟩ := hf
      refine z_last (M1 := M5) C Z (lvC43 hg0) (by decide) kC43 hq4 eM5 stC43u dX8_become_24 (fun H locs Z => ?_)
      replace hf := lt1_s hf; obtain ⟨x6, ex6, hf⟩ := hf
      refine z_iinc (v := x6) (lv' := [(3, .int x6), (0, .ref (ad 42 g0))]) C dX8_become_25 hl (k := 1) rfl (by rw [ex6]; rfl) (by decide) rfl (nolast rfl) (fun ls hl => ?_)
      refine lv_goto (tgt := 12) C.x C.b dX8_become_28 (by decide) ?_
      exact ih _ _ _ _ _ Z (lv_sub hl [1, 0] rfl) _ hf kx0
set_option maxRecDepth 100000 in
set_option maxHeartbeats 4000000 in
theorem c_X8_become {l : Launch} {K : KG} {ad : Nat → Nat → Nat} {fl : Nat} {o : Nat} {a1 : Int32} {a2 : Int32} {M0 : Mem} {M9 : Mem} (ho : o < 6) (hf : f_X8_become fl o a1 a2 M0 = some M9) : Met l yX8_become (Cond.code yX8_become cX8_become 4 none :: ztb) (RM (1) 0 0) (zPc K LC ad M0 [.ref (ad 42 o), .int a1, .int a2]) (zQ K LC ad (none) M9) 0 0 (zA ad) := by
  refine z_enter (by decide) (Nat.le_of_ble_eq_true rfl) ?_
  intro p e s m args below meth c ls C hin hargs Z hl
  replace C : Cx p s m args meth c cX8_become 4 "GlassPalace$Tape" none := C
  replace hl : lv_has ls 4 [(0, .ref (ad 42 o)), (1, .int a1), (2, .int a2)] := hl
  have hR : 1 ≤ (RM (1) 0 0).frames ∧ 40 * (1) ≤ (RM (1) 0 0).locals := ⟨Nat.le_refl _, Nat.le_refl _⟩
  have hB : 0 ≤ (RM (1) 0 0).cells ∧ 0 ≤ (RM (1) 0 0).slots := ⟨Nat.zero_le _, Nat.zero_le _⟩
  unfold f_X8_become at hf
  refine lv_aload_n C.x C.b dX8_become_0 rfl (lv_at hl 0 rfl) ?_
  refine lv_iload_n C.x C.b dX8_become_1 rfl (lv_at hl 1 rfl) ?_
  replace hf := lt1_s hf; obtain ⟨M1, eM1, hf⟩ := hf
  refine z_put (M1 := M1) C Z (lvC42 ho) (by decide) kC42 zc8 zin8 tyX8_ok nmX8 0 (by decide) k_349 rfl (zUp_I eM1 stC42_0u) (Or.inl rfl) rfl rfl dX8_become_2 (fun H locs Z => ?_)
  refine lv_aload_n C.x C.b dX8_become_5 rfl (lv_at hl 0 rfl) ?_
  refine lv_iload_n C.x C.b dX8_become_6 rfl (lv_at hl 2 rfl) ?_
  replace hf := lt1_s hf; obtain ⟨M2, eM2, hf⟩ := hf
  refine z_put (M1 := M2) C Z (lvC42 ho) (by decide) kC42 zc8 zin8 tyX8_ok nmX8 2 (by decide) k_353 rfl (zUp_I eM2 stC42_2u) (Or.inl rfl) rfl rfl dX8_become_7 (fun H locs Z => ?_)
  refine lv_iconst (v := 0) C.x C.b dX8_become_10 (by decide) ?_
  refine z_istore_n (lv' := [(3, .int 0), (0, .ref (ad 42 o)), (1, .int a1), (2, .int a2)]) C dX8_become_11 rfl hl (by decide) rfl (onlast 2 rfl rfl rfl) (fun ls hl => ?_)
  replace hf := bn1_s hf; obtain ⟨M8, hq7, hf⟩ := hf
  refine w_X8_become_l12 C hR hB ho fl _ _ _ _ _ Z (lv_sub hl [1, 0] rfl) _ hq7 (fun H locs ls Z hl => ?_)
  cases hf
  exact z_vret C Z dX8_become_31
theorem dX8_hasItem_0 : decode cX8_hasItem 0 = .ok (.lload_n 1, 1) := by decide +kernel
theorem dX8_hasItem_1 : decode cX8_hasItem 1 = .ok (.lconst 0, 1) := by decide +kernel
theorem dX8_hasItem_2 : decode cX8_hasItem 2 = .ok (.lcmp, 1) := by decide +kernel
theorem dX8_hasItem_3 : decode cX8_hasItem 3 = .ok (.ifCond .lt 25, 3) := by decide +kernel
theorem dX8_hasItem_6 : decode cX8_hasItem 6 = .ok (.lload_n 1, 1) := by decide +kernel
theorem dX8_hasItem_7 : decode cX8_hasItem 7 = .ok (.aload_n 0, 1) := by decide +kernel
theorem dX8_hasItem_8 : decode cX8_hasItem 8 = .ok (.getfield 19, 3) := by decide +kernel
theorem dX8_hasItem_11 : decode cX8_hasItem 11 = .ok (.i2l, 1) := by decide +kernel
theorem dX8_hasItem_12 : decode cX8_hasItem 12 = .ok (.lcmp, 1) := by decide +kernel
theorem dX8_hasItem_13 : decode cX8_hasItem 13 = .ok (.ifCond .ge 15, 3) := by decide +kernel
theorem dX8_hasItem_16 : decode cX8_hasItem 16 = .ok (.lload_n 1, 1) := by decide +kernel
theorem dX8_hasItem_17 : decode cX8_hasItem 17 = .ok (.ldc2_w 22, 3) := by decide +kernel
theorem dX8_hasItem_20 : decode cX8_hasItem 20 = .ok (.lcmp, 1) := by decide +kernel
theorem dX8_hasItem_21 : decode cX8_hasItem 21 = .ok (.ifCond .ge 7, 3) := by decide +kernel
theorem dX8_hasItem_24 : decode cX8_hasItem 24 = .ok (.iconst 1, 1) := by decide +kernel
theorem dX8_hasItem_25 : decode cX8_hasItem 25 = .ok (.goto 4, 3) := by decide +kernel
theorem dX8_hasItem_28 : decode cX8_hasItem 28 = .ok (.iconst 0, 1) := by decide +kernel
theorem dX8_hasItem_29 : decode cX8_hasItem 29 = .ok (.ireturn, 1) := by decide +kernel
def f_X8_hasItem (fl : Nat) (o : Nat) (a1 : Int64) (M0 : Mem) : Option (Int32 × Mem) :=
  if (lg_cmp a1 0) < 0 then
    some (0, M0)
  else
    if 0 ≤ (lg_cmp a1 (Int32.toInt64 (gI M0 42 o 2))) then
      some (0, M0)
    else
      if 0 ≤ (lg_cmp a1 60) then
        some (0, M0)
      else
        some (1, M0)
set_option maxRecDepth 100000 in
set_option maxHeartbeats 4000000 in
theorem c_X8_hasItem {l : Launch} {K : KG} {ad : Nat → Nat → Nat} {fl : Nat} {o : Nat} {a1 : Int64} {M0 : Mem} {r9 : Int32} {M9 : Mem} (ho : o < 6) (hf : f_X8_hasItem fl o a1 M0 = some (r9, M9)) : Met l yX8_hasItem (Cond.code yX8_hasItem cX8_hasItem 3 (some .boolean) :: ztb) (RM (1) 0 0) (zPc K LC ad M0 [.ref (ad 42 o), .long a1]) (zQ K LC ad (some (.int r9)) M9) 0 0 (zA ad) := by
  refine z_enter (by decide) (Nat.le_of_ble_eq_true rfl) ?_
  intro p e s m args below meth c ls C hin hargs Z hl
  replace C : Cx p s m args meth c cX8_hasItem 3 "GlassPalace$Tape" (some .boolean) := C
  replace hl : lv_has ls 3 [(0, .ref (ad 42 o)), (1, .long a1)] := hl
  have hR : 1 ≤ (RM (1) 0 0).frames ∧ 40 * (1) ≤ (RM (1) 0 0).locals := ⟨Nat.le_refl _, Nat.le_refl _⟩
  have hB : 0 ≤ (RM (1) 0 0).cells ∧ 0 ≤ (RM (1) 0 0).slots := ⟨Nat.zero_le _, Nat.zero_le _⟩
  unfold f_X8_hasItem at hf
  refine lv_lload_n C.x C.b dX8_hasItem_0 rfl (lv_at hl 1 rfl) ?_
  refine lv_lconst (v := 0) C.x C.b dX8_hasItem_1 (by decide) ?_
  refine W.lcmp C.x C.b dX8_hasItem_2 ?_
  refine lv_if_lt (tgt := 28) C.x C.b dX8_hasItem_3 (by decide) (fun hc1 => ?_) (fun hc1 => ?_)
  · replace hf := ite_t hf hc1
    refine lv_iconst (v := 0) C.x C.b dX8_hasItem_28 (by decide) ?_
    cases hf
    exact z_zret C Z rfl dX8_hasItem_29
  · replace hf := ite_f hf hc1
    refine lv_lload_n C.x C.b dX8_hasItem_6 rfl (lv_at hl 1 rfl) ?_
    refine lv_aload_n C.x C.b dX8_hasItem_7 rfl (lv_at hl 0 rfl) ?_
    refine z_get C Z (lvC42 ho) kC42 zc8 zin8 2 (by decide) k_353 rfl svC42_2 dX8_hasItem_8 ?_
    refine z_i2l C dX8_hasItem_11 ?_
    refine W.lcmp C.x C.b dX8_hasItem_12 ?_
    refine lv_if_ge (tgt := 28) C.x C.b dX8_hasItem_13 (by decide) (fun hc2 => ?_) (fun hc2 => ?_)
    · replace hf := ite_t hf hc2
      refine lv_iconst (v := 0) C.x C.b dX8_hasItem_28 (by decide) ?_
      cases hf
      exact z_zret C Z rfl dX8_hasItem_29
    · replace hf := ite_f hf hc2
      refine lv_lload_n C.x C.b dX8_hasItem_16 rfl (lv_at hl 1 rfl) ?_
      refine lv_ldc2 (v := 60) C.x C.b C.o (C.w k_1111) dX8_hasItem_17 ?_
      refine W.lcmp C.x C.b dX8_hasItem_20 ?_
      refine lv_if_ge (tgt := 28) C.x C.b dX8_hasItem_21 (by decide) (fun hc3 => ?_) (fun hc3 => ?_)
      · replace hf := ite_t hf hc3
        refine lv_iconst (v := 0) C.x C.b dX8_hasItem_28 (by decide) ?_
        cases hf
        exact z_zret C Z rfl dX8_hasItem_29
      · replace hf := ite_f hf hc3
        refine lv_iconst (v := 1) C.x C.b dX8_hasItem_24 (by decide) ?_
        refine lv_goto (tgt := 29) C.x C.b dX8_hasItem_25 (by decide) ?_
        cases hf
        exact z_zret C Z rfl dX8_hasItem_29
theorem dX8_trimmed_0 : decode cX8_trimmed 0 = .ok (.aload_n 0, 1) := by decide +kernel
theorem dX8_trimmed_1 : decode cX8_trimmed 1 = .ok (.getfield 9, 3) := by decide +kernel
theorem dX8_trimmed_4 : decode cX8_trimmed 4 = .ok (.tableswitch 48 0 3 #[32, 37, 42, 46], 32) := by decide +kernel
theorem dX8_trimmed_36 : decode cX8_trimmed 36 = .ok (.lload_n 1, 1) := by decide +kernel
theorem dX8_trimmed_37 : decode cX8_trimmed 37 = .ok (.l2i, 1) := by decide +kernel
theorem dX8_trimmed_38 : decode cX8_trimmed 38 = .ok (.i2b, 1) := by decide +kernel
theorem dX8_trimmed_39 : decode cX8_trimmed 39 = .ok (.i2l, 1) := by decide +kernel
theorem dX8_trimmed_40 : decode cX8_trimmed 40 = .ok (.lreturn, 1) := by decide +kernel
theorem dX8_trimmed_41 : decode cX8_trimmed 41 = .ok (.lload_n 1, 1) := by decide +kernel
theorem dX8_trimmed_42 : decode cX8_trimmed 42 = .ok (.l2i, 1) := by decide +kernel
theorem dX8_trimmed_43 : decode cX8_trimmed 43 = .ok (.i2s, 1) := by decide +kernel
theorem dX8_trimmed_44 : decode cX8_trimmed 44 = .ok (.i2l, 1) := by decide +kernel
theorem dX8_trimmed_45 : decode cX8_trimmed 45 = .ok (.lreturn, 1) := by decide +kernel
theorem dX8_trimmed_46 : decode cX8_trimmed 46 = .ok (.lload_n 1, 1) := by decide +kernel
theorem dX8_trimmed_47 : decode cX8_trimmed 47 = .ok (.l2i, 1) := by decide +kernel
theorem dX8_trimmed_48 : decode cX8_trimmed 48 = .ok (.i2l, 1) := by decide +kernel
theorem dX8_trimmed_49 : decode cX8_trimmed 49 = .ok (.lreturn, 1) := by decide +kernel
theorem dX8_trimmed_50 : decode cX8_trimmed 50 = .ok (.lload_n 1, 1) := by decide +kernel
theorem dX8_trimmed_51 : decode cX8_trimmed 51 = .ok (.lreturn, 1) := by decide +kernel
theorem dX8_trimmed_52 : decode cX8_trimmed 52 = .ok (.lload_n 1, 1) := by decide +kernel
theorem dX8_trimmed_53 : decode cX8_trimmed 53 = .ok (.lconst 0, 1) := by decide +kernel
theorem dX8_trimmed_54 : decode cX8_trimmed 54 = .ok (.lcmp, 1) := by decide +kernel
theorem dX8_trimmed_55 : decode cX8_trimmed 55 = .ok (.ifCond .eq 7, 3) := by decide +kernel
theorem dX8_trimmed_58 : decode cX8_trimmed 58 = .ok (.lconst 1, 1) := by decide +kernel
theorem dX8_trimmed_59 : decode cX8_trimmed 59 = .ok (.goto 4, 3) := by decide +kernel
theorem dX8_trimmed_62 : decode cX8_trimmed 62 = .ok (.lconst 0, 1) := by decide +kernel
theorem dX8_trimmed_63 : decode cX8_trimmed 63 = .ok (.lreturn, 1) := by decide +kernel
def f_X8_trimmed (fl : Nat) (o : Nat) (a1 : Int64) (M0 : Mem) : Option (Int64 × Mem) :=
  if (gI M0 42 o 0) = 0 then
    some ((Int32.toInt64 (ji2b (Int64.toInt32 a1))), M0)
  else
  if (gI M0 42 o 0) = 1 then
    some ((Int32.toInt64 (ji2s (Int64.toInt32 a1))), M0)
  else
  if (gI M0 42 o 0) = 2 then
    some ((Int32.toInt64 (Int64.toInt32 a1)), M0)
  else
  if (gI M0 42 o 0) = 3 then
    some (a1, M0)
  else
    if (lg_cmp a1 0) = 0 then
      some (0, M0)
    else
      some (1, M0)
set_option maxRecDepth 100000 in
set_option maxHeartbeats 4000000 in
theorem c_X8_trimmed {l : Launch} {K : KG} {ad : Nat → Nat → Nat} {fl : Nat} {o : Nat} {a1 : Int64} {M0 : Mem} {r9 : Int64} {M9 : Mem} (ho : o < 6) (hf : f_X8_trimmed fl o a1 M0 = some (r9, M9)) : Met l yX8_trimmed (Cond.code yX8_trimmed cX8_trimmed 3 (some .long) :: ztb) (RM (1) 0 0) (zPc K LC ad M0 [.ref (ad 42 o), .long a1]) (zQ K LC ad (some (.long r9)) M9) 0 0 (zA ad) := by
  refine z_enter (by decide) (Nat.le_of_ble_eq_true rfl) ?_
  intro p e s m args below meth c ls C hin hargs Z hl
  replace C : Cx p s m args meth c cX8_trimmed 3 "GlassPalace$Tape" (some .long) := C
  replace hl : lv_has ls 3 [(0, .ref (ad 42 o)), (1, .long a1)] := hl
  have hR : 1 ≤ (RM (1) 0 0).frames ∧ 40 * (1) ≤ (RM (1) 0 0).locals := ⟨Nat.le_refl _, Nat.le_refl _⟩
  have hB : 0 ≤ (RM (1) 0 0).cells ∧ 0 ≤ (RM (1) 0 0).slots := ⟨Nat.zero_le _, Nat.zero_le _⟩
  unfold f_X8_trimmed at hf
  refine lv_aload_n C.x C.b dX8_trimmed_0 rfl (lv_at hl 0 rfl) ?_
  refine z_get C Z (lvC42 ho) kC42 zc8 zin8 0 (by decide) k_349 rfl svC42_0 dX8_trimmed_1 ?_
  by_cases hx1 : (gI M0 42 o 0) = 0
  · replace hf := ite_t hf hx1
    refine lv_tableIn (tgt := 36) C.x C.b dX8_trimmed_4 (by rw [hx1]; decide) (by rw [hx1]; decide) (by rw [hx1]; rfl) (by decide) ?_
    refine lv_lload_n C.x C.b dX8_trimmed_36 rfl (lv_at hl 1 rfl) ?_
    refine z_l2i C dX8_trimmed_37 ?_
    refine z_i2b C dX8_trimmed_38 ?_
    refine z_i2l C dX8_trimmed_39 ?_
    cases hf
    exact z_lret C Z dX8_trimmed_40
  replace hf := ite_f hf hx1
  by_cases hx2 : (gI M0 42 o 0) = 1
  · replace hf := ite_t hf hx2
    refine lv_tableIn (tgt := 41) C.x C.b dX8_trimmed_4 (by rw [hx2]; decide) (by rw [hx2]; decide) (by rw [hx2]; rfl) (by decide) ?_
    refine lv_lload_n C.x C.b dX8_trimmed_41 rfl (lv_at hl 1 rfl) ?_
    refine z_l2i C dX8_trimmed_42 ?_
    refine z_i2s C dX8_trimmed_43 ?_
    refine z_i2l C dX8_trimmed_44 ?_
    cases hf
    exact z_lret C Z dX8_trimmed_45
  replace hf := ite_f hf hx2
  by_cases hx3 : (gI M0 42 o 0) = 2
  · replace hf := ite_t hf hx3
    refine lv_tableIn (tgt := 46) C.x C.b dX8_trimmed_4 (by rw [hx3]; decide) (by rw [hx3]; decide) (by rw [hx3]; rfl) (by decide) ?_
    refine lv_lload_n C.x C.b dX8_trimmed_46 rfl (lv_at hl 1 rfl) ?_
    refine z_l2i C dX8_trimmed_47 ?_
    refine z_i2l C dX8_trimmed_48 ?_
    cases hf
    exact z_lret C Z dX8_trimmed_49
  replace hf := ite_f hf hx3
  by_cases hx4 : (gI M0 42 o 0) = 3
  · replace hf := ite_t hf hx4
    refine lv_tableIn (tgt := 50) C.x C.b dX8_trimmed_4 (by rw [hx4]; decide) (by rw [hx4]; decide) (by rw [hx4]; rfl) (by decide) ?_
    refine lv_lload_n C.x C.b dX8_trimmed_50 rfl (lv_at hl 1 rfl) ?_
    cases hf
    exact z_lret C Z dX8_trimmed_51
  replace hf := ite_f hf hx4
  refine lv_tableOut (tgt := 52) C.x C.b dX8_trimmed_4 (tab_out (fun k h1 h2 => by rcases (show k = 0 ∨ k = 1 ∨ k = 2 ∨ k = 3 by omega) with rfl | rfl | rfl | rfl <;> assumption)) (by decide) ?_
  refine lv_lload_n C.x C.b dX8_trimmed_52 rfl (lv_at hl 1 rfl) ?_
  refine lv_lconst (v := 0) C.x C.b dX8_trimmed_53 (by decide) ?_
  refine W.lcmp C.x C.b dX8_trimmed_54 ?_
  refine lv_if_eq (tgt := 62) C.x C.b dX8_trimmed_55 (by decide) (fun hc5 => ?_) (fun hc5 => ?_)
  · replace hf := ite_t hf hc5
    refine lv_lconst (v := 0) C.x C.b dX8_trimmed_62 (by decide) ?_
    cases hf
    exact z_lret C Z dX8_trimmed_63
  · replace hf := ite_f hf hc5
    refine lv_lconst (v := 1) C.x C.b dX8_trimmed_58 (by decide) ?_
    refine lv_goto (tgt := 63) C.x C.b dX8_trimmed_59 (by decide) ?_
    cases hf
    exact z_lret C Z dX8_trimmed_63
theorem dX8_put_0 : decode cX8_put 0 = .ok (.aload_n 0, 1) := by decide +kernel
theorem dX8_put_1 : decode cX8_put 1 = .ok (.iload_n 1, 1) := by decide +kernel
theorem dX8_put_2 : decode cX8_put 2 = .ok (.i2l, 1) := by decide +kernel
theorem dX8_put_3 : decode cX8_put 3 = .ok (.invokevirtual 24, 3) := by decide +kernel
theorem dX8_put_6 : decode cX8_put 6 = .ok (.ifCond .ne 5, 3) := by decide +kernel
theorem dX8_put_9 : decode cX8_put 9 = .ok (.iconst 0, 1) := by decide +kernel
theorem dX8_put_10 : decode cX8_put 10 = .ok (.ireturn, 1) := by decide +kernel
theorem dX8_put_11 : decode cX8_put 11 = .ok (.aload_n 0, 1) := by decide +kernel
theorem dX8_put_12 : decode cX8_put 12 = .ok (.getfield 15, 3) := by decide +kernel
theorem dX8_put_15 : decode cX8_put 15 = .ok (.iload_n 1, 1) := by decide +kernel
theorem dX8_put_16 : decode cX8_put 16 = .ok (.aload_n 0, 1) := by decide +kernel
theorem dX8_put_17 : decode cX8_put 17 = .ok (.lload_n 2, 1) := by decide +kernel
theorem dX8_put_18 : decode cX8_put 18 = .ok (.invokevirtual 28, 3) := by decide +kernel
theorem dX8_put_21 : decode cX8_put 21 = .ok (.lastore, 1) := by decide +kernel
theorem dX8_put_22 : decode cX8_put 22 = .ok (.iconst 1, 1) := by decide +kernel
theorem dX8_put_23 : decode cX8_put 23 = .ok (.ireturn, 1) := by decide +kernel
def f_X8_put (fl : Nat) (o : Nat) (a1 : Int32) (a2 : Int64) (M0 : Mem) : Option (Int32 × Mem) :=
  bn2 (f_X8_hasItem fl o (Int32.toInt64 a1) M0) fun v2 M1 =>
  if v2 = 0 then
    some (0, M1)
  else
    bn2 (f_X8_trimmed fl o a2 M1) fun y5 M4 =>
    asr (vq a1 60) <|
    lt1 (sL M4 43 o (Int32.toNatClampNeg a1) y5) fun M7 =>
    some (1, M7)
set_option maxRecDepth 100000 in
set_option maxHeartbeats 4000000 in
theorem c_X8_put {l : Launch} {K : KG} {ad : Nat → Nat → Nat} {fl : Nat} {o : Nat} {a1 : Int32} {a2 : Int64} {M0 : Mem} {r9 : Int32} {M9 : Mem} (ho : o < 6) (hf : f_X8_put fl o a1 a2 M0 = some (r9, M9)) : Met l yX8_put (Cond.code yX8_put cX8_put 4 (some .boolean) :: ztb) (RM (2) 0 0) (zPc K LC ad M0 [.ref (ad 42 o), .int a1, .long a2]) (zQ K LC ad (some (.int r9)) M9) 0 0 (zA ad) := by
  refine z_enter (by decide) (Nat.le_of_ble_eq_true rfl) ?_
  intro p e s m args below meth c ls C hin hargs Z hl
  replace C : Cx p s m args meth c cX8_put 4 "GlassPalace$Tape" (some .boolean) := C
  replace hl : lv_has ls 4 [(0, .ref (ad 42 o)), (1, .int a1), (2, .long a2)] := hl
  have hR : 2 ≤ (RM (2) 0 0).frames ∧ 40 * (2) ≤ (RM (2) 0 0).locals := ⟨Nat.le_refl _, Nat.le_refl _⟩
  have hB : 0 ≤ (RM (2) 0 0).cells ∧ 0 ≤ (RM (2) 0 0).slots := ⟨Nat.zero_le _, Nat.zero_le _⟩
  unfold f_X8_put at hf
  refine lv_aload_n C.x C.b dX8_put_0 rfl (lv_at hl 0 rfl) ?_
  refine lv_iload_n C.x C.b dX8_put_1 rfl (lv_at hl 1 rfl) ?_
  refine z_i2l C dX8_put_2 ?_
  replace hf := bn2_s hf; obtain ⟨v2, M1, hkM1, hf⟩ := hf
  refine z_cV (As := [.long (Int32.toInt64 a1)]) (rest := []) (st1 := [.int v2]) C Z mw_X8_hasItem mv_X8_hasItem k_1117 (by decide) (z_hR hR (by decide)) (lvC42 ho) kC42 zc8 (c_X8_hasItem (l := l) (K := K) (ad := ad) ho hkM1) rfl hl.1 rfl (Nat.le_of_ble_eq_true rfl) dX8_put_3 hB rfl (fun H locs Z => ?_)
  refine lv_if_ne (tgt := 11) C.x C.b dX8_put_6 (by decide) (fun hc3 => ?_) (fun hc3 => ?_)
  · replace hf := ite_f hf hc3
    refine lv_aload_n C.x C.b dX8_put_11 rfl (lv_at hl 0 rfl) ?_
    refine z_get C Z (lvC42 ho) kC42 zc8 zin8 1 (by decide) k_351 rfl svC42_1 dX8_put_12 ?_
    refine lv_iload_n C.x C.b dX8_put_15 rfl (lv_at hl 1 rfl) ?_
    refine lv_aload_n C.x C.b dX8_put_16 rfl (lv_at hl 0 rfl) ?_
    refine lv_lload_n C.x C.b dX8_put_17 rfl (lv_at hl 2 rfl) ?_
    replace hf := bn2_s hf; obtain ⟨y5, M4, hkM4, hf⟩ := hf
    refine z_cV (As := [.long a2]) (rest := [.int a1, .ref (ad 43 o)]) (st1 := [.long y5, .int a1, .ref (ad 43 o)]) C Z mw_X8_trimmed mv_X8_trimmed k_1151 (by decide) (z_hR hR (by decide)) (lvC42 ho) kC42 zc8 (c_X8_trimmed (l := l) (K := K) (ad := ad) ho hkM4) rfl hl.1 rfl (Nat.le_of_ble_eq_true rfl) dX8_put_18 hB rfl (fun H locs Z => ?_)
    replace hf := asr_s hf; obtain ⟨hq6, hf⟩ := hf
    replace hf := lt1_s hf; obtain ⟨M7, eM7, hf⟩ := hf
    refine z_last (M1 := M7) C Z (lvC43 ho) (by decide) kC43 hq6 eM7 stC43u dX8_put_21 (fun H locs Z => ?_)
    refine lv_iconst (v := 1) C.x C.b dX8_put_22 (by decide) ?_
    cases hf
    exact z_zret C Z rfl dX8_put_23
  · replace hf := ite_t hf hc3
    refine lv_iconst (v := 0) C.x C.b dX8_put_9 (by decide) ?_
    cases hf
    exact z_zret C Z rfl dX8_put_10
theorem dX9_testHolds_0 : decode cX9_testHolds 0 = .ok (.iload_n 0, 1) := by decide +kernel
theorem dX9_testHolds_1 : decode cX9_testHolds 1 = .ok (.sipush 1000, 3) := by decide +kernel
theorem dX9_testHolds_4 : decode cX9_testHolds 4 = .ok (.irem, 1) := by decide +kernel
theorem dX9_testHolds_5 : decode cX9_testHolds 5 = .ok (.istore_n 2, 1) := by decide +kernel
theorem dX9_testHolds_6 : decode cX9_testHolds 6 = .ok (.iload_n 0, 1) := by decide +kernel
theorem dX9_testHolds_7 : decode cX9_testHolds 7 = .ok (.sipush 1000, 3) := by decide +kernel
theorem dX9_testHolds_10 : decode cX9_testHolds 10 = .ok (.idiv, 1) := by decide +kernel
theorem dX9_testHolds_11 : decode cX9_testHolds 11 = .ok (.iconst 3, 1) := by decide +kernel
theorem dX9_testHolds_12 : decode cX9_testHolds 12 = .ok (.irem, 1) := by decide +kernel
theorem dX9_testHolds_13 : decode cX9_testHolds 13 = .ok (.istore_n 3, 1) := by decide +kernel
theorem dX9_testHolds_14 : decode cX9_testHolds 14 = .ok (.iload_n 0, 1) := by decide +kernel
theorem dX9_testHolds_15 : decode cX9_testHolds 15 = .ok (.sipush 1000, 3) := by decide +kernel
theorem dX9_testHolds_18 : decode cX9_testHolds 18 = .ok (.idiv, 1) := by decide +kernel
theorem dX9_testHolds_19 : decode cX9_testHolds 19 = .ok (.iconst 3, 1) := by decide +kernel
theorem dX9_testHolds_20 : decode cX9_testHolds 20 = .ok (.idiv, 1) := by decide +kernel
theorem dX9_testHolds_21 : decode cX9_testHolds 21 = .ok (.istore 4, 2) := by decide +kernel
theorem dX9_testHolds_23 : decode cX9_testHolds 23 = .ok (.iload 4, 2) := by decide +kernel
theorem dX9_testHolds_25 : decode cX9_testHolds 25 = .ok (.ifCond .lt 17, 3) := by decide +kernel
theorem dX9_testHolds_28 : decode cX9_testHolds 28 = .ok (.iload 4, 2) := by decide +kernel
theorem dX9_testHolds_30 : decode cX9_testHolds 30 = .ok (.aload_n 1, 1) := by decide +kernel
theorem dX9_testHolds_31 : decode cX9_testHolds 31 = .ok (.arraylength, 1) := by decide +kernel
theorem dX9_testHolds_32 : decode cX9_testHolds 32 = .ok (.if_icmp .ge 10, 3) := by decide +kernel
theorem dX9_testHolds_35 : decode cX9_testHolds 35 = .ok (.aload_n 1, 1) := by decide +kernel
theorem dX9_testHolds_36 : decode cX9_testHolds 36 = .ok (.iload 4, 2) := by decide +kernel
theorem dX9_testHolds_38 : decode cX9_testHolds 38 = .ok (.iaload, 1) := by decide +kernel
theorem dX9_testHolds_39 : decode cX9_testHolds 39 = .ok (.goto 4, 3) := by decide +kernel
theorem dX9_testHolds_42 : decode cX9_testHolds 42 = .ok (.iconst 0, 1) := by decide +kernel
theorem dX9_testHolds_43 : decode cX9_testHolds 43 = .ok (.istore 5, 2) := by decide +kernel
theorem dX9_testHolds_45 : decode cX9_testHolds 45 = .ok (.iload_n 3, 1) := by decide +kernel
theorem dX9_testHolds_46 : decode cX9_testHolds 46 = .ok (.lookupswitch 50 #[(0, 26), (1, 38)], 26) := by decide +kernel
theorem dX9_testHolds_72 : decode cX9_testHolds 72 = .ok (.iload 5, 2) := by decide +kernel
theorem dX9_testHolds_74 : decode cX9_testHolds 74 = .ok (.iload_n 2, 1) := by decide +kernel
theorem dX9_testHolds_75 : decode cX9_testHolds 75 = .ok (.if_icmp .ge 7, 3) := by decide +kernel
theorem dX9_testHolds_78 : decode cX9_testHolds 78 = .ok (.iconst 1, 1) := by decide +kernel
theorem dX9_testHolds_79 : decode cX9_testHolds 79 = .ok (.goto 4, 3) := by decide +kernel
theorem dX9_testHolds_82 : decode cX9_testHolds 82 = .ok (.iconst 0, 1) := by decide +kernel
theorem dX9_testHolds_83 : decode cX9_testHolds 83 = .ok (.ireturn, 1) := by decide +kernel
theorem dX9_testHolds_84 : decode cX9_testHolds 84 = .ok (.iload 5, 2) := by decide +kernel
theorem dX9_testHolds_86 : decode cX9_testHolds 86 = .ok (.iload_n 2, 1) := by decide +kernel
theorem dX9_testHolds_87 : decode cX9_testHolds 87 = .ok (.if_icmp .ne 7, 3) := by decide +kernel
theorem dX9_testHolds_90 : decode cX9_testHolds 90 = .ok (.iconst 1, 1) := by decide +kernel
theorem dX9_testHolds_91 : decode cX9_testHolds 91 = .ok (.goto 4, 3) := by decide +kernel
theorem dX9_testHolds_94 : decode cX9_testHolds 94 = .ok (.iconst 0, 1) := by decide +kernel
theorem dX9_testHolds_95 : decode cX9_testHolds 95 = .ok (.ireturn, 1) := by decide +kernel
theorem dX9_testHolds_96 : decode cX9_testHolds 96 = .ok (.iload 5, 2) := by decide +kernel
theorem dX9_testHolds_98 : decode cX9_testHolds 98 = .ok (.iload_n 2, 1) := by decide +kernel
theorem dX9_testHolds_99 : decode cX9_testHolds 99 = .ok (.if_icmp .le 7, 3) := by decide +kernel
theorem dX9_testHolds_102 : decode cX9_testHolds 102 = .ok (.iconst 1, 1) := by decide +kernel
theorem dX9_testHolds_103 : decode cX9_testHolds 103 = .ok (.goto 4, 3) := by decide +kernel
theorem dX9_testHolds_106 : decode cX9_testHolds 106 = .ok (.iconst 0, 1) := by decide +kernel
theorem dX9_testHolds_107 : decode cX9_testHolds 107 = .ok (.ireturn, 1) := by decide +kernel
def f_X9_testHolds_b43 (fl : Nat) (g2 : Int32) (g3 : Int32) (h0 : Int32) (M0 : Mem) : Option (Int32 × Mem) :=
  if g3 = 0 then
    if g2 ≤ h0 then
      some (0, M0)
    else
      some (1, M0)
  else
  if g3 = 1 then
    if h0 = g2 then
      some (1, M0)
    else
      some (0, M0)
  else
    if h0 ≤ g2 then
      some (0, M0)
    else
      some (1, M0)
def f_X9_testHolds (fl : Nat) (a1 : Int32) (M0 : Mem) : Option (Int32 × Mem) :=
  lt1 (jrem a1 1000) fun (x1 : Int32) =>
  lt1 (jrem (a1 / 1000) 3) fun (x2 : Int32) =>
  lt1 ((a1 / 1000) / 3) fun (x3 : Int32) =>
  bn2 (
    if x3 < 0 then
      some (0, M0)
    else
      if 6 ≤ x3 then
        some (0, M0)
      else
        asr (vq x3 6) <|
        some ((gI M0 18 0 (Int32.toNatClampNeg x3)), M0)
  ) fun (q4 : Int32) M5 =>
  f_X9_testHolds_b43 fl x1 x2 q4 M5
set_option maxRecDepth 100000 in
set_option maxHeartbeats 4000000 in
theorem w_X9_testHolds_b43 {p : Program} {l : Launch} {e : Env} {s : State} {m : MethodId} {args : Array Value} {below : List Frame} {meth : Method} {c : Code} {K : KG} {ad : Nat → Nat → Nat} {fl : Nat} {H : Heap} {locs : List Loc} {ls : Array Slot} {g2 : Int32} {g3 : Int32} {h0 : Int32} {M0 : Mem} {r9 : Int32} {M9 : Mem} (C : Cx p s m args meth c cX9_testHolds 6 "GlassPalace$Text" (some .boolean)) (hR : 1 ≤ (RM (1) 0 0).frames ∧ 40 * (1) ≤ (RM (1) 0 0).locals) (hB : 0 ≤ (RM (1) 0 0).cells ∧ 0 ≤ (RM (1) 0 0).slots) (Z : Zd K LC ad M0 s H locs) (hl : lv_has ls 6 [(2, .int g2), (3, .int g3)]) (hf : f_X9_testHolds_b43 fl g2 g3 h0 M0 = some (r9, M9)) : W p l e (RM (1) 0 0) s m args below meth c H locs 0 0 (MQ below (zQ K LC ad (some (.int r9)) M9) args s 0 0 (zA ad)) (F0 m 43 ls [.int h0]) := by
  unfold f_X9_testHolds_b43 at hf
  refine z_istore (lv' := [(5, .int h0), (2, .int g2), (3, .int g3)]) C dX9_testHolds_43 hl (by decide) rfl (nolast rfl) (fun ls hl => ?_)
  refine lv_iload_n C.x C.b dX9_testHolds_45 rfl (lv_at hl 2 rfl) ?_
  by_cases hx6 : g3 = 0
  · replace hf := ite_t hf hx6
    refine lv_lookup (tgt := 72) (off := 26) C.x C.b dX9_testHolds_46 (by decide) (by rw [hx6]; rfl) (by decide) ?_
    refine lv_iload C.x C.b dX9_testHolds_72 (lv_at hl 0 rfl) ?_
    refine lv_iload_n C.x C.b dX9_testHolds_74 rfl (lv_at hl 1 rfl) ?_
    refine lv_icmp_ge (tgt := 82) C.x C.b dX9_testHolds_75 (by decide) (fun hc7 => ?_) (fun hc7 => ?_)
    · replace hf := ite_t hf hc7
      refine lv_iconst (v := 0) C.x C.b dX9_testHolds_82 (by decide) ?_
      cases hf
      exact z_zret C Z rfl dX9_testHolds_83
    · replace hf := ite_f hf hc7
      refine lv_iconst (v := 1) C.x C.b dX9_testHolds_78 (by decide) ?_
      refine lv_goto (tgt := 83) C.x C.b dX9_testHolds_79 (by decide) ?_
      cases hf
      exact z_zret C Z rfl dX9_testHolds_83
  replace hf := ite_f hf hx6
  by_cases hx8 : g3 = 1
  · replace hf := ite_t hf hx8
    refine lv_lookup (tgt := 84) (off := 38) C.x C.b dX9_testHolds_46 (by decide) (by rw [hx8]; rfl) (by decide) ?_
    refine lv_iload C.x C.b dX9_testHolds_84 (lv_at hl 0 rfl) ?_
    refine lv_iload_n C.x C.b dX9_testHolds_86 rfl (lv_at hl 1 rfl) ?_
    refine lv_icmp_ne (tgt := 94) C.x C.b dX9_testHolds_87 (by decide) (fun hc9 => ?_) (fun hc9 => ?_)
    · replace hf := ite_f hf hc9
      refine lv_iconst (v := 0) C.x C.b dX9_testHolds_94 (by decide) ?_
      cases hf
      exact z_zret C Z rfl dX9_testHolds_95
    · replace hf := ite_t hf hc9
      refine lv_iconst (v := 1) C.x C.b dX9_testHolds_90 (by decide) ?_
      refine lv_goto (tgt := 95) C.x C.b dX9_testHolds_91 (by decide) ?_
      cases hf
      exact z_zret C Z rfl dX9_testHolds_95
  replace hf := ite_f hf hx8
  refine lv_lookup (tgt := 96) (off := 50) C.x C.b dX9_testHolds_46 (by decide) (by show Op.lookupswitch.offset [(0, 26), (1, 38)] 50 _ = 50; rw [lv_osw (a := 0) hx6 (by decide), lv_osw (a := 1) hx8 (by decide)]; rfl) (by decide) ?_
  refine lv_iload C.x C.b dX9_testHolds_96 (lv_at hl 0 rfl) ?_
  refine lv_iload_n C.x C.b dX9_testHolds_98 rfl (lv_at hl 1 rfl) ?_
  refine lv_icmp_le (tgt := 106) C.x C.b dX9_testHolds_99 (by decide) (fun hc10 => ?_) (fun hc10 => ?_)
  · replace hf := ite_t hf hc10
    refine lv_iconst (v := 0) C.x C.b dX9_testHolds_106 (by decide) ?_
    cases hf
    exact z_zret C Z rfl dX9_testHolds_107
  · replace hf := ite_f hf hc10
    refine lv_iconst (v := 1) C.x C.b dX9_testHolds_102 (by decide) ?_
    refine lv_goto (tgt := 107) C.x C.b dX9_testHolds_103 (by decide) ?_
    cases hf
    exact z_zret C Z rfl dX9_testHolds_107
set_option maxRecDepth 100000 in
set_option maxHeartbeats 4000000 in
theorem c_X9_testHolds {l : Launch} {K : KG} {ad : Nat → Nat → Nat} {fl : Nat} {a1 : Int32} {M0 : Mem} {r9 : Int32} {M9 : Mem} (hf : f_X9_testHolds fl a1 M0 = some (r9, M9)) : Met l yX9_testHolds (Cond.code yX9_testHolds cX9_testHolds 6 (some .boolean) :: ztb) (RM (1) 0 0) (zPc K LC ad M0 [.int a1, .ref (ad 18 0)]) (zQ K LC ad (some (.int r9)) M9) 0 0 (zA ad) := by
  refine z_enter (by decide) (Nat.le_of_ble_eq_true rfl) ?_
  intro p e s m args below meth c ls C hin hargs Z hl
  replace C : Cx p s m args meth c cX9_testHolds 6 "GlassPalace$Text" (some .boolean) := C
  replace hl : lv_has ls 6 [(0, .int a1), (1, .ref (ad 18 0))] := hl
  have hR : 1 ≤ (RM (1) 0 0).frames ∧ 40 * (1) ≤ (RM (1) 0 0).locals := ⟨Nat.le_refl _, Nat.le_refl _⟩
  have hB : 0 ≤ (RM (1) 0 0).cells ∧ 0 ≤ (RM (1) 0 0).slots := ⟨Nat.zero_le _, Nat.zero_le _⟩
  unfold f_X9_testHolds at hf
  refine lv_iload_n C.x C.b dX9_testHolds_0 rfl (lv_at hl 0 rfl) ?_
  refine lv_sipush (v := 1000) C.x C.b dX9_testHolds_1 (by decide) ?_
  refine z_irem C dX9_testHolds_4 (by decide) ?_
  replace hf := lt1_s hf; obtain ⟨x1, ex1, hf⟩ := hf
  refine z_renI ex1 ?_
  refine z_istore_n (lv' := [(2, .int x1), (0, .int a1), (1, .ref (ad 18 0))]) C dX9_testHolds_5 rfl hl (by decide) rfl (onlast 1 rfl rfl rfl) (fun ls hl => ?_)
  refine lv_iload_n C.x C.b dX9_testHolds_6 rfl (lv_at hl 1 rfl) ?_
  refine lv_sipush (v := 1000) C.x C.b dX9_testHolds_7 (by decide) ?_
  refine lv_idiv C.x C.b dX9_testHolds_10 (by decide) ?_
  refine lv_iconst (v := 3) C.x C.b dX9_testHolds_11 (by decide) ?_
  refine z_irem C dX9_testHolds_12 (by decide) ?_
  replace hf := lt1_s hf; obtain ⟨x2, ex2, hf⟩ := hf
  refine z_renI ex2 ?_
  refine z_istore_n (lv' := [(3, .int x2), (2, .int x1), (0, .int a1), (1, .ref (ad 18 0))]) C dX9_testHolds_13 rfl hl (by decide) rfl (onlast 0 rfl rfl rfl) (fun ls hl => ?_)
  refine lv_iload_n C.x C.b dX9_testHolds_14 rfl (lv_at hl 2 rfl) ?_
  refine lv_sipush (v := 1000) C.x C.b dX9_testHolds_15 (by decide) ?_
  refine lv_idiv C.x C.b dX9_testHolds_18 (by decide) ?_
  refine lv_iconst (v := 3) C.x C.b dX9_testHolds_19 (by decide) ?_
  refine lv_idiv C.x C.b dX9_testHolds_20 (by decide) ?_
  replace hf := lt1_s hf; obtain ⟨x3, ex3, hf⟩ := hf
  refine z_renI ex3 ?_
  refine z_istore (lv' := [(4, .int x3), (3, .int x2), (2, .int x1), (0, .int a1), (1, .ref (ad 18 0))]) C dX9_testHolds_21 hl (by decide) rfl (onlast 0 rfl rfl rfl) (fun ls hl => ?_)
  refine lv_iload C.x C.b dX9_testHolds_23 (lv_at hl 0 rfl) ?_
  replace hf := bn2_s hf; obtain ⟨q4, M5, hq4, hf⟩ := hf
  have kq4 : ∀ (H : Heap) (locs : List Loc) (ls : Array Slot), Zd K LC ad M5 s H locs → lv_has ls 6 [(2, .int x1), (3, .int x2)] → W p l e (RM (1) 0 0) s m args below meth c H locs 0 0 (MQ below (zQ K LC ad (some (.int r9)) M9) args s 0 0 (zA ad)) (F0 m 43 ls [.int q4]) := by
    intro H locs ls Z hl
    exact w_X9_testHolds_b43 C hR hB  Z (lv_sub hl [0, 1] rfl) hf
  clear hf
  refine lv_if_lt (tgt := 42) C.x C.b dX9_testHolds_25 (by decide) (fun hc11 => ?_) (fun hc11 => ?_)
  · have hf := ite_t hq4 hc11; clear hq4
    refine lv_iconst (v := 0) C.x C.b dX9_testHolds_42 (by decide) ?_
    cases hf
    exact kq4 _ _ _ Z (lv_sub hl [2, 1] rfl)
  · have hf := ite_f hq4 hc11; clear hq4
    refine lv_iload C.x C.b dX9_testHolds_28 (lv_at hl 0 rfl) ?_
    refine lv_aload_n C.x C.b dX9_testHolds_30 rfl (lv_at hl 4 rfl) ?_
    refine z_alen C Z (lvC18 Nat.zero_lt_one) kC18 0 rfl (v := 6) (by decide) dX9_testHolds_31 ?_
    refine lv_icmp_ge (tgt := 42) C.x C.b dX9_testHolds_32 (by decide) (fun hc12 => ?_) (fun hc12 => ?_)
    · replace hf := ite_t hf hc12
      refine lv_iconst (v := 0) C.x C.b dX9_testHolds_42 (by decide) ?_
      cases hf
      exact kq4 _ _ _ Z (lv_sub hl [2, 1] rfl)
    · replace hf := ite_f hf hc12
      refine lv_aload_n C.x C.b dX9_testHolds_35 rfl (lv_at hl 4 rfl) ?_
      refine lv_iload C.x C.b dX9_testHolds_36 (lv_at hl 0 rfl) ?_
      replace hf := asr_s hf; obtain ⟨hq13, hf⟩ := hf
      refine z_iald C Z (lvC18 Nat.zero_lt_one) kC18 hq13 svC18 dX9_testHolds_38 ?_
      refine lv_goto (tgt := 43) C.x C.b dX9_testHolds_39 (by decide) ?_
      cases hf
      exact kq4 _ _ _ Z (lv_sub hl [2, 1] rfl)
theorem dX9_holds_0 : decode cX9_holds 0 = .ok (.iconst 0, 1) := by decide +kernel
theorem dX9_holds_1 : decode cX9_holds 1 = .ok (.istore_n 3, 1) := by decide +kernel
theorem dX9_holds_2 : decode cX9_holds 2 = .ok (.iload_n 1, 1) := by decide +kernel
theorem dX9_holds_3 : decode cX9_holds 3 = .ok (.iconst 0, 1) := by decide +kernel
theorem dX9_holds_4 : decode cX9_holds 4 = .ok (.invokestatic 32, 3) := by decide +kernel
theorem dX9_holds_7 : decode cX9_holds 7 = .ok (.istore 4, 2) := by decide +kernel
theorem dX9_holds_9 : decode cX9_holds 9 = .ok (.iload 4, 2) := by decide +kernel
theorem dX9_holds_11 : decode cX9_holds 11 = .ok (.aload_n 0, 1) := by decide +kernel
theorem dX9_holds_12 : decode cX9_holds 12 = .ok (.getfield 25, 3) := by decide +kernel
theorem dX9_holds_15 : decode cX9_holds 15 = .ok (.if_icmp .ge 116, 3) := by decide +kernel
theorem dX9_holds_18 : decode cX9_holds 18 = .ok (.iload 4, 2) := by decide +kernel
theorem dX9_holds_20 : decode cX9_holds 20 = .ok (.bipush 100, 2) := by decide +kernel
theorem dX9_holds_22 : decode cX9_holds 22 = .ok (.if_icmp .ge 109, 3) := by decide +kernel
theorem dX9_holds_25 : decode cX9_holds 25 = .ok (.aload_n 0, 1) := by decide +kernel
theorem dX9_holds_26 : decode cX9_holds 26 = .ok (.getfield 18, 3) := by decide +kernel
theorem dX9_holds_29 : decode cX9_holds 29 = .ok (.iload 4, 2) := by decide +kernel
theorem dX9_holds_31 : decode cX9_holds 31 = .ok (.iaload, 1) := by decide +kernel
theorem dX9_holds_32 : decode cX9_holds 32 = .ok (.bipush (-4), 2) := by decide +kernel
theorem dX9_holds_34 : decode cX9_holds 34 = .ok (.if_icmp .eq 97, 3) := by decide +kernel
theorem dX9_holds_37 : decode cX9_holds 37 = .ok (.aload_n 0, 1) := by decide +kernel
theorem dX9_holds_38 : decode cX9_holds 38 = .ok (.getfield 18, 3) := by decide +kernel
theorem dX9_holds_41 : decode cX9_holds 41 = .ok (.iload 4, 2) := by decide +kernel
theorem dX9_holds_43 : decode cX9_holds 43 = .ok (.iaload, 1) := by decide +kernel
theorem dX9_holds_44 : decode cX9_holds 44 = .ok (.istore 5, 2) := by decide +kernel
theorem dX9_holds_46 : decode cX9_holds 46 = .ok (.iload 5, 2) := by decide +kernel
theorem dX9_holds_48 : decode cX9_holds 48 = .ok (.tableswitch 58 (-3) (-1) #[28, 47, 35], 28) := by decide +kernel
theorem dX9_holds_76 : decode cX9_holds 76 = .ok (.iload_n 3, 1) := by decide +kernel
theorem dX9_holds_77 : decode cX9_holds 77 = .ok (.iconst 1, 1) := by decide +kernel
theorem dX9_holds_78 : decode cX9_holds 78 = .ok (.ixor, 1) := by decide +kernel
theorem dX9_holds_79 : decode cX9_holds 79 = .ok (.istore_n 3, 1) := by decide +kernel
theorem dX9_holds_80 : decode cX9_holds 80 = .ok (.goto 45, 3) := by decide +kernel
theorem dX9_holds_83 : decode cX9_holds 83 = .ok (.iload_n 3, 1) := by decide +kernel
theorem dX9_holds_84 : decode cX9_holds 84 = .ok (.iconst 1, 1) := by decide +kernel
theorem dX9_holds_85 : decode cX9_holds 85 = .ok (.ishr, 1) := by decide +kernel
theorem dX9_holds_86 : decode cX9_holds 86 = .ok (.iload_n 3, 1) := by decide +kernel
theorem dX9_holds_87 : decode cX9_holds 87 = .ok (.bipush (-2), 2) := by decide +kernel
theorem dX9_holds_89 : decode cX9_holds 89 = .ok (.ior, 1) := by decide +kernel
theorem dX9_holds_90 : decode cX9_holds 90 = .ok (.iand, 1) := by decide +kernel
theorem dX9_holds_91 : decode cX9_holds 91 = .ok (.istore_n 3, 1) := by decide +kernel
theorem dX9_holds_92 : decode cX9_holds 92 = .ok (.goto 33, 3) := by decide +kernel
theorem dX9_holds_95 : decode cX9_holds 95 = .ok (.iload_n 3, 1) := by decide +kernel
theorem dX9_holds_96 : decode cX9_holds 96 = .ok (.iconst 1, 1) := by decide +kernel
theorem dX9_holds_97 : decode cX9_holds 97 = .ok (.ishr, 1) := by decide +kernel
theorem dX9_holds_98 : decode cX9_holds 98 = .ok (.iload_n 3, 1) := by decide +kernel
theorem dX9_holds_99 : decode cX9_holds 99 = .ok (.iconst 1, 1) := by decide +kernel
theorem dX9_holds_100 : decode cX9_holds 100 = .ok (.iand, 1) := by decide +kernel
theorem dX9_holds_101 : decode cX9_holds 101 = .ok (.ior, 1) := by decide +kernel
theorem dX9_holds_102 : decode cX9_holds 102 = .ok (.istore_n 3, 1) := by decide +kernel
theorem dX9_holds_103 : decode cX9_holds 103 = .ok (.goto 22, 3) := by decide +kernel
theorem dX9_holds_106 : decode cX9_holds 106 = .ok (.iload_n 3, 1) := by decide +kernel
theorem dX9_holds_107 : decode cX9_holds 107 = .ok (.iconst 1, 1) := by decide +kernel
theorem dX9_holds_108 : decode cX9_holds 108 = .ok (.ishl, 1) := by decide +kernel
theorem dX9_holds_109 : decode cX9_holds 109 = .ok (.iload 5, 2) := by decide +kernel
theorem dX9_holds_111 : decode cX9_holds 111 = .ok (.aload_n 2, 1) := by decide +kernel
theorem dX9_holds_112 : decode cX9_holds 112 = .ok (.invokestatic 38, 3) := by decide +kernel
theorem dX9_holds_115 : decode cX9_holds 115 = .ok (.ifCond .eq 7, 3) := by decide +kernel
theorem dX9_holds_118 : decode cX9_holds 118 = .ok (.iconst 1, 1) := by decide +kernel
theorem dX9_holds_119 : decode cX9_holds 119 = .ok (.goto 4, 3) := by decide +kernel
theorem dX9_holds_122 : decode cX9_holds 122 = .ok (.iconst 0, 1) := by decide +kernel
theorem dX9_holds_123 : decode cX9_holds 123 = .ok (.ior, 1) := by decide +kernel
theorem dX9_holds_124 : decode cX9_holds 124 = .ok (.istore_n 3, 1) := by decide +kernel
theorem dX9_holds_125 : decode cX9_holds 125 = .ok (.iinc 4 1, 3) := by decide +kernel
theorem dX9_holds_128 : decode cX9_holds 128 = .ok (.goto (-119), 3) := by decide +kernel
theorem dX9_holds_131 : decode cX9_holds 131 = .ok (.iload_n 3, 1) := by decide +kernel
theorem dX9_holds_132 : decode cX9_holds 132 = .ok (.iconst 1, 1) := by decide +kernel
theorem dX9_holds_133 : decode cX9_holds 133 = .ok (.iand, 1) := by decide +kernel
theorem dX9_holds_134 : decode cX9_holds 134 = .ok (.iconst 1, 1) := by decide +kernel
theorem dX9_holds_135 : decode cX9_holds 135 = .ok (.if_icmp .ne 7, 3) := by decide +kernel
theorem dX9_holds_138 : decode cX9_holds 138 = .ok (.iconst 1, 1) := by decide +kernel
theorem dX9_holds_139 : decode cX9_holds 139 = .ok (.goto 4, 3) := by decide +kernel
theorem dX9_holds_142 : decode cX9_holds 142 = .ok (.iconst 0, 1) := by decide +kernel
theorem dX9_holds_143 : decode cX9_holds 143 = .ok (.ireturn, 1) := by decide +kernel
def f_X9_holds_l9_b (rk : Int32 → Int32 → Mem → Option (Int32 × Mem)) (fl : Nat) (g0 : Nat) (x3 : Int32) (x4 : Int32) (M0 : Mem) : Option (Int32 × Mem) :=
  if (gI M0 19 g0 1) ≤ x4 then
    some (x3, M0)
  else
    if 100 ≤ x4 then
      some (x3, M0)
    else
      asr (vq x4 100) <|
      if (gI M0 22 g0 (Int32.toNatClampNeg x4)) = (-4) then
        some (x3, M0)
      else
        asr (vq x4 100) <|
        lt1 (gI M0 22 g0 (Int32.toNatClampNeg x4)) fun (x7 : Int32) =>
        if x7 = (-3) then
          lt1 (x3 ^^^ 1) fun (x9 : Int32) =>
          lt1 (x4 + 1) fun (x10 : Int32) =>
          rk x9 x10 M0
        else
        if x7 = (-2) then
          lt1 ((jshr x3 1) ||| (x3 &&& 1)) fun (x12 : Int32) =>
          lt1 (x4 + 1) fun (x13 : Int32) =>
          rk x12 x13 M0
        else
        if x7 = (-1) then
          lt1 ((jshr x3 1) &&& (x3 ||| (-2))) fun (x15 : Int32) =>
          lt1 (x4 + 1) fun (x16 : Int32) =>
          rk x15 x16 M0
        else
          bn2 (f_X9_testHolds fl x7 M0) fun v18 M17 =>
          if v18 = 0 then
            lt1 ((jshl x3 1) ||| 0) fun (x20 : Int32) =>
            lt1 (x4 + 1) fun (x21 : Int32) =>
            rk x20 x21 M17
          else
            lt1 ((jshl x3 1) ||| 1) fun (x22 : Int32) =>
            lt1 (x4 + 1) fun (x23 : Int32) =>
            rk x22 x23 M17
def f_X9_holds_l9 (fl : Nat) (g0 : Nat) : Nat → Int32 → Int32 → Mem → Option (Int32 × Mem)
  | 0 => fun _ _ _ => none
  | n + 1 => fun x3 x4 M0 => f_X9_holds_l9_b (f_X9_holds_l9 fl g0 n) fl g0 x3 x4 M0
def f_X9_holds_b131 (fl : Nat) (g3 : Int32) (M0 : Mem) : Option (Int32 × Mem) :=
  if (g3 &&& 1) = 1 then
    some (1, M0)
  else
    some (0, M0)
def f_X9_holds (fl : Nat) (o : Nat) (a1 : Int32) (M0 : Mem) : Option (Int32 × Mem) :=
  lt1 (jmax a1 0) fun (x1 : Int32) =>
  bn2 (f_X9_holds_l9 fl o fl 0 x1 M0) fun (q24 : Int32) M25 =>
  f_X9_holds_b131 fl q24 M25
set_option maxRecDepth 100000 in
set_option maxHeartbeats 4000000 in
theorem w_X9_holds_l9 {p : Program} {l : Launch} {e : Env} {R : Room} {s : State} {m : MethodId} {args : Array Value} {below : List Frame} {meth : Method} {c : Code} {cells slots : Nat} {Q : State → Prop} {K : KG} {ad : Nat → Nat → Nat} {fl : Nat} {g0 : Nat} (C : Cx p s m args meth c cX9_holds 6 "GlassPalace$Text" (some .boolean)) (hR : 2 ≤ R.frames ∧ 40 * (2) ≤ R.locals) (hB : cells ≤ R.cells ∧ slots ≤ R.slots) (hg0 : g0 < 10) : ∀ (n : Nat) (x3 : Int32) (x4 : Int32) (M0 : Mem) (H : Heap) (locs : List Loc) (ls : Array Slot), Zd K LC ad M0 s H locs → lv_has ls 6 [(0, .ref (ad 19 g0)), (2, .ref (ad 18 0)), (3, .int x3), (4, .int x4)] → ∀ (q : Int32) (Mq : Mem), f_X9_holds_l9 fl g0 n x3 x4 M0 = some (q, Mq) → (∀ (H : Heap) (locs : List Loc) (ls : Array Slot), Zd K LC ad Mq s H locs → lv_has ls 6 [(3, .int q)] → W p l e R s m args below meth c H locs cells slots Q (F0 m 131 ls [])) → W p l e R s m args below meth c H locs cells slots Q (F0 m 9 ls []) := by
  intro n
  induction n with
  | zero =>
    intro x3 x4 M0 H locs ls Z hl q Mq hf
    have hf : (none : Option (Int32 × Mem)) = some (q, Mq) := hf
    cases hf
  | succ n ih =>
    intro x3 x4 M0 H locs ls Z hl q Mq hf kx0
    replace hf : f_X9_holds_l9_b (f_X9_holds_l9 fl g0 n) fl g0 x3 x4 M0 = some (q, Mq) := hf
    unfold f_X9_holds_l9_b at hf
    refine lv_iload C.x C.b dX9_holds_9 (lv_at hl 3 rfl) ?_
    refine lv_aload_n C.x C.b dX9_holds_11 rfl (lv_at hl 0 rfl) ?_
    refine z_get C Z (lvC19 hg0) kC19 zc9 zin9 1 (by decide) k_171 rfl svC19_1 dX9_holds_12 ?_
    refine lv_icmp_ge (tgt := 131) C.x C.b dX9_holds_15 (by decide) (fun hc2 => ?_) (fun hc2 => ?_)
    · replace hf := ite_t hf hc2
      cases hf
      exact kx0 _ _ _ Z (lv_sub hl [2] rfl)
    · replace hf := ite_f hf hc2
      refine lv_iload C.x C.b dX9_holds_18 (lv_at hl 3 rfl) ?_
      refine lv_bipush (v := 100) C.x C.b dX9_holds_20 (by decide) ?_
      refine lv_icmp_ge (tgt := 131) C.x C.b dX9_holds_22 (by decide) (fun hc3 => ?_) (fun hc3 => ?_)
      · replace hf := ite_t hf hc3
        cases hf
        exact kx0 _ _ _ Z (lv_sub hl [2] rfl)
      · replace hf := ite_f hf hc3
        refine lv_aload_n C.x C.b dX9_holds_25 rfl (lv_at hl 0 rfl) ?_
        refine z_get C Z (lvC19 hg0) kC19 zc9 zin9 5 (by decide) k_176 rfl svC19_5 dX9_holds_26 ?_
        refine lv_iload C.x C.b dX9_holds_29 (lv_at hl 3 rfl) ?_
        replace hf := asr_s hf; obtain ⟨hq4, hf⟩ := hf
        refine z_iald C Z (lvC22 hg0) kC22 hq4 svC22 dX9_holds_31 ?_
        refine lv_bipush (v := (-4)) C.x C.b dX9_holds_32 (by decide) ?_
        refine lv_icmp_eq (tgt := 131) C.x C.b dX9_holds_34 (by decide) (fun hc5 => ?_) (fun hc5 => ?_)
        · replace hf := ite_t hf hc5
          cases hf
          exact kx0 _ _ _ Z (lv_sub hl [2] rfl)
        · replace hf := ite_f hf hc5
          refine lv_aload_n C.x C.b dX9_holds_37 rfl (lv_at hl 0 rfl) ?_
          refine z_get C Z (lvC19 hg0) kC19 zc9 zin9 5 (by decide) k_176 rfl svC19_5 dX9_holds_38 ?_
          refine lv_iload C.x C.b dX9_holds_41 (lv_at hl 3 rfl) ?_
          replace hf := asr_s hf; obtain ⟨hq6, hf⟩ := hf
          refine z_iald C Z (lvC22 hg0) kC22 hq6 svC22 dX9_holds_43 ?_
          replace hf := lt1_s hf; obtain ⟨x7, ex7, hf⟩ := hf
          refine z_renI ex7 ?_
          refine z_istore (lv' := [(5, .int x7), (0, .ref (ad 19 g0)), (2, .ref (ad 18 0)), (3, .int x3), (4, .int x4)]) C dX9_holds_44 hl (by decide) rfl (onlast 3 rfl rfl rfl) (fun ls hl => ?_)
          refine lv_iload C.x C.b dX9_holds_46 (lv_at hl 0 rfl) ?_
          by_cases hx8 : x7 = (-3)
          · replace hf := ite_t hf hx8
            refine lv_tableIn (tgt := 76) C.x C.b dX9_holds_48 (by rw [hx8]; decide) (by rw [hx8]; decide) (by rw [hx8]; rfl) (by decide) ?_
            refine lv_iload_n C.x C.b dX9_holds_76 rfl (lv_at hl 3 rfl) ?_
            refine lv_iconst (v := 1) C.x C.b dX9_holds_77 (by decide) ?_
            refine lv_ixor C.x C.b dX9_holds_78 ?_
            replace hf := lt1_s hf; obtain ⟨x9, ex9, hf⟩ := hf
            refine z_renI ex9 ?_
            refine z_istore_n (lv' := [(3, .int x9), (5, .int x7), (0, .ref (ad 19 g0)), (2, .ref (ad 18 0)), (4, .int x4)]) C dX9_holds_79 rfl hl (by decide) rfl (onlast 2 rfl rfl rfl) (fun ls hl => ?_)
            refine lv_goto (tgt := 125) C.x C.b dX9_holds_80 (by decide) ?_
            replace hf := lt1_s hf; obtain ⟨x10, ex10, hf⟩ := hf
            refine z_iinc (v := x10) (lv' := [(4, .int x10), (3, .int x9), (5, .int x7), (0, .ref (ad 19 g0)), (2, .ref (ad 18 0))]) C dX9_holds_125 hl (k := 4) rfl (by rw [ex10]; rfl) (by decide) rfl (onlast 0 rfl rfl rfl) (fun ls hl => ?_)
            refine lv_goto (tgt := 9) C.x C.b dX9_holds_128 (by decide) ?_
            exact ih _ _ _ _ _ _ Z (lv_sub hl [3, 4, 1, 0] rfl) _ _ hf kx0
          replace hf := ite_f hf hx8
          by_cases hx11 : x7 = (-2)
          · replace hf := ite_t hf hx11
            refine lv_tableIn (tgt := 95) C.x C.b dX9_holds_48 (by rw [hx11]; decide) (by rw [hx11]; decide) (by rw [hx11]; rfl) (by decide) ?_
            refine lv_iload_n C.x C.b dX9_holds_95 rfl (lv_at hl 3 rfl) ?_
            refine lv_iconst (v := 1) C.x C.b dX9_holds_96 (by decide) ?_
            refine z_ishr C dX9_holds_97 ?_
            refine lv_iload_n C.x C.b dX9_holds_98 rfl (lv_at hl 3 rfl) ?_
            refine lv_iconst (v := 1) C.x C.b dX9_holds_99 (by decide) ?_
            refine lv_iand C.x C.b dX9_holds_100 ?_
            refine lv_ior C.x C.b dX9_holds_101 ?_
            replace hf := lt1_s hf; obtain ⟨x12, ex12, hf⟩ := hf
            refine z_renI ex12 ?_
            refine z_istore_n (lv' := [(3, .int x12), (5, .int x7), (0, .ref (ad 19 g0)), (2, .ref (ad 18 0)), (4, .int x4)]) C dX9_holds_102 rfl hl (by decide) rfl (onlast 2 rfl rfl rfl) (fun ls hl => ?_)
            refine lv_goto (tgt := 125) C.x C.b dX9_holds_103 (by decide) ?_
            replace hf := lt1_s hf; obtain ⟨x13, ex13, hf⟩ := hf
            refine z_iinc (v := x13) (lv' := [(4, .int x13), (3, .int x12), (5, .int x7), (0, .ref (ad 19 g0)), (2, .ref (ad 18 0))]) C dX9_holds_125 hl (k := 4) rfl (by rw [ex13]; rfl) (by decide) rfl (onlast 0 rfl rfl rfl) (fun ls hl => ?_)
            refine lv_goto (tgt := 9) C.x C.b dX9_holds_128 (by decide) ?_
            exact ih _ _ _ _ _ _ Z (lv_sub hl [3, 4, 1, 0] rfl) _ _ hf kx0
          replace hf := ite_f hf hx11
          by_cases hx14 : x7 = (-1)
          · replace hf := ite_t hf hx14
            refine lv_tableIn (tgt := 83) C.x C.b dX9_holds_48 (by rw [hx14]; decide) (by rw [hx14]; decide) (by rw [hx14]; rfl) (by decide) ?_
            refine lv_iload_n C.x C.b dX9_holds_83 rfl (lv_at hl 3 rfl) ?_
            refine lv_iconst (v := 1) C.x C.b dX9_holds_84 (by decide) ?_
            refine z_ishr C dX9_holds_85 ?_
            refine lv_iload_n C.x C.b dX9_holds_86 rfl (lv_at hl 3 rfl) ?_
            refine lv_bipush (v := (-2)) C.x C.b dX9_holds_87 (by decide) ?_
            refine lv_ior C.x C.b dX9_holds_89 ?_
            refine lv_iand C.x C.b dX9_holds_90 ?_
            replace hf := lt1_s hf; obtain ⟨x15, ex15, hf⟩ := hf
            refine z_renI ex15 ?_
            refine z_istore_n (lv' := [(3, .int x15), (5, .int x7), (0, .ref (ad 19 g0)), (2, .ref (ad 18 0)), (4, .int x4)]) C dX9_holds_91 rfl hl (by decide) rfl (onlast 2 rfl rfl rfl) (fun ls hl => ?_)
            refine lv_goto (tgt := 125) C.x C.b dX9_holds_92 (by decide) ?_
            replace hf := lt1_s hf; obtain ⟨x16, ex16, hf⟩ := hf
            refine z_iinc (v := x16) (lv' := [(4, .int x16), (3, .int x15), (5, .int x7), (0, .ref (ad 19 g0)), (2, .ref (ad 18 0))]) C dX9_holds_125 hl (k := 4) rfl (by rw [ex16]; rfl) (by decide) rfl (onlast 0 rfl rfl rfl) (fun ls hl => ?_)
            refine lv_goto (tgt := 9) C.x C.b dX9_holds_128 (by decide) ?_
            exact ih _ _ _ _ _ _ Z (lv_sub hl [3, 4, 1, 0] rfl) _ _ hf kx0
          replace hf := ite_f hf hx14
          refine lv_tableOut (tgt := 106) C.x C.b dX9_holds_48 (tab_out (fun k h1 h2 => by rcases (show k = -3 ∨ k = -2 ∨ k = -1 by omega) with rfl | rfl | rfl <;> assumption)) (by decide) ?_
          refine lv_iload_n C.x C.b dX9_holds_106 rfl (lv_at hl 3 rfl) ?_
          refine lv_iconst (v := 1) C.x C.b dX9_holds_107 (by decide) ?_
          refine z_ishl C dX9_holds_108 ?_
          refine lv_iload C.x C.b dX9_holds_109 (lv_at hl 0 rfl) ?_
          refine lv_aload_n C.x C.b dX9_holds_111 rfl (lv_at hl 2 rfl) ?_
          replace hf := bn2_s hf; obtain ⟨v18, M17, hkM17, hf⟩ := hf
          refine z_cS (As := [.int x7, .ref (ad 18 0)]) (rest := [.int (jshl x3 1)]) (st1 := [.int v18, .int (jshl x3 1)]) C Z mw_X9_testHolds mv_X9_testHolds k_564 (by decide) (z_hR hR (by decide)) (c_X9_testHolds (l := l) (K := K) (ad := ad) hkM17) rfl hl.1 rfl (Nat.le_of_ble_eq_true rfl) dX9_holds_112 hB rfl (fun H locs Z => ?_)
          refine lv_if_eq (tgt := 122) C.x C.b dX9_holds_115 (by decide) (fun hc19 => ?_) (fun hc19 => ?_)
          · replace hf := ite_t hf hc19
            refine lv_iconst (v := 0) C.x C.b dX9_holds_122 (by decide) ?_
            refine lv_ior C.x C.b dX9_holds_123 ?_
            replace hf := lt1_s hf; obtain ⟨x20, ex20, hf⟩ := hf
            refine z_renI ex20 ?_
            refine z_istore_n (lv' := [(3, .int x20), (5, .int x7), (0, .ref (ad 19 g0)), (2, .ref (ad 18 0)), (4, .int x4)]) C dX9_holds_124 rfl hl (by decide) rfl (onlast 2 rfl rfl rfl) (fun ls hl => ?_)
            replace hf := lt1_s hf; obtain ⟨x21, ex21, hf⟩ := hf
            refine z_iinc (v := x21) (lv' := [(4, .int x21), (3, .int x20), (5, .int x7), (0, .ref (ad 19 g0)), (2, .ref (ad 18 0))]) C dX9_holds_125 hl (k := 4) rfl (by rw [ex21]; rfl) (by decide) rfl (onlast 0 rfl rfl rfl) (fun ls hl => ?_)
            refine lv_goto (tgt := 9) C.x C.b dX9_holds_128 (by decide) ?_
            exact ih _ _ _ _ _ _ Z (lv_sub hl [3, 4, 1, 0] rfl) _ _ hf kx0
          · replace hf := ite_f hf hc19
            refine lv_iconst (v := 1) C.x C.b dX9_holds_118 (by decide) ?_
            refine lv_goto (tgt := 123) C.x C.b dX9_holds_119 (by decide) ?_
            refine lv_ior C.x C.b dX9_holds_123 ?_
            replace hf := lt1_s hf; obtain ⟨x22, ex22, hf⟩ := hf
            refine z_renI ex22 ?_
            refine z_istore_n (lv' := [(3, .int x22), (5, .int x7), (0, .ref (ad 19 g0)), (2, .ref (ad 18 0)), (4, .int x4)]) C dX9_holds_124 rfl hl (by decide) rfl (onlast 2 rfl rfl rfl) (fun ls hl => ?_)
            replace hf := lt1_s hf; obtain ⟨x23, ex23, hf⟩ := hf
            refine z_iinc (v := x23) (lv' := [(4, .int x23), (3, .int x22), (5, .int x7), (0, .ref (ad 19 g0)), (2, .ref (ad 18 0))]) C dX9_holds_125 hl (k := 4) rfl (by rw [ex23]; rfl) (by decide) rfl (onlast 0 rfl rfl rfl) (fun ls hl => ?_)
            refine lv_goto (tgt := 9) C.x C.b dX9_holds_128 (by decide) ?_
            exact ih _ _ _ _ _ _ Z (lv_sub hl [3, 4, 1, 0] rfl) _ _ hf kx0
set_option maxRecDepth 100000 in
set_option maxHeartbeats 4000000 in
theorem w_X9_holds_b131 {p : Program} {l : Launch} {e : Env} {s : State} {m : MethodId} {args : Array Value} {below : List Frame} {meth : Method} {c : Code} {K : KG} {ad : Nat → Nat → Nat} {fl : Nat} {H : Heap} {locs : List Loc} {ls : Array Slot} {g3 : Int32} {M0 : Mem} {r9 : Int32} {M9 : Mem} (C : Cx p s m args meth c cX9_holds 6 "GlassPalace$Text" (some .boolean)) (hR : 2 ≤ (RM (2) 0 0).frames ∧ 40 * (2) ≤ (RM (2) 0 0).locals) (hB : 0 ≤ (RM (2) 0 0).cells ∧ 0 ≤ (RM (2) 0 0).slots) (Z : Zd K LC ad M0 s H locs) (hl : lv_has ls 6 [(3, .int g3)]) (hf : f_X9_holds_b131 fl g3 M0 = some (r9, M9)) : W p l e (RM (2) 0 0) s m args below meth c H locs 0 0 (MQ below (zQ K LC ad (some (.int r9)) M9) args s 0 0 (zA ad)) (F0 m 131 ls []) := by
  unfold f_X9_holds_b131 at hf
  refine lv_iload_n C.x C.b dX9_holds_131 rfl (lv_at hl 0 rfl) ?_
  refine lv_iconst (v := 1) C.x C.b dX9_holds_132 (by decide) ?_
  refine lv_iand C.x C.b dX9_holds_133 ?_
  refine lv_iconst (v := 1) C.x C.b dX9_holds_134 (by decide) ?_
  refine lv_icmp_ne (tgt := 142) C.x C.b dX9_holds_135 (by decide) (fun hc26 => ?_) (fun hc26 => ?_)
  · replace hf := ite_f hf hc26
    refine lv_iconst (v := 0) C.x C.b dX9_holds_142 (by decide) ?_
    cases hf
    exact z_zret C Z rfl dX9_holds_143
  · replace hf := ite_t hf hc26
    refine lv_iconst (v := 1) C.x C.b dX9_holds_138 (by decide) ?_
    refine lv_goto (tgt := 143) C.x C.b dX9_holds_139 (by decide) ?_
    cases hf
    exact z_zret C Z rfl dX9_holds_143
set_option maxRecDepth 100000 in
set_option maxHeartbeats 4000000 in
theorem c_X9_holds {l : Launch} {K : KG} {ad : Nat → Nat → Nat} {fl : Nat} {o : Nat} {a1 : Int32} {M0 : Mem} {r9 : Int32} {M9 : Mem} (ho : o < 10) (hf : f_X9_holds fl o a1 M0 = some (r9, M9)) : Met l yX9_holds (Cond.code yX9_holds cX9_holds 6 (some .boolean) :: ztb) (RM (2) 0 0) (zPc K LC ad M0 [.ref (ad 19 o), .int a1, .ref (ad 18 0)]) (zQ K LC ad (some (.int r9)) M9) 0 0 (zA ad) := by
  refine z_enter (by decide) (Nat.le_of_ble_eq_true rfl) ?_
  intro p e s m args below meth c ls C hin hargs Z hl
  replace C : Cx p s m args meth c cX9_holds 6 "GlassPalace$Text" (some .boolean) := C
  replace hl : lv_has ls 6 [(0, .ref (ad 19 o)), (1, .int a1), (2, .ref (ad 18 0))] := hl
  have hR : 2 ≤ (RM (2) 0 0).frames ∧ 40 * (2) ≤ (RM (2) 0 0).locals := ⟨Nat.le_refl _, Nat.le_refl _⟩
  have hB : 0 ≤ (RM (2) 0 0).cells ∧ 0 ≤ (RM (2) 0 0).slots := ⟨Nat.zero_le _, Nat.zero_le _⟩
  unfold f_X9_holds at hf
  refine lv_iconst (v := 0) C.x C.b dX9_holds_0 (by decide) ?_
  refine z_istore_n (lv' := [(3, .int 0), (0, .ref (ad 19 o)), (1, .int a1), (2, .ref (ad 18 0))]) C dX9_holds_1 rfl hl (by decide) rfl (onlast 2 rfl rfl rfl) (fun ls hl => ?_)
  refine lv_iload_n C.x C.b dX9_holds_2 rfl (lv_at hl 2 rfl) ?_
  refine lv_iconst (v := 0) C.x C.b dX9_holds_3 (by decide) ?_
  refine z_max C k_561 k_562 k_115 k_563 hl.1 hR (by decide) (Nat.le_of_ble_eq_true rfl) hB dX9_holds_4 ?_
  replace hf := lt1_s hf; obtain ⟨x1, ex1, hf⟩ := hf
  refine z_renI ex1 ?_
  refine z_istore (lv' := [(4, .int x1), (3, .int 0), (0, .ref (ad 19 o)), (1, .int a1), (2, .ref (ad 18 0))]) C dX9_holds_7 hl (by decide) rfl (onlast 0 rfl rfl rfl) (fun ls hl => ?_)
  replace hf := bn2_s hf; obtain ⟨q24, M25, hq24, hf⟩ := hf
  refine w_X9_holds_l9 C hR hB ho fl _ _ _ _ _ _ Z (lv_sub hl [2, 4, 1, 0] rfl) _ _ hq24 (fun H locs ls Z hl => ?_)
  exact w_X9_holds_b131 C hR hB  Z (lv_sub hl [0] rfl) hf
theorem dX6_coinOf_0 : decode cX6_coinOf 0 = .ok (.iconst 0, 1) := by decide +kernel
theorem dX6_coinOf_1 : decode cX6_coinOf 1 = .ok (.istore_n 2, 1) := by decide +kernel
theorem dX6_coinOf_2 : decode cX6_coinOf 2 = .ok (.iconst 0, 1) := by decide +kernel
theorem dX6_coinOf_3 : decode cX6_coinOf 3 = .ok (.istore_n 3, 1) := by decide +kernel
theorem dX6_coinOf_4 : decode cX6_coinOf 4 = .ok (.iload_n 3, 1) := by decide +kernel
theorem dX6_coinOf_5 : decode cX6_coinOf 5 = .ok (.aload_n 0, 1) := by decide +kernel
theorem dX6_coinOf_6 : decode cX6_coinOf 6 = .ok (.getfield 40, 3) := by decide +kernel
theorem dX6_coinOf_9 : decode cX6_coinOf 9 = .ok (.if_icmp .ge 37, 3) := by decide +kernel
theorem dX6_coinOf_12 : decode cX6_coinOf 12 = .ok (.iload_n 3, 1) := by decide +kernel
theorem dX6_coinOf_13 : decode cX6_coinOf 13 = .ok (.bipush 8, 2) := by decide +kernel
theorem dX6_coinOf_15 : decode cX6_coinOf 15 = .ok (.if_icmp .ge 31, 3) := by decide +kernel
theorem dX6_coinOf_18 : decode cX6_coinOf 18 = .ok (.iload_n 2, 1) := by decide +kernel
theorem dX6_coinOf_19 : decode cX6_coinOf 19 = .ok (.iload_n 1, 1) := by decide +kernel
theorem dX6_coinOf_20 : decode cX6_coinOf 20 = .ok (.iload_n 3, 1) := by decide +kernel
theorem dX6_coinOf_21 : decode cX6_coinOf 21 = .ok (.ishr, 1) := by decide +kernel
theorem dX6_coinOf_22 : decode cX6_coinOf 22 = .ok (.iconst 1, 1) := by decide +kernel
theorem dX6_coinOf_23 : decode cX6_coinOf 23 = .ok (.iand, 1) := by decide +kernel
theorem dX6_coinOf_24 : decode cX6_coinOf 24 = .ok (.iconst 1, 1) := by decide +kernel
theorem dX6_coinOf_25 : decode cX6_coinOf 25 = .ok (.if_icmp .ne 12, 3) := by decide +kernel
theorem dX6_coinOf_28 : decode cX6_coinOf 28 = .ok (.aload_n 0, 1) := by decide +kernel
theorem dX6_coinOf_29 : decode cX6_coinOf 29 = .ok (.getfield 33, 3) := by decide +kernel
theorem dX6_coinOf_32 : decode cX6_coinOf 32 = .ok (.iload_n 3, 1) := by decide +kernel
theorem dX6_coinOf_33 : decode cX6_coinOf 33 = .ok (.iaload, 1) := by decide +kernel
theorem dX6_coinOf_34 : decode cX6_coinOf 34 = .ok (.goto 4, 3) := by decide +kernel
theorem dX6_coinOf_37 : decode cX6_coinOf 37 = .ok (.iconst 0, 1) := by decide +kernel
theorem dX6_coinOf_38 : decode cX6_coinOf 38 = .ok (.iadd, 1) := by decide +kernel
theorem dX6_coinOf_39 : decode cX6_coinOf 39 = .ok (.istore_n 2, 1) := by decide +kernel
theorem dX6_coinOf_40 : decode cX6_coinOf 40 = .ok (.iinc 3 1, 3) := by decide +kernel
theorem dX6_coinOf_43 : decode cX6_coinOf 43 = .ok (.goto (-39), 3) := by decide +kernel
theorem dX6_coinOf_46 : decode cX6_coinOf 46 = .ok (.iload_n 2, 1) := by decide +kernel
theorem dX6_coinOf_47 : decode cX6_coinOf 47 = .ok (.ireturn, 1) := by decide +kernel
def f_X6_coinOf_l4_b (rk : Int32 → Int32 → Mem → Option (Int32 × Mem)) (fl : Nat) (g1 : Int32) (x2 : Int32) (x3 : Int32) (M0 : Mem) : Option (Int32 × Mem) :=
  if (gI M0 9 0 1) ≤ x3 then
    some (x2, M0)
  else
    if 8 ≤ x3 then
      some (x2, M0)
    else
      if ((jshr g1 x3) &&& 1) = 1 then
        asr (vq x3 8) <|
        lt1 (x2 + (gI M0 37 0 (Int32.toNatClampNeg x3))) fun (x7 : Int32) =>
        lt1 (x3 + 1) fun (x8 : Int32) =>
        rk x7 x8 M0
      else
        lt1 (x2 + 0) fun (x4 : Int32) =>
        lt1 (x3 + 1) fun (x5 : Int32) =>
        rk x4 x5 M0
def f_X6_coinOf_l4 (fl : Nat) (g1 : Int32) : Nat → Int32 → Int32 → Mem → Option (Int32 × Mem)
  | 0 => fun _ _ _ => none
  | n + 1 => fun x2 x3 M0 => f_X6_coinOf_l4_b (f_X6_coinOf_l4 fl g1 n) fl g1 x2 x3 M0
def f_X6_coinOf (fl : Nat) (a1 : Int32) (M0 : Mem) : Option (Int32 × Mem) :=
  bn2 (f_X6_coinOf_l4 fl a1 fl 0 0 M0) fun (q9 : Int32) M10 =>
  some (q9, M10)
set_option maxRecDepth 100000 in
set_option maxHeartbeats 4000000 in
theorem w_X6_coinOf_l4 {p : Program} {l : Launch} {e : Env} {R : Room} {s : State} {m : MethodId} {args : Array Value} {below : List Frame} {meth : Method} {c : Code} {cells slots : Nat} {Q : State → Prop} {K : KG} {ad : Nat → Nat → Nat} {fl : Nat} {g1 : Int32} (C : Cx p s m args meth c cX6_coinOf 4 "GlassPalace$Plan" (some .int)) (hR : 1 ≤ R.frames ∧ 40 * (1) ≤ R.locals) (hB : cells ≤ R.cells ∧ slots ≤ R.slots) : ∀ (n : Nat) (x2 : Int32) (x3 : Int32) (M0 : Mem) (H : Heap) (locs : List Loc) (ls : Array Slot), Zd K LC ad M0 s H locs → lv_has ls 4 [(0, .ref (ad 9 0)), (1, .int g1), (2, .int x2), (3, .int x3)] → ∀ (q : Int32) (Mq : Mem), f_X6_coinOf_l4 fl g1 n x2 x3 M0 = some (q, Mq) → (∀ (H : Heap) (locs : List Loc) (ls : Array Slot), Zd K LC ad Mq s H locs → lv_has ls 4 [(2, .int q)] → W p l e R s m args below meth c H locs cells slots Q (F0 m 46 ls [])) → W p l e R s m args below meth c H locs cells slots Q (F0 m 4 ls []) := by
  intro n
  induction n with
  | zero =>
    intro x2 x3 M0 H locs ls Z hl q Mq hf
    have hf : (none : Option (Int32 × Mem)) = some (q, Mq) := hf
    cases hf
  | succ n ih =>
    intro x2 x3 M0 H locs ls Z hl q Mq hf kx0
    replace hf : f_X6_coinOf_l4_b (f_X6_coinOf_l4 fl g1 n) fl g1 x2 x3 M0 = some (q, Mq) := hf
    unfold f_X6_coinOf_l4_b at hf
    refine lv_iload_n C.x C.b dX6_coinOf_4 rfl (lv_at hl 3 rfl) ?_
    refine lv_aload_n C.x C.b dX6_coinOf_5 rfl (lv_at hl 0 rfl) ?_
    refine z_get C Z (lvC9 Nat.zero_lt_one) kC9 zc6 zin6 1 (by decide) k_236 rfl svC9_1 dX6_coinOf_6 ?_
    refine lv_icmp_ge (tgt := 46) C.x C.b dX6_coinOf_9 (by decide) (fun hc1 => ?_) (fun hc1 => ?_)
    · replace hf := ite_t hf hc1
      cases hf
      exact kx0 _ _ _ Z (lv_sub hl [2] rfl)
    · replace hf := ite_f hf hc1
      refine lv_iload_n C.x C.b dX6_coinOf_12 rfl (lv_at hl 3 rfl) ?_
      refine lv_bipush (v := 8) C.x C.b dX6_coinOf_13 (by decide) ?_
      refine lv_icmp_ge (tgt := 46) C.x C.b dX6_coinOf_15 (by decide) (fun hc2 => ?_) (fun hc2 => ?_)
      · replace hf := ite_t hf hc2
        cases hf
        exact kx0 _ _ _ Z (lv_sub hl [2] rfl)
      · replace hf := ite_f hf hc2
        refine lv_iload_n C.x C.b dX6_coinOf_18 rfl (lv_at hl 2 rfl) ?_
        refine lv_iload_n C.x C.b dX6_coinOf_19 rfl (lv_at hl 1 rfl) ?_
        refine lv_iload_n C.x C.b dX6_coinOf_20 rfl (lv_at hl 3 rfl) ?_
        refine z_ishr C dX6_coinOf_21 ?_
        refine lv_iconst (v := 1) C.x C.b dX6_coinOf_22 (by decide) ?_
        refine lv_iand C.x C.b dX6_coinOf_23 ?_
        refine lv_iconst (v := 1) C.x C.b dX6_coinOf_24 (by decide) ?_
        refine lv_icmp_ne (tgt := 37) C.x C.b dX6_coinOf_25 (by decide) (fun hc3 => ?_) (fun hc3 => ?_)
        · replace hf := ite_f hf hc3
          refine lv_iconst (v := 0) C.x C.b dX6_coinOf_37 (by decide) ?_
          refine lv_iadd C.x C.b dX6_coinOf_38 ?_
          replace hf := lt1_s hf; obtain ⟨x4, ex4, hf⟩ := hf
          refine z_renI ex4 ?_
          refine z_istore_n (lv' := [(2, .int x4), (0, .ref (ad 9 0)), (1, .int g1), (3, .int x3)]) C dX6_coinOf_39 rfl hl (by decide) rfl (onlast 1 rfl rfl rfl) (fun ls hl => ?_)
          replace hf := lt1_s hf; obtain ⟨x5, ex5, hf⟩ := hf
          refine z_iinc (v := x5) (lv' := [(3, .int x5), (2, .int x4), (0, .ref (ad 9 0)), (1, .int g1)]) C dX6_coinOf_40 hl (k := 3) rfl (by rw [ex5]; rfl) (by decide) rfl (onlast 0 rfl rfl rfl) (fun ls hl => ?_)
          refine lv_goto (tgt := 4) C.x C.b dX6_coinOf_43 (by decide) ?_
          exact ih _ _ _ _ _ _ Z (lv_sub hl [2, 3, 1, 0] rfl) _ _ hf kx0
        · replace hf := ite_t hf hc3
          refine lv_aload_n C.x C.b dX6_coinOf_28 rfl (lv_at hl 0 rfl) ?_
          refine z_get C Z (lvC9 Nat.zero_lt_one) kC9 zc6 zin6 9 (by decide) k_248 rfl svC9_9 dX6_coinOf_29 ?_
          refine lv_iload_n C.x C.b dX6_coinOf_32 rfl (lv_at hl 3 rfl) ?_
          replace hf := asr_s hf; obtain ⟨hq6, hf⟩ := hf
          refine z_iald C Z (lvC37 Nat.zero_lt_one) kC37 hq6 svC37 dX6_coinOf_33 ?_
          refine lv_goto (tgt := 38) C.x C.b dX6_coinOf_34 (by decide) ?_
          refine lv_iadd C.x C.b dX6_coinOf_38 ?_
          replace hf := lt1_s hf; obtain ⟨x7, ex7, hf⟩ := hf
          refine z_renI ex7 ?_
          refine z_istore_n (lv' := [(2, .int x7), (0, .ref (ad 9 0)), (1, .int g1), (3, .int x3)]) C dX6_coinOf_39 rfl hl (by decide) rfl (onlast 1 rfl rfl rfl) (fun ls hl => ?_)
          replace hf := lt1_s hf; obtain ⟨x8, ex8, hf⟩ := hf
          refine z_iinc (v := x8) (lv' := [(3, .int x8), (2, .int x7), (0, .ref (ad 9 0)), (1, .int g1)]) C dX6_coinOf_40 hl (k := 3) rfl (by rw [ex8]; rfl) (by decide) rfl (onlast 0 rfl rfl rfl) (fun ls hl => ?_)
          refine lv_goto (tgt := 4) C.x C.b dX6_coinOf_43 (by decide) ?_
          exact ih _ _ _ _ _ _ Z (lv_sub hl [2, 3, 1, 0] rfl) _ _ hf kx0
set_option maxRecDepth 100000 in
set_option maxHeartbeats 4000000 in
theorem c_X6_coinOf {l : Launch} {K : KG} {ad : Nat → Nat → Nat} {fl : Nat} {a1 : Int32} {M0 : Mem} {r9 : Int32} {M9 : Mem} (hf : f_X6_coinOf fl a1 M0 = some (r9, M9)) : Met l yX6_coinOf (Cond.code yX6_coinOf cX6_coinOf 4 (some .int) :: ztb) (RM (1) 0 0) (zPc K LC ad M0 [.ref (ad 9 0), .int a1]) (zQ K LC ad (some (.int r9)) M9) 0 0 (zA ad) := by
  refine z_enter (by decide) (Nat.le_of_ble_eq_true rfl) ?_
  intro p e s m args below meth c ls C hin hargs Z hl
  replace C : Cx p s m args meth c cX6_coinOf 4 "GlassPalace$Plan" (some .int) := C
  replace hl : lv_has ls 4 [(0, .ref (ad 9 0)), (1, .int a1)] := hl
  have hR : 1 ≤ (RM (1) 0 0).frames ∧ 40 * (1) ≤ (RM (1) 0 0).locals := ⟨Nat.le_refl _, Nat.le_refl _⟩
  have hB : 0 ≤ (RM (1) 0 0).cells ∧ 0 ≤ (RM (1) 0 0).slots := ⟨Nat.zero_le _, Nat.zero_le _⟩
  unfold f_X6_coinOf at hf
  refine lv_iconst (v := 0) C.x C.b dX6_coinOf_0 (by decide) ?_
  refine z_istore_n (lv' := [(2, .int 0), (0, .ref (ad 9 0)), (1, .int a1)]) C dX6_coinOf_1 rfl hl (by decide) rfl (onlast 1 rfl rfl rfl) (fun ls hl => ?_)
  refine lv_iconst (v := 0) C.x C.b dX6_coinOf_2 (by decide) ?_
  refine z_istore_n (lv' := [(3, .int 0), (2, .int 0), (0, .ref (ad 9 0)), (1, .int a1)]) C dX6_coinOf_3 rfl hl (by decide) rfl (onlast 0 rfl rfl rfl) (fun ls hl => ?_)
  replace hf := bn2_s hf; obtain ⟨q9, M10, hq9, hf⟩ := hf
  refine w_X6_coinOf_l4 C hR hB  fl _ _ _ _ _ _ Z (lv_sub hl [2, 3, 1, 0] rfl) _ _ hq9 (fun H locs ls Z hl => ?_)
  refine lv_iload_n C.x C.b dX6_coinOf_46 rfl (lv_at hl 0 rfl) ?_
  cases hf
  exact z_iret C Z dX6_coinOf_47
theorem dJ6_bitCount_0f7a4_0 : decode cJ6_bitCount_0f7a4 0 = .ok (.iload_n 0, 1) := by decide +kernel
theorem dJ6_bitCount_0f7a4_1 : decode cJ6_bitCount_0f7a4 1 = .ok (.iload_n 0, 1) := by decide +kernel
theorem dJ6_bitCount_0f7a4_2 : decode cJ6_bitCount_0f7a4 2 = .ok (.iconst 1, 1) := by decide +kernel
theorem dJ6_bitCount_0f7a4_3 : decode cJ6_bitCount_0f7a4 3 = .ok (.iushr, 1) := by decide +kernel
theorem dJ6_bitCount_0f7a4_4 : decode cJ6_bitCount_0f7a4 4 = .ok (.ldc_w 265, 3) := by decide +kernel
theorem dJ6_bitCount_0f7a4_7 : decode cJ6_bitCount_0f7a4 7 = .ok (.iand, 1) := by decide +kernel
theorem dJ6_bitCount_0f7a4_8 : decode cJ6_bitCount_0f7a4 8 = .ok (.isub, 1) := by decide +kernel
theorem dJ6_bitCount_0f7a4_9 : decode cJ6_bitCount_0f7a4 9 = .ok (.istore_n 0, 1) := by decide +kernel
theorem dJ6_bitCount_0f7a4_10 : decode cJ6_bitCount_0f7a4 10 = .ok (.iload_n 0, 1) := by decide +kernel
theorem dJ6_bitCount_0f7a4_11 : decode cJ6_bitCount_0f7a4 11 = .ok (.ldc_w 266, 3) := by decide +kernel
theorem dJ6_bitCount_0f7a4_14 : decode cJ6_bitCount_0f7a4 14 = .ok (.iand, 1) := by decide +kernel
theorem dJ6_bitCount_0f7a4_15 : decode cJ6_bitCount_0f7a4 15 = .ok (.iload_n 0, 1) := by decide +kernel
theorem dJ6_bitCount_0f7a4_16 : decode cJ6_bitCount_0f7a4 16 = .ok (.iconst 2, 1) := by decide +kernel
theorem dJ6_bitCount_0f7a4_17 : decode cJ6_bitCount_0f7a4 17 = .ok (.iushr, 1) := by decide +kernel
theorem dJ6_bitCount_0f7a4_18 : decode cJ6_bitCount_0f7a4 18 = .ok (.ldc_w 266, 3) := by decide +kernel
theorem dJ6_bitCount_0f7a4_21 : decode cJ6_bitCount_0f7a4 21 = .ok (.iand, 1) := by decide +kernel
theorem dJ6_bitCount_0f7a4_22 : decode cJ6_bitCount_0f7a4 22 = .ok (.iadd, 1) := by decide +kernel
theorem dJ6_bitCount_0f7a4_23 : decode cJ6_bitCount_0f7a4 23 = .ok (.istore_n 0, 1) := by decide +kernel
theorem dJ6_bitCount_0f7a4_24 : decode cJ6_bitCount_0f7a4 24 = .ok (.iload_n 0, 1) := by decide +kernel
theorem dJ6_bitCount_0f7a4_25 : decode cJ6_bitCount_0f7a4 25 = .ok (.iload_n 0, 1) := by decide +kernel
theorem dJ6_bitCount_0f7a4_26 : decode cJ6_bitCount_0f7a4 26 = .ok (.iconst 4, 1) := by decide +kernel
theorem dJ6_bitCount_0f7a4_27 : decode cJ6_bitCount_0f7a4 27 = .ok (.iushr, 1) := by decide +kernel
theorem dJ6_bitCount_0f7a4_28 : decode cJ6_bitCount_0f7a4 28 = .ok (.iadd, 1) := by decide +kernel
theorem dJ6_bitCount_0f7a4_29 : decode cJ6_bitCount_0f7a4 29 = .ok (.ldc_w 267, 3) := by decide +kernel
theorem dJ6_bitCount_0f7a4_32 : decode cJ6_bitCount_0f7a4 32 = .ok (.iand, 1) := by decide +kernel
theorem dJ6_bitCount_0f7a4_33 : decode cJ6_bitCount_0f7a4 33 = .ok (.istore_n 0, 1) := by decide +kernel
theorem dJ6_bitCount_0f7a4_34 : decode cJ6_bitCount_0f7a4 34 = .ok (.iload_n 0, 1) := by decide +kernel
theorem dJ6_bitCount_0f7a4_35 : decode cJ6_bitCount_0f7a4 35 = .ok (.iload_n 0, 1) := by decide +kernel
theorem dJ6_bitCount_0f7a4_36 : decode cJ6_bitCount_0f7a4 36 = .ok (.bipush 8, 2) := by decide +kernel
theorem dJ6_bitCount_0f7a4_38 : decode cJ6_bitCount_0f7a4 38 = .ok (.iushr, 1) := by decide +kernel
theorem dJ6_bitCount_0f7a4_39 : decode cJ6_bitCount_0f7a4 39 = .ok (.iadd, 1) := by decide +kernel
theorem dJ6_bitCount_0f7a4_40 : decode cJ6_bitCount_0f7a4 40 = .ok (.istore_n 0, 1) := by decide +kernel
theorem dJ6_bitCount_0f7a4_41 : decode cJ6_bitCount_0f7a4 41 = .ok (.iload_n 0, 1) := by decide +kernel
theorem dJ6_bitCount_0f7a4_42 : decode cJ6_bitCount_0f7a4 42 = .ok (.iload_n 0, 1) := by decide +kernel
theorem dJ6_bitCount_0f7a4_43 : decode cJ6_bitCount_0f7a4 43 = .ok (.bipush 16, 2) := by decide +kernel
theorem dJ6_bitCount_0f7a4_45 : decode cJ6_bitCount_0f7a4 45 = .ok (.iushr, 1) := by decide +kernel
theorem dJ6_bitCount_0f7a4_46 : decode cJ6_bitCount_0f7a4 46 = .ok (.iadd, 1) := by decide +kernel
theorem dJ6_bitCount_0f7a4_47 : decode cJ6_bitCount_0f7a4 47 = .ok (.istore_n 0, 1) := by decide +kernel
theorem dJ6_bitCount_0f7a4_48 : decode cJ6_bitCount_0f7a4 48 = .ok (.iload_n 0, 1) := by decide +kernel
theorem dJ6_bitCount_0f7a4_49 : decode cJ6_bitCount_0f7a4 49 = .ok (.bipush 63, 2) := by decide +kernel
theorem dJ6_bitCount_0f7a4_51 : decode cJ6_bitCount_0f7a4 51 = .ok (.iand, 1) := by decide +kernel
theorem dJ6_bitCount_0f7a4_52 : decode cJ6_bitCount_0f7a4 52 = .ok (.ireturn, 1) := by decide +kernel
def f_J6_bitCount_0f7a4 (fl : Nat) (a1 : Int32) (M0 : Mem) : Option (Int32 × Mem) :=
  lt1 (a1 - ((jushr a1 1) &&& 1431655765)) fun (x1 : Int32) =>
  lt1 ((x1 &&& 858993459) + ((jushr x1 2) &&& 858993459)) fun (x2 : Int32) =>
  lt1 ((x2 + (jushr x2 4)) &&& 252645135) fun (x3 : Int32) =>
  lt1 (x3 + (jushr x3 8)) fun (x4 : Int32) =>
  lt1 (x4 + (jushr x4 16)) fun (x5 : Int32) =>
  some ((x5 &&& 63), M0)
set_option maxRecDepth 100000 in
set_option maxHeartbeats 4000000 in
theorem c_J6_bitCount_0f7a4 {l : Launch} {K : KG} {ad : Nat → Nat → Nat} {fl : Nat} {a1 : Int32} {M0 : Mem} {r9 : Int32} {M9 : Mem} (hf : f_J6_bitCount_0f7a4 fl a1 M0 = some (r9, M9)) : Met l yJ6_bitCount_0f7a4 (Cond.code yJ6_bitCount_0f7a4 cJ6_bitCount_0f7a4 1 (some .int) :: ztb) (RM (1) 0 0) (zPc K LC ad M0 [.int a1]) (zQ K LC ad (some (.int r9)) M9) 0 0 (zA ad) := by
  refine z_enter (by decide) (Nat.le_of_ble_eq_true rfl) ?_
  intro p e s m args below meth c ls C hin hargs Z hl
  replace C : Cx p s m args meth c cJ6_bitCount_0f7a4 1 "java/lang/Integer" (some .int) := C
  replace hl : lv_has ls 1 [(0, .int a1)] := hl
  have hR : 1 ≤ (RM (1) 0 0).frames ∧ 40 * (1) ≤ (RM (1) 0 0).locals := ⟨Nat.le_refl _, Nat.le_refl _⟩
  have hB : 0 ≤ (RM (1) 0 0).cells ∧ 0 ≤ (RM (1) 0 0).slots := ⟨Nat.zero_le _, Nat.zero_le _⟩
  unfold f_J6_bitCount_0f7a4 at hf
  refine lv_iload_n C.x C.b dJ6_bitCount_0f7a4_0 rfl (lv_at hl 0 rfl) ?_
  refine lv_iload_n C.x C.b dJ6_bitCount_0f7a4_1 rfl (lv_at hl 0 rfl) ?_
  refine lv_iconst (v := 1) C.x C.b dJ6_bitCount_0f7a4_2 (by decide) ?_
  refine z_iushr C dJ6_bitCount_0f7a4_3 ?_
  refine lv_ldcw (v := 1431655765) C.x C.b C.o (C.w k_1017) dJ6_bitCount_0f7a4_4 ?_
  refine lv_iand C.x C.b dJ6_bitCount_0f7a4_7 ?_
  refine lv_isub C.x C.b dJ6_bitCount_0f7a4_8 ?_
  replace hf := lt1_s hf; obtain ⟨x1, ex1, hf⟩ := hf
  refine z_renI ex1 ?_
  refine z_istore_n (lv' := [(0, .int x1)]) C dJ6_bitCount_0f7a4_9 rfl hl (by decide) rfl (nolast rfl) (fun ls hl => ?_)
  refine lv_iload_n C.x C.b dJ6_bitCount_0f7a4_10 rfl (lv_at hl 0 rfl) ?_
  refine lv_ldcw (v := 858993459) C.x C.b C.o (C.w k_1018) dJ6_bitCount_0f7a4_11 ?_
  refine lv_iand C.x C.b dJ6_bitCount_0f7a4_14 ?_
  refine lv_iload_n C.x C.b dJ6_bitCount_0f7a4_15 rfl (lv_at hl 0 rfl) ?_
  refine lv_iconst (v := 2) C.x C.b dJ6_bitCount_0f7a4_16 (by decide) ?_
  refine z_iushr C dJ6_bitCount_0f7a4_17 ?_
  refine lv_ldcw (v := 858993459) C.x C.b C.o (C.w k_1018) dJ6_bitCount_0f7a4_18 ?_
  refine lv_iand C.x C.b dJ6_bitCount_0f7a4_21 ?_
  refine lv_iadd C.x C.b dJ6_bitCount_0f7a4_22 ?_
  replace hf := lt1_s hf; obtain ⟨x2, ex2, hf⟩ := hf
  refine z_renI ex2 ?_
  refine z_istore_n (lv' := [(0, .int x2)]) C dJ6_bitCount_0f7a4_23 rfl hl (by decide) rfl (nolast rfl) (fun ls hl => ?_)
  refine lv_iload_n C.x C.b dJ6_bitCount_0f7a4_24 rfl (lv_at hl 0 rfl) ?_
  refine lv_iload_n C.x C.b dJ6_bitCount_0f7a4_25 rfl (lv_at hl 0 rfl) ?_
  refine lv_iconst (v := 4) C.x C.b dJ6_bitCount_0f7a4_26 (by decide) ?_
  refine z_iushr C dJ6_bitCount_0f7a4_27 ?_
  refine lv_iadd C.x C.b dJ6_bitCount_0f7a4_28 ?_
  refine lv_ldcw (v := 252645135) C.x C.b C.o (C.w k_1019) dJ6_bitCount_0f7a4_29 ?_
  refine lv_iand C.x C.b dJ6_bitCount_0f7a4_32 ?_
  replace hf := lt1_s hf; obtain ⟨x3, ex3, hf⟩ := hf
  refine z_renI ex3 ?_
  refine z_istore_n (lv' := [(0, .int x3)]) C dJ6_bitCount_0f7a4_33 rfl hl (by decide) rfl (nolast rfl) (fun ls hl => ?_)
  refine lv_iload_n C.x C.b dJ6_bitCount_0f7a4_34 rfl (lv_at hl 0 rfl) ?_
  refine lv_iload_n C.x C.b dJ6_bitCount_0f7a4_35 rfl (lv_at hl 0 rfl) ?_
  refine lv_bipush (v := 8) C.x C.b dJ6_bitCount_0f7a4_36 (by decide) ?_
  refine z_iushr C dJ6_bitCount_0f7a4_38 ?_
  refine lv_iadd C.x C.b dJ6_bitCount_0f7a4_39 ?_
  replace hf := lt1_s hf; obtain ⟨x4, ex4, hf⟩ := hf
  refine z_renI ex4 ?_
  refine z_istore_n (lv' := [(0, .int x4)]) C dJ6_bitCount_0f7a4_40 rfl hl (by decide) rfl (nolast rfl) (fun ls hl => ?_)
  refine lv_iload_n C.x C.b dJ6_bitCount_0f7a4_41 rfl (lv_at hl 0 rfl) ?_
  refine lv_iload_n C.x C.b dJ6_bitCount_0f7a4_42 rfl (lv_at hl 0 rfl) ?_
  refine lv_bipush (v := 16) C.x C.b dJ6_bitCount_0f7a4_43 (by decide) ?_
  refine z_iushr C dJ6_bitCount_0f7a4_45 ?_
  refine lv_iadd C.x C.b dJ6_bitCount_0f7a4_46 ?_
  replace hf := lt1_s hf; obtain ⟨x5, ex5, hf⟩ := hf
  refine z_renI ex5 ?_
  refine z_istore_n (lv' := [(0, .int x5)]) C dJ6_bitCount_0f7a4_47 rfl hl (by decide) rfl (nolast rfl) (fun ls hl => ?_)
  refine lv_iload_n C.x C.b dJ6_bitCount_0f7a4_48 rfl (lv_at hl 0 rfl) ?_
  refine lv_bipush (v := 63) C.x C.b dJ6_bitCount_0f7a4_49 (by decide) ?_
  refine lv_iand C.x C.b dJ6_bitCount_0f7a4_51 ?_
  cases hf
  exact z_iret C Z dJ6_bitCount_0f7a4_52
theorem dX6_addedFor_0 : decode cX6_addedFor 0 = .ok (.iconst 0, 1) := by decide +kernel
theorem dX6_addedFor_1 : decode cX6_addedFor 1 = .ok (.istore_n 3, 1) := by decide +kernel
theorem dX6_addedFor_2 : decode cX6_addedFor 2 = .ok (.iconst 0, 1) := by decide +kernel
theorem dX6_addedFor_3 : decode cX6_addedFor 3 = .ok (.istore 4, 2) := by decide +kernel
theorem dX6_addedFor_5 : decode cX6_addedFor 5 = .ok (.iload 4, 2) := by decide +kernel
theorem dX6_addedFor_7 : decode cX6_addedFor 7 = .ok (.aload_n 0, 1) := by decide +kernel
theorem dX6_addedFor_8 : decode cX6_addedFor 8 = .ok (.getfield 40, 3) := by decide +kernel
theorem dX6_addedFor_11 : decode cX6_addedFor 11 = .ok (.if_icmp .ge 68, 3) := by decide +kernel
theorem dX6_addedFor_14 : decode cX6_addedFor 14 = .ok (.iload 4, 2) := by decide +kernel
theorem dX6_addedFor_16 : decode cX6_addedFor 16 = .ok (.bipush 8, 2) := by decide +kernel
theorem dX6_addedFor_18 : decode cX6_addedFor 18 = .ok (.if_icmp .ge 61, 3) := by decide +kernel
theorem dX6_addedFor_21 : decode cX6_addedFor 21 = .ok (.iload_n 1, 1) := by decide +kernel
theorem dX6_addedFor_22 : decode cX6_addedFor 22 = .ok (.iload 4, 2) := by decide +kernel
theorem dX6_addedFor_24 : decode cX6_addedFor 24 = .ok (.ishr, 1) := by decide +kernel
theorem dX6_addedFor_25 : decode cX6_addedFor 25 = .ok (.iconst 1, 1) := by decide +kernel
theorem dX6_addedFor_26 : decode cX6_addedFor 26 = .ok (.iand, 1) := by decide +kernel
theorem dX6_addedFor_27 : decode cX6_addedFor 27 = .ok (.iconst 1, 1) := by decide +kernel
theorem dX6_addedFor_28 : decode cX6_addedFor 28 = .ok (.if_icmp .ne 45, 3) := by decide +kernel
theorem dX6_addedFor_31 : decode cX6_addedFor 31 = .ok (.aload_n 0, 1) := by decide +kernel
theorem dX6_addedFor_32 : decode cX6_addedFor 32 = .ok (.getfield 24, 3) := by decide +kernel
theorem dX6_addedFor_35 : decode cX6_addedFor 35 = .ok (.iload 4, 2) := by decide +kernel
theorem dX6_addedFor_37 : decode cX6_addedFor 37 = .ok (.iaload, 1) := by decide +kernel
theorem dX6_addedFor_38 : decode cX6_addedFor 38 = .ok (.aload_n 0, 1) := by decide +kernel
theorem dX6_addedFor_39 : decode cX6_addedFor 39 = .ok (.getfield 9, 3) := by decide +kernel
theorem dX6_addedFor_42 : decode cX6_addedFor 42 = .ok (.iload_n 2, 1) := by decide +kernel
theorem dX6_addedFor_43 : decode cX6_addedFor 43 = .ok (.iaload, 1) := by decide +kernel
theorem dX6_addedFor_44 : decode cX6_addedFor 44 = .ok (.if_icmp .ne 29, 3) := by decide +kernel
theorem dX6_addedFor_47 : decode cX6_addedFor 47 = .ok (.aload_n 0, 1) := by decide +kernel
theorem dX6_addedFor_48 : decode cX6_addedFor 48 = .ok (.getfield 30, 3) := by decide +kernel
theorem dX6_addedFor_51 : decode cX6_addedFor 51 = .ok (.iload 4, 2) := by decide +kernel
theorem dX6_addedFor_53 : decode cX6_addedFor 53 = .ok (.iaload, 1) := by decide +kernel
theorem dX6_addedFor_54 : decode cX6_addedFor 54 = .ok (.aload_n 0, 1) := by decide +kernel
theorem dX6_addedFor_55 : decode cX6_addedFor 55 = .ok (.getfield 15, 3) := by decide +kernel
theorem dX6_addedFor_58 : decode cX6_addedFor 58 = .ok (.iload_n 2, 1) := by decide +kernel
theorem dX6_addedFor_59 : decode cX6_addedFor 59 = .ok (.iaload, 1) := by decide +kernel
theorem dX6_addedFor_60 : decode cX6_addedFor 60 = .ok (.if_icmp .gt 13, 3) := by decide +kernel
theorem dX6_addedFor_63 : decode cX6_addedFor 63 = .ok (.iload_n 3, 1) := by decide +kernel
theorem dX6_addedFor_64 : decode cX6_addedFor 64 = .ok (.aload_n 0, 1) := by decide +kernel
theorem dX6_addedFor_65 : decode cX6_addedFor 65 = .ok (.getfield 27, 3) := by decide +kernel
theorem dX6_addedFor_68 : decode cX6_addedFor 68 = .ok (.iload 4, 2) := by decide +kernel
theorem dX6_addedFor_70 : decode cX6_addedFor 70 = .ok (.iaload, 1) := by decide +kernel
theorem dX6_addedFor_71 : decode cX6_addedFor 71 = .ok (.iadd, 1) := by decide +kernel
theorem dX6_addedFor_72 : decode cX6_addedFor 72 = .ok (.istore_n 3, 1) := by decide +kernel
theorem dX6_addedFor_73 : decode cX6_addedFor 73 = .ok (.iinc 4 1, 3) := by decide +kernel
theorem dX6_addedFor_76 : decode cX6_addedFor 76 = .ok (.goto (-71), 3) := by decide +kernel
theorem dX6_addedFor_79 : decode cX6_addedFor 79 = .ok (.iload_n 3, 1) := by decide +kernel
theorem dX6_addedFor_80 : decode cX6_addedFor 80 = .ok (.ireturn, 1) := by decide +kernel
def f_X6_addedFor_l5_b (rk : Int32 → Int32 → Mem → Option (Int32 × Mem)) (fl : Nat) (g1 : Int32) (g2 : Int32) (x3 : Int32) (x4 : Int32) (M0 : Mem) : Option (Int32 × Mem) :=
  if (gI M0 9 0 1) ≤ x4 then
    some (x3, M0)
  else
    if 8 ≤ x4 then
      some (x3, M0)
    else
      if ((jshr g1 x4) &&& 1) = 1 then
        asr (vq x4 8) <|
        asr (vq g2 20) <|
        if (gI M0 34 0 (Int32.toNatClampNeg x4)) = (gI M0 30 0 (Int32.toNatClampNeg g2)) then
          asr (vq x4 8) <|
          asr (vq g2 20) <|
          if (gI M0 31 0 (Int32.toNatClampNeg g2)) < (gI M0 36 0 (Int32.toNatClampNeg x4)) then
            lt1 (x4 + 1) fun (x12 : Int32) =>
            rk x3 x12 M0
          else
            asr (vq x4 8) <|
            lt1 (x3 + (gI M0 35 0 (Int32.toNatClampNeg x4))) fun (x14 : Int32) =>
            lt1 (x4 + 1) fun (x15 : Int32) =>
            rk x14 x15 M0
        else
          lt1 (x4 + 1) fun (x8 : Int32) =>
          rk x3 x8 M0
      else
        lt1 (x4 + 1) fun (x4 : Int32) =>
        rk x3 x4 M0
def f_X6_addedFor_l5 (fl : Nat) (g1 : Int32) (g2 : Int32) : Nat → Int32 → Int32 → Mem → Option (Int32 × Mem)
  | 0 => fun _ _ _ => none
  | n + 1 => fun x3 x4 M0 => f_X6_addedFor_l5_b (f_X6_addedFor_l5 fl g1 g2 n) fl g1 g2 x3 x4 M0
def f_X6_addedFor (fl : Nat) (a1 : Int32) (a2 : Int32) (M0 : Mem) : Option (Int32 × Mem) :=
  bn2 (f_X6_addedFor_l5 fl a1 a2 fl 0 0 M0) fun (q16 : Int32) M17 =>
  some (q16, M17)
set_option maxRecDepth 100000 in
set_option maxHeartbeats 4000000 in
theorem w_X6_addedFor_l5 {p : Program} {l : Launch} {e : Env} {R : Room} {s : State} {m : MethodId} {args : Array Value} {below : List Frame} {meth : Method} {c : Code} {cells slots : Nat} {Q : State → Prop} {K : KG} {ad : Nat → Nat → Nat} {fl : Nat} {g1 : Int32} {g2 : Int32} (C : Cx p s m args meth c cX6_addedFor 5 "GlassPalace$Plan" (some .int)) (hR : 1 ≤ R.frames ∧ 40 * (1) ≤ R.locals) (hB : cells ≤ R.cells ∧ slots ≤ R.slots) : ∀ (n : Nat) (x3 : Int32) (x4 : Int32) (M0 : Mem) (H : Heap) (locs : List Loc) (ls : Array Slot), Zd K LC ad M0 s H locs → lv_has ls 5 [(0, .ref (ad 9 0)), (1, .int g1), (2, .int g2), (3, .int x3), (4, .int x4)] → ∀ (q : Int32) (Mq : Mem), f_X6_addedFor_l5 fl g1 g2 n x3 x4 M0 = some (q, Mq) → (∀ (H : Heap) (locs : List Loc) (ls : Array Slot), Zd K LC ad Mq s H locs → lv_has ls 5 [(3, .int q)] → W p l e R s m args below meth c H locs cells slots Q (F0 m 79 ls [])) → W p l e R s m args below meth c H locs cells slots Q (F0 m 5 ls []) := by
  intro n
  induction n with
  | zero =>
    intro x3 x4 M0 H locs ls Z hl q Mq hf
    have hf : (none : Option (Int32 × Mem)) = some (q, Mq) := hf
    cases hf
  | succ n ih =>
    intro x3 x4 M0 H locs ls Z hl q Mq hf kx0
    replace hf : f_X6_addedFor_l5_b (f_X6_addedFor_l5 fl g1 g2 n) fl g1 g2 x3 x4 M0 = some (q, Mq) := hf
    unfold f_X6_addedFor_l5_b at hf
    refine lv_iload C.x C.b dX6_addedFor_5 (lv_at hl 4 rfl) ?_
    refine lv_aload_n C.x C.b dX6_addedFor_7 rfl (lv_at hl 0 rfl) ?_
    refine z_get C Z (lvC9 Nat.zero_lt_one) kC9 zc6 zin6 1 (by decide) k_236 rfl svC9_1 dX6_addedFor_8 ?_
    refine lv_icmp_ge (tgt := 79) C.x C.b dX6_addedFor_11 (by decide) (fun hc1 => ?_) (fun hc1 => ?_)
    · replace hf := ite_t hf hc1
      cases hf
      exact kx0 _ _ _ Z (lv_sub hl [3] rfl)
    · replace hf := ite_f hf hc1
      refine lv_iload C.x C.b dX6_addedFor_14 (lv_at hl 4 rfl) ?_
      refine lv_bipush (v := 8) C.x C.b dX6_addedFor_16 (by decide) ?_
      refine lv_icmp_ge (tgt := 79) C.x C.b dX6_addedFor_18 (by decide) (fun hc2 => ?_) (fun hc2 => ?_)
      · replace hf := ite_t hf hc2
        cases hf
        exact kx0 _ _ _ Z (lv_sub hl [3] rfl)
      · replace hf := ite_f hf hc2
        refine lv_iload_n C.x C.b dX6_addedFor_21 rfl (lv_at hl 1 rfl) ?_
        refine lv_iload C.x C.b dX6_addedFor_22 (lv_at hl 4 rfl) ?_
        refine z_ishr C dX6_addedFor_24 ?_
        refine lv_iconst (v := 1) C.x C.b dX6_addedFor_25 (by decide) ?_
        refine lv_iand C.x C.b dX6_addedFor_26 ?_
        refine lv_iconst (v := 1) C.x C.b dX6_addedFor_27 (by decide) ?_
        refine lv_icmp_ne (tgt := 73) C.x C.b dX6_addedFor_28 (by decide) (fun hc3 => ?_) (fun hc3 => ?_)
        · replace hf := ite_f hf hc3
          replace hf := lt1_s hf; obtain ⟨x4, ex4, hf⟩ := hf
          refine z_iinc (v := x4) (lv' := [(4, .int x4), (0, .ref (ad 9 0)), (1, .int g1), (2, .int g2), (3, .int x3)]) C dX6_addedFor_73 hl (k := 4) rfl (by rw [ex4]; rfl) (by decide) rfl (onlast 3 rfl rfl rfl) (fun ls hl => ?_)
          refine lv_goto (tgt := 5) C.x C.b dX6_addedFor_76 (by decide) ?_
          exact ih _ _ _ _ _ _ Z (lv_sub hl [1, 2, 3, 4, 0] rfl) _ _ hf kx0
        · replace hf := ite_t hf hc3
          refine lv_aload_n C.x C.b dX6_addedFor_31 rfl (lv_at hl 0 rfl) ?_
          refine z_get C Z (lvC9 Nat.zero_lt_one) kC9 zc6 zin6 6 (by decide) k_245 rfl svC9_6 dX6_addedFor_32 ?_
          refine lv_iload C.x C.b dX6_addedFor_35 (lv_at hl 4 rfl) ?_
          replace hf := asr_s hf; obtain ⟨hq5, hf⟩ := hf
          refine z_iald C Z (lvC34 Nat.zero_lt_one) kC34 hq5 svC34 dX6_addedFor_37 ?_
          refine lv_aload_n C.x C.b dX6_addedFor_38 rfl (lv_at hl 0 rfl) ?_
          refine z_get C Z (lvC9 Nat.zero_lt_one) kC9 zc6 zin6 2 (by decide) k_238 rfl svC9_2 dX6_addedFor_39 ?_
          refine lv_iload_n C.x C.b dX6_addedFor_42 rfl (lv_at hl 2 rfl) ?_
          replace hf := asr_s hf; obtain ⟨hq6, hf⟩ := hf
          refine z_iald C Z (lvC30 Nat.zero_lt_one) kC30 hq6 svC30 dX6_addedFor_43 ?_
          refine lv_icmp_ne (tgt := 73) C.x C.b dX6_addedFor_44 (by decide) (fun hc7 => ?_) (fun hc7 => ?_)
          · replace hf := ite_f hf hc7
            replace hf := lt1_s hf; obtain ⟨x8, ex8, hf⟩ := hf
            refine z_iinc (v := x8) (lv' := [(4, .int x8), (0, .ref (ad 9 0)), (1, .int g1), (2, .int g2), (3, .int x3)]) C dX6_addedFor_73 hl (k := 4) rfl (by rw [ex8]; rfl) (by decide) rfl (onlast 3 rfl rfl rfl) (fun ls hl => ?_)
            refine lv_goto (tgt := 5) C.x C.b dX6_addedFor_76 (by decide) ?_
            exact ih _ _ _ _ _ _ Z (lv_sub hl [1, 2, 3, 4, 0] rfl) _ _ hf kx0
          · replace hf := ite_t hf hc7
            refine lv_aload_n C.x C.b dX6_addedFor_47 rfl (lv_at hl 0 rfl) ?_
            refine z_get C Z (lvC9 Nat.zero_lt_one) kC9 zc6 zin6 8 (by decide) k_247 rfl svC9_8 dX6_addedFor_48 ?_
            refine lv_iload C.x C.b dX6_addedFor_51 (lv_at hl 4 rfl) ?_
            replace hf := asr_s hf; obtain ⟨hq9, hf⟩ := hf
            refine z_iald C Z (lvC36 Nat.zero_lt_one) kC36 hq9 svC36 dX6_addedFor_53 ?_
            refine lv_aload_n C.x C.b dX6_addedFor_54 rfl (lv_at hl 0 rfl) ?_
            refine z_get C Z (lvC9 Nat.zero_lt_one) kC9 zc6 zin6 3 (by decide) k_240 rfl svC9_3 dX6_addedFor_55 ?_
            refine lv_iload_n C.x C.b dX6_addedFor_58 rfl (lv_at hl 2 rfl) ?_
            replace hf := asr_s hf; obtain ⟨hq10, hf⟩ := hf
            refine z_iald C Z (lvC31 Nat.zero_lt_one) kC31 hq10 svC31 dX6_addedFor_59 ?_
            refine lv_icmp_gt (tgt := 73) C.x C.b dX6_addedFor_60 (by decide) (fun hc11 => ?_) (fun hc11 => ?_)
            · replace hf := ite_t hf hc11
              replace hf := lt1_s hf; obtain ⟨x12, ex12, hf⟩ := hf
              refine z_iinc (v := x12) (lv' := [(4, .int x12), (0, .ref (ad 9 0)), (1, .int g1), (2, .int g2), (3, .int x3)]) C dX6_addedFor_73 hl (k := 4) rfl (by rw [ex12]; rfl) (by decide) rfl (onlast 3 rfl rfl rfl) (fun ls hl => ?_)
              refine lv_goto (tgt := 5) C.x C.b dX6_addedFor_76 (by decide) ?_
              exact ih _ _ _ _ _ _ Z (lv_sub hl [1, 2, 3, 4, 0] rfl) _ _ hf kx0
            · replace hf := ite_f hf hc11
              refine lv_iload_n C.x C.b dX6_addedFor_63 rfl (lv_at hl 3 rfl) ?_
              refine lv_aload_n C.x C.b dX6_addedFor_64 rfl (lv_at hl 0 rfl) ?_
              refine z_get C Z (lvC9 Nat.zero_lt_one) kC9 zc6 zin6 7 (by decide) k_246 rfl svC9_7 dX6_addedFor_65 ?_
              refine lv_iload C.x C.b dX6_addedFor_68 (lv_at hl 4 rfl) ?_
              replace hf := asr_s hf; obtain ⟨hq13, hf⟩ := hf
              refine z_iald C Z (lvC35 Nat.zero_lt_one) kC35 hq13 svC35 dX6_addedFor_70 ?_
              refine lv_iadd C.x C.b dX6_addedFor_71 ?_
              replace hf := lt1_s hf; obtain ⟨x14, ex14, hf⟩ := hf
              refine z_renI ex14 ?_
              refine z_istore_n (lv' := [(3, .int x14), (0, .ref (ad 9 0)), (1, .int g1), (2, .int g2), (4, .int x4)]) C dX6_addedFor_72 rfl hl (by decide) rfl (onlast 2 rfl rfl rfl) (fun ls hl => ?_)
              replace hf := lt1_s hf; obtain ⟨x15, ex15, hf⟩ := hf
              refine z_iinc (v := x15) (lv' := [(4, .int x15), (3, .int x14), (0, .ref (ad 9 0)), (1, .int g1), (2, .int g2)]) C dX6_addedFor_73 hl (k := 4) rfl (by rw [ex15]; rfl) (by decide) rfl (onlast 0 rfl rfl rfl) (fun ls hl => ?_)
              refine lv_goto (tgt := 5) C.x C.b dX6_addedFor_76 (by decide) ?_
              exact ih _ _ _ _ _ _ Z (lv_sub hl [2, 3, 4, 1, 0] rfl) _ _ hf kx0
set_option maxRecDepth 100000 in
set_option maxHeartbeats 4000000 in
theorem c_X6_addedFor {l : Launch} {K : KG} {ad : Nat → Nat → Nat} {fl : Nat} {a1 : Int32} {a2 : Int32} {M0 : Mem} {r9 : Int32} {M9 : Mem} (hf : f_X6_addedFor fl a1 a2 M0 = some (r9, M9)) : Met l yX6_addedFor (Cond.code yX6_addedFor cX6_addedFor 5 (some .int) :: ztb) (RM (1) 0 0) (zPc K LC ad M0 [.ref (ad 9 0), .int a1, .int a2]) (zQ K LC ad (some (.int r9)) M9) 0 0 (zA ad) := by
  refine z_enter (by decide) (Nat.le_of_ble_eq_true rfl) ?_
  intro p e s m args below meth c ls C hin hargs Z hl
  replace C : Cx p s m args meth c cX6_addedFor 5 "GlassPalace$Plan" (some .int) := C
  replace hl : lv_has ls 5 [(0, .ref (ad 9 0)), (1, .int a1), (2, .int a2)] := hl
  have hR : 1 ≤ (RM (1) 0 0).frames ∧ 40 * (1) ≤ (RM (1) 0 0).locals := ⟨Nat.le_refl _, Nat.le_refl _⟩
  have hB : 0 ≤ (RM (1) 0 0).cells ∧ 0 ≤ (RM (1) 0 0).slots := ⟨Nat.zero_le _, Nat.zero_le _⟩
  unfold f_X6_addedFor at hf
  refine lv_iconst (v := 0) C.x C.b dX6_addedFor_0 (by decide) ?_
  refine z_istore_n (lv' := [(3, .int 0), (0, .ref (ad 9 0)), (1, .int a1), (2, .int a2)]) C dX6_addedFor_1 rfl hl (by decide) rfl (onlast 2 rfl rfl rfl) (fun ls hl => ?_)
  refine lv_iconst (v := 0) C.x C.b dX6_addedFor_2 (by decide) ?_
  refine z_istore (lv' := [(4, .int 0), (3, .int 0), (0, .ref (ad 9 0)), (1, .int a1), (2, .int a2)]) C dX6_addedFor_3 hl (by decide) rfl (onlast 0 rfl rfl rfl) (fun ls hl => ?_)
  replace hf := bn2_s hf; obtain ⟨q16, M17, hq16, hf⟩ := hf
  refine w_X6_addedFor_l5 C hR hB  fl _ _ _ _ _ _ Z (lv_sub hl [2, 3, 4, 1, 0] rfl) _ _ hq16 (fun H locs ls Z hl => ?_)
  refine lv_iload_n C.x C.b dX6_addedFor_79 rfl (lv_at hl 0 rfl) ?_
  cases hf
  exact z_iret C Z dX6_addedFor_80
theorem dX6_isAhead_0 : decode cX6_isAhead 0 = .ok (.aload_n 0, 1) := by decide +kernel
theorem dX6_isAhead_1 : decode cX6_isAhead 1 = .ok (.getfield 15, 3) := by decide +kernel
theorem dX6_isAhead_4 : decode cX6_isAhead 4 = .ok (.iload_n 1, 1) := by decide +kernel
theorem dX6_isAhead_5 : decode cX6_isAhead 5 = .ok (.iaload, 1) := by decide +kernel
theorem dX6_isAhead_6 : decode cX6_isAhead 6 = .ok (.aload_n 0, 1) := by decide +kernel
theorem dX6_isAhead_7 : decode cX6_isAhead 7 = .ok (.getfield 15, 3) := by decide +kernel
theorem dX6_isAhead_10 : decode cX6_isAhead 10 = .ok (.iload_n 2, 1) := by decide +kernel
theorem dX6_isAhead_11 : decode cX6_isAhead 11 = .ok (.iaload, 1) := by decide +kernel
theorem dX6_isAhead_12 : decode cX6_isAhead 12 = .ok (.if_icmp .lt 33, 3) := by decide +kernel
theorem dX6_isAhead_15 : decode cX6_isAhead 15 = .ok (.aload_n 0, 1) := by decide +kernel
theorem dX6_isAhead_16 : decode cX6_isAhead 16 = .ok (.getfield 15, 3) := by decide +kernel
theorem dX6_isAhead_19 : decode cX6_isAhead 19 = .ok (.iload_n 1, 1) := by decide +kernel
theorem dX6_isAhead_20 : decode cX6_isAhead 20 = .ok (.iaload, 1) := by decide +kernel
theorem dX6_isAhead_21 : decode cX6_isAhead 21 = .ok (.aload_n 0, 1) := by decide +kernel
theorem dX6_isAhead_22 : decode cX6_isAhead 22 = .ok (.getfield 15, 3) := by decide +kernel
theorem dX6_isAhead_25 : decode cX6_isAhead 25 = .ok (.iload_n 2, 1) := by decide +kernel
theorem dX6_isAhead_26 : decode cX6_isAhead 26 = .ok (.iaload, 1) := by decide +kernel
theorem dX6_isAhead_27 : decode cX6_isAhead 27 = .ok (.if_icmp .ne 22, 3) := by decide +kernel
theorem dX6_isAhead_30 : decode cX6_isAhead 30 = .ok (.aload_n 0, 1) := by decide +kernel
theorem dX6_isAhead_31 : decode cX6_isAhead 31 = .ok (.getfield 9, 3) := by decide +kernel
theorem dX6_isAhead_34 : decode cX6_isAhead 34 = .ok (.iload_n 1, 1) := by decide +kernel
theorem dX6_isAhead_35 : decode cX6_isAhead 35 = .ok (.iaload, 1) := by decide +kernel
theorem dX6_isAhead_36 : decode cX6_isAhead 36 = .ok (.aload_n 0, 1) := by decide +kernel
theorem dX6_isAhead_37 : decode cX6_isAhead 37 = .ok (.getfield 9, 3) := by decide +kernel
theorem dX6_isAhead_40 : decode cX6_isAhead 40 = .ok (.iload_n 2, 1) := by decide +kernel
theorem dX6_isAhead_41 : decode cX6_isAhead 41 = .ok (.iaload, 1) := by decide +kernel
theorem dX6_isAhead_42 : decode cX6_isAhead 42 = .ok (.if_icmp .ge 7, 3) := by decide +kernel
theorem dX6_isAhead_45 : decode cX6_isAhead 45 = .ok (.iconst 1, 1) := by decide +kernel
theorem dX6_isAhead_46 : decode cX6_isAhead 46 = .ok (.goto 4, 3) := by decide +kernel
theorem dX6_isAhead_49 : decode cX6_isAhead 49 = .ok (.iconst 0, 1) := by decide +kernel
theorem dX6_isAhead_50 : decode cX6_isAhead 50 = .ok (.ireturn, 1) := by decide +kernel
def f_X6_isAhead (fl : Nat) (a1 : Int32) (a2 : Int32) (M0 : Mem) : Option (Int32 × Mem) :=
  asr (vq a1 20) <|
  asr (vq a2 20) <|
  if (gI M0 31 0 (Int32.toNatClampNeg a1)) < (gI M0 31 0 (Int32.toNatClampNeg a2)) then
    some (1, M0)
  else
    asr (vq a1 20) <|
    asr (vq a2 20) <|
    if (gI M0 31 0 (Int32.toNatClampNeg a1)) = (gI M0 31 0 (Int32.toNatClampNeg a2)) then
      asr (vq a1 20) <|
      asr (vq a2 20) <|
      if (gI M0 30 0 (Int32.toNatClampNeg a2)) ≤ (gI M0 30 0 (Int32.toNatClampNeg a1)) then
        some (0, M0)
      else
        some (1, M0)
    else
      some (0, M0)
set_option maxRecDepth 100000 in
set_option maxHeartbeats 4000000 in
theorem c_X6_isAhead {l : Launch} {K : KG} {ad : Nat → Nat → Nat} {fl : Nat} {a1 : Int32} {a2 : Int32} {M0 : Mem} {r9 : Int32} {M9 : Mem} (hf : f_X6_isAhead fl a1 a2 M0 = some (r9, M9)) : Met l yX6_isAhead (Cond.code yX6_isAhead cX6_isAhead 3 (some .boolean) :: ztb) (RM (1) 0 0) (zPc K LC ad M0 [.ref (ad 9 0), .int a1, .int a2]) (zQ K LC ad (some (.int r9)) M9) 0 0 (zA ad) := by
  refine z_enter (by decide) (Nat.le_of_ble_eq_true rfl) ?_
  intro p e s m args below meth c ls C hin hargs Z hl
  replace C : Cx p s m args meth c cX6_isAhead 3 "GlassPalace$Plan" (some .boolean) := C
  replace hl : lv_has ls 3 [(0, .ref (ad 9 0)), (1, .int a1), (2, .int a2)] := hl
  have hR : 1 ≤ (RM (1) 0 0).frames ∧ 40 * (1) ≤ (RM (1) 0 0).locals := ⟨Nat.le_refl _, Nat.le_refl _⟩
  have hB : 0 ≤ (RM (1) 0 0).cells ∧ 0 ≤ (RM (1) 0 0).slots := ⟨Nat.zero_le _, Nat.zero_le _⟩
  unfold f_X6_isAhead at hf
  refine lv_aload_n C.x C.b dX6_isAhead_0 rfl (lv_at hl 0 rfl) ?_
  refine z_get C Z (lvC9 Nat.zero_lt_one) kC9 zc6 zin6 3 (by decide) k_240 rfl svC9_3 dX6_isAhead_1 ?_
  refine lv_iload_n C.x C.b dX6_isAhead_4 rfl (lv_at hl 1 rfl) ?_
  replace hf := asr_s hf; obtain ⟨hq1, hf⟩ := hf
  refine z_iald C Z (lvC31 Nat.zero_lt_one) kC31 hq1 svC31 dX6_isAhead_5 ?_
  refine lv_aload_n C.x C.b dX6_isAhead_6 rfl (lv_at hl 0 rfl) ?_
  refine z_get C Z (lvC9 Nat.zero_lt_one) kC9 zc6 zin6 3 (by decide) k_240 rfl svC9_3 dX6_isAhead_7 ?_
  refine lv_iload_n C.x C.b dX6_isAhead_10 rfl (lv_at hl 2 rfl) ?_
  replace hf := asr_s hf; obtain ⟨hq2, hf⟩ := hf
  refine z_iald C Z (lvC31 Nat.zero_lt_one) kC31 hq2 svC31 dX6_isAhead_11 ?_
  refine lv_icmp_lt (tgt := 45) C.x C.b dX6_isAhead_12 (by decide) (fun hc3 => ?_) (fun hc3 => ?_)
  · replace hf := ite_t hf hc3
    refine lv_iconst (v := 1) C.x C.b dX6_isAhead_45 (by decide) ?_
    refine lv_goto (tgt := 50) C.x C.b dX6_isAhead_46 (by decide) ?_
    cases hf
    exact z_zret C Z rfl dX6_isAhead_50
  · replace hf := ite_f hf hc3
    refine lv_aload_n C.x C.b dX6_isAhead_15 rfl (lv_at hl 0 rfl) ?_
    refine z_get C Z (lvC9 Nat.zero_lt_one) kC9 zc6 zin6 3 (by decide) k_240 rfl svC9_3 dX6_isAhead_16 ?_
    refine lv_iload_n C.x C.b dX6_isAhead_19 rfl (lv_at hl 1 rfl) ?_
    replace hf := asr_s hf; obtain ⟨hq4, hf⟩ := hf
    refine z_iald C Z (lvC31 Nat.zero_lt_one) kC31 hq4 svC31 dX6_isAhead_20 ?_
    refine lv_aload_n C.x C.b dX6_isAhead_21 rfl (lv_at hl 0 rfl) ?_
    refine z_get C Z (lvC9 Nat.zero_lt_one) kC9 zc6 zin6 3 (by decide) k_240 rfl svC9_3 dX6_isAhead_22 ?_
    refine lv_iload_n C.x C.b dX6_isAhead_25 rfl (lv_at hl 2 rfl) ?_
    replace hf := asr_s hf; obtain ⟨hq5, hf⟩ := hf
    refine z_iald C Z (lvC31 Nat.zero_lt_one) kC31 hq5 svC31 dX6_isAhead_26 ?_
    refine lv_icmp_ne (tgt := 49) C.x C.b dX6_isAhead_27 (by decide) (fun hc6 => ?_) (fun hc6 => ?_)
    · replace hf := ite_f hf hc6
      refine lv_iconst (v := 0) C.x C.b dX6_isAhead_49 (by decide) ?_
      cases hf
      exact z_zret C Z rfl dX6_isAhead_50
    · replace hf := ite_t hf hc6
      refine lv_aload_n C.x C.b dX6_isAhead_30 rfl (lv_at hl 0 rfl) ?_
      refine z_get C Z (lvC9 Nat.zero_lt_one) kC9 zc6 zin6 2 (by decide) k_238 rfl svC9_2 dX6_isAhead_31 ?_
      refine lv_iload_n C.x C.b dX6_isAhead_34 rfl (lv_at hl 1 rfl) ?_
      replace hf := asr_s hf; obtain ⟨hq7, hf⟩ := hf
      refine z_iald C Z (lvC30 Nat.zero_lt_one) kC30 hq7 svC30 dX6_isAhead_35 ?_
      refine lv_aload_n C.x C.b dX6_isAhead_36 rfl (lv_at hl 0 rfl) ?_
      refine z_get C Z (lvC9 Nat.zero_lt_one) kC9 zc6 zin6 2 (by decide) k_238 rfl svC9_2 dX6_isAhead_37 ?_
      refine lv_iload_n C.x C.b dX6_isAhead_40 rfl (lv_at hl 2 rfl) ?_
      replace hf := asr_s hf; obtain ⟨hq8, hf⟩ := hf
      refine z_iald C Z (lvC30 Nat.zero_lt_one) kC30 hq8 svC30 dX6_isAhead_41 ?_
      refine lv_icmp_ge (tgt := 49) C.x C.b dX6_isAhead_42 (by decide) (fun hc9 => ?_) (fun hc9 => ?_)
      · replace hf := ite_t hf hc9
        refine lv_iconst (v := 0) C.x C.b dX6_isAhead_49 (by decide) ?_
        cases hf
        exact z_zret C Z rfl dX6_isAhead_50
      · replace hf := ite_f hf hc9
        refine lv_iconst (v := 1) C.x C.b dX6_isAhead_45 (by decide) ?_
        refine lv_goto (tgt := 50) C.x C.b dX6_isAhead_46 (by decide) ?_
        cases hf
        exact z_zret C Z rfl dX6_isAhead_50
theorem dX6_firstLack_0 : decode cX6_firstLack 0 = .ok (.iconst (-1), 1) := by decide +kernel
theorem dX6_firstLack_1 : decode cX6_firstLack 1 = .ok (.istore_n 2, 1) := by decide +kernel
theorem dX6_firstLack_2 : decode cX6_firstLack 2 = .ok (.iconst 0, 1) := by decide +kernel
theorem dX6_firstLack_3 : decode cX6_firstLack 3 = .ok (.istore_n 3, 1) := by decide +kernel
theorem dX6_firstLack_4 : decode cX6_firstLack 4 = .ok (.iload_n 3, 1) := by decide +kernel
theorem dX6_firstLack_5 : decode cX6_firstLack 5 = .ok (.aload_n 0, 1) := by decide +kernel
theorem dX6_firstLack_6 : decode cX6_firstLack 6 = .ok (.getfield 36, 3) := by decide +kernel
theorem dX6_firstLack_9 : decode cX6_firstLack 9 = .ok (.if_icmp .ge 45, 3) := by decide +kernel
theorem dX6_firstLack_12 : decode cX6_firstLack 12 = .ok (.iload_n 3, 1) := by decide +kernel
theorem dX6_firstLack_13 : decode cX6_firstLack 13 = .ok (.bipush 20, 2) := by decide +kernel
theorem dX6_firstLack_15 : decode cX6_firstLack 15 = .ok (.if_icmp .ge 39, 3) := by decide +kernel
theorem dX6_firstLack_18 : decode cX6_firstLack 18 = .ok (.aload_n 0, 1) := by decide +kernel
theorem dX6_firstLack_19 : decode cX6_firstLack 19 = .ok (.getfield 18, 3) := by decide +kernel
theorem dX6_firstLack_22 : decode cX6_firstLack 22 = .ok (.iload_n 3, 1) := by decide +kernel
theorem dX6_firstLack_23 : decode cX6_firstLack 23 = .ok (.iaload, 1) := by decide +kernel
theorem dX6_firstLack_24 : decode cX6_firstLack 24 = .ok (.aload_n 0, 1) := by decide +kernel
theorem dX6_firstLack_25 : decode cX6_firstLack 25 = .ok (.iload_n 1, 1) := by decide +kernel
theorem dX6_firstLack_26 : decode cX6_firstLack 26 = .ok (.iload_n 3, 1) := by decide +kernel
theorem dX6_firstLack_27 : decode cX6_firstLack 27 = .ok (.invokevirtual 43, 3) := by decide +kernel
theorem dX6_firstLack_30 : decode cX6_firstLack 30 = .ok (.if_icmp .le 18, 3) := by decide +kernel
theorem dX6_firstLack_33 : decode cX6_firstLack 33 = .ok (.iload_n 2, 1) := by decide +kernel
theorem dX6_firstLack_34 : decode cX6_firstLack 34 = .ok (.ifCond .lt 12, 3) := by decide +kernel
theorem dX6_firstLack_37 : decode cX6_firstLack 37 = .ok (.aload_n 0, 1) := by decide +kernel
theorem dX6_firstLack_38 : decode cX6_firstLack 38 = .ok (.iload_n 3, 1) := by decide +kernel
theorem dX6_firstLack_39 : decode cX6_firstLack 39 = .ok (.iload_n 2, 1) := by decide +kernel
theorem dX6_firstLack_40 : decode cX6_firstLack 40 = .ok (.invokevirtual 47, 3) := by decide +kernel
theorem dX6_firstLack_43 : decode cX6_firstLack 43 = .ok (.ifCond .eq 5, 3) := by decide +kernel
theorem dX6_firstLack_46 : decode cX6_firstLack 46 = .ok (.iload_n 3, 1) := by decide +kernel
theorem dX6_firstLack_47 : decode cX6_firstLack 47 = .ok (.istore_n 2, 1) := by decide +kernel
theorem dX6_firstLack_48 : decode cX6_firstLack 48 = .ok (.iinc 3 1, 3) := by decide +kernel
theorem dX6_firstLack_51 : decode cX6_firstLack 51 = .ok (.goto (-47), 3) := by decide +kernel
theorem dX6_firstLack_54 : decode cX6_firstLack 54 = .ok (.iload_n 2, 1) := by decide +kernel
theorem dX6_firstLack_55 : decode cX6_firstLack 55 = .ok (.ireturn, 1) := by decide +kernel
def f_X6_firstLack_l4_b (rk : Int32 → Int32 → Mem → Option (Int32 × Mem)) (fl : Nat) (g1 : Int32) (x2 : Int32) (x3 : Int32) (M0 : Mem) : Option (Int32 × Mem) :=
  if (gI M0 9 0 0) ≤ x3 then
    some (x2, M0)
  else
    if 20 ≤ x3 then
      some (x2, M0)
    else
      asr (vq x3 20) <|
      bn2 (f_X6_addedFor fl g1 x3 M0) fun v5 M4 =>
      if (gI M0 32 0 (Int32.toNatClampNeg x3)) ≤ v5 then
        lt1 (x3 + 1) fun (x7 : Int32) =>
        rk x2 x7 M4
      else
        if x2 < 0 then
          lt1 (x3 + 1) fun (x9 : Int32) =>
          rk x3 x9 M4
        else
          bn2 (f_X6_isAhead fl x3 x2 M4) fun v11 M10 =>
          if v11 = 0 then
            lt1 (x3 + 1) fun (x13 : Int32) =>
            rk x2 x13 M10
          else
            lt1 (x3 + 1) fun (x14 : Int32) =>
            rk x3 x14 M10
def f_X6_firstLack_l4 (fl : Nat) (g1 : Int32) : Nat → Int32 → Int32 → Mem → Option (Int32 × Mem)
  | 0 => fun _ _ _ => none
  | n + 1 => fun x2 x3 M0 => f_X6_firstLack_l4_b (f_X6_firstLack_l4 fl g1 n) fl g1 x2 x3 M0
def f_X6_firstLack (fl : Nat) (a1 : Int32) (M0 : Mem) : Option (Int32 × Mem) :=
  bn2 (f_X6_firstLack_l4 fl a1 fl (-1) 0 M0) fun (q15 : Int32) M16 =>
  some (q15, M16)
set_option maxRecDepth 100000 in
set_option maxHeartbeats 4000000 in
theorem w_X6_firstLack_l4 {p : Program} {l : Launch} {e : Env} {R : Room} {s : State} {m : MethodId} {args : Array Value} {below : List Frame} {meth : Method} {c : Code} {cells slots : Nat} {Q : State → Prop} {K : KG} {ad : Nat → Nat → Nat} {fl : Nat} {g1 : Int32} (C : Cx p s m args meth c cX6_firstLack 4 "GlassPalace$Plan" (some .int)) (hR : 2 ≤ R.frames ∧ 40 * (2) ≤ R.locals) (hB : cells ≤ R.cells ∧ slots ≤ R.slots) : ∀ (n : Nat) (x2 : Int32) (x3 : Int32) (M0 : Mem) (H : Heap) (locs : List Loc) (ls : Array Slot), Zd K LC ad M0 s H locs → lv_has ls 4 [(0, .ref (ad 9 0)), (1, .int g1), (2, .int x2), (3, .int x3)] → ∀ (q : Int32) (Mq : Mem), f_X6_firstLack_l4 fl g1 n x2 x3 M0 = some (q, Mq) → (∀ (H : Heap) (locs : List Loc) (ls : Array Slot), Zd K LC ad Mq s H locs → lv_has ls 4 [(2, .int q)] → W p l e R s m args below meth c H locs cells slots Q (F0 m 54 ls [])) → W p l e R s m args below meth c H locs cells slots Q (F0 m 4 ls []) := by
  intro n
  induction n with
  | zero =>
    intro x2 x3 M0 H locs ls Z hl q Mq hf
    have hf : (none : Option (Int32 × Mem)) = some (q, Mq) := hf
    cases hf
  | succ n ih =>
    intro x2 x3 M0 H locs ls Z hl q Mq hf kx0
    replace hf : f_X6_firstLack_l4_b (f_X6_firstLack_l4 fl g1 n) fl g1 x2 x3 M0 = some (q, Mq) := hf
    unfold f_X6_firstLack_l4_b at hf
    refine lv_iload_n C.x C.b dX6_firstLack_4 rfl (lv_at hl 3 rfl) ?_
    refine lv_aload_n C.x C.b dX6_firstLack_5 rfl (lv_at hl 0 rfl) ?_
    refine z_get C Z (lvC9 Nat.zero_lt_one) kC9 zc6 zin6 0 (by decide) k_234 rfl svC9_0 dX6_firstLack_6 ?_
    refine lv_icmp_ge (tgt := 54) C.x C.b dX6_firstLack_9 (by decide) (fun hc1 => ?_) (fun hc1 => ?_)
    · replace hf := ite_t hf hc1
      cases hf
      exact kx0 _ _ _ Z (lv_sub hl [2] rfl)
    · replace hf := ite_f hf hc1
      refine lv_iload_n C.x C.b dX6_firstLack_12 rfl (lv_at hl 3 rfl) ?_
      refine lv_bipush (v := 20) C.x C.b dX6_firstLack_13 (by decide) ?_
      refine lv_icmp_ge (tgt := 54) C.x C.b dX6_firstLack_15 (by decide) (fun hc2 => ?_) (fun hc2 => ?_)
      · replace hf := ite_t hf hc2
        cases hf
        exact kx0 _ _ _ Z (lv_sub hl [2] rfl)
      · replace hf := ite_f hf hc2
        refine lv_aload_n C.x C.b dX6_firstLack_18 rfl (lv_at hl 0 rfl) ?_
        refine z_get C Z (lvC9 Nat.zero_lt_one) kC9 zc6 zin6 4 (by decide) k_242 rfl svC9_4 dX6_firstLack_19 ?_
        refine lv_iload_n C.x C.b dX6_firstLack_22 rfl (lv_at hl 3 rfl) ?_
        replace hf := asr_s hf; obtain ⟨hq3, hf⟩ := hf
        refine z_iald C Z (lvC32 Nat.zero_lt_one) kC32 hq3 svC32 dX6_firstLack_23 ?_
        refine lv_aload_n C.x C.b dX6_firstLack_24 rfl (lv_at hl 0 rfl) ?_
        refine lv_iload_n C.x C.b dX6_firstLack_25 rfl (lv_at hl 1 rfl) ?_
        refine lv_iload_n C.x C.b dX6_firstLack_26 rfl (lv_at hl 3 rfl) ?_
        replace hf := bn2_s hf; obtain ⟨v5, M4, hkM4, hf⟩ := hf
        refine z_cV (As := [.int g1, .int x3]) (rest := [.int (gI M0 32 0 (Int32.toNatClampNeg x3))]) (st1 := [.int v5, .int (gI M0 32 0 (Int32.toNatClampNeg x3))]) C Z mw_X6_addedFor mv_X6_addedFor k_986 (by decide) (z_hR hR (by decide)) (lvC9 Nat.zero_lt_one) kC9 zc6 (c_X6_addedFor (l := l) (K := K) (ad := ad) hkM4) rfl hl.1 rfl (Nat.le_of_ble_eq_true rfl) dX6_firstLack_27 hB rfl (fun H locs Z => ?_)
        refine lv_icmp_le (tgt := 48) C.x C.b dX6_firstLack_30 (by decide) (fun hc6 => ?_) (fun hc6 => ?_)
        · replace hf := ite_t hf hc6
          replace hf := lt1_s hf; obtain ⟨x7, ex7, hf⟩ := hf
          refine z_iinc (v := x7) (lv' := [(3, .int x7), (0, .ref (ad 9 0)), (1, .int g1), (2, .int x2)]) C dX6_firstLack_48 hl (k := 3) rfl (by rw [ex7]; rfl) (by decide) rfl (onlast 2 rfl rfl rfl) (fun ls hl => ?_)
          refine lv_goto (tgt := 4) C.x C.b dX6_firstLack_51 (by decide) ?_
          exact ih _ _ _ _ _ _ Z (lv_sub hl [1, 2, 3, 0] rfl) _ _ hf kx0
        · replace hf := ite_f hf hc6
          refine lv_iload_n C.x C.b dX6_firstLack_33 rfl (lv_at hl 2 rfl) ?_
          refine lv_if_lt (tgt := 46) C.x C.b dX6_firstLack_34 (by decide) (fun hc8 => ?_) (fun hc8 => ?_)
          · replace hf := ite_t hf hc8
            refine lv_iload_n C.x C.b dX6_firstLack_46 rfl (lv_at hl 3 rfl) ?_
            refine z_istore_n (lv' := [(2, .int x3), (0, .ref (ad 9 0)), (1, .int g1), (3, .int x3)]) C dX6_firstLack_47 rfl hl (by decide) rfl (onlast 1 rfl rfl rfl) (fun ls hl => ?_)
            replace hf := lt1_s hf; obtain ⟨x9, ex9, hf⟩ := hf
            refine z_iinc (v := x9) (lv' := [(3, .int x9), (2, .int x3), (0, .ref (ad 9 0)), (1, .int g1)]) C dX6_firstLack_48 hl (k := 3) rfl (by rw [ex9]; rfl) (by decide) rfl (onlast 0 rfl rfl rfl) (fun ls hl => ?_)
            refine lv_goto (tgt := 4) C.x C.b dX6_firstLack_51 (by decide) ?_
            exact ih _ _ _ _ _ _ Z (lv_sub hl [2, 3, 1, 0] rfl) _ _ hf kx0
          · replace hf := ite_f hf hc8
            refine lv_aload_n C.x C.b dX6_firstLack_37 rfl (lv_at hl 0 rfl) ?_
            refine lv_iload_n C.x C.b dX6_firstLack_38 rfl (lv_at hl 3 rfl) ?_
            refine lv_iload_n C.x C.b dX6_firstLack_39 rfl (lv_at hl 2 rfl) ?_
            replace hf := bn2_s hf; obtain ⟨v11, M10, hkM10, hf⟩ := hf
            refine z_cV (As := [.int x3, .int x2]) (rest := []) (st1 := [.int v11]) C Z mw_X6_isAhead mv_X6_isAhead k_990 (by decide) (z_hR hR (by decide)) (lvC9 Nat.zero_lt_one) kC9 zc6 (c_X6_isAhead (l := l) (K := K) (ad := ad) hkM10) rfl hl.1 rfl (Nat.le_of_ble_eq_true rfl) dX6_firstLack_40 hB rfl (fun H locs Z => ?_)
            refine lv_if_eq (tgt := 48) C.x C.b dX6_firstLack_43 (by decide) (fun hc12 => ?_) (fun hc12 => ?_)
            · replace hf := ite_t hf hc12
              replace hf := lt1_s hf; obtain ⟨x13, ex13, hf⟩ := hf
              refine z_iinc (v := x13) (lv' := [(3, .int x13), (0, .ref (ad 9 0)), (1, .int g1), (2, .int x2)]) C dX6_firstLack_48 hl (k := 3) rfl (by rw [ex13]; rfl) (by decide) rfl (onlast 2 rfl rfl rfl) (fun ls hl => ?_)
              refine lv_goto (tgt := 4) C.x C.b dX6_firstLack_51 (by decide) ?_
              exact ih _ _ _ _ _ _ Z (lv_sub hl [1, 2, 3, 0] rfl) _ _ hf kx0
            · replace hf := ite_f hf hc12
              refine lv_iload_n C.x C.b dX6_firstLack_46 rfl (lv_at hl 3 rfl) ?_
              refine z_istore_n (lv' := [(2, .int x3), (0, .ref (ad 9 0)), (1, .int g1), (3, .int x3)]) C dX6_firstLack_47 rfl hl (by decide) rfl (onlast 1 rfl rfl rfl) (fun ls hl => ?_)
              replace hf := lt1_s hf; obtain ⟨x14, ex14, hf⟩ := hf
              refine z_iinc (v := x14) (lv' := [(3, .int x14), (2, .int x3), (0, .ref (ad 9 0)), (1, .int g1)]) C dX6_firstLack_48 hl (k := 3) rfl (by rw [ex14]; rfl) (by decide) rfl (onlast 0 rfl rfl rfl) (fun ls hl => ?_)
              refine lv_goto (tgt := 4) C.x C.b dX6_firstLack_51 (by decide) ?_
              exact ih _ _ _ _ _ _ Z (lv_sub hl [2, 3, 1, 0] rfl) _ _ hf kx0
set_option maxRecDepth 100000 in
set_option maxHeartbeats 4000000 in
theorem c_X6_firstLack {l : Launch} {K : KG} {ad : Nat → Nat → Nat} {fl : Nat} {a1 : Int32} {M0 : Mem} {r9 : Int32} {M9 : Mem} (hf : f_X6_firstLack fl a1 M0 = some (r9, M9)) : Met l yX6_firstLack (Cond.code yX6_firstLack cX6_firstLack 4 (some .int) :: ztb) (RM (2) 0 0) (zPc K LC ad M0 [.ref (ad 9 0), .int a1]) (zQ K LC ad (some (.int r9)) M9) 0 0 (zA ad) := by
  refine z_enter (by decide) (Nat.le_of_ble_eq_true rfl) ?_
  intro p e s m args below meth c ls C hin hargs Z hl
  replace C : Cx p s m args meth c cX6_firstLack 4 "GlassPalace$Plan" (some .int) := C
  replace hl : lv_has ls 4 [(0, .ref (ad 9 0)), (1, .int a1)] := hl
  have hR : 2 ≤ (RM (2) 0 0).frames ∧ 40 * (2) ≤ (RM (2) 0 0).locals := ⟨Nat.le_refl _, Nat.le_refl _⟩
  have hB : 0 ≤ (RM (2) 0 0).cells ∧ 0 ≤ (RM (2) 0 0).slots := ⟨Nat.zero_le _, Nat.zero_le _⟩
  unfold f_X6_firstLack at hf
  refine lv_iconst (v := (-1)) C.x C.b dX6_firstLack_0 (by decide) ?_
  refine z_istore_n (lv' := [(2, .int (-1)), (0, .ref (ad 9 0)), (1, .int a1)]) C dX6_firstLack_1 rfl hl (by decide) rfl (onlast 1 rfl rfl rfl) (fun ls hl => ?_)
  refine lv_iconst (v := 0) C.x C.b dX6_firstLack_2 (by decide) ?_
  refine z_istore_n (lv' := [(3, .int 0), (2, .int (-1)), (0, .ref (ad 9 0)), (1, .int a1)]) C dX6_firstLack_3 rfl hl (by decide) rfl (onlast 0 rfl rfl rfl) (fun ls hl => ?_)
  replace hf := bn2_s hf; obtain ⟨q15, M16, hq15, hf⟩ := hf
  refine w_X6_firstLack_l4 C hR hB  fl _ _ _ _ _ _ Z (lv_sub hl [2, 3, 1, 0] rfl) _ _ hq15 (fun H locs ls Z hl => ?_)
  refine lv_iload_n C.x C.b dX6_firstLack_54 rfl (lv_at hl 0 rfl) ?_
  cases hf
  exact z_iret C Z dX6_firstLack_55
theorem dX6_cheapestSet_0 : decode cX6_cheapestSet 0 = .ok (.bipush (-5), 2) := by decide +kernel
theorem dX6_cheapestSet_2 : decode cX6_cheapestSet 2 = .ok (.istore_n 1, 1) := by decide +kernel
theorem dX6_cheapestSet_3 : decode cX6_cheapestSet 3 = .ok (.iconst 0, 1) := by decide +kernel
theorem dX6_cheapestSet_4 : decode cX6_cheapestSet 4 = .ok (.istore_n 2, 1) := by decide +kernel
theorem dX6_cheapestSet_5 : decode cX6_cheapestSet 5 = .ok (.iconst 0, 1) := by decide +kernel
theorem dX6_cheapestSet_6 : decode cX6_cheapestSet 6 = .ok (.istore_n 3, 1) := by decide +kernel
theorem dX6_cheapestSet_7 : decode cX6_cheapestSet 7 = .ok (.iload_n 3, 1) := by decide +kernel
theorem dX6_cheapestSet_8 : decode cX6_cheapestSet 8 = .ok (.iconst 1, 1) := by decide +kernel
theorem dX6_cheapestSet_9 : decode cX6_cheapestSet 9 = .ok (.aload_n 0, 1) := by decide +kernel
theorem dX6_cheapestSet_10 : decode cX6_cheapestSet 10 = .ok (.getfield 40, 3) := by decide +kernel
theorem dX6_cheapestSet_13 : decode cX6_cheapestSet 13 = .ok (.ishl, 1) := by decide +kernel
theorem dX6_cheapestSet_14 : decode cX6_cheapestSet 14 = .ok (.if_icmp .ge 70, 3) := by decide +kernel
theorem dX6_cheapestSet_17 : decode cX6_cheapestSet 17 = .ok (.aload_n 0, 1) := by decide +kernel
theorem dX6_cheapestSet_18 : decode cX6_cheapestSet 18 = .ok (.iload_n 3, 1) := by decide +kernel
theorem dX6_cheapestSet_19 : decode cX6_cheapestSet 19 = .ok (.invokevirtual 51, 3) := by decide +kernel
theorem dX6_cheapestSet_22 : decode cX6_cheapestSet 22 = .ok (.istore 4, 2) := by decide +kernel
theorem dX6_cheapestSet_24 : decode cX6_cheapestSet 24 = .ok (.iload_n 1, 1) := by decide +kernel
theorem dX6_cheapestSet_25 : decode cX6_cheapestSet 25 = .ok (.bipush (-5), 2) := by decide +kernel
theorem dX6_cheapestSet_27 : decode cX6_cheapestSet 27 = .ok (.if_icmp .eq 26, 3) := by decide +kernel
theorem dX6_cheapestSet_30 : decode cX6_cheapestSet 30 = .ok (.iload 4, 2) := by decide +kernel
theorem dX6_cheapestSet_32 : decode cX6_cheapestSet 32 = .ok (.iload_n 2, 1) := by decide +kernel
theorem dX6_cheapestSet_33 : decode cX6_cheapestSet 33 = .ok (.if_icmp .lt 20, 3) := by decide +kernel
theorem dX6_cheapestSet_36 : decode cX6_cheapestSet 36 = .ok (.iload 4, 2) := by decide +kernel
theorem dX6_cheapestSet_38 : decode cX6_cheapestSet 38 = .ok (.iload_n 2, 1) := by decide +kernel
theorem dX6_cheapestSet_39 : decode cX6_cheapestSet 39 = .ok (.if_icmp .ne 18, 3) := by decide +kernel
theorem dX6_cheapestSet_42 : decode cX6_cheapestSet 42 = .ok (.iload_n 3, 1) := by decide +kernel
theorem dX6_cheapestSet_43 : decode cX6_cheapestSet 43 = .ok (.invokestatic 55, 3) := by decide +kernel
theorem dX6_cheapestSet_46 : decode cX6_cheapestSet 46 = .ok (.iload_n 1, 1) := by decide +kernel
theorem dX6_cheapestSet_47 : decode cX6_cheapestSet 47 = .ok (.invokestatic 55, 3) := by decide +kernel
theorem dX6_cheapestSet_50 : decode cX6_cheapestSet 50 = .ok (.if_icmp .ge 7, 3) := by decide +kernel
theorem dX6_cheapestSet_53 : decode cX6_cheapestSet 53 = .ok (.iconst 1, 1) := by decide +kernel
theorem dX6_cheapestSet_54 : decode cX6_cheapestSet 54 = .ok (.goto 4, 3) := by decide +kernel
theorem dX6_cheapestSet_57 : decode cX6_cheapestSet 57 = .ok (.iconst 0, 1) := by decide +kernel
theorem dX6_cheapestSet_58 : decode cX6_cheapestSet 58 = .ok (.istore 5, 2) := by decide +kernel
theorem dX6_cheapestSet_60 : decode cX6_cheapestSet 60 = .ok (.iload 5, 2) := by decide +kernel
theorem dX6_cheapestSet_62 : decode cX6_cheapestSet 62 = .ok (.ifCond .eq 16, 3) := by decide +kernel
theorem dX6_cheapestSet_65 : decode cX6_cheapestSet 65 = .ok (.aload_n 0, 1) := by decide +kernel
theorem dX6_cheapestSet_66 : decode cX6_cheapestSet 66 = .ok (.iload_n 3, 1) := by decide +kernel
theorem dX6_cheapestSet_67 : decode cX6_cheapestSet 67 = .ok (.invokevirtual 60, 3) := by decide +kernel
theorem dX6_cheapestSet_70 : decode cX6_cheapestSet 70 = .ok (.ifCond .ge 8, 3) := by decide +kernel
theorem dX6_cheapestSet_73 : decode cX6_cheapestSet 73 = .ok (.iload_n 3, 1) := by decide +kernel
theorem dX6_cheapestSet_74 : decode cX6_cheapestSet 74 = .ok (.istore_n 1, 1) := by decide +kernel
theorem dX6_cheapestSet_75 : decode cX6_cheapestSet 75 = .ok (.iload 4, 2) := by decide +kernel
theorem dX6_cheapestSet_77 : decode cX6_cheapestSet 77 = .ok (.istore_n 2, 1) := by decide +kernel
theorem dX6_cheapestSet_78 : decode cX6_cheapestSet 78 = .ok (.iinc 3 1, 3) := by decide +kernel
theorem dX6_cheapestSet_81 : decode cX6_cheapestSet 81 = .ok (.goto (-74), 3) := by decide +kernel
theorem dX6_cheapestSet_84 : decode cX6_cheapestSet 84 = .ok (.iload_n 1, 1) := by decide +kernel
theorem dX6_cheapestSet_85 : decode cX6_cheapestSet 85 = .ok (.ireturn, 1) := by decide +kernel
def f_X6_cheapestSet_l7_b (rk : Int32 → Int32 → Int32 → Mem → Option (Int32 × Mem)) (fl : Nat) (x1 : Int32) (x2 : Int32) (x3 : Int32) (M0 : Mem) : Option (Int32 × Mem) :=
  if (jshl 1 (gI M0 9 0 1)) ≤ x3 then
    some (x1, M0)
  else
    bn2 (f_X6_coinOf fl x3 M0) fun v3 M2 =>
    bn2 (
      if x1 = (-5) then
        some (1, M2)
      else
        if v3 < x2 then
          some (1, M2)
        else
          if v3 = x2 then
            bn2 (f_J6_bitCount_0f7a4 fl x3 M2) fun v17 M16 =>
            bn2 (f_J6_bitCount_0f7a4 fl x1 M16) fun v19 M18 =>
            if v19 ≤ v17 then
              some (0, M18)
            else
              some (1, M18)
          else
            some (0, M2)
    ) fun (q4 : Int32) M5 =>
    if q4 = 0 then
      lt1 (x3 + 1) fun (x7 : Int32) =>
      rk x1 x2 x7 M5
    else
      bn2 (f_X6_firstLack fl x3 M5) fun v9 M8 =>
      if 0 ≤ v9 then
        lt1 (x3 + 1) fun (x11 : Int32) =>
        rk x1 x2 x11 M8
      else
        lt1 (x3 + 1) fun (x12 : Int32) =>
        rk x3 v3 x12 M8
def f_X6_cheapestSet_l7 (fl : Nat) : Nat → Int32 → Int32 → Int32 → Mem → Option (Int32 × Mem)
  | 0 => fun _ _ _ _ => none
  | n + 1 => fun x1 x2 x3 M0 => f_X6_cheapestSet_l7_b (f_X6_cheapestSet_l7 fl  n) fl  x1 x2 x3 M0
def f_X6_cheapestSet (fl : Nat)  (M0 : Mem) : Option (Int32 × Mem) :=
  bn2 (f_X6_cheapestSet_l7 fl  fl (-5) 0 0 M0) fun (q21 : Int32) M22 =>
  some (q21, M22)
set_option maxRecDepth 100000 in
set_option maxHeartbeats 4000000 in
theorem w_X6_cheapestSet_l7 {p : Program} {l : Launch} {e : Env} {R : Room} {s : State} {m : MethodId} {args : Array Value} {below : List Frame} {meth : Method} {c : Code} {cells slots : Nat} {Q : State → Prop} {K : KG} {ad : Nat → Nat → Nat} {fl : Nat} (C : Cx p s m args meth c cX6_cheapestSet 6 "GlassPalace$Plan" (some .int)) (hR : 3 ≤ R.frames ∧ 40 * (3) ≤ R.locals) (hB : cells ≤ R.cells ∧ slots ≤ R.slots) : ∀ (n : Nat) (x1 : Int32) (x2 : Int32) (x3 : Int32) (M0 : Mem) (H : Heap) (locs : List Loc) (ls : Array Slot), Zd K LC ad M0 s H locs → lv_has ls 6 [(0, .ref (ad 9 0)), (1, .int x1), (2, .int x2), (3, .int x3)] → ∀ (q : Int32) (Mq : Mem), f_X6_cheapestSet_l7 fl  n x1 x2 x3 M0 = some (q, Mq) → (∀ (H : Heap) (locs : List Loc) (ls : Array Slot), Zd K LC ad Mq s H locs → lv_has ls 6 [(1, .int q)] → W p l e R s m args below meth c H locs cells slots Q (F0 m 84 ls [])) → W p l e R s m args below meth c H locs cells slots Q (F0 m 7 ls []) := by
  intro n
  induction n with
  | zero =>
    intro x1 x2 x3 M0 H locs ls Z hl q Mq hf
    have hf : (none : Option (Int32 × Mem)) = some (q, Mq) := hf
    cases hf
  | succ n ih =>
    intro x1 x2 x3 M0 H locs ls Z hl q Mq hf kx0
    replace hf : f_X6_cheapestSet_l7_b (f_X6_cheapestSet_l7 fl  n) fl  x1 x2 x3 M0 = some (q, Mq) := hf
    unfold f_X6_cheapestSet_l7_b at hf
    refine lv_iload_n C.x C.b dX6_cheapestSet_7 rfl (lv_at hl 3 rfl) ?_
    refine lv_iconst (v := 1) C.x C.b dX6_cheapestSet_8 (by decide) ?_
    refine lv_aload_n C.x C.b dX6_cheapestSet_9 rfl (lv_at hl 0 rfl) ?_
    refine z_get C Z (lvC9 Nat.zero_lt_one) kC9 zc6 zin6 1 (by decide) k_236 rfl svC9_1 dX6_cheapestSet_10 ?_
    refine z_ishl C dX6_cheapestSet_13 ?_
    refine lv_icmp_ge (tgt := 84) C.x C.b dX6_cheapestSet_14 (by decide) (fun hc1 => ?_) (fun hc1 => ?_)
    · replace hf := ite_t hf hc1
      cases hf
      exact kx0 _ _ _ Z (lv_sub hl [1] rfl)
    · replace hf := ite_f hf hc1
      refine lv_aload_n C.x C.b dX6_cheapestSet_17 rfl (lv_at hl 0 rfl) ?_
      refine lv_iload_n C.x C.b dX6_cheapestSet_18 rfl (lv_at hl 3 rfl) ?_
      replace hf := bn2_s hf; obtain ⟨v3, M2, hkM2, hf⟩ := hf
      refine z_cV (As := [.int x3]) (rest := []) (st1 := [.int v3]) C Z mw_X6_coinOf mv_X6_coinOf k_1010 (by decide) (z_hR hR (by decide)) (lvC9 Nat.zero_lt_one) kC9 zc6 (c_X6_coinOf (l := l) (K := K) (ad := ad) hkM2) rfl hl.1 rfl (Nat.le_of_ble_eq_true rfl) dX6_cheapestSet_19 hB rfl (fun H locs Z => ?_)
      refine z_istore (lv' := [(4, .int v3), (0, .ref (ad 9 0)), (1, .int x1), (2, .int x2), (3, .int x3)]) C dX6_cheapestSet_22 hl (by decide) rfl (onlast 3 rfl rfl rfl) (fun ls hl => ?_)
      refine lv_iload_n C.x C.b dX6_cheapestSet_24 rfl (lv_at hl 2 rfl) ?_
      refine lv_bipush (v := (-5)) C.x C.b dX6_cheapestSet_25 (by decide) ?_
      replace hf := bn2_s hf; obtain ⟨q4, M5, hq4, hf⟩ := hf
      have kq4 : ∀ (H : Heap) (locs : List Loc) (ls : Array Slot), Zd K LC ad M5 s H locs → lv_has ls 6 [(0, .ref (ad 9 0)), (1, .int x1), (2, .int x2), (3, .int x3), (4, .int v3)] → W p l e R s m args below meth c H locs cells slots Q (F0 m 58 ls [.int q4]) := by
        intro H locs ls Z hl
        refine z_istore (lv' := [(5, .int q4), (0, .ref (ad 9 0)), (1, .int x1), (2, .int x2), (3, .int x3), (4, .int v3)]) C dX6_cheapestSet_58 hl (by decide) rfl (onlast 4 rfl rfl rfl) (fun ls hl => ?_)
        refine lv_iload C.x C.b dX6_cheapestSet_60 (lv_at hl 0 rfl) ?_
        refine lv_if_eq (tgt := 78) C.x C.b dX6_cheapestSet_62 (by decide) (fun hc6 => ?_) (fun hc6 => ?_)
        · replace hf := ite_t hf hc6
          replace hf := lt1_s hf; obtain ⟨x7, ex7, hf⟩ := hf
          refine z_iinc (v := x7) (lv' := [(3, .int x7), (5, .int q4), (0, .ref (ad 9 0)), (1, .int x1), (2, .int x2), (4, .int v3)]) C dX6_cheapestSet_78 hl (k := 4) rfl (by rw [ex7]; rfl) (by decide) rfl (onlast 3 rfl rfl rfl) (fun ls hl => ?_)
          refine lv_goto (tgt := 7) C.x C.b dX6_cheapestSet_81 (by decide) ?_
          exact ih _ _ _ _ _ _ _ Z (lv_sub hl [2, 3, 4, 0] rfl) _ _ hf kx0
        · replace hf := ite_f hf hc6
          refine lv_aload_n C.x C.b dX6_cheapestSet_65 rfl (lv_at hl 1 rfl) ?_
          refine lv_iload_n C.x C.b dX6_cheapestSet_66 rfl (lv_at hl 4 rfl) ?_
          replace hf := bn2_s hf; obtain ⟨v9, M8, hkM8, hf⟩ := hf
          refine z_cV (As := [.int x3]) (rest := []) (st1 := [.int v9]) C Z mw_X6_firstLack mv_X6_firstLack k_1020 (by decide) (z_hR hR (by decide)) (lvC9 Nat.zero_lt_one) kC9 zc6 (c_X6_firstLack (l := l) (K := K) (ad := ad) hkM8) rfl hl.1 rfl (Nat.le_of_ble_eq_true rfl) dX6_cheapestSet_67 hB rfl (fun H locs Z => ?_)
          refine lv_if_ge (tgt := 78) C.x C.b dX6_cheapestSet_70 (by decide) (fun hc10 => ?_) (fun hc10 => ?_)
          · replace hf := ite_t hf hc10
            replace hf := lt1_s hf; obtain ⟨x11, ex11, hf⟩ := hf
            refine z_iinc (v := x11) (lv' := [(3, .int x11), (5, .int q4), (0, .ref (ad 9 0)), (1, .int x1), (2, .int x2), (4, .int v3)]) C dX6_cheapestSet_78 hl (k := 4) rfl (by rw [ex11]; rfl) (by decide) rfl (onlast 3 rfl rfl rfl) (fun ls hl => ?_)
            refine lv_goto (tgt := 7) C.x C.b dX6_cheapestSet_81 (by decide) ?_
            exact ih _ _ _ _ _ _ _ Z (lv_sub hl [2, 3, 4, 0] rfl) _ _ hf kx0
          · replace hf := ite_f hf hc10
            refine lv_iload_n C.x C.b dX6_cheapestSet_73 rfl (lv_at hl 4 rfl) ?_
            refine z_istore_n (lv' := [(1, .int x3), (5, .int q4), (0, .ref (ad 9 0)), (2, .int x2), (3, .int x3), (4, .int v3)]) C dX6_cheapestSet_74 rfl hl (by decide) rfl (onlast 1 rfl rfl rfl) (fun ls hl => ?_)
            refine lv_iload C.x C.b dX6_cheapestSet_75 (lv_at hl 5 rfl) ?_
            refine z_istore_n (lv' := [(2, .int v3), (1, .int x3), (5, .int q4), (0, .ref (ad 9 0)), (3, .int x3), (4, .int v3)]) C dX6_cheapestSet_77 rfl hl (by decide) rfl (onlast 0 rfl rfl rfl) (fun ls hl => ?_)
            replace hf := lt1_s hf; obtain ⟨x12, ex12, hf⟩ := hf
            refine z_iinc (v := x12) (lv' := [(3, .int x12), (2, .int v3), (1, .int x3), (5, .int q4), (0, .ref (ad 9 0)), (4, .int v3)]) C dX6_cheapestSet_78 hl (k := 4) rfl (by rw [ex12]; rfl) (by decide) rfl (onlast 0 rfl rfl rfl) (fun ls hl => ?_)
            refine lv_goto (tgt := 7) C.x C.b dX6_cheapestSet_81 (by decide) ?_
            exact ih _ _ _ _ _ _ _ Z (lv_sub hl [4, 2, 1, 0] rfl) _ _ hf kx0
      clear hf
      refine lv_icmp_eq (tgt := 53) C.x C.b dX6_cheapestSet_27 (by decide) (fun hc13 => ?_) (fun hc13 => ?_)
      · have hf := ite_t hq4 hc13; clear hq4
        refine lv_iconst (v := 1) C.x C.b dX6_cheapestSet_53 (by decide) ?_
        refine lv_goto (tgt := 58) C.x C.b dX6_cheapestSet_54 (by decide) ?_
        cases hf
        exact kq4 _ _ _ Z (lv_sub hl [1, 2, 3, 4, 0] rfl)
      · have hf := ite_f hq4 hc13; clear hq4
        refine lv_iload C.x C.b dX6_cheapestSet_30 (lv_at hl 0 rfl) ?_
        refine lv_iload_n C.x C.b dX6_cheapestSet_32 rfl (lv_at hl 3 rfl) ?_
        refine lv_icmp_lt (tgt := 53) C.x C.b dX6_cheapestSet_33 (by decide) (fun hc14 => ?_) (fun hc14 => ?_)
        · replace hf := ite_t hf hc14
          refine lv_iconst (v := 1) C.x C.b dX6_cheapestSet_53 (by decide) ?_
          refine lv_goto (tgt := 58) C.x C.b dX6_cheapestSet_54 (by decide) ?_
          cases hf
          exact kq4 _ _ _ Z (lv_sub hl [1, 2, 3, 4, 0] rfl)
        · replace hf := ite_f hf hc14
          refine lv_iload C.x C.b dX6_cheapestSet_36 (lv_at hl 0 rfl) ?_
          refine lv_iload_n C.x C.b dX6_cheapestSet_38 rfl (lv_at hl 3 rfl) ?_
          refine lv_icmp_ne (tgt := 57) C.x C.b dX6_cheapestSet_39 (by decide) (fun hc15 => ?_) (fun hc15 => ?_)
          · replace hf := ite_f hf hc15
            refine lv_iconst (v := 0) C.x C.b dX6_cheapestSet_57 (by decide) ?_
            cases hf
            exact kq4 _ _ _ Z (lv_sub hl [1, 2, 3, 4, 0] rfl)
          · replace hf := ite_t hf hc15
            refine lv_iload_n C.x C.b dX6_cheapestSet_42 rfl (lv_at hl 4 rfl) ?_
            replace hf := bn2_s hf; obtain ⟨v17, M16, hkM16, hf⟩ := hf
            refine z_cS (As := [.int x3]) (rest := []) (st1 := [.int v17]) C Z mw_J6_bitCount_0f7a4 mv_J6_bitCount_0f7a4 k_1014 (by decide) (z_hR hR (by decide)) (c_J6_bitCount_0f7a4 (l := l) (K := K) (ad := ad) hkM16) rfl hl.1 rfl (Nat.le_of_ble_eq_true rfl) dX6_cheapestSet_43 hB rfl (fun H locs Z => ?_)
            refine lv_iload_n C.x C.b dX6_cheapestSet_46 rfl (lv_at hl 2 rfl) ?_
            replace hf := bn2_s hf; obtain ⟨v19, M18, hkM18, hf⟩ := hf
            refine z_cS (As := [.int x1]) (rest := [.int v17]) (st1 := [.int v19, .int v17]) C Z mw_J6_bitCount_0f7a4 mv_J6_bitCount_0f7a4 k_1014 (by decide) (z_hR hR (by decide)) (c_J6_bitCount_0f7a4 (l := l) (K := K) (ad := ad) hkM18) rfl hl.1 rfl (Nat.le_of_ble_eq_true rfl) dX6_cheapestSet_47 hB rfl (fun H locs Z => ?_)
            refine lv_icmp_ge (tgt := 57) C.x C.b dX6_cheapestSet_50 (by decide) (fun hc20 => ?_) (fun hc20 => ?_)
            · replace hf := ite_t hf hc20
              refine lv_iconst (v := 0) C.x C.b dX6_cheapestSet_57 (by decide) ?_
              cases hf
              exact kq4 _ _ _ Z (lv_sub hl [1, 2, 3, 4, 0] rfl)
            · replace hf := ite_f hf hc20
              refine lv_iconst (v := 1) C.x C.b dX6_cheapestSet_53 (by decide) ?_
              refine lv_goto (tgt := 58) C.x C.b dX6_cheapestSet_54 (by decide) ?_
              cases hf
              exact kq4 _ _ _ Z (lv_sub hl [1, 2, 3, 4, 0] rfl)
set_option maxRecDepth 100000 in
set_option maxHeartbeats 4000000 in
theorem c_X6_cheapestSet {l : Launch} {K : KG} {ad : Nat → Nat → Nat} {fl : Nat}  {M0 : Mem} {r9 : Int32} {M9 : Mem} (hf : f_X6_cheapestSet fl  M0 = some (r9, M9)) : Met l yX6_cheapestSet (Cond.code yX6_cheapestSet cX6_cheapestSet 6 (some .int) :: ztb) (RM (3) 0 0) (zPc K LC ad M0 [.ref (ad 9 0)]) (zQ K LC ad (some (.int r9)) M9) 0 0 (zA ad) := by
  refine z_enter (by decide) (Nat.le_of_ble_eq_true rfl) ?_
  intro p e s m args below meth c ls C hin hargs Z hl
  replace C : Cx p s m args meth c cX6_cheapestSet 6 "GlassPalace$Plan" (some .int) := C
  replace hl : lv_has ls 6 [(0, .ref (ad 9 0))] := hl
  have hR : 3 ≤ (RM (3) 0 0).frames ∧ 40 * (3) ≤ (RM (3) 0 0).locals := ⟨Nat.le_refl _, Nat.le_refl _⟩
  have hB : 0 ≤ (RM (3) 0 0).cells ∧ 0 ≤ (RM (3) 0 0).slots := ⟨Nat.zero_le _, Nat.zero_le _⟩
  unfold f_X6_cheapestSet at hf
  refine lv_bipush (v := (-5)) C.x C.b dX6_cheapestSet_0 (by decide) ?_
  refine z_istore_n (lv' := [(1, .int (-5)), (0, .ref (ad 9 0))]) C dX6_cheapestSet_2 rfl hl (by decide) rfl (onlast 0 rfl rfl rfl) (fun ls hl => ?_)
  refine lv_iconst (v := 0) C.x C.b dX6_cheapestSet_3 (by decide) ?_
  refine z_istore_n (lv' := [(2, .int 0), (1, .int (-5)), (0, .ref (ad 9 0))]) C dX6_cheapestSet_4 rfl hl (by decide) rfl (onlast 0 rfl rfl rfl) (fun ls hl => ?_)
  refine lv_iconst (v := 0) C.x C.b dX6_cheapestSet_5 (by decide) ?_
  refine z_istore_n (lv' := [(3, .int 0), (2, .int 0), (1, .int (-5)), (0, .ref (ad 9 0))]) C dX6_cheapestSet_6 rfl hl (by decide) rfl (onlast 0 rfl rfl rfl) (fun ls hl => ?_)
  replace hf := bn2_s hf; obtain ⟨q21, M22, hq21, hf⟩ := hf
  refine w_X6_cheapestSet_l7 C hR hB  fl _ _ _ _ _ _ _ Z (lv_sub hl [3, 2, 1, 0] rfl) _ _ hq21 (fun H locs ls Z hl => ?_)
  refine lv_iload_n C.x C.b dX6_cheapestSet_84 rfl (lv_at hl 0 rfl) ?_
  cases hf
  exact z_iret C Z dX6_cheapestSet_85
