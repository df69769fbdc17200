theorem k_0 : zW (.selects "GlassPalace" yX11_bayOf yX11_bayOf) := ⟨List.mem_of_getElem? (i := 0) (by decide +kernel), rfl⟩
theorem k_1 : zW (.selects "GlassPalace" yX11_lotOf yX11_lotOf) := ⟨List.mem_of_getElem? (i := 1) (by decide +kernel), rfl⟩
theorem k_2 : zW (.selects "GlassPalace" yX11_isBarred yX11_isBarred) := ⟨List.mem_of_getElem? (i := 2) (by decide +kernel), rfl⟩
theorem k_3 : zW (.selects "GlassPalace$Laws" yX3_holdsFor yX3_holdsFor) := ⟨List.mem_of_getElem? (i := 3) (by decide +kernel), rfl⟩
theorem k_4 : zW (.selects "GlassPalace" yX11_hindrance yX11_hindrance) := ⟨List.mem_of_getElem? (i := 4) (by decide +kernel), rfl⟩
theorem k_5 : zW (.selects "GlassPalace" yX11_hasLengthFor yX11_hasLengthFor) := ⟨List.mem_of_getElem? (i := 5) (by decide +kernel), rfl⟩
theorem k_6 : zW (.selects "GlassPalace" yX11_hasGroundFor yX11_hasGroundFor) := ⟨List.mem_of_getElem? (i := 6) (by decide +kernel), rfl⟩
theorem k_7 : zW (.selects "GlassPalace" yX11_rightOf yX11_rightOf) := ⟨List.mem_of_getElem? (i := 7) (by decide +kernel), rfl⟩
theorem k_8 : zW (.selects "GlassPalace" yX11_isNeeded yX11_isNeeded) := ⟨List.mem_of_getElem? (i := 8) (by decide +kernel), rfl⟩
theorem k_9 : zW (.selects "GlassPalace" yX11_leftOf yX11_leftOf) := ⟨List.mem_of_getElem? (i := 9) (by decide +kernel), rfl⟩
theorem k_10 : zW (.selects "GlassPalace$Script" yX7_readClause yX7_readClause) := ⟨List.mem_of_getElem? (i := 10) (by decide +kernel), rfl⟩
theorem k_11 : zW (.selects "GlassPalace$Script" yX7_readWord yX7_readWord) := ⟨List.mem_of_getElem? (i := 11) (by decide +kernel), rfl⟩
theorem k_12 : zW (.selects "GlassPalace$Script" yX7_bytesLike yX7_bytesLike) := ⟨List.mem_of_getElem? (i := 12) (by decide +kernel), rfl⟩
theorem k_13 : zW (.selects "GlassPalace$Script" yX7_fail yX7_fail) := ⟨List.mem_of_getElem? (i := 13) (by decide +kernel), rfl⟩
theorem k_14 : zW (.selects "GlassPalace$Script" yX7_readEither yX7_readEither) := ⟨List.mem_of_getElem? (i := 14) (by decide +kernel), rfl⟩
theorem k_15 : zW (.selects "GlassPalace$Script" yX7_readOne yX7_readOne) := ⟨List.mem_of_getElem? (i := 15) (by decide +kernel), rfl⟩
theorem k_16 : zW (.selects "GlassPalace$Script" yX7_look yX7_look) := ⟨List.mem_of_getElem? (i := 16) (by decide +kernel), rfl⟩
theorem k_17 : zW (.selects "GlassPalace$Script" yX7_readTest yX7_readTest) := ⟨List.mem_of_getElem? (i := 17) (by decide +kernel), rfl⟩
theorem k_18 : zW (.selects "GlassPalace$Script" yX7_readNumber yX7_readNumber) := ⟨List.mem_of_getElem? (i := 18) (by decide +kernel), rfl⟩
theorem k_19 : zW (.selects "GlassPalace" yX11_girderLoad yX11_girderLoad) := ⟨List.mem_of_getElem? (i := 19) (by decide +kernel), rfl⟩
theorem k_20 : zW (.selects "GlassPalace" yX11_columnLoad yX11_columnLoad) := ⟨List.mem_of_getElem? (i := 20) (by decide +kernel), rfl⟩
theorem k_21 : zW (.selects "GlassPalace" yX11_girderHolds yX11_girderHolds) := ⟨List.mem_of_getElem? (i := 21) (by decide +kernel), rfl⟩
theorem k_22 : zW (.selects "GlassPalace" yX11_columnHolds yX11_columnHolds) := ⟨List.mem_of_getElem? (i := 22) (by decide +kernel), rfl⟩
theorem k_23 : zW (.selects "GlassPalace$Water" yX10_runHour yX10_runHour) := ⟨List.mem_of_getElem? (i := 23) (by decide +kernel), rfl⟩
theorem k_24 : zW (.selects "GlassPalace$Water" yX10_drain yX10_drain) := ⟨List.mem_of_getElem? (i := 24) (by decide +kernel), rfl⟩
theorem k_25 : zW (.selects "GlassPalace" yX11_gangOf yX11_gangOf) := ⟨List.mem_of_getElem? (i := 25) (by decide +kernel), rfl⟩
theorem k_26 : zW (.selects "GlassPalace" yX11_isKeptAway yX11_isKeptAway) := ⟨List.mem_of_getElem? (i := 26) (by decide +kernel), rfl⟩
theorem k_27 : zW (.selects "GlassPalace" yX11_willHaveCome yX11_willHaveCome) := ⟨List.mem_of_getElem? (i := 27) (by decide +kernel), rfl⟩
theorem k_28 : zW (.selects "GlassPalace" yX11_comingDay yX11_comingDay) := ⟨List.mem_of_getElem? (i := 28) (by decide +kernel), rfl⟩
theorem k_29 : zW (.selects "GlassPalace" yX11_lookAhead yX11_lookAhead) := ⟨List.mem_of_getElem? (i := 29) (by decide +kernel), rfl⟩
theorem k_30 : zW (.selects "GlassPalace$Plan" yX6_addedFor yX6_addedFor) := ⟨List.mem_of_getElem? (i := 30) (by decide +kernel), rfl⟩
theorem k_31 : zW (.selects "GlassPalace$Plan" yX6_isAhead yX6_isAhead) := ⟨List.mem_of_getElem? (i := 31) (by decide +kernel), rfl⟩
theorem k_32 : zW (.selects "GlassPalace$Plan" yX6_coinOf yX6_coinOf) := ⟨List.mem_of_getElem? (i := 32) (by decide +kernel), rfl⟩
theorem k_33 : zW (.selects "GlassPalace$Nations" yX5_inTheWay yX5_inTheWay) := ⟨List.mem_of_getElem? (i := 33) (by decide +kernel), rfl⟩
theorem k_34 : zW (.selects "GlassPalace$Nations" yX5_meets yX5_meets) := ⟨List.mem_of_getElem? (i := 34) (by decide +kernel), rfl⟩
theorem k_35 : zW (.selects "GlassPalace$Nations" yX5_clear yX5_clear) := ⟨List.mem_of_getElem? (i := 35) (by decide +kernel), rfl⟩
theorem k_36 : zW (.selects "GlassPalace$Acts" yX0_fitsFrom yX0_fitsFrom) := ⟨List.mem_of_getElem? (i := 36) (by decide +kernel), rfl⟩
theorem k_37 : zW (.selects "GlassPalace$Acts" yX0_begin yX0_begin) := ⟨List.mem_of_getElem? (i := 37) (by decide +kernel), rfl⟩
theorem k_38 : zW (.selects "GlassPalace$Acts" yX0_bearsFrom yX0_bearsFrom) := ⟨List.mem_of_getElem? (i := 38) (by decide +kernel), rfl⟩
theorem k_39 : zW (.selects "GlassPalace$Acts" yX0_endsFrom yX0_endsFrom) := ⟨List.mem_of_getElem? (i := 39) (by decide +kernel), rfl⟩
theorem k_40 : zW (.selects "GlassPalace" yX11_tapeOf yX11_tapeOf) := ⟨List.mem_of_getElem? (i := 40) (by decide +kernel), rfl⟩
theorem k_41 : zW (.selects "GlassPalace" yX11_agrees yX11_agrees) := ⟨List.mem_of_getElem? (i := 41) (by decide +kernel), rfl⟩
theorem k_42 : zW (.selects "GlassPalace" yX11_standingPieces yX11_standingPieces) := ⟨List.mem_of_getElem? (i := 42) (by decide +kernel), rfl⟩
theorem k_43 : zW (.selects "GlassPalace" yX11_brokenPieces yX11_brokenPieces) := ⟨List.mem_of_getElem? (i := 43) (by decide +kernel), rfl⟩
theorem k_44 : zW (.selects "GlassPalace$Tape" yX8_trimmed yX8_trimmed) := ⟨List.mem_of_getElem? (i := 44) (by decide +kernel), rfl⟩
theorem k_45 : zW (.selects "GlassPalaceModel" yX12_in yX12_in) := ⟨List.mem_of_getElem? (i := 45) (by decide +kernel), rfl⟩
theorem k_46 : zW (.selects "GlassPalaceModel" yX12_isBay yX12_isBay) := ⟨List.mem_of_getElem? (i := 46) (by decide +kernel), rfl⟩
theorem k_47 : zW (.selects "GlassPalaceModel" yX12_isEmpty yX12_isEmpty) := ⟨List.mem_of_getElem? (i := 47) (by decide +kernel), rfl⟩
theorem k_48 : zW (.selects "GlassPalaceModel" yX12_has yX12_has) := ⟨List.mem_of_getElem? (i := 48) (by decide +kernel), rfl⟩
theorem k_49 : zW (.selects "GlassPalaceModel" yX12_isFoundry yX12_isFoundry) := ⟨List.mem_of_getElem? (i := 49) (by decide +kernel), rfl⟩
theorem k_50 : zW (.selects "GlassPalaceModel" yX12_isLot yX12_isLot) := ⟨List.mem_of_getElem? (i := 50) (by decide +kernel), rfl⟩
theorem k_51 : zW (.selects "GlassPalaceModel" yX12_stock yX12_stock) := ⟨List.mem_of_getElem? (i := 51) (by decide +kernel), rfl⟩
theorem k_52 : zW (.selects "GlassPalaceModel" yX12_isBarred yX12_isBarred) := ⟨List.mem_of_getElem? (i := 52) (by decide +kernel), rfl⟩
theorem k_53 : zW (.selects "GlassPalaceModel" yX12_barsFoundry yX12_barsFoundry) := ⟨List.mem_of_getElem? (i := 53) (by decide +kernel), rfl⟩
theorem k_54 : zW (.selects "GlassPalaceModel" yX12_ruler yX12_ruler) := ⟨List.mem_of_getElem? (i := 54) (by decide +kernel), rfl⟩
theorem k_55 : zW (.selects "GlassPalaceModel" yX12_goes yX12_goes) := ⟨List.mem_of_getElem? (i := 55) (by decide +kernel), rfl⟩
theorem k_56 : zW (.selects "GlassPalaceModel" yX12_takesClause yX12_takesClause) := ⟨List.mem_of_getElem? (i := 56) (by decide +kernel), rfl⟩
theorem k_57 : zW (.selects "GlassPalaceModel" yX12_takesAnyWord yX12_takesAnyWord) := ⟨List.mem_of_getElem? (i := 57) (by decide +kernel), rfl⟩
theorem k_58 : zW (.selects "GlassPalaceModel" yX12_next yX12_next) := ⟨List.mem_of_getElem? (i := 58) (by decide +kernel), rfl⟩
theorem k_59 : zW (.selects "GlassPalaceModel" yX12_takesWord yX12_takesWord) := ⟨List.mem_of_getElem? (i := 59) (by decide +kernel), rfl⟩
theorem k_60 : zW (.selects "GlassPalaceModel" yX12_takes yX12_takes) := ⟨List.mem_of_getElem? (i := 60) (by decide +kernel), rfl⟩
theorem k_61 : zW (.selects "GlassPalaceModel" yX12_takesNumber yX12_takesNumber) := ⟨List.mem_of_getElem? (i := 61) (by decide +kernel), rfl⟩
theorem k_62 : zW (.selects "GlassPalaceModel" yX12_isDigit yX12_isDigit) := ⟨List.mem_of_getElem? (i := 62) (by decide +kernel), rfl⟩
theorem k_63 : zW (.selects "GlassPalaceModel" yX12_takesE yX12_takesE) := ⟨List.mem_of_getElem? (i := 63) (by decide +kernel), rfl⟩
theorem k_64 : zW (.selects "GlassPalaceModel" yX12_takesTest yX12_takesTest) := ⟨List.mem_of_getElem? (i := 64) (by decide +kernel), rfl⟩
theorem k_65 : zW (.selects "GlassPalaceModel" yX12_push yX12_push) := ⟨List.mem_of_getElem? (i := 65) (by decide +kernel), rfl⟩
theorem k_66 : zW (.selects "GlassPalaceModel" yX12_settle yX12_settle) := ⟨List.mem_of_getElem? (i := 66) (by decide +kernel), rfl⟩
theorem k_67 : zW (.selects "GlassPalaceModel" yX12_number yX12_number) := ⟨List.mem_of_getElem? (i := 67) (by decide +kernel), rfl⟩
theorem k_68 : zW (.selects "GlassPalaceModel" yX12_wantsOf yX12_wantsOf) := ⟨List.mem_of_getElem? (i := 68) (by decide +kernel), rfl⟩
theorem k_69 : zW (.selects "GlassPalaceModel" yX12_fits yX12_fits) := ⟨List.mem_of_getElem? (i := 69) (by decide +kernel), rfl⟩
theorem k_70 : zW (.selects "GlassPalaceModel" yX12_placeOf yX12_placeOf) := ⟨List.mem_of_getElem? (i := 70) (by decide +kernel), rfl⟩
theorem k_71 : zW (.selects "GlassPalaceModel" yX12_put yX12_put) := ⟨List.mem_of_getElem? (i := 71) (by decide +kernel), rfl⟩
theorem k_72 : zW (.selects "GlassPalaceModel" yX12_isPlace yX12_isPlace) := ⟨List.mem_of_getElem? (i := 72) (by decide +kernel), rfl⟩
theorem k_73 : zW (.selects "GlassPalaceModel" yX12_mayCut yX12_mayCut) := ⟨List.mem_of_getElem? (i := 73) (by decide +kernel), rfl⟩
theorem k_74 : zW (.selects "GlassPalaceModel" yX12_isDay yX12_isDay) := ⟨List.mem_of_getElem? (i := 74) (by decide +kernel), rfl⟩
theorem k_75 : zW (.selects "GlassPalaceModel" yX12_loadOf yX12_loadOf) := ⟨List.mem_of_getElem? (i := 75) (by decide +kernel), rfl⟩
theorem k_76 : zW (.selects "GlassPalaceModel" yX12_borne yX12_borne) := ⟨List.mem_of_getElem? (i := 76) (by decide +kernel), rfl⟩
theorem k_77 : zW (.selects "GlassPalaceModel" yX12_girderHolds yX12_girderHolds) := ⟨List.mem_of_getElem? (i := 77) (by decide +kernel), rfl⟩
theorem k_78 : zW (.selects "GlassPalaceModel" yX12_columnHolds yX12_columnHolds) := ⟨List.mem_of_getElem? (i := 78) (by decide +kernel), rfl⟩
theorem k_79 : zW (.selects "GlassPalaceModel" yX12_areBeside yX12_areBeside) := ⟨List.mem_of_getElem? (i := 79) (by decide +kernel), rfl⟩
theorem k_80 : zW (.selects "GlassPalaceModel" yX12_abs yX12_abs) := ⟨List.mem_of_getElem? (i := 80) (by decide +kernel), rfl⟩
theorem k_81 : zW (.selects "GlassPalaceModel" yX12_flow yX12_flow) := ⟨List.mem_of_getElem? (i := 81) (by decide +kernel), rfl⟩
theorem k_82 : zW (.selects "GlassPalaceModel" yX12_isGang yX12_isGang) := ⟨List.mem_of_getElem? (i := 82) (by decide +kernel), rfl⟩
theorem k_83 : zW (.selects "GlassPalaceModel" yX12_paceOf yX12_paceOf) := ⟨List.mem_of_getElem? (i := 83) (by decide +kernel), rfl⟩
theorem k_84 : zW (.selects "GlassPalaceModel" yX12_isKind yX12_isKind) := ⟨List.mem_of_getElem? (i := 84) (by decide +kernel), rfl⟩
theorem k_85 : zW (.selects "GlassPalaceModel" yX12_comes yX12_comes) := ⟨List.mem_of_getElem? (i := 85) (by decide +kernel), rfl⟩
theorem k_86 : zW (.selects "GlassPalaceModel" yX12_findNeeds yX12_findNeeds) := ⟨List.mem_of_getElem? (i := 86) (by decide +kernel), rfl⟩
theorem k_87 : zW (.selects "GlassPalaceModel" yX12_lacking yX12_lacking) := ⟨List.mem_of_getElem? (i := 87) (by decide +kernel), rfl⟩
theorem k_88 : zW (.selects "GlassPalaceModel" yX12_meet yX12_meet) := ⟨List.mem_of_getElem? (i := 88) (by decide +kernel), rfl⟩
theorem k_89 : zW (.selects "GlassPalaceModel" yX12_nextDown yX12_nextDown) := ⟨List.mem_of_getElem? (i := 89) (by decide +kernel), rfl⟩
theorem k_90 : zW (.selects "GlassPalaceModel" yX12_mayGo yX12_mayGo) := ⟨List.mem_of_getElem? (i := 90) (by decide +kernel), rfl⟩
theorem k_91 : zW (.selects "GlassPalaceModel" yX12_fitsOf yX12_fitsOf) := ⟨List.mem_of_getElem? (i := 91) (by decide +kernel), rfl⟩
theorem k_92 : zW (.selects "GlassPalaceModel" yX12_columnFits yX12_columnFits) := ⟨List.mem_of_getElem? (i := 92) (by decide +kernel), rfl⟩
theorem k_93 : zW (.selects "GlassPalaceModel" yX12_body yX12_body) := ⟨List.mem_of_getElem? (i := 93) (by decide +kernel), rfl⟩
theorem k_94 : zW (.selects "GlassPalaceModel" yX12_plainFits yX12_plainFits) := ⟨List.mem_of_getElem? (i := 94) (by decide +kernel), rfl⟩
theorem k_95 : zW (.selects "GlassPalaceModel" yX12_bearsOf yX12_bearsOf) := ⟨List.mem_of_getElem? (i := 95) (by decide +kernel), rfl⟩
theorem k_96 : zW (.selects "GlassPalaceModel" yX12_plainBears yX12_plainBears) := ⟨List.mem_of_getElem? (i := 96) (by decide +kernel), rfl⟩
theorem k_97 : zW (.selects "GlassPalaceModel" yX12_endsOf yX12_endsOf) := ⟨List.mem_of_getElem? (i := 97) (by decide +kernel), rfl⟩
theorem k_98 : zW (.selects "GlassPalaceModel" yX12_plainEnds yX12_plainEnds) := ⟨List.mem_of_getElem? (i := 98) (by decide +kernel), rfl⟩
theorem k_99 : zW (.selects "GlassPalaceModel" yX12_standing yX12_standing) := ⟨List.mem_of_getElem? (i := 99) (by decide +kernel), rfl⟩
theorem k_100 : zW (.selects "GlassPalaceModel" yX12_isTape yX12_isTape) := ⟨List.mem_of_getElem? (i := 100) (by decide +kernel), rfl⟩
theorem k_101 : zW (.selects "GlassPalaceModel" yX12_narrow yX12_narrow) := ⟨List.mem_of_getElem? (i := 101) (by decide +kernel), rfl⟩
theorem k_103 : zW (.initialized "GlassPalace") := ⟨List.mem_of_getElem? (i := 103) (by decide +kernel), rfl⟩
theorem k_104 : zW (.initialized "GlassPalace$Script") := ⟨List.mem_of_getElem? (i := 104) (by decide +kernel), rfl⟩
theorem k_105 : zW (.initialized "GlassPalace$Laws") := ⟨List.mem_of_getElem? (i := 105) (by decide +kernel), rfl⟩
theorem k_106 : zW (.initialized "GlassPalace$Text") := ⟨List.mem_of_getElem? (i := 106) (by decide +kernel), rfl⟩
theorem k_107 : zW (.initialized "GlassPalace$Water") := ⟨List.mem_of_getElem? (i := 107) (by decide +kernel), rfl⟩
theorem k_108 : zW (.initialized "GlassPalace$Plan") := ⟨List.mem_of_getElem? (i := 108) (by decide +kernel), rfl⟩
theorem k_109 : zW (.initialized "GlassPalace$Nations") := ⟨List.mem_of_getElem? (i := 109) (by decide +kernel), rfl⟩
theorem k_110 : zW (.initialized "GlassPalace$Acts") := ⟨List.mem_of_getElem? (i := 110) (by decide +kernel), rfl⟩
theorem k_111 : zW (.initialized "GlassPalace$Bay") := ⟨List.mem_of_getElem? (i := 111) (by decide +kernel), rfl⟩
theorem k_112 : zW (.initialized "GlassPalace$Tape") := ⟨List.mem_of_getElem? (i := 112) (by decide +kernel), rfl⟩
theorem k_113 : zW (.initialized "GlassPalaceModel") := ⟨List.mem_of_getElem? (i := 113) (by decide +kernel), rfl⟩
theorem k_114 : zW (.initialized "GlassPalace$Lot") := ⟨List.mem_of_getElem? (i := 114) (by decide +kernel), rfl⟩
theorem k_115 : zW (.initialized "java/lang/Math") := ⟨List.mem_of_getElem? (i := 115) (by decide +kernel), rfl⟩
theorem k_116 : zW (.initialized "java/lang/String") := ⟨List.mem_of_getElem? (i := 116) (by decide +kernel), rfl⟩
theorem k_117 : zW (.initialized "java/lang/StringLatin1") := ⟨List.mem_of_getElem? (i := 117) (by decide +kernel), rfl⟩
theorem k_118 : zW (.initialized "jdk/internal/util/Preconditions") := ⟨List.mem_of_getElem? (i := 118) (by decide +kernel), rfl⟩
theorem k_120 : zW (.initialized "GlassPalace$Gang") := ⟨List.mem_of_getElem? (i := 120) (by decide +kernel), rfl⟩
theorem k_121 : zW (.initialized "java/lang/Integer") := ⟨List.mem_of_getElem? (i := 121) (by decide +kernel), rfl⟩
theorem k_122 : zW (.initialized "java/lang/System") := ⟨List.mem_of_getElem? (i := 122) (by decide +kernel), rfl⟩
theorem k_129 : zW (.instanceMethod objectInit) := ⟨List.mem_of_getElem? (i := 129) (by decide +kernel), rfl⟩
theorem k_130 : zW (.code objectInit ⟨#[0xb1]⟩ 1 none) := ⟨List.mem_of_getElem? (i := 130) (by decide +kernel), rfl⟩
theorem k_131 : zW (.classLink "GlassPalace" 18 "GlassPalace$Lot") := ⟨List.mem_of_getElem? (i := 131) (by decide +kernel), rfl⟩
theorem k_141 : zW (.fieldLink "GlassPalace$Script" 15 "GlassPalace$Script" "length" "I") := ⟨List.mem_of_getElem? (i := 141) (by decide +kernel), rfl⟩
theorem k_142 : zW (.fieldLink "GlassPalace" 201 "GlassPalace$Script" "length" "I") := ⟨List.mem_of_getElem? (i := 142) (by decide +kernel), rfl⟩
theorem k_143 : zW (.fieldLink "GlassPalace$Script" 9 "GlassPalace$Script" "bytes" "[I") := ⟨List.mem_of_getElem? (i := 143) (by decide +kernel), rfl⟩
theorem k_144 : zW (.fieldLink "GlassPalace$Script" 19 "GlassPalace$Script" "place" "I") := ⟨List.mem_of_getElem? (i := 144) (by decide +kernel), rfl⟩
theorem k_145 : zW (.fieldLink "GlassPalace$Script" 22 "GlassPalace$Script" "fault" "I") := ⟨List.mem_of_getElem? (i := 145) (by decide +kernel), rfl⟩
theorem k_169 : zW (.fieldLink "GlassPalace$Laws" 26 "GlassPalace$Text" "from" "I") := ⟨List.mem_of_getElem? (i := 169) (by decide +kernel), rfl⟩
theorem k_170 : zW (.fieldLink "GlassPalace" 218 "GlassPalace$Text" "from" "I") := ⟨List.mem_of_getElem? (i := 170) (by decide +kernel), rfl⟩
theorem k_171 : zW (.fieldLink "GlassPalace$Text" 25 "GlassPalace$Text" "codeCount" "I") := ⟨List.mem_of_getElem? (i := 171) (by decide +kernel), rfl⟩
theorem k_172 : zW (.fieldLink "GlassPalace$Script" 44 "GlassPalace$Text" "codeCount" "I") := ⟨List.mem_of_getElem? (i := 172) (by decide +kernel), rfl⟩
theorem k_173 : zW (.fieldLink "GlassPalace$Text" 21 "GlassPalace$Text" "clauses" "I") := ⟨List.mem_of_getElem? (i := 173) (by decide +kernel), rfl⟩
theorem k_174 : zW (.fieldLink "GlassPalace$Text" 9 "GlassPalace$Text" "words" "[I") := ⟨List.mem_of_getElem? (i := 174) (by decide +kernel), rfl⟩
theorem k_175 : zW (.fieldLink "GlassPalace$Text" 15 "GlassPalace$Text" "values" "[I") := ⟨List.mem_of_getElem? (i := 175) (by decide +kernel), rfl⟩
theorem k_176 : zW (.fieldLink "GlassPalace$Text" 18 "GlassPalace$Text" "codes" "[I") := ⟨List.mem_of_getElem? (i := 176) (by decide +kernel), rfl⟩
theorem k_190 : zW (.fieldLink "GlassPalace$Laws" 22 "GlassPalace$Laws" "count" "I") := ⟨List.mem_of_getElem? (i := 190) (by decide +kernel), rfl⟩
theorem k_191 : zW (.fieldLink "GlassPalace" 223 "GlassPalace$Laws" "count" "I") := ⟨List.mem_of_getElem? (i := 191) (by decide +kernel), rfl⟩
theorem k_192 : zW (.fieldLink "GlassPalace$Laws" 11 "GlassPalace$Laws" "texts" "[LGlassPalace$Text;") := ⟨List.mem_of_getElem? (i := 192) (by decide +kernel), rfl⟩
theorem k_193 : zW (.fieldLink "GlassPalace$Laws" 17 "GlassPalace$Laws" "letters" "[I") := ⟨List.mem_of_getElem? (i := 193) (by decide +kernel), rfl⟩
theorem k_207 : zW (.fieldLink "GlassPalace$Water" 9 "GlassPalace$Water" "rain" "[I") := ⟨List.mem_of_getElem? (i := 207) (by decide +kernel), rfl⟩
theorem k_208 : zW (.fieldLink "GlassPalace" 268 "GlassPalace$Water" "rain" "[I") := ⟨List.mem_of_getElem? (i := 208) (by decide +kernel), rfl⟩
theorem k_209 : zW (.fieldLink "GlassPalace$Water" 15 "GlassPalace$Water" "standing" "[I") := ⟨List.mem_of_getElem? (i := 209) (by decide +kernel), rfl⟩
theorem k_210 : zW (.fieldLink "GlassPalace" 284 "GlassPalace$Water" "standing" "[I") := ⟨List.mem_of_getElem? (i := 210) (by decide +kernel), rfl⟩
theorem k_211 : zW (.fieldLink "GlassPalace$Water" 18 "GlassPalace$Water" "leaks" "[I") := ⟨List.mem_of_getElem? (i := 211) (by decide +kernel), rfl⟩
theorem k_212 : zW (.fieldLink "GlassPalace" 290 "GlassPalace$Water" "leaks" "[I") := ⟨List.mem_of_getElem? (i := 212) (by decide +kernel), rfl⟩
theorem k_213 : zW (.fieldLink "GlassPalace$Water" 21 "GlassPalace$Water" "coming" "[I") := ⟨List.mem_of_getElem? (i := 213) (by decide +kernel), rfl⟩
theorem k_214 : zW (.fieldLink "GlassPalace$Water" 24 "GlassPalace$Water" "sent" "[I") := ⟨List.mem_of_getElem? (i := 214) (by decide +kernel), rfl⟩
theorem k_226 : zW (.classLink "GlassPalace" 51 "GlassPalace$Gang") := ⟨List.mem_of_getElem? (i := 226) (by decide +kernel), rfl⟩
theorem k_234 : zW (.fieldLink "GlassPalace$Plan" 36 "GlassPalace$Plan" "rows" "I") := ⟨List.mem_of_getElem? (i := 234) (by decide +kernel), rfl⟩
theorem k_235 : zW (.fieldLink "GlassPalace" 330 "GlassPalace$Plan" "rows" "I") := ⟨List.mem_of_getElem? (i := 235) (by decide +kernel), rfl⟩
theorem k_236 : zW (.fieldLink "GlassPalace$Plan" 40 "GlassPalace$Plan" "additions" "I") := ⟨List.mem_of_getElem? (i := 236) (by decide +kernel), rfl⟩
theorem k_237 : zW (.fieldLink "GlassPalace" 337 "GlassPalace$Plan" "additions" "I") := ⟨List.mem_of_getElem? (i := 237) (by decide +kernel), rfl⟩
theorem k_238 : zW (.fieldLink "GlassPalace$Plan" 9 "GlassPalace$Plan" "kinds" "[I") := ⟨List.mem_of_getElem? (i := 238) (by decide +kernel), rfl⟩
theorem k_239 : zW (.fieldLink "GlassPalace" 350 "GlassPalace$Plan" "kinds" "[I") := ⟨List.mem_of_getElem? (i := 239) (by decide +kernel), rfl⟩
theorem k_240 : zW (.fieldLink "GlassPalace$Plan" 15 "GlassPalace$Plan" "days" "[I") := ⟨List.mem_of_getElem? (i := 240) (by decide +kernel), rfl⟩
theorem k_241 : zW (.fieldLink "GlassPalace" 347 "GlassPalace$Plan" "days" "[I") := ⟨List.mem_of_getElem? (i := 241) (by decide +kernel), rfl⟩
theorem k_242 : zW (.fieldLink "GlassPalace$Plan" 18 "GlassPalace$Plan" "missing" "[I") := ⟨List.mem_of_getElem? (i := 242) (by decide +kernel), rfl⟩
theorem k_243 : zW (.fieldLink "GlassPalace" 475 "GlassPalace$Plan" "missing" "[I") := ⟨List.mem_of_getElem? (i := 243) (by decide +kernel), rfl⟩
theorem k_244 : zW (.fieldLink "GlassPalace$Plan" 21 "GlassPalace$Plan" "wanted" "[I") := ⟨List.mem_of_getElem? (i := 244) (by decide +kernel), rfl⟩
theorem k_245 : zW (.fieldLink "GlassPalace$Plan" 24 "GlassPalace$Plan" "addedKinds" "[I") := ⟨List.mem_of_getElem? (i := 245) (by decide +kernel), rfl⟩
theorem k_246 : zW (.fieldLink "GlassPalace$Plan" 27 "GlassPalace$Plan" "added" "[I") := ⟨List.mem_of_getElem? (i := 246) (by decide +kernel), rfl⟩
theorem k_247 : zW (.fieldLink "GlassPalace$Plan" 30 "GlassPalace$Plan" "addedDays" "[I") := ⟨List.mem_of_getElem? (i := 247) (by decide +kernel), rfl⟩
theorem k_248 : zW (.fieldLink "GlassPalace$Plan" 33 "GlassPalace$Plan" "coins" "[I") := ⟨List.mem_of_getElem? (i := 248) (by decide +kernel), rfl⟩
theorem k_276 : zW (.fieldLink "GlassPalace$Nations" 9 "GlassPalace$Nations" "firsts" "[I") := ⟨List.mem_of_getElem? (i := 276) (by decide +kernel), rfl⟩
theorem k_277 : zW (.fieldLink "GlassPalace" 368 "GlassPalace$Nations" "firsts" "[I") := ⟨List.mem_of_getElem? (i := 277) (by decide +kernel), rfl⟩
theorem k_278 : zW (.fieldLink "GlassPalace$Nations" 15 "GlassPalace$Nations" "sizes" "[I") := ⟨List.mem_of_getElem? (i := 278) (by decide +kernel), rfl⟩
theorem k_279 : zW (.fieldLink "GlassPalace" 365 "GlassPalace$Nations" "sizes" "[I") := ⟨List.mem_of_getElem? (i := 279) (by decide +kernel), rfl⟩
theorem k_280 : zW (.fieldLink "GlassPalace$Nations" 18 "GlassPalace$Nations" "givenWay" "[I") := ⟨List.mem_of_getElem? (i := 280) (by decide +kernel), rfl⟩
theorem k_281 : zW (.fieldLink "GlassPalace" 371 "GlassPalace$Nations" "givenWay" "[I") := ⟨List.mem_of_getElem? (i := 281) (by decide +kernel), rfl⟩
theorem k_295 : zW (.fieldLink "GlassPalace$Acts" 15 "GlassPalace$Acts" "ran" "I") := ⟨List.mem_of_getElem? (i := 295) (by decide +kernel), rfl⟩
theorem k_296 : zW (.fieldLink "GlassPalace" 374 "GlassPalace$Acts" "ran" "I") := ⟨List.mem_of_getElem? (i := 296) (by decide +kernel), rfl⟩
theorem k_297 : zW (.fieldLink "GlassPalace$Acts" 9 "GlassPalace$Acts" "bodies" "[I") := ⟨List.mem_of_getElem? (i := 297) (by decide +kernel), rfl⟩
theorem k_311 : zW (.fieldLink "GlassPalace$Bay" 24 "GlassPalace$Bay" "number" "I") := ⟨List.mem_of_getElem? (i := 311) (by decide +kernel), rfl⟩
theorem k_312 : zW (.fieldLink "GlassPalace" 264 "GlassPalace$Bay" "number" "I") := ⟨List.mem_of_getElem? (i := 312) (by decide +kernel), rfl⟩
theorem k_313 : zW (.fieldLink "GlassPalace" 100 "GlassPalace$Bay" "level" "I") := ⟨List.mem_of_getElem? (i := 313) (by decide +kernel), rfl⟩
theorem k_314 : zW (.fieldLink "GlassPalace$Bay" 27 "GlassPalace$Bay" "level" "I") := ⟨List.mem_of_getElem? (i := 314) (by decide +kernel), rfl⟩
theorem k_315 : zW (.fieldLink "GlassPalace$Laws" 52 "GlassPalace$Bay" "level" "I") := ⟨List.mem_of_getElem? (i := 315) (by decide +kernel), rfl⟩
theorem k_316 : zW (.fieldLink "GlassPalace" 103 "GlassPalace$Bay" "tree" "I") := ⟨List.mem_of_getElem? (i := 316) (by decide +kernel), rfl⟩
theorem k_317 : zW (.fieldLink "GlassPalace$Laws" 47 "GlassPalace$Bay" "tree" "I") := ⟨List.mem_of_getElem? (i := 317) (by decide +kernel), rfl⟩
theorem k_318 : zW (.fieldLink "GlassPalace" 244 "GlassPalace$Bay" "people" "I") := ⟨List.mem_of_getElem? (i := 318) (by decide +kernel), rfl⟩
theorem k_319 : zW (.fieldLink "GlassPalace$Water" 31 "GlassPalace$Bay" "panes" "I") := ⟨List.mem_of_getElem? (i := 319) (by decide +kernel), rfl⟩
theorem k_320 : zW (.fieldLink "GlassPalace$Bay" 30 "GlassPalace$Bay" "panes" "I") := ⟨List.mem_of_getElem? (i := 320) (by decide +kernel), rfl⟩
theorem k_321 : zW (.fieldLink "GlassPalace" 182 "GlassPalace$Bay" "panes" "I") := ⟨List.mem_of_getElem? (i := 321) (by decide +kernel), rfl⟩
theorem k_322 : zW (.fieldLink "GlassPalace$Bay" 9 "GlassPalace$Bay" "leadsTo" "I") := ⟨List.mem_of_getElem? (i := 322) (by decide +kernel), rfl⟩
theorem k_323 : zW (.fieldLink "GlassPalace$Water" 59 "GlassPalace$Bay" "leadsTo" "I") := ⟨List.mem_of_getElem? (i := 323) (by decide +kernel), rfl⟩
theorem k_324 : zW (.fieldLink "GlassPalace" 274 "GlassPalace$Bay" "leadsTo" "I") := ⟨List.mem_of_getElem? (i := 324) (by decide +kernel), rfl⟩
theorem k_325 : zW (.fieldLink "GlassPalace$Bay" 17 "GlassPalace$Bay" "single" "[LGlassPalace$Lot;") := ⟨List.mem_of_getElem? (i := 325) (by decide +kernel), rfl⟩
theorem k_326 : zW (.fieldLink "GlassPalace$Bay" 21 "GlassPalace$Bay" "paneLots" "[LGlassPalace$Lot;") := ⟨List.mem_of_getElem? (i := 326) (by decide +kernel), rfl⟩
theorem k_349 : zW (.fieldLink "GlassPalace$Tape" 9 "GlassPalace$Tape" "sort" "I") := ⟨List.mem_of_getElem? (i := 349) (by decide +kernel), rfl⟩
theorem k_350 : zW (.fieldLink "GlassPalace" 393 "GlassPalace$Tape" "sort" "I") := ⟨List.mem_of_getElem? (i := 350) (by decide +kernel), rfl⟩
theorem k_351 : zW (.fieldLink "GlassPalace$Tape" 15 "GlassPalace$Tape" "items" "[J") := ⟨List.mem_of_getElem? (i := 351) (by decide +kernel), rfl⟩
theorem k_352 : zW (.fieldLink "GlassPalace" 431 "GlassPalace$Tape" "items" "[J") := ⟨List.mem_of_getElem? (i := 352) (by decide +kernel), rfl⟩
theorem k_353 : zW (.fieldLink "GlassPalace$Tape" 19 "GlassPalace$Tape" "size" "I") := ⟨List.mem_of_getElem? (i := 353) (by decide +kernel), rfl⟩
theorem k_362 : zW (.fieldLink "GlassPalace" 88 "GlassPalace" "today" "I") := ⟨List.mem_of_getElem? (i := 362) (by decide +kernel), rfl⟩
theorem k_363 : zW (.fieldLink "GlassPalace" 11 "GlassPalace" "leastDays" "[I") := ⟨List.mem_of_getElem? (i := 363) (by decide +kernel), rfl⟩
theorem k_364 : zW (.fieldLink "GlassPalace" 15 "GlassPalace" "latestDays" "[I") := ⟨List.mem_of_getElem? (i := 364) (by decide +kernel), rfl⟩
theorem k_365 : zW (.fieldLink "GlassPalace" 20 "GlassPalace" "lots" "[LGlassPalace$Lot;") := ⟨List.mem_of_getElem? (i := 365) (by decide +kernel), rfl⟩
theorem k_366 : zW (.fieldLink "GlassPalace" 116 "GlassPalace" "lotCount" "I") := ⟨List.mem_of_getElem? (i := 366) (by decide +kernel), rfl⟩
theorem k_367 : zW (.fieldLink "GlassPalace" 26 "GlassPalace" "bays" "[LGlassPalace$Bay;") := ⟨List.mem_of_getElem? (i := 367) (by decide +kernel), rfl⟩
theorem k_368 : zW (.fieldLink "GlassPalace" 33 "GlassPalace" "script" "LGlassPalace$Script;") := ⟨List.mem_of_getElem? (i := 368) (by decide +kernel), rfl⟩
theorem k_369 : zW (.fieldLink "GlassPalace" 40 "GlassPalace" "laws" "LGlassPalace$Laws;") := ⟨List.mem_of_getElem? (i := 369) (by decide +kernel), rfl⟩
theorem k_370 : zW (.fieldLink "GlassPalace" 47 "GlassPalace" "water" "LGlassPalace$Water;") := ⟨List.mem_of_getElem? (i := 370) (by decide +kernel), rfl⟩
theorem k_371 : zW (.fieldLink "GlassPalace" 53 "GlassPalace" "gangs" "[LGlassPalace$Gang;") := ⟨List.mem_of_getElem? (i := 371) (by decide +kernel), rfl⟩
theorem k_372 : zW (.fieldLink "GlassPalace" 293 "GlassPalace" "gangCount" "I") := ⟨List.mem_of_getElem? (i := 372) (by decide +kernel), rfl⟩
theorem k_373 : zW (.fieldLink "GlassPalace" 60 "GlassPalace" "plan" "LGlassPalace$Plan;") := ⟨List.mem_of_getElem? (i := 373) (by decide +kernel), rfl⟩
theorem k_374 : zW (.fieldLink "GlassPalace" 67 "GlassPalace" "nations" "LGlassPalace$Nations;") := ⟨List.mem_of_getElem? (i := 374) (by decide +kernel), rfl⟩
theorem k_375 : zW (.fieldLink "GlassPalace" 74 "GlassPalace" "acts" "LGlassPalace$Acts;") := ⟨List.mem_of_getElem? (i := 375) (by decide +kernel), rfl⟩
theorem k_376 : zW (.fieldLink "GlassPalace" 80 "GlassPalace" "tapes" "[LGlassPalace$Tape;") := ⟨List.mem_of_getElem? (i := 376) (by decide +kernel), rfl⟩
theorem k_416 : zW (.methodLink "GlassPalace" 92 yX11_bayOf) := ⟨List.mem_of_getElem? (i := 416) (by decide +kernel), rfl⟩
theorem k_418 : zW (.instanceMethod yX11_bayOf) := ⟨List.mem_of_getElem? (i := 418) (by decide +kernel), rfl⟩
theorem k_419 : zW (.code yX11_bayOf cX11_bayOf 2 (some (.object "GlassPalace$Bay"))) := ⟨List.mem_of_getElem? (i := 419) (by decide +kernel), rfl⟩
theorem k_420 : zW (.methodLink "GlassPalace" 277 yX11_isBay) := ⟨List.mem_of_getElem? (i := 420) (by decide +kernel), rfl⟩
theorem k_421 : zW (.static yX11_isBay) := ⟨List.mem_of_getElem? (i := 421) (by decide +kernel), rfl⟩
theorem k_422 : zW (.code yX11_isBay cX11_isBay 1 (some .boolean)) := ⟨List.mem_of_getElem? (i := 422) (by decide +kernel), rfl⟩
theorem k_423 : zW (.methodLink "GlassPalace" 96 yX1_isBare) := ⟨List.mem_of_getElem? (i := 423) (by decide +kernel), rfl⟩
theorem k_424 : zW (.instanceMethod yX1_isBare) := ⟨List.mem_of_getElem? (i := 424) (by decide +kernel), rfl⟩
theorem k_425 : zW (.selects "GlassPalace$Bay" yX1_isBare yX1_isBare) := ⟨List.mem_of_getElem? (i := 425) (by decide +kernel), rfl⟩
theorem k_426 : zW (.code yX1_isBare cX1_isBare 3 (some .boolean)) := ⟨List.mem_of_getElem? (i := 426) (by decide +kernel), rfl⟩
theorem k_427 : zW (.methodLink "GlassPalace$Bay" 37 yX1_has) := ⟨List.mem_of_getElem? (i := 427) (by decide +kernel), rfl⟩
theorem k_428 : zW (.instanceMethod yX1_has) := ⟨List.mem_of_getElem? (i := 428) (by decide +kernel), rfl⟩
theorem k_429 : zW (.selects "GlassPalace$Bay" yX1_has yX1_has) := ⟨List.mem_of_getElem? (i := 429) (by decide +kernel), rfl⟩
theorem k_430 : zW (.code yX1_has cX1_has 2 (some .boolean)) := ⟨List.mem_of_getElem? (i := 430) (by decide +kernel), rfl⟩
theorem k_431 : zW (.methodLink "GlassPalace$Bay" 33 yX1_latestAt) := ⟨List.mem_of_getElem? (i := 431) (by decide +kernel), rfl⟩
theorem k_432 : zW (.instanceMethod yX1_latestAt) := ⟨List.mem_of_getElem? (i := 432) (by decide +kernel), rfl⟩
theorem k_433 : zW (.selects "GlassPalace$Bay" yX1_latestAt yX1_latestAt) := ⟨List.mem_of_getElem? (i := 433) (by decide +kernel), rfl⟩
theorem k_434 : zW (.code yX1_latestAt cX1_latestAt 2 (some (.object "GlassPalace$Lot"))) := ⟨List.mem_of_getElem? (i := 434) (by decide +kernel), rfl⟩
theorem k_439 : zW (.methodLink "GlassPalace" 106 yX11_isFoundry) := ⟨List.mem_of_getElem? (i := 439) (by decide +kernel), rfl⟩
theorem k_440 : zW (.static yX11_isFoundry) := ⟨List.mem_of_getElem? (i := 440) (by decide +kernel), rfl⟩
theorem k_441 : zW (.code yX11_isFoundry cX11_isFoundry 1 (some .boolean)) := ⟨List.mem_of_getElem? (i := 441) (by decide +kernel), rfl⟩
theorem k_446 : zW (.methodLink "GlassPalace" 110 yX11_isKind) := ⟨List.mem_of_getElem? (i := 446) (by decide +kernel), rfl⟩
theorem k_447 : zW (.static yX11_isKind) := ⟨List.mem_of_getElem? (i := 447) (by decide +kernel), rfl⟩
theorem k_448 : zW (.code yX11_isKind cX11_isKind 1 (some .boolean)) := ⟨List.mem_of_getElem? (i := 448) (by decide +kernel), rfl⟩
theorem k_449 : zW (.methodLink "GlassPalace" 113 yX11_isNumberOfPieces) := ⟨List.mem_of_getElem? (i := 449) (by decide +kernel), rfl⟩
theorem k_450 : zW (.static yX11_isNumberOfPieces) := ⟨List.mem_of_getElem? (i := 450) (by decide +kernel), rfl⟩
theorem k_451 : zW (.code yX11_isNumberOfPieces cX11_isNumberOfPieces 1 (some .boolean)) := ⟨List.mem_of_getElem? (i := 451) (by decide +kernel), rfl⟩
theorem k_452 : zW (.instantiable "GlassPalace$Lot" 11) := ⟨List.mem_of_getElem? (i := 452) (by decide +kernel), rfl⟩
theorem k_453 : zW (.methodLink "GlassPalace" 119 yX4_init) := ⟨List.mem_of_getElem? (i := 453) (by decide +kernel), rfl⟩
theorem k_454 : zW (.instanceMethod yX4_init) := ⟨List.mem_of_getElem? (i := 454) (by decide +kernel), rfl⟩
theorem k_455 : zW (.code yX4_init cX4_init 7 none) := ⟨List.mem_of_getElem? (i := 455) (by decide +kernel), rfl⟩
theorem k_456 : zW (.methodLink "GlassPalace$Lot" 3 objectInit) := ⟨List.mem_of_getElem? (i := 456) (by decide +kernel), rfl⟩
theorem k_457 : zW (.fieldLink "GlassPalace$Lot" 18 "GlassPalace$Lot" "number" "I") := ⟨List.mem_of_getElem? (i := 457) (by decide +kernel), rfl⟩
theorem k_458 : zW (.fieldLink "GlassPalace$Acts" 38 "GlassPalace$Lot" "number" "I") := ⟨List.mem_of_getElem? (i := 458) (by decide +kernel), rfl⟩
theorem k_459 : zW (.fieldLink "GlassPalace" 188 "GlassPalace$Lot" "number" "I") := ⟨List.mem_of_getElem? (i := 459) (by decide +kernel), rfl⟩
theorem k_460 : zW (.fieldLink "GlassPalace$Lot" 21 "GlassPalace$Lot" "kind" "I") := ⟨List.mem_of_getElem? (i := 460) (by decide +kernel), rfl⟩
theorem k_461 : zW (.fieldLink "GlassPalace$Acts" 19 "GlassPalace$Lot" "kind" "I") := ⟨List.mem_of_getElem? (i := 461) (by decide +kernel), rfl⟩
theorem k_462 : zW (.fieldLink "GlassPalace" 138 "GlassPalace$Lot" "kind" "I") := ⟨List.mem_of_getElem? (i := 462) (by decide +kernel), rfl⟩
theorem k_463 : zW (.fieldLink "GlassPalace$Lot" 24 "GlassPalace$Lot" "foundry" "I") := ⟨List.mem_of_getElem? (i := 463) (by decide +kernel), rfl⟩
theorem k_464 : zW (.fieldLink "GlassPalace$Acts" 44 "GlassPalace$Lot" "foundry" "I") := ⟨List.mem_of_getElem? (i := 464) (by decide +kernel), rfl⟩
theorem k_465 : zW (.fieldLink "GlassPalace" 141 "GlassPalace$Lot" "foundry" "I") := ⟨List.mem_of_getElem? (i := 465) (by decide +kernel), rfl⟩
theorem k_466 : zW (.fieldLink "GlassPalace$Lot" 27 "GlassPalace$Lot" "pieces" "I") := ⟨List.mem_of_getElem? (i := 466) (by decide +kernel), rfl⟩
theorem k_467 : zW (.fieldLink "GlassPalace" 144 "GlassPalace$Lot" "pieces" "I") := ⟨List.mem_of_getElem? (i := 467) (by decide +kernel), rfl⟩
theorem k_468 : zW (.fieldLink "GlassPalace$Lot" 30 "GlassPalace$Lot" "v" "I") := ⟨List.mem_of_getElem? (i := 468) (by decide +kernel), rfl⟩
theorem k_469 : zW (.fieldLink "GlassPalace$Water" 51 "GlassPalace$Lot" "v" "I") := ⟨List.mem_of_getElem? (i := 469) (by decide +kernel), rfl⟩
theorem k_470 : zW (.fieldLink "GlassPalace$Acts" 41 "GlassPalace$Lot" "v" "I") := ⟨List.mem_of_getElem? (i := 470) (by decide +kernel), rfl⟩
theorem k_471 : zW (.fieldLink "GlassPalace" 147 "GlassPalace$Lot" "v" "I") := ⟨List.mem_of_getElem? (i := 471) (by decide +kernel), rfl⟩
theorem k_472 : zW (.fieldLink "GlassPalace$Lot" 33 "GlassPalace$Lot" "orderedOn" "I") := ⟨List.mem_of_getElem? (i := 472) (by decide +kernel), rfl⟩
theorem k_473 : zW (.fieldLink "GlassPalace" 126 "GlassPalace$Lot" "orderedOn" "I") := ⟨List.mem_of_getElem? (i := 473) (by decide +kernel), rfl⟩
theorem k_474 : zW (.fieldLink "GlassPalace$Lot" 9 "GlassPalace$Lot" "cameOn" "I") := ⟨List.mem_of_getElem? (i := 474) (by decide +kernel), rfl⟩
theorem k_475 : zW (.fieldLink "GlassPalace" 132 "GlassPalace$Lot" "cameOn" "I") := ⟨List.mem_of_getElem? (i := 475) (by decide +kernel), rfl⟩
theorem k_476 : zW (.fieldLink "GlassPalace$Lot" 15 "GlassPalace$Lot" "toldOn" "I") := ⟨List.mem_of_getElem? (i := 476) (by decide +kernel), rfl⟩
theorem k_477 : zW (.fieldLink "GlassPalace" 135 "GlassPalace$Lot" "toldOn" "I") := ⟨List.mem_of_getElem? (i := 477) (by decide +kernel), rfl⟩
theorem k_478 : zW (.fieldLink "GlassPalace$Lot" 40 "GlassPalace$Lot" "standing" "I") := ⟨List.mem_of_getElem? (i := 478) (by decide +kernel), rfl⟩
theorem k_479 : zW (.fieldLink "GlassPalace$Bay" 49 "GlassPalace$Lot" "standing" "I") := ⟨List.mem_of_getElem? (i := 479) (by decide +kernel), rfl⟩
theorem k_480 : zW (.fieldLink "GlassPalace" 463 "GlassPalace$Lot" "standing" "I") := ⟨List.mem_of_getElem? (i := 480) (by decide +kernel), rfl⟩
theorem k_481 : zW (.fieldLink "GlassPalace$Lot" 43 "GlassPalace$Lot" "broken" "I") := ⟨List.mem_of_getElem? (i := 481) (by decide +kernel), rfl⟩
theorem k_482 : zW (.fieldLink "GlassPalace" 162 "GlassPalace$Lot" "broken" "I") := ⟨List.mem_of_getElem? (i := 482) (by decide +kernel), rfl⟩
theorem k_483 : zW (.fieldLink "GlassPalace$Lot" 46 "GlassPalace$Lot" "sold" "I") := ⟨List.mem_of_getElem? (i := 483) (by decide +kernel), rfl⟩
theorem k_484 : zW (.fieldLink "GlassPalace" 165 "GlassPalace$Lot" "sold" "I") := ⟨List.mem_of_getElem? (i := 484) (by decide +kernel), rfl⟩
theorem k_512 : zW (.methodLink "GlassPalace" 122 yX11_lotOf) := ⟨List.mem_of_getElem? (i := 512) (by decide +kernel), rfl⟩
theorem k_514 : zW (.instanceMethod yX11_lotOf) := ⟨List.mem_of_getElem? (i := 514) (by decide +kernel), rfl⟩
theorem k_515 : zW (.code yX11_lotOf cX11_lotOf 2 (some (.object "GlassPalace$Lot"))) := ⟨List.mem_of_getElem? (i := 515) (by decide +kernel), rfl⟩
theorem k_516 : zW (.methodLink "GlassPalace" 129 yX4_isTold) := ⟨List.mem_of_getElem? (i := 516) (by decide +kernel), rfl⟩
theorem k_517 : zW (.instanceMethod yX4_isTold) := ⟨List.mem_of_getElem? (i := 517) (by decide +kernel), rfl⟩
theorem k_518 : zW (.selects "GlassPalace$Lot" yX4_isTold yX4_isTold) := ⟨List.mem_of_getElem? (i := 518) (by decide +kernel), rfl⟩
theorem k_519 : zW (.code yX4_isTold cX4_isTold 1 (some .boolean)) := ⟨List.mem_of_getElem? (i := 519) (by decide +kernel), rfl⟩
theorem k_524 : zW (.methodLink "GlassPalace" 150 yX4_stock) := ⟨List.mem_of_getElem? (i := 524) (by decide +kernel), rfl⟩
theorem k_525 : zW (.instanceMethod yX4_stock) := ⟨List.mem_of_getElem? (i := 525) (by decide +kernel), rfl⟩
theorem k_526 : zW (.selects "GlassPalace$Lot" yX4_stock yX4_stock) := ⟨List.mem_of_getElem? (i := 526) (by decide +kernel), rfl⟩
theorem k_527 : zW (.code yX4_stock cX4_stock 1 (some .int)) := ⟨List.mem_of_getElem? (i := 527) (by decide +kernel), rfl⟩
theorem k_528 : zW (.methodLink "GlassPalace$Lot" 36 yX4_isTold) := ⟨List.mem_of_getElem? (i := 528) (by decide +kernel), rfl⟩
theorem k_529 : zW (.methodLink "GlassPalace" 154 yX11_isBarred) := ⟨List.mem_of_getElem? (i := 529) (by decide +kernel), rfl⟩
theorem k_531 : zW (.instanceMethod yX11_isBarred) := ⟨List.mem_of_getElem? (i := 531) (by decide +kernel), rfl⟩
theorem k_532 : zW (.code yX11_isBarred cX11_isBarred 6 (some .boolean)) := ⟨List.mem_of_getElem? (i := 532) (by decide +kernel), rfl⟩
theorem k_533 : zW (.methodLink "GlassPalace" 229 yX3_bars) := ⟨List.mem_of_getElem? (i := 533) (by decide +kernel), rfl⟩
theorem k_534 : zW (.instanceMethod yX3_bars) := ⟨List.mem_of_getElem? (i := 534) (by decide +kernel), rfl⟩
theorem k_535 : zW (.selects "GlassPalace$Laws" yX3_bars yX3_bars) := ⟨List.mem_of_getElem? (i := 535) (by decide +kernel), rfl⟩
theorem k_536 : zW (.code yX3_bars cX3_bars 3 (some .boolean)) := ⟨List.mem_of_getElem? (i := 536) (by decide +kernel), rfl⟩
theorem k_537 : zW (.methodLink "GlassPalace$Laws" 62 yX3_holdsFor) := ⟨List.mem_of_getElem? (i := 537) (by decide +kernel), rfl⟩
theorem k_539 : zW (.instanceMethod yX3_holdsFor) := ⟨List.mem_of_getElem? (i := 539) (by decide +kernel), rfl⟩
theorem k_540 : zW (.code yX3_holdsFor cX3_holdsFor 4 (some .boolean)) := ⟨List.mem_of_getElem? (i := 540) (by decide +kernel), rfl⟩
theorem k_541 : zW (.methodLink "GlassPalace$Laws" 33 yX3_textFor) := ⟨List.mem_of_getElem? (i := 541) (by decide +kernel), rfl⟩
theorem k_542 : zW (.instanceMethod yX3_textFor) := ⟨List.mem_of_getElem? (i := 542) (by decide +kernel), rfl⟩
theorem k_543 : zW (.selects "GlassPalace$Laws" yX3_textFor yX3_textFor) := ⟨List.mem_of_getElem? (i := 543) (by decide +kernel), rfl⟩
theorem k_544 : zW (.code yX3_textFor cX3_textFor 7 (some .int)) := ⟨List.mem_of_getElem? (i := 544) (by decide +kernel), rfl⟩
theorem k_545 : zW (.methodLink "GlassPalace$Laws" 29 yX9_lastClauseOf) := ⟨List.mem_of_getElem? (i := 545) (by decide +kernel), rfl⟩
theorem k_546 : zW (.instanceMethod yX9_lastClauseOf) := ⟨List.mem_of_getElem? (i := 546) (by decide +kernel), rfl⟩
theorem k_547 : zW (.selects "GlassPalace$Text" yX9_lastClauseOf yX9_lastClauseOf) := ⟨List.mem_of_getElem? (i := 547) (by decide +kernel), rfl⟩
theorem k_548 : zW (.code yX9_lastClauseOf cX9_lastClauseOf 4 (some .int)) := ⟨List.mem_of_getElem? (i := 548) (by decide +kernel), rfl⟩
theorem k_549 : zW (.methodLink "GlassPalace$Laws" 37 yX3_textOf) := ⟨List.mem_of_getElem? (i := 549) (by decide +kernel), rfl⟩
theorem k_550 : zW (.instanceMethod yX3_textOf) := ⟨List.mem_of_getElem? (i := 550) (by decide +kernel), rfl⟩
theorem k_551 : zW (.selects "GlassPalace$Laws" yX3_textOf yX3_textOf) := ⟨List.mem_of_getElem? (i := 551) (by decide +kernel), rfl⟩
theorem k_552 : zW (.code yX3_textOf cX3_textOf 2 (some (.object "GlassPalace$Text"))) := ⟨List.mem_of_getElem? (i := 552) (by decide +kernel), rfl⟩
theorem k_553 : zW (.methodLink "GlassPalace$Laws" 41 yX9_valueOf) := ⟨List.mem_of_getElem? (i := 553) (by decide +kernel), rfl⟩
theorem k_554 : zW (.instanceMethod yX9_valueOf) := ⟨List.mem_of_getElem? (i := 554) (by decide +kernel), rfl⟩
theorem k_555 : zW (.selects "GlassPalace$Text" yX9_valueOf yX9_valueOf) := ⟨List.mem_of_getElem? (i := 555) (by decide +kernel), rfl⟩
theorem k_556 : zW (.code yX9_valueOf cX9_valueOf 2 (some .int)) := ⟨List.mem_of_getElem? (i := 556) (by decide +kernel), rfl⟩
theorem k_557 : zW (.methodLink "GlassPalace$Laws" 66 yX9_holds) := ⟨List.mem_of_getElem? (i := 557) (by decide +kernel), rfl⟩
theorem k_558 : zW (.instanceMethod yX9_holds) := ⟨List.mem_of_getElem? (i := 558) (by decide +kernel), rfl⟩
theorem k_559 : zW (.selects "GlassPalace$Text" yX9_holds yX9_holds) := ⟨List.mem_of_getElem? (i := 559) (by decide +kernel), rfl⟩
theorem k_560 : zW (.code yX9_holds cX9_holds 6 (some .boolean)) := ⟨List.mem_of_getElem? (i := 560) (by decide +kernel), rfl⟩
theorem k_561 : zW (.methodLink "GlassPalace$Text" 32 Lib.Math.max.name) := ⟨List.mem_of_getElem? (i := 561) (by decide +kernel), rfl⟩
theorem k_562 : zW (.static Lib.Math.max.name) := ⟨List.mem_of_getElem? (i := 562) (by decide +kernel), rfl⟩
theorem k_563 : zW (.code Lib.Math.max.name Lib.Math.max.code 2 (some .int)) := ⟨List.mem_of_getElem? (i := 563) (by decide +kernel), rfl⟩
theorem k_564 : zW (.methodLink "GlassPalace$Text" 38 yX9_testHolds) := ⟨List.mem_of_getElem? (i := 564) (by decide +kernel), rfl⟩
theorem k_565 : zW (.static yX9_testHolds) := ⟨List.mem_of_getElem? (i := 565) (by decide +kernel), rfl⟩
theorem k_566 : zW (.code yX9_testHolds cX9_testHolds 6 (some .boolean)) := ⟨List.mem_of_getElem? (i := 566) (by decide +kernel), rfl⟩
theorem k_567 : zW (.methodLink "GlassPalace" 447 yX4_isOrderedLike) := ⟨List.mem_of_getElem? (i := 567) (by decide +kernel), rfl⟩
theorem k_568 : zW (.instanceMethod yX4_isOrderedLike) := ⟨List.mem_of_getElem? (i := 568) (by decide +kernel), rfl⟩
theorem k_569 : zW (.selects "GlassPalace$Lot" yX4_isOrderedLike yX4_isOrderedLike) := ⟨List.mem_of_getElem? (i := 569) (by decide +kernel), rfl⟩
theorem k_570 : zW (.code yX4_isOrderedLike cX4_isOrderedLike 2 (some .boolean)) := ⟨List.mem_of_getElem? (i := 570) (by decide +kernel), rfl⟩
theorem k_571 : zW (.methodLink "GlassPalace" 158 yX3_numberFor) := ⟨List.mem_of_getElem? (i := 571) (by decide +kernel), rfl⟩
theorem k_572 : zW (.instanceMethod yX3_numberFor) := ⟨List.mem_of_getElem? (i := 572) (by decide +kernel), rfl⟩
theorem k_573 : zW (.selects "GlassPalace$Laws" yX3_numberFor yX3_numberFor) := ⟨List.mem_of_getElem? (i := 573) (by decide +kernel), rfl⟩
theorem k_574 : zW (.code yX3_numberFor cX3_numberFor 4 (some .int)) := ⟨List.mem_of_getElem? (i := 574) (by decide +kernel), rfl⟩
theorem k_575 : zW (.fieldLink "GlassPalace$Laws" 44 "GlassPalace$Laws" "WITHOUT" "[I") := ⟨List.mem_of_getElem? (i := 575) (by decide +kernel), rfl⟩
theorem k_589 : zW (.methodLink "GlassPalace" 168 yX1_wantedLength) := ⟨List.mem_of_getElem? (i := 589) (by decide +kernel), rfl⟩
theorem k_590 : zW (.instanceMethod yX1_wantedLength) := ⟨List.mem_of_getElem? (i := 590) (by decide +kernel), rfl⟩
theorem k_591 : zW (.selects "GlassPalace$Bay" yX1_wantedLength yX1_wantedLength) := ⟨List.mem_of_getElem? (i := 591) (by decide +kernel), rfl⟩
theorem k_592 : zW (.code yX1_wantedLength cX1_wantedLength 1 (some .int)) := ⟨List.mem_of_getElem? (i := 592) (by decide +kernel), rfl⟩
theorem k_597 : zW (.methodLink "GlassPalace" 171 yX11_hindrance) := ⟨List.mem_of_getElem? (i := 597) (by decide +kernel), rfl⟩
theorem k_599 : zW (.instanceMethod yX11_hindrance) := ⟨List.mem_of_getElem? (i := 599) (by decide +kernel), rfl⟩
theorem k_600 : zW (.code yX11_hindrance cX11_hindrance 4 (some .int)) := ⟨List.mem_of_getElem? (i := 600) (by decide +kernel), rfl⟩
theorem k_601 : zW (.methodLink "GlassPalace" 303 yX4_place) := ⟨List.mem_of_getElem? (i := 601) (by decide +kernel), rfl⟩
theorem k_602 : zW (.instanceMethod yX4_place) := ⟨List.mem_of_getElem? (i := 602) (by decide +kernel), rfl⟩
theorem k_603 : zW (.selects "GlassPalace$Lot" yX4_place yX4_place) := ⟨List.mem_of_getElem? (i := 603) (by decide +kernel), rfl⟩
theorem k_604 : zW (.code yX4_place cX4_place 1 (some .int)) := ⟨List.mem_of_getElem? (i := 604) (by decide +kernel), rfl⟩
theorem k_605 : zW (.methodLink "GlassPalace" 314 yX1_room) := ⟨List.mem_of_getElem? (i := 605) (by decide +kernel), rfl⟩
theorem k_606 : zW (.instanceMethod yX1_room) := ⟨List.mem_of_getElem? (i := 606) (by decide +kernel), rfl⟩
theorem k_607 : zW (.selects "GlassPalace$Bay" yX1_room yX1_room) := ⟨List.mem_of_getElem? (i := 607) (by decide +kernel), rfl⟩
theorem k_608 : zW (.code yX1_room cX1_room 2 (some .int)) := ⟨List.mem_of_getElem? (i := 608) (by decide +kernel), rfl⟩
theorem k_609 : zW (.methodLink "GlassPalace" 450 yX11_hasLengthFor) := ⟨List.mem_of_getElem? (i := 609) (by decide +kernel), rfl⟩
theorem k_611 : zW (.instanceMethod yX11_hasLengthFor) := ⟨List.mem_of_getElem? (i := 611) (by decide +kernel), rfl⟩
theorem k_612 : zW (.code yX11_hasLengthFor cX11_hasLengthFor 4 (some .boolean)) := ⟨List.mem_of_getElem? (i := 612) (by decide +kernel), rfl⟩
theorem k_613 : zW (.methodLink "GlassPalace" 453 yX11_hasGroundFor) := ⟨List.mem_of_getElem? (i := 613) (by decide +kernel), rfl⟩
theorem k_615 : zW (.instanceMethod yX11_hasGroundFor) := ⟨List.mem_of_getElem? (i := 615) (by decide +kernel), rfl⟩
theorem k_616 : zW (.code yX11_hasGroundFor cX11_hasGroundFor 4 (some .boolean)) := ⟨List.mem_of_getElem? (i := 616) (by decide +kernel), rfl⟩
theorem k_617 : zW (.methodLink "GlassPalace" 247 yX1_has) := ⟨List.mem_of_getElem? (i := 617) (by decide +kernel), rfl⟩
theorem k_618 : zW (.methodLink "GlassPalace" 456 yX11_rightOf) := ⟨List.mem_of_getElem? (i := 618) (by decide +kernel), rfl⟩
theorem k_620 : zW (.instanceMethod yX11_rightOf) := ⟨List.mem_of_getElem? (i := 620) (by decide +kernel), rfl⟩
theorem k_621 : zW (.code yX11_rightOf cX11_rightOf 2 (some (.object "GlassPalace$Bay"))) := ⟨List.mem_of_getElem? (i := 621) (by decide +kernel), rfl⟩
theorem k_622 : zW (.methodLink "GlassPalace" 444 yX1_column) := ⟨List.mem_of_getElem? (i := 622) (by decide +kernel), rfl⟩
theorem k_623 : zW (.instanceMethod yX1_column) := ⟨List.mem_of_getElem? (i := 623) (by decide +kernel), rfl⟩
theorem k_624 : zW (.selects "GlassPalace$Bay" yX1_column yX1_column) := ⟨List.mem_of_getElem? (i := 624) (by decide +kernel), rfl⟩
theorem k_625 : zW (.code yX1_column cX1_column 1 (some .int)) := ⟨List.mem_of_getElem? (i := 625) (by decide +kernel), rfl⟩
theorem k_630 : zW (.methodLink "GlassPalace" 175 yX1_put) := ⟨List.mem_of_getElem? (i := 630) (by decide +kernel), rfl⟩
theorem k_631 : zW (.instanceMethod yX1_put) := ⟨List.mem_of_getElem? (i := 631) (by decide +kernel), rfl⟩
theorem k_632 : zW (.selects "GlassPalace$Bay" yX1_put yX1_put) := ⟨List.mem_of_getElem? (i := 632) (by decide +kernel), rfl⟩
theorem k_633 : zW (.code yX1_put cX1_put 3 none) := ⟨List.mem_of_getElem? (i := 633) (by decide +kernel), rfl⟩
theorem k_634 : zW (.methodLink "GlassPalace$Bay" 41 yX4_place) := ⟨List.mem_of_getElem? (i := 634) (by decide +kernel), rfl⟩
theorem k_635 : zW (.methodLink "GlassPalace$Bay" 45 yX1_room) := ⟨List.mem_of_getElem? (i := 635) (by decide +kernel), rfl⟩
theorem k_640 : zW (.methodLink "GlassPalace" 179 yX11_isPlace) := ⟨List.mem_of_getElem? (i := 640) (by decide +kernel), rfl⟩
theorem k_641 : zW (.static yX11_isPlace) := ⟨List.mem_of_getElem? (i := 641) (by decide +kernel), rfl⟩
theorem k_642 : zW (.code yX11_isPlace cX11_isPlace 1 (some .boolean)) := ⟨List.mem_of_getElem? (i := 642) (by decide +kernel), rfl⟩
theorem k_643 : zW (.methodLink "GlassPalace" 185 yX1_latestAt) := ⟨List.mem_of_getElem? (i := 643) (by decide +kernel), rfl⟩
theorem k_648 : zW (.methodLink "GlassPalace" 191 yX11_isNeeded) := ⟨List.mem_of_getElem? (i := 648) (by decide +kernel), rfl⟩
theorem k_650 : zW (.instanceMethod yX11_isNeeded) := ⟨List.mem_of_getElem? (i := 650) (by decide +kernel), rfl⟩
theorem k_651 : zW (.code yX11_isNeeded cX11_isNeeded 4 (some .boolean)) := ⟨List.mem_of_getElem? (i := 651) (by decide +kernel), rfl⟩
theorem k_652 : zW (.methodLink "GlassPalace" 460 yX11_leftOf) := ⟨List.mem_of_getElem? (i := 652) (by decide +kernel), rfl⟩
theorem k_654 : zW (.instanceMethod yX11_leftOf) := ⟨List.mem_of_getElem? (i := 654) (by decide +kernel), rfl⟩
theorem k_655 : zW (.code yX11_leftOf cX11_leftOf 2 (some (.object "GlassPalace$Bay"))) := ⟨List.mem_of_getElem? (i := 655) (by decide +kernel), rfl⟩
theorem k_656 : zW (.methodLink "GlassPalace" 195 yX1_remove) := ⟨List.mem_of_getElem? (i := 656) (by decide +kernel), rfl⟩
theorem k_657 : zW (.instanceMethod yX1_remove) := ⟨List.mem_of_getElem? (i := 657) (by decide +kernel), rfl⟩
theorem k_658 : zW (.selects "GlassPalace$Bay" yX1_remove yX1_remove) := ⟨List.mem_of_getElem? (i := 658) (by decide +kernel), rfl⟩
theorem k_659 : zW (.code yX1_remove cX1_remove 3 none) := ⟨List.mem_of_getElem? (i := 659) (by decide +kernel), rfl⟩
theorem k_664 : zW (.methodLink "GlassPalace" 198 yX3_mayCut) := ⟨List.mem_of_getElem? (i := 664) (by decide +kernel), rfl⟩
theorem k_665 : zW (.instanceMethod yX3_mayCut) := ⟨List.mem_of_getElem? (i := 665) (by decide +kernel), rfl⟩
theorem k_666 : zW (.selects "GlassPalace$Laws" yX3_mayCut yX3_mayCut) := ⟨List.mem_of_getElem? (i := 666) (by decide +kernel), rfl⟩
theorem k_667 : zW (.code yX3_mayCut cX3_mayCut 3 (some .boolean)) := ⟨List.mem_of_getElem? (i := 667) (by decide +kernel), rfl⟩
theorem k_668 : zW (.methodLink "GlassPalace$Laws" 55 yX1_column) := ⟨List.mem_of_getElem? (i := 668) (by decide +kernel), rfl⟩
theorem k_669 : zW (.methodLink "GlassPalace$Laws" 59 yX1_row) := ⟨List.mem_of_getElem? (i := 669) (by decide +kernel), rfl⟩
theorem k_670 : zW (.instanceMethod yX1_row) := ⟨List.mem_of_getElem? (i := 670) (by decide +kernel), rfl⟩
theorem k_671 : zW (.selects "GlassPalace$Bay" yX1_row yX1_row) := ⟨List.mem_of_getElem? (i := 671) (by decide +kernel), rfl⟩
theorem k_672 : zW (.code yX1_row cX1_row 1 (some .int)) := ⟨List.mem_of_getElem? (i := 672) (by decide +kernel), rfl⟩
theorem k_677 : zW (.methodLink "GlassPalace" 204 yX7_append) := ⟨List.mem_of_getElem? (i := 677) (by decide +kernel), rfl⟩
theorem k_678 : zW (.instanceMethod yX7_append) := ⟨List.mem_of_getElem? (i := 678) (by decide +kernel), rfl⟩
theorem k_679 : zW (.selects "GlassPalace$Script" yX7_append yX7_append) := ⟨List.mem_of_getElem? (i := 679) (by decide +kernel), rfl⟩
theorem k_680 : zW (.code yX7_append cX7_append 2 none) := ⟨List.mem_of_getElem? (i := 680) (by decide +kernel), rfl⟩
theorem k_685 : zW (.methodLink "GlassPalace" 207 yX11_isDay) := ⟨List.mem_of_getElem? (i := 685) (by decide +kernel), rfl⟩
theorem k_686 : zW (.static yX11_isDay) := ⟨List.mem_of_getElem? (i := 686) (by decide +kernel), rfl⟩
theorem k_687 : zW (.code yX11_isDay cX11_isDay 1 (some .boolean)) := ⟨List.mem_of_getElem? (i := 687) (by decide +kernel), rfl⟩
theorem k_688 : zW (.methodLink "GlassPalace" 210 yX3_nextText) := ⟨List.mem_of_getElem? (i := 688) (by decide +kernel), rfl⟩
theorem k_689 : zW (.instanceMethod yX3_nextText) := ⟨List.mem_of_getElem? (i := 689) (by decide +kernel), rfl⟩
theorem k_690 : zW (.selects "GlassPalace$Laws" yX3_nextText yX3_nextText) := ⟨List.mem_of_getElem? (i := 690) (by decide +kernel), rfl⟩
theorem k_691 : zW (.code yX3_nextText cX3_nextText 1 (some (.object "GlassPalace$Text"))) := ⟨List.mem_of_getElem? (i := 691) (by decide +kernel), rfl⟩
theorem k_692 : zW (.methodLink "GlassPalace" 214 yX7_readInto) := ⟨List.mem_of_getElem? (i := 692) (by decide +kernel), rfl⟩
theorem k_693 : zW (.instanceMethod yX7_readInto) := ⟨List.mem_of_getElem? (i := 693) (by decide +kernel), rfl⟩
theorem k_694 : zW (.selects "GlassPalace$Script" yX7_readInto yX7_readInto) := ⟨List.mem_of_getElem? (i := 694) (by decide +kernel), rfl⟩
theorem k_695 : zW (.code yX7_readInto cX7_readInto 4 (some .int)) := ⟨List.mem_of_getElem? (i := 695) (by decide +kernel), rfl⟩
theorem k_696 : zW (.methodLink "GlassPalace$Script" 25 yX9_empty) := ⟨List.mem_of_getElem? (i := 696) (by decide +kernel), rfl⟩
theorem k_697 : zW (.instanceMethod yX9_empty) := ⟨List.mem_of_getElem? (i := 697) (by decide +kernel), rfl⟩
theorem k_698 : zW (.selects "GlassPalace$Text" yX9_empty yX9_empty) := ⟨List.mem_of_getElem? (i := 698) (by decide +kernel), rfl⟩
theorem k_699 : zW (.code yX9_empty cX9_empty 1 none) := ⟨List.mem_of_getElem? (i := 699) (by decide +kernel), rfl⟩
theorem k_700 : zW (.methodLink "GlassPalace$Script" 30 yX7_readClause) := ⟨List.mem_of_getElem? (i := 700) (by decide +kernel), rfl⟩
theorem k_702 : zW (.instanceMethod yX7_readClause) := ⟨List.mem_of_getElem? (i := 702) (by decide +kernel), rfl⟩
theorem k_703 : zW (.code yX7_readClause cX7_readClause 3 none) := ⟨List.mem_of_getElem? (i := 703) (by decide +kernel), rfl⟩
theorem k_704 : zW (.methodLink "GlassPalace$Script" 41 yX7_readWord) := ⟨List.mem_of_getElem? (i := 704) (by decide +kernel), rfl⟩
theorem k_706 : zW (.instanceMethod yX7_readWord) := ⟨List.mem_of_getElem? (i := 706) (by decide +kernel), rfl⟩
theorem k_707 : zW (.code yX7_readWord cX7_readWord 5 (some .int)) := ⟨List.mem_of_getElem? (i := 707) (by decide +kernel), rfl⟩
theorem k_708 : zW (.fieldLink "GlassPalace$Script" 62 "GlassPalace$Script" "STARTS" "[I") := ⟨List.mem_of_getElem? (i := 708) (by decide +kernel), rfl⟩
theorem k_710 : zW (.methodLink "GlassPalace$Script" 65 yX7_bytesLike) := ⟨List.mem_of_getElem? (i := 710) (by decide +kernel), rfl⟩
theorem k_712 : zW (.instanceMethod yX7_bytesLike) := ⟨List.mem_of_getElem? (i := 712) (by decide +kernel), rfl⟩
theorem k_713 : zW (.code yX7_bytesLike cX7_bytesLike 4 (some .int)) := ⟨List.mem_of_getElem? (i := 713) (by decide +kernel), rfl⟩
theorem k_715 : zW (.methodLink "GlassPalace$Script" 76 yJ0_length_8abf5) := ⟨List.mem_of_getElem? (i := 715) (by decide +kernel), rfl⟩
theorem k_716 : zW (.instanceMethod yJ0_length_8abf5) := ⟨List.mem_of_getElem? (i := 716) (by decide +kernel), rfl⟩
theorem k_717 : zW (.selects "java/lang/String" yJ0_length_8abf5 yJ0_length_8abf5) := ⟨List.mem_of_getElem? (i := 717) (by decide +kernel), rfl⟩
theorem k_718 : zW (.code yJ0_length_8abf5 cJ0_length_8abf5 1 (some .int)) := ⟨List.mem_of_getElem? (i := 718) (by decide +kernel), rfl⟩
theorem k_719 : zW (.methodLink "java/lang/String" 335 yJ0_coder_7d493) := ⟨List.mem_of_getElem? (i := 719) (by decide +kernel), rfl⟩
theorem k_720 : zW (.instanceMethod yJ0_coder_7d493) := ⟨List.mem_of_getElem? (i := 720) (by decide +kernel), rfl⟩
theorem k_721 : zW (.selects "java/lang/String" yJ0_coder_7d493 yJ0_coder_7d493) := ⟨List.mem_of_getElem? (i := 721) (by decide +kernel), rfl⟩
theorem k_722 : zW (.code yJ0_coder_7d493 cJ0_coder_7d493 1 (some .byte)) := ⟨List.mem_of_getElem? (i := 722) (by decide +kernel), rfl⟩
theorem k_723 : zW (.fieldLink "java/lang/String" 38 "java/lang/String" "COMPACT_STRINGS" "Z") := ⟨List.mem_of_getElem? (i := 723) (by decide +kernel), rfl⟩
theorem k_725 : zW (.methodLink "GlassPalace$Script" 80 yJ0_charAt_5068e) := ⟨List.mem_of_getElem? (i := 725) (by decide +kernel), rfl⟩
theorem k_726 : zW (.instanceMethod yJ0_charAt_5068e) := ⟨List.mem_of_getElem? (i := 726) (by decide +kernel), rfl⟩
theorem k_727 : zW (.selects "java/lang/String" yJ0_charAt_5068e yJ0_charAt_5068e) := ⟨List.mem_of_getElem? (i := 727) (by decide +kernel), rfl⟩
theorem k_728 : zW (.code yJ0_charAt_5068e cJ0_charAt_5068e 2 (some .char)) := ⟨List.mem_of_getElem? (i := 728) (by decide +kernel), rfl⟩
theorem k_729 : zW (.methodLink "java/lang/String" 492 yJ0_isLatin1_aae02) := ⟨List.mem_of_getElem? (i := 729) (by decide +kernel), rfl⟩
theorem k_730 : zW (.instanceMethod yJ0_isLatin1_aae02) := ⟨List.mem_of_getElem? (i := 730) (by decide +kernel), rfl⟩
theorem k_731 : zW (.selects "java/lang/String" yJ0_isLatin1_aae02 yJ0_isLatin1_aae02) := ⟨List.mem_of_getElem? (i := 731) (by decide +kernel), rfl⟩
theorem k_732 : zW (.code yJ0_isLatin1_aae02 cJ0_isLatin1_aae02 1 (some .boolean)) := ⟨List.mem_of_getElem? (i := 732) (by decide +kernel), rfl⟩
theorem k_733 : zW (.methodLink "java/lang/String" 495 yJ1_charAt_3b067) := ⟨List.mem_of_getElem? (i := 733) (by decide +kernel), rfl⟩
theorem k_734 : zW (.static yJ1_charAt_3b067) := ⟨List.mem_of_getElem? (i := 734) (by decide +kernel), rfl⟩
theorem k_735 : zW (.code yJ1_charAt_3b067 cJ1_charAt_3b067 2 (some .char)) := ⟨List.mem_of_getElem? (i := 735) (by decide +kernel), rfl⟩
theorem k_736 : zW (.methodLink "java/lang/StringLatin1" 9 yJ0_checkIndex_df160) := ⟨List.mem_of_getElem? (i := 736) (by decide +kernel), rfl⟩
theorem k_737 : zW (.static yJ0_checkIndex_df160) := ⟨List.mem_of_getElem? (i := 737) (by decide +kernel), rfl⟩
theorem k_738 : zW (.code yJ0_checkIndex_df160 cJ0_checkIndex_df160 2 none) := ⟨List.mem_of_getElem? (i := 738) (by decide +kernel), rfl⟩
theorem k_739 : zW (.fieldLink "java/lang/String" 1053 "jdk/internal/util/Preconditions" "SIOOBE_FORMATTER" "Ljava/util/function/BiFunction;") := ⟨List.mem_of_getElem? (i := 739) (by decide +kernel), rfl⟩
theorem k_741 : zW (.methodLink "java/lang/String" 1059 yJ3_checkIndex_8e157) := ⟨List.mem_of_getElem? (i := 741) (by decide +kernel), rfl⟩
theorem k_742 : zW (.static yJ3_checkIndex_8e157) := ⟨List.mem_of_getElem? (i := 742) (by decide +kernel), rfl⟩
theorem k_743 : zW (.code yJ3_checkIndex_8e157 cJ3_checkIndex_8e157 3 (some .int)) := ⟨List.mem_of_getElem? (i := 743) (by decide +kernel), rfl⟩
theorem k_763 : zW (.methodLink "GlassPalace$Script" 69 Lib.Math.max.name) := ⟨List.mem_of_getElem? (i := 763) (by decide +kernel), rfl⟩
theorem k_764 : zW (.methodLink "GlassPalace$Script" 38 yX7_fail) := ⟨List.mem_of_getElem? (i := 764) (by decide +kernel), rfl⟩
theorem k_766 : zW (.instanceMethod yX7_fail) := ⟨List.mem_of_getElem? (i := 766) (by decide +kernel), rfl⟩
theorem k_767 : zW (.code yX7_fail cX7_fail 1 none) := ⟨List.mem_of_getElem? (i := 767) (by decide +kernel), rfl⟩
theorem k_768 : zW (.methodLink "GlassPalace$Script" 47 yX9_addClause) := ⟨List.mem_of_getElem? (i := 768) (by decide +kernel), rfl⟩
theorem k_769 : zW (.instanceMethod yX9_addClause) := ⟨List.mem_of_getElem? (i := 769) (by decide +kernel), rfl⟩
theorem k_770 : zW (.selects "GlassPalace$Text" yX9_addClause yX9_addClause) := ⟨List.mem_of_getElem? (i := 770) (by decide +kernel), rfl⟩
theorem k_771 : zW (.code yX9_addClause cX9_addClause 3 none) := ⟨List.mem_of_getElem? (i := 771) (by decide +kernel), rfl⟩
theorem k_772 : zW (.methodLink "GlassPalace$Script" 51 yX7_readEither) := ⟨List.mem_of_getElem? (i := 772) (by decide +kernel), rfl⟩
theorem k_774 : zW (.instanceMethod yX7_readEither) := ⟨List.mem_of_getElem? (i := 774) (by decide +kernel), rfl⟩
theorem k_775 : zW (.code yX7_readEither cX7_readEither 7 none) := ⟨List.mem_of_getElem? (i := 775) (by decide +kernel), rfl⟩
theorem k_776 : zW (.methodLink "GlassPalace$Script" 84 yX7_readOne) := ⟨List.mem_of_getElem? (i := 776) (by decide +kernel), rfl⟩
theorem k_778 : zW (.instanceMethod yX7_readOne) := ⟨List.mem_of_getElem? (i := 778) (by decide +kernel), rfl⟩
theorem k_779 : zW (.code yX7_readOne cX7_readOne 4 none) := ⟨List.mem_of_getElem? (i := 779) (by decide +kernel), rfl⟩
theorem k_780 : zW (.methodLink "GlassPalace$Script" 34 yX7_look) := ⟨List.mem_of_getElem? (i := 780) (by decide +kernel), rfl⟩
theorem k_782 : zW (.instanceMethod yX7_look) := ⟨List.mem_of_getElem? (i := 782) (by decide +kernel), rfl⟩
theorem k_783 : zW (.code yX7_look cX7_look 2 (some .int)) := ⟨List.mem_of_getElem? (i := 783) (by decide +kernel), rfl⟩
theorem k_784 : zW (.methodLink "GlassPalace$Script" 55 yX9_addCode) := ⟨List.mem_of_getElem? (i := 784) (by decide +kernel), rfl⟩
theorem k_785 : zW (.instanceMethod yX9_addCode) := ⟨List.mem_of_getElem? (i := 785) (by decide +kernel), rfl⟩
theorem k_786 : zW (.selects "GlassPalace$Text" yX9_addCode yX9_addCode) := ⟨List.mem_of_getElem? (i := 786) (by decide +kernel), rfl⟩
theorem k_787 : zW (.code yX9_addCode cX9_addCode 2 none) := ⟨List.mem_of_getElem? (i := 787) (by decide +kernel), rfl⟩
theorem k_788 : zW (.methodLink "GlassPalace$Script" 87 yX7_readTest) := ⟨List.mem_of_getElem? (i := 788) (by decide +kernel), rfl⟩
theorem k_790 : zW (.instanceMethod yX7_readTest) := ⟨List.mem_of_getElem? (i := 790) (by decide +kernel), rfl⟩
theorem k_791 : zW (.code yX7_readTest cX7_readTest 4 none) := ⟨List.mem_of_getElem? (i := 791) (by decide +kernel), rfl⟩
theorem k_792 : zW (.methodLink "GlassPalace$Script" 90 yX9_letterOf) := ⟨List.mem_of_getElem? (i := 792) (by decide +kernel), rfl⟩
theorem k_793 : zW (.static yX9_letterOf) := ⟨List.mem_of_getElem? (i := 793) (by decide +kernel), rfl⟩
theorem k_794 : zW (.code yX9_letterOf cX9_letterOf 1 (some .int)) := ⟨List.mem_of_getElem? (i := 794) (by decide +kernel), rfl⟩
theorem k_795 : zW (.methodLink "GlassPalace$Script" 94 yX9_relationOf) := ⟨List.mem_of_getElem? (i := 795) (by decide +kernel), rfl⟩
theorem k_796 : zW (.static yX9_relationOf) := ⟨List.mem_of_getElem? (i := 796) (by decide +kernel), rfl⟩
theorem k_797 : zW (.code yX9_relationOf cX9_relationOf 1 (some .int)) := ⟨List.mem_of_getElem? (i := 797) (by decide +kernel), rfl⟩
theorem k_798 : zW (.methodLink "GlassPalace$Script" 59 yX7_readNumber) := ⟨List.mem_of_getElem? (i := 798) (by decide +kernel), rfl⟩
theorem k_800 : zW (.instanceMethod yX7_readNumber) := ⟨List.mem_of_getElem? (i := 800) (by decide +kernel), rfl⟩
theorem k_801 : zW (.code yX7_readNumber cX7_readNumber 3 (some .int)) := ⟨List.mem_of_getElem? (i := 801) (by decide +kernel), rfl⟩
theorem k_802 : zW (.methodLink "GlassPalace$Script" 97 yX9_addTest) := ⟨List.mem_of_getElem? (i := 802) (by decide +kernel), rfl⟩
theorem k_803 : zW (.instanceMethod yX9_addTest) := ⟨List.mem_of_getElem? (i := 803) (by decide +kernel), rfl⟩
theorem k_804 : zW (.selects "GlassPalace$Text" yX9_addTest yX9_addTest) := ⟨List.mem_of_getElem? (i := 804) (by decide +kernel), rfl⟩
theorem k_805 : zW (.code yX9_addTest cX9_addTest 4 none) := ⟨List.mem_of_getElem? (i := 805) (by decide +kernel), rfl⟩
theorem k_806 : zW (.methodLink "GlassPalace$Text" 28 yX9_addCode) := ⟨List.mem_of_getElem? (i := 806) (by decide +kernel), rfl⟩
theorem k_812 : zW (.methodLink "GlassPalace" 226 yX11_isWord) := ⟨List.mem_of_getElem? (i := 812) (by decide +kernel), rfl⟩
theorem k_813 : zW (.static yX11_isWord) := ⟨List.mem_of_getElem? (i := 813) (by decide +kernel), rfl⟩
theorem k_814 : zW (.code yX11_isWord cX11_isWord 1 (some .boolean)) := ⟨List.mem_of_getElem? (i := 814) (by decide +kernel), rfl⟩
theorem k_819 : zW (.methodLink "GlassPalace" 233 yX3_textFor) := ⟨List.mem_of_getElem? (i := 819) (by decide +kernel), rfl⟩
theorem k_820 : zW (.methodLink "GlassPalace" 236 yX3_textOf) := ⟨List.mem_of_getElem? (i := 820) (by decide +kernel), rfl⟩
theorem k_821 : zW (.methodLink "GlassPalace" 240 yX9_lastClauseOf) := ⟨List.mem_of_getElem? (i := 821) (by decide +kernel), rfl⟩
theorem k_830 : zW (.methodLink "GlassPalace" 250 yX11_girderLoad) := ⟨List.mem_of_getElem? (i := 830) (by decide +kernel), rfl⟩
theorem k_832 : zW (.instanceMethod yX11_girderLoad) := ⟨List.mem_of_getElem? (i := 832) (by decide +kernel), rfl⟩
theorem k_833 : zW (.code yX11_girderLoad cX11_girderLoad 2 (some .int)) := ⟨List.mem_of_getElem? (i := 833) (by decide +kernel), rfl⟩
theorem k_834 : zW (.methodLink "GlassPalace" 254 yX11_columnLoad) := ⟨List.mem_of_getElem? (i := 834) (by decide +kernel), rfl⟩
theorem k_836 : zW (.instanceMethod yX11_columnLoad) := ⟨List.mem_of_getElem? (i := 836) (by decide +kernel), rfl⟩
theorem k_837 : zW (.code yX11_columnLoad cX11_columnLoad 3 (some .int)) := ⟨List.mem_of_getElem? (i := 837) (by decide +kernel), rfl⟩
theorem k_838 : zW (.methodLink "GlassPalace" 257 yX11_girderHolds) := ⟨List.mem_of_getElem? (i := 838) (by decide +kernel), rfl⟩
theorem k_840 : zW (.instanceMethod yX11_girderHolds) := ⟨List.mem_of_getElem? (i := 840) (by decide +kernel), rfl⟩
theorem k_841 : zW (.code yX11_girderHolds cX11_girderHolds 3 (some .boolean)) := ⟨List.mem_of_getElem? (i := 841) (by decide +kernel), rfl⟩
theorem k_842 : zW (.methodLink "GlassPalace" 261 yX11_columnHolds) := ⟨List.mem_of_getElem? (i := 842) (by decide +kernel), rfl⟩
theorem k_844 : zW (.instanceMethod yX11_columnHolds) := ⟨List.mem_of_getElem? (i := 844) (by decide +kernel), rfl⟩
theorem k_845 : zW (.code yX11_columnHolds cX11_columnHolds 3 (some .boolean)) := ⟨List.mem_of_getElem? (i := 845) (by decide +kernel), rfl⟩
theorem k_854 : zW (.methodLink "GlassPalace" 265 yX11_isHour) := ⟨List.mem_of_getElem? (i := 854) (by decide +kernel), rfl⟩
theorem k_855 : zW (.static yX11_isHour) := ⟨List.mem_of_getElem? (i := 855) (by decide +kernel), rfl⟩
theorem k_856 : zW (.code yX11_isHour cX11_isHour 1 (some .boolean)) := ⟨List.mem_of_getElem? (i := 856) (by decide +kernel), rfl⟩
theorem k_861 : zW (.methodLink "GlassPalace" 271 yX11_isBeside) := ⟨List.mem_of_getElem? (i := 861) (by decide +kernel), rfl⟩
theorem k_862 : zW (.static yX11_isBeside) := ⟨List.mem_of_getElem? (i := 862) (by decide +kernel), rfl⟩
theorem k_863 : zW (.code yX11_isBeside cX11_isBeside 4 (some .boolean)) := ⟨List.mem_of_getElem? (i := 863) (by decide +kernel), rfl⟩
theorem k_864 : zW (.methodLink "GlassPalace" 441 Lib.Math.abs.name) := ⟨List.mem_of_getElem? (i := 864) (by decide +kernel), rfl⟩
theorem k_865 : zW (.static Lib.Math.abs.name) := ⟨List.mem_of_getElem? (i := 865) (by decide +kernel), rfl⟩
theorem k_866 : zW (.code Lib.Math.abs.name Lib.Math.abs.code 1 (some .int)) := ⟨List.mem_of_getElem? (i := 866) (by decide +kernel), rfl⟩
theorem k_871 : zW (.methodLink "GlassPalace" 280 yX10_runThrough) := ⟨List.mem_of_getElem? (i := 871) (by decide +kernel), rfl⟩
theorem k_872 : zW (.instanceMethod yX10_runThrough) := ⟨List.mem_of_getElem? (i := 872) (by decide +kernel), rfl⟩
theorem k_873 : zW (.selects "GlassPalace$Water" yX10_runThrough yX10_runThrough) := ⟨List.mem_of_getElem? (i := 873) (by decide +kernel), rfl⟩
theorem k_874 : zW (.code yX10_runThrough cX10_runThrough 4 none) := ⟨List.mem_of_getElem? (i := 874) (by decide +kernel), rfl⟩
theorem k_875 : zW (.methodLink "GlassPalace$Water" 27 yX10_runHour) := ⟨List.mem_of_getElem? (i := 875) (by decide +kernel), rfl⟩
theorem k_877 : zW (.instanceMethod yX10_runHour) := ⟨List.mem_of_getElem? (i := 877) (by decide +kernel), rfl⟩
theorem k_878 : zW (.code yX10_runHour cX10_runHour 5 none) := ⟨List.mem_of_getElem? (i := 878) (by decide +kernel), rfl⟩
theorem k_879 : zW (.methodLink "GlassPalace$Water" 37 yX10_drain) := ⟨List.mem_of_getElem? (i := 879) (by decide +kernel), rfl⟩
theorem k_881 : zW (.instanceMethod yX10_drain) := ⟨List.mem_of_getElem? (i := 881) (by decide +kernel), rfl⟩
theorem k_882 : zW (.code yX10_drain cX10_drain 5 none) := ⟨List.mem_of_getElem? (i := 882) (by decide +kernel), rfl⟩
theorem k_883 : zW (.methodLink "GlassPalace$Water" 47 yX1_latestAt) := ⟨List.mem_of_getElem? (i := 883) (by decide +kernel), rfl⟩
theorem k_884 : zW (.methodLink "GlassPalace$Water" 56 Lib.Math.min.name) := ⟨List.mem_of_getElem? (i := 884) (by decide +kernel), rfl⟩
theorem k_885 : zW (.static Lib.Math.min.name) := ⟨List.mem_of_getElem? (i := 885) (by decide +kernel), rfl⟩
theorem k_886 : zW (.code Lib.Math.min.name Lib.Math.min.code 2 (some .int)) := ⟨List.mem_of_getElem? (i := 886) (by decide +kernel), rfl⟩
theorem k_887 : zW (.methodLink "GlassPalace$Water" 41 Lib.Math.max.name) := ⟨List.mem_of_getElem? (i := 887) (by decide +kernel), rfl⟩
theorem k_892 : zW (.methodLink "GlassPalace" 287 yX10_leaksOfAll) := ⟨List.mem_of_getElem? (i := 892) (by decide +kernel), rfl⟩
theorem k_893 : zW (.instanceMethod yX10_leaksOfAll) := ⟨List.mem_of_getElem? (i := 893) (by decide +kernel), rfl⟩
theorem k_894 : zW (.selects "GlassPalace$Water" yX10_leaksOfAll yX10_leaksOfAll) := ⟨List.mem_of_getElem? (i := 894) (by decide +kernel), rfl⟩
theorem k_895 : zW (.code yX10_leaksOfAll cX10_leaksOfAll 3 (some .int)) := ⟨List.mem_of_getElem? (i := 895) (by decide +kernel), rfl⟩
theorem k_900 : zW (.instantiable "GlassPalace$Gang" 5) := ⟨List.mem_of_getElem? (i := 900) (by decide +kernel), rfl⟩
theorem k_901 : zW (.methodLink "GlassPalace" 296 yX2_init) := ⟨List.mem_of_getElem? (i := 901) (by decide +kernel), rfl⟩
theorem k_902 : zW (.instanceMethod yX2_init) := ⟨List.mem_of_getElem? (i := 902) (by decide +kernel), rfl⟩
theorem k_903 : zW (.code yX2_init cX2_init 3 none) := ⟨List.mem_of_getElem? (i := 903) (by decide +kernel), rfl⟩
theorem k_904 : zW (.methodLink "GlassPalace$Gang" 3 objectInit) := ⟨List.mem_of_getElem? (i := 904) (by decide +kernel), rfl⟩
theorem k_905 : zW (.fieldLink "GlassPalace$Gang" 18 "GlassPalace$Gang" "place" "I") := ⟨List.mem_of_getElem? (i := 905) (by decide +kernel), rfl⟩
theorem k_906 : zW (.fieldLink "GlassPalace" 306 "GlassPalace$Gang" "place" "I") := ⟨List.mem_of_getElem? (i := 906) (by decide +kernel), rfl⟩
theorem k_907 : zW (.fieldLink "GlassPalace$Gang" 9 "GlassPalace$Gang" "workedOn" "I") := ⟨List.mem_of_getElem? (i := 907) (by decide +kernel), rfl⟩
theorem k_908 : zW (.fieldLink "GlassPalace" 465 "GlassPalace$Gang" "workedOn" "I") := ⟨List.mem_of_getElem? (i := 908) (by decide +kernel), rfl⟩
theorem k_909 : zW (.fieldLink "GlassPalace$Gang" 15 "GlassPalace$Gang" "workedIn" "I") := ⟨List.mem_of_getElem? (i := 909) (by decide +kernel), rfl⟩
theorem k_910 : zW (.fieldLink "GlassPalace" 468 "GlassPalace$Gang" "workedIn" "I") := ⟨List.mem_of_getElem? (i := 910) (by decide +kernel), rfl⟩
theorem k_911 : zW (.fieldLink "GlassPalace$Gang" 21 "GlassPalace$Gang" "firstPace" "I") := ⟨List.mem_of_getElem? (i := 911) (by decide +kernel), rfl⟩
theorem k_912 : zW (.fieldLink "GlassPalace$Gang" 24 "GlassPalace$Gang" "done" "I") := ⟨List.mem_of_getElem? (i := 912) (by decide +kernel), rfl⟩
theorem k_928 : zW (.methodLink "GlassPalace" 299 yX11_gangOf) := ⟨List.mem_of_getElem? (i := 928) (by decide +kernel), rfl⟩
theorem k_930 : zW (.instanceMethod yX11_gangOf) := ⟨List.mem_of_getElem? (i := 930) (by decide +kernel), rfl⟩
theorem k_931 : zW (.code yX11_gangOf cX11_gangOf 2 (some (.object "GlassPalace$Gang"))) := ⟨List.mem_of_getElem? (i := 931) (by decide +kernel), rfl⟩
theorem k_932 : zW (.methodLink "GlassPalace" 308 yX11_isKeptAway) := ⟨List.mem_of_getElem? (i := 932) (by decide +kernel), rfl⟩
theorem k_934 : zW (.instanceMethod yX11_isKeptAway) := ⟨List.mem_of_getElem? (i := 934) (by decide +kernel), rfl⟩
theorem k_935 : zW (.code yX11_isKeptAway cX11_isKeptAway 8 (some .boolean)) := ⟨List.mem_of_getElem? (i := 935) (by decide +kernel), rfl⟩
theorem k_936 : zW (.methodLink "GlassPalace" 312 yX2_pieces) := ⟨List.mem_of_getElem? (i := 936) (by decide +kernel), rfl⟩
theorem k_937 : zW (.instanceMethod yX2_pieces) := ⟨List.mem_of_getElem? (i := 937) (by decide +kernel), rfl⟩
theorem k_938 : zW (.selects "GlassPalace$Gang" yX2_pieces yX2_pieces) := ⟨List.mem_of_getElem? (i := 938) (by decide +kernel), rfl⟩
theorem k_939 : zW (.code yX2_pieces cX2_pieces 1 (some .int)) := ⟨List.mem_of_getElem? (i := 939) (by decide +kernel), rfl⟩
theorem k_940 : zW (.methodLink "GlassPalace$Gang" 27 Lib.Math.min.name) := ⟨List.mem_of_getElem? (i := 940) (by decide +kernel), rfl⟩
theorem k_941 : zW (.methodLink "GlassPalace" 317 Lib.Math.min.name) := ⟨List.mem_of_getElem? (i := 941) (by decide +kernel), rfl⟩
theorem k_942 : zW (.methodLink "GlassPalace" 322 yX2_worked) := ⟨List.mem_of_getElem? (i := 942) (by decide +kernel), rfl⟩
theorem k_943 : zW (.instanceMethod yX2_worked) := ⟨List.mem_of_getElem? (i := 943) (by decide +kernel), rfl⟩
theorem k_944 : zW (.selects "GlassPalace$Gang" yX2_worked yX2_worked) := ⟨List.mem_of_getElem? (i := 944) (by decide +kernel), rfl⟩
theorem k_945 : zW (.code yX2_worked cX2_worked 4 none) := ⟨List.mem_of_getElem? (i := 945) (by decide +kernel), rfl⟩
theorem k_954 : zW (.methodLink "GlassPalace" 326 yX6_addRow) := ⟨List.mem_of_getElem? (i := 954) (by decide +kernel), rfl⟩
theorem k_955 : zW (.instanceMethod yX6_addRow) := ⟨List.mem_of_getElem? (i := 955) (by decide +kernel), rfl⟩
theorem k_956 : zW (.selects "GlassPalace$Plan" yX6_addRow yX6_addRow) := ⟨List.mem_of_getElem? (i := 956) (by decide +kernel), rfl⟩
theorem k_957 : zW (.code yX6_addRow cX6_addRow 4 (some .boolean)) := ⟨List.mem_of_getElem? (i := 957) (by decide +kernel), rfl⟩
theorem k_962 : zW (.methodLink "GlassPalace" 333 yX11_willHaveCome) := ⟨List.mem_of_getElem? (i := 962) (by decide +kernel), rfl⟩
theorem k_964 : zW (.instanceMethod yX11_willHaveCome) := ⟨List.mem_of_getElem? (i := 964) (by decide +kernel), rfl⟩
theorem k_965 : zW (.code yX11_willHaveCome cX11_willHaveCome 9 (some .int)) := ⟨List.mem_of_getElem? (i := 965) (by decide +kernel), rfl⟩
theorem k_966 : zW (.methodLink "GlassPalace" 471 yX11_comingDay) := ⟨List.mem_of_getElem? (i := 966) (by decide +kernel), rfl⟩
theorem k_968 : zW (.instanceMethod yX11_comingDay) := ⟨List.mem_of_getElem? (i := 968) (by decide +kernel), rfl⟩
theorem k_969 : zW (.code yX11_comingDay cX11_comingDay 3 (some .int)) := ⟨List.mem_of_getElem? (i := 969) (by decide +kernel), rfl⟩
theorem k_974 : zW (.methodLink "GlassPalace" 340 yX11_lookAhead) := ⟨List.mem_of_getElem? (i := 974) (by decide +kernel), rfl⟩
theorem k_976 : zW (.instanceMethod yX11_lookAhead) := ⟨List.mem_of_getElem? (i := 976) (by decide +kernel), rfl⟩
theorem k_977 : zW (.code yX11_lookAhead cX11_lookAhead 4 none) := ⟨List.mem_of_getElem? (i := 977) (by decide +kernel), rfl⟩
theorem k_978 : zW (.methodLink "GlassPalace" 478 yX6_wantedWith) := ⟨List.mem_of_getElem? (i := 978) (by decide +kernel), rfl⟩
theorem k_979 : zW (.instanceMethod yX6_wantedWith) := ⟨List.mem_of_getElem? (i := 979) (by decide +kernel), rfl⟩
theorem k_980 : zW (.selects "GlassPalace$Plan" yX6_wantedWith yX6_wantedWith) := ⟨List.mem_of_getElem? (i := 980) (by decide +kernel), rfl⟩
theorem k_981 : zW (.code yX6_wantedWith cX6_wantedWith 4 (some .int)) := ⟨List.mem_of_getElem? (i := 981) (by decide +kernel), rfl⟩
theorem k_982 : zW (.methodLink "GlassPalace" 344 yX6_firstLack) := ⟨List.mem_of_getElem? (i := 982) (by decide +kernel), rfl⟩
theorem k_983 : zW (.instanceMethod yX6_firstLack) := ⟨List.mem_of_getElem? (i := 983) (by decide +kernel), rfl⟩
theorem k_984 : zW (.selects "GlassPalace$Plan" yX6_firstLack yX6_firstLack) := ⟨List.mem_of_getElem? (i := 984) (by decide +kernel), rfl⟩
theorem k_985 : zW (.code yX6_firstLack cX6_firstLack 4 (some .int)) := ⟨List.mem_of_getElem? (i := 985) (by decide +kernel), rfl⟩
theorem k_986 : zW (.methodLink "GlassPalace$Plan" 43 yX6_addedFor) := ⟨List.mem_of_getElem? (i := 986) (by decide +kernel), rfl⟩
theorem k_988 : zW (.instanceMethod yX6_addedFor) := ⟨List.mem_of_getElem? (i := 988) (by decide +kernel), rfl⟩
theorem k_989 : zW (.code yX6_addedFor cX6_addedFor 5 (some .int)) := ⟨List.mem_of_getElem? (i := 989) (by decide +kernel), rfl⟩
theorem k_990 : zW (.methodLink "GlassPalace$Plan" 47 yX6_isAhead) := ⟨List.mem_of_getElem? (i := 990) (by decide +kernel), rfl⟩
theorem k_992 : zW (.instanceMethod yX6_isAhead) := ⟨List.mem_of_getElem? (i := 992) (by decide +kernel), rfl⟩
theorem k_993 : zW (.code yX6_isAhead cX6_isAhead 3 (some .boolean)) := ⟨List.mem_of_getElem? (i := 993) (by decide +kernel), rfl⟩
theorem k_998 : zW (.methodLink "GlassPalace" 353 yX6_addAddition) := ⟨List.mem_of_getElem? (i := 998) (by decide +kernel), rfl⟩
theorem k_999 : zW (.instanceMethod yX6_addAddition) := ⟨List.mem_of_getElem? (i := 999) (by decide +kernel), rfl⟩
theorem k_1000 : zW (.selects "GlassPalace$Plan" yX6_addAddition yX6_addAddition) := ⟨List.mem_of_getElem? (i := 1000) (by decide +kernel), rfl⟩
theorem k_1001 : zW (.code yX6_addAddition cX6_addAddition 5 (some .boolean)) := ⟨List.mem_of_getElem? (i := 1001) (by decide +kernel), rfl⟩
theorem k_1006 : zW (.methodLink "GlassPalace" 357 yX6_cheapestSet) := ⟨List.mem_of_getElem? (i := 1006) (by decide +kernel), rfl⟩
theorem k_1007 : zW (.instanceMethod yX6_cheapestSet) := ⟨List.mem_of_getElem? (i := 1007) (by decide +kernel), rfl⟩
theorem k_1008 : zW (.selects "GlassPalace$Plan" yX6_cheapestSet yX6_cheapestSet) := ⟨List.mem_of_getElem? (i := 1008) (by decide +kernel), rfl⟩
theorem k_1009 : zW (.code yX6_cheapestSet cX6_cheapestSet 6 (some .int)) := ⟨List.mem_of_getElem? (i := 1009) (by decide +kernel), rfl⟩
theorem k_1010 : zW (.methodLink "GlassPalace$Plan" 51 yX6_coinOf) := ⟨List.mem_of_getElem? (i := 1010) (by decide +kernel), rfl⟩
theorem k_1012 : zW (.instanceMethod yX6_coinOf) := ⟨List.mem_of_getElem? (i := 1012) (by decide +kernel), rfl⟩
theorem k_1013 : zW (.code yX6_coinOf cX6_coinOf 4 (some .int)) := ⟨List.mem_of_getElem? (i := 1013) (by decide +kernel), rfl⟩
theorem k_1014 : zW (.methodLink "GlassPalace$Plan" 55 yJ6_bitCount_0f7a4) := ⟨List.mem_of_getElem? (i := 1014) (by decide +kernel), rfl⟩
theorem k_1015 : zW (.static yJ6_bitCount_0f7a4) := ⟨List.mem_of_getElem? (i := 1015) (by decide +kernel), rfl⟩
theorem k_1016 : zW (.code yJ6_bitCount_0f7a4 cJ6_bitCount_0f7a4 1 (some .int)) := ⟨List.mem_of_getElem? (i := 1016) (by decide +kernel), rfl⟩
theorem k_1017 : zW (.constant "java/lang/Integer" 265 (1431655765)) := ⟨List.mem_of_getElem? (i := 1017) (by decide +kernel), rfl⟩
theorem k_1018 : zW (.constant "java/lang/Integer" 266 (858993459)) := ⟨List.mem_of_getElem? (i := 1018) (by decide +kernel), rfl⟩
theorem k_1019 : zW (.constant "java/lang/Integer" 267 (252645135)) := ⟨List.mem_of_getElem? (i := 1019) (by decide +kernel), rfl⟩
theorem k_1020 : zW (.methodLink "GlassPalace$Plan" 60 yX6_firstLack) := ⟨List.mem_of_getElem? (i := 1020) (by decide +kernel), rfl⟩
theorem k_1025 : zW (.methodLink "GlassPalace" 360 yX11_isNation) := ⟨List.mem_of_getElem? (i := 1025) (by decide +kernel), rfl⟩
theorem k_1026 : zW (.static yX11_isNation) := ⟨List.mem_of_getElem? (i := 1026) (by decide +kernel), rfl⟩
theorem k_1027 : zW (.code yX11_isNation cX11_isNation 1 (some .boolean)) := ⟨List.mem_of_getElem? (i := 1027) (by decide +kernel), rfl⟩
theorem k_1028 : zW (.methodLink "GlassPalace" 363 yX5_place) := ⟨List.mem_of_getElem? (i := 1028) (by decide +kernel), rfl⟩
theorem k_1029 : zW (.instanceMethod yX5_place) := ⟨List.mem_of_getElem? (i := 1029) (by decide +kernel), rfl⟩
theorem k_1030 : zW (.selects "GlassPalace$Nations" yX5_place yX5_place) := ⟨List.mem_of_getElem? (i := 1030) (by decide +kernel), rfl⟩
theorem k_1031 : zW (.code yX5_place cX5_place 6 (some .int)) := ⟨List.mem_of_getElem? (i := 1031) (by decide +kernel), rfl⟩
theorem k_1032 : zW (.methodLink "GlassPalace$Nations" 21 yX5_inTheWay) := ⟨List.mem_of_getElem? (i := 1032) (by decide +kernel), rfl⟩
theorem k_1034 : zW (.instanceMethod yX5_inTheWay) := ⟨List.mem_of_getElem? (i := 1034) (by decide +kernel), rfl⟩
theorem k_1035 : zW (.code yX5_inTheWay cX5_inTheWay 5 (some .int)) := ⟨List.mem_of_getElem? (i := 1035) (by decide +kernel), rfl⟩
theorem k_1036 : zW (.methodLink "GlassPalace$Nations" 29 yX5_meets) := ⟨List.mem_of_getElem? (i := 1036) (by decide +kernel), rfl⟩
theorem k_1038 : zW (.instanceMethod yX5_meets) := ⟨List.mem_of_getElem? (i := 1038) (by decide +kernel), rfl⟩
theorem k_1039 : zW (.code yX5_meets cX5_meets 4 (some .boolean)) := ⟨List.mem_of_getElem? (i := 1039) (by decide +kernel), rfl⟩
theorem k_1040 : zW (.methodLink "GlassPalace$Nations" 25 yX5_clear) := ⟨List.mem_of_getElem? (i := 1040) (by decide +kernel), rfl⟩
theorem k_1042 : zW (.instanceMethod yX5_clear) := ⟨List.mem_of_getElem? (i := 1042) (by decide +kernel), rfl⟩
theorem k_1043 : zW (.code yX5_clear cX5_clear 4 none) := ⟨List.mem_of_getElem? (i := 1043) (by decide +kernel), rfl⟩
theorem k_1060 : zW (.methodLink "GlassPalace" 377 yX0_perform) := ⟨List.mem_of_getElem? (i := 1060) (by decide +kernel), rfl⟩
theorem k_1061 : zW (.instanceMethod yX0_perform) := ⟨List.mem_of_getElem? (i := 1061) (by decide +kernel), rfl⟩
theorem k_1062 : zW (.selects "GlassPalace$Acts" yX0_perform yX0_perform) := ⟨List.mem_of_getElem? (i := 1062) (by decide +kernel), rfl⟩
theorem k_1063 : zW (.code yX0_perform cX0_perform 4 (some .int)) := ⟨List.mem_of_getElem? (i := 1063) (by decide +kernel), rfl⟩
theorem k_1064 : zW (.methodLink "GlassPalace$Acts" 24 yX0_fitsFrom) := ⟨List.mem_of_getElem? (i := 1064) (by decide +kernel), rfl⟩
theorem k_1066 : zW (.instanceMethod yX0_fitsFrom) := ⟨List.mem_of_getElem? (i := 1066) (by decide +kernel), rfl⟩
theorem k_1067 : zW (.code yX0_fitsFrom cX0_fitsFrom 4 (some .int)) := ⟨List.mem_of_getElem? (i := 1067) (by decide +kernel), rfl⟩
theorem k_1068 : zW (.methodLink "GlassPalace$Acts" 34 yX0_begin) := ⟨List.mem_of_getElem? (i := 1068) (by decide +kernel), rfl⟩
theorem k_1070 : zW (.instanceMethod yX0_begin) := ⟨List.mem_of_getElem? (i := 1070) (by decide +kernel), rfl⟩
theorem k_1071 : zW (.code yX0_begin cX0_begin 2 none) := ⟨List.mem_of_getElem? (i := 1071) (by decide +kernel), rfl⟩
theorem k_1072 : zW (.methodLink "GlassPalace$Acts" 28 yX0_bearsFrom) := ⟨List.mem_of_getElem? (i := 1072) (by decide +kernel), rfl⟩
theorem k_1074 : zW (.instanceMethod yX0_bearsFrom) := ⟨List.mem_of_getElem? (i := 1074) (by decide +kernel), rfl⟩
theorem k_1075 : zW (.code yX0_bearsFrom cX0_bearsFrom 4 (some .int)) := ⟨List.mem_of_getElem? (i := 1075) (by decide +kernel), rfl⟩
theorem k_1076 : zW (.methodLink "GlassPalace$Acts" 31 yX0_endsFrom) := ⟨List.mem_of_getElem? (i := 1076) (by decide +kernel), rfl⟩
theorem k_1078 : zW (.instanceMethod yX0_endsFrom) := ⟨List.mem_of_getElem? (i := 1078) (by decide +kernel), rfl⟩
theorem k_1079 : zW (.code yX0_endsFrom cX0_endsFrom 4 (some .int)) := ⟨List.mem_of_getElem? (i := 1079) (by decide +kernel), rfl⟩
theorem k_1084 : zW (.methodLink "GlassPalace" 381 yX0_bodyAt) := ⟨List.mem_of_getElem? (i := 1084) (by decide +kernel), rfl⟩
theorem k_1085 : zW (.instanceMethod yX0_bodyAt) := ⟨List.mem_of_getElem? (i := 1085) (by decide +kernel), rfl⟩
theorem k_1086 : zW (.selects "GlassPalace$Acts" yX0_bodyAt yX0_bodyAt) := ⟨List.mem_of_getElem? (i := 1086) (by decide +kernel), rfl⟩
theorem k_1087 : zW (.code yX0_bodyAt cX0_bodyAt 2 (some .int)) := ⟨List.mem_of_getElem? (i := 1087) (by decide +kernel), rfl⟩
theorem k_1092 : zW (.methodLink "GlassPalace" 384 yX4_isUnder) := ⟨List.mem_of_getElem? (i := 1092) (by decide +kernel), rfl⟩
theorem k_1093 : zW (.instanceMethod yX4_isUnder) := ⟨List.mem_of_getElem? (i := 1093) (by decide +kernel), rfl⟩
theorem k_1094 : zW (.selects "GlassPalace$Lot" yX4_isUnder yX4_isUnder) := ⟨List.mem_of_getElem? (i := 1094) (by decide +kernel), rfl⟩
theorem k_1095 : zW (.code yX4_isUnder cX4_isUnder 2 (some .boolean)) := ⟨List.mem_of_getElem? (i := 1095) (by decide +kernel), rfl⟩
theorem k_1100 : zW (.methodLink "GlassPalace" 387 yX11_tapeOf) := ⟨List.mem_of_getElem? (i := 1100) (by decide +kernel), rfl⟩
theorem k_1102 : zW (.instanceMethod yX11_tapeOf) := ⟨List.mem_of_getElem? (i := 1102) (by decide +kernel), rfl⟩
theorem k_1103 : zW (.code yX11_tapeOf cX11_tapeOf 2 (some (.object "GlassPalace$Tape"))) := ⟨List.mem_of_getElem? (i := 1103) (by decide +kernel), rfl⟩
theorem k_1104 : zW (.constantLong "GlassPalace" 391 (-9223372036854775808)) := ⟨List.mem_of_getElem? (i := 1104) (by decide +kernel), rfl⟩
theorem k_1105 : zW (.constantLong "GlassPalace" 396 (-9223372036854775807)) := ⟨List.mem_of_getElem? (i := 1105) (by decide +kernel), rfl⟩
theorem k_1106 : zW (.constantLong "GlassPalace" 398 (2)) := ⟨List.mem_of_getElem? (i := 1106) (by decide +kernel), rfl⟩
theorem k_1107 : zW (.methodLink "GlassPalace" 400 yX8_hasItem) := ⟨List.mem_of_getElem? (i := 1107) (by decide +kernel), rfl⟩
theorem k_1108 : zW (.instanceMethod yX8_hasItem) := ⟨List.mem_of_getElem? (i := 1108) (by decide +kernel), rfl⟩
theorem k_1109 : zW (.selects "GlassPalace$Tape" yX8_hasItem yX8_hasItem) := ⟨List.mem_of_getElem? (i := 1109) (by decide +kernel), rfl⟩
theorem k_1110 : zW (.code yX8_hasItem cX8_hasItem 3 (some .boolean)) := ⟨List.mem_of_getElem? (i := 1110) (by decide +kernel), rfl⟩
theorem k_1111 : zW (.constantLong "GlassPalace$Tape" 22 (60)) := ⟨List.mem_of_getElem? (i := 1111) (by decide +kernel), rfl⟩
theorem k_1112 : zW (.constantLong "GlassPalace" 404 (1000000)) := ⟨List.mem_of_getElem? (i := 1112) (by decide +kernel), rfl⟩
theorem k_1113 : zW (.methodLink "GlassPalace" 406 yX8_itemAt) := ⟨List.mem_of_getElem? (i := 1113) (by decide +kernel), rfl⟩
theorem k_1114 : zW (.instanceMethod yX8_itemAt) := ⟨List.mem_of_getElem? (i := 1114) (by decide +kernel), rfl⟩
theorem k_1115 : zW (.selects "GlassPalace$Tape" yX8_itemAt yX8_itemAt) := ⟨List.mem_of_getElem? (i := 1115) (by decide +kernel), rfl⟩
theorem k_1116 : zW (.code yX8_itemAt cX8_itemAt 3 (some .long)) := ⟨List.mem_of_getElem? (i := 1116) (by decide +kernel), rfl⟩
theorem k_1117 : zW (.methodLink "GlassPalace$Tape" 24 yX8_hasItem) := ⟨List.mem_of_getElem? (i := 1117) (by decide +kernel), rfl⟩
theorem k_1118 : zW (.methodLink "GlassPalace" 410 yX11_agrees) := ⟨List.mem_of_getElem? (i := 1118) (by decide +kernel), rfl⟩
theorem k_1120 : zW (.instanceMethod yX11_agrees) := ⟨List.mem_of_getElem? (i := 1120) (by decide +kernel), rfl⟩
theorem k_1121 : zW (.code yX11_agrees cX11_agrees 6 (some .boolean)) := ⟨List.mem_of_getElem? (i := 1121) (by decide +kernel), rfl⟩
theorem k_1122 : zW (.constantLong "GlassPalace" 414 (1000)) := ⟨List.mem_of_getElem? (i := 1122) (by decide +kernel), rfl⟩
theorem k_1127 : zW (.methodLink "GlassPalace" 416 yX11_standingPieces) := ⟨List.mem_of_getElem? (i := 1127) (by decide +kernel), rfl⟩
theorem k_1129 : zW (.instanceMethod yX11_standingPieces) := ⟨List.mem_of_getElem? (i := 1129) (by decide +kernel), rfl⟩
theorem k_1130 : zW (.code yX11_standingPieces cX11_standingPieces 6 (some .int)) := ⟨List.mem_of_getElem? (i := 1130) (by decide +kernel), rfl⟩
theorem k_1131 : zW (.methodLink "GlassPalace" 419 yX11_brokenPieces) := ⟨List.mem_of_getElem? (i := 1131) (by decide +kernel), rfl⟩
theorem k_1133 : zW (.instanceMethod yX11_brokenPieces) := ⟨List.mem_of_getElem? (i := 1133) (by decide +kernel), rfl⟩
theorem k_1134 : zW (.code yX11_brokenPieces cX11_brokenPieces 6 (some .int)) := ⟨List.mem_of_getElem? (i := 1134) (by decide +kernel), rfl⟩
theorem k_1139 : zW (.methodLink "GlassPalace" 422 yX8_become) := ⟨List.mem_of_getElem? (i := 1139) (by decide +kernel), rfl⟩
theorem k_1140 : zW (.instanceMethod yX8_become) := ⟨List.mem_of_getElem? (i := 1140) (by decide +kernel), rfl⟩
theorem k_1141 : zW (.selects "GlassPalace$Tape" yX8_become yX8_become) := ⟨List.mem_of_getElem? (i := 1141) (by decide +kernel), rfl⟩
theorem k_1142 : zW (.code yX8_become cX8_become 4 none) := ⟨List.mem_of_getElem? (i := 1142) (by decide +kernel), rfl⟩
theorem k_1147 : zW (.methodLink "GlassPalace" 425 yX8_put) := ⟨List.mem_of_getElem? (i := 1147) (by decide +kernel), rfl⟩
theorem k_1148 : zW (.instanceMethod yX8_put) := ⟨List.mem_of_getElem? (i := 1148) (by decide +kernel), rfl⟩
theorem k_1149 : zW (.selects "GlassPalace$Tape" yX8_put yX8_put) := ⟨List.mem_of_getElem? (i := 1149) (by decide +kernel), rfl⟩
theorem k_1150 : zW (.code yX8_put cX8_put 4 (some .boolean)) := ⟨List.mem_of_getElem? (i := 1150) (by decide +kernel), rfl⟩
theorem k_1151 : zW (.methodLink "GlassPalace$Tape" 28 yX8_trimmed) := ⟨List.mem_of_getElem? (i := 1151) (by decide +kernel), rfl⟩
theorem k_1153 : zW (.instanceMethod yX8_trimmed) := ⟨List.mem_of_getElem? (i := 1153) (by decide +kernel), rfl⟩
theorem k_1154 : zW (.code yX8_trimmed cX8_trimmed 3 (some .long)) := ⟨List.mem_of_getElem? (i := 1154) (by decide +kernel), rfl⟩
theorem k_1163 : zW (.methodLink "GlassPalace" 428 yX8_hasItems) := ⟨List.mem_of_getElem? (i := 1163) (by decide +kernel), rfl⟩
theorem k_1164 : zW (.instanceMethod yX8_hasItems) := ⟨List.mem_of_getElem? (i := 1164) (by decide +kernel), rfl⟩
theorem k_1165 : zW (.selects "GlassPalace$Tape" yX8_hasItems yX8_hasItems) := ⟨List.mem_of_getElem? (i := 1165) (by decide +kernel), rfl⟩
theorem k_1166 : zW (.code yX8_hasItems cX8_hasItems 3 (some .boolean)) := ⟨List.mem_of_getElem? (i := 1166) (by decide +kernel), rfl⟩
theorem k_1167 : zW (.methodLink "GlassPalace" 435 arraycopyName) := ⟨List.mem_of_getElem? (i := 1167) (by decide +kernel), rfl⟩
theorem k_1168 : zW (.static arraycopyName) := ⟨List.mem_of_getElem? (i := 1168) (by decide +kernel), rfl⟩
theorem k_1169 : zW (.native arraycopyName) := ⟨List.mem_of_getElem? (i := 1169) (by decide +kernel), rfl⟩
theorem k_1176 : zW (.fieldLink "GlassPalaceModel" 17 "GlassPalaceModel" "today" "I") := ⟨List.mem_of_getElem? (i := 1176) (by decide +kernel), rfl⟩
theorem k_1177 : zW (.fieldLink "GlassPalaceModel" 21 "GlassPalaceModel" "lots" "I") := ⟨List.mem_of_getElem? (i := 1177) (by decide +kernel), rfl⟩
theorem k_1178 : zW (.fieldLink "GlassPalaceModel" 24 "GlassPalaceModel" "level" "[I") := ⟨List.mem_of_getElem? (i := 1178) (by decide +kernel), rfl⟩
theorem k_1179 : zW (.fieldLink "GlassPalaceModel" 28 "GlassPalaceModel" "tree" "[I") := ⟨List.mem_of_getElem? (i := 1179) (by decide +kernel), rfl⟩
theorem k_1180 : zW (.fieldLink "GlassPalaceModel" 31 "GlassPalaceModel" "soonest" "[I") := ⟨List.mem_of_getElem? (i := 1180) (by decide +kernel), rfl⟩
theorem k_1181 : zW (.fieldLink "GlassPalaceModel" 34 "GlassPalaceModel" "latest" "[I") := ⟨List.mem_of_getElem? (i := 1181) (by decide +kernel), rfl⟩
theorem k_1182 : zW (.fieldLink "GlassPalaceModel" 37 "GlassPalaceModel" "kind" "[I") := ⟨List.mem_of_getElem? (i := 1182) (by decide +kernel), rfl⟩
theorem k_1183 : zW (.fieldLink "GlassPalaceModel" 40 "GlassPalaceModel" "foundry" "[I") := ⟨List.mem_of_getElem? (i := 1183) (by decide +kernel), rfl⟩
theorem k_1184 : zW (.fieldLink "GlassPalaceModel" 43 "GlassPalaceModel" "pieces" "[I") := ⟨List.mem_of_getElem? (i := 1184) (by decide +kernel), rfl⟩
theorem k_1185 : zW (.fieldLink "GlassPalaceModel" 46 "GlassPalaceModel" "value" "[I") := ⟨List.mem_of_getElem? (i := 1185) (by decide +kernel), rfl⟩
theorem k_1186 : zW (.fieldLink "GlassPalaceModel" 49 "GlassPalaceModel" "ordered" "[I") := ⟨List.mem_of_getElem? (i := 1186) (by decide +kernel), rfl⟩
theorem k_1187 : zW (.fieldLink "GlassPalaceModel" 52 "GlassPalaceModel" "came" "[I") := ⟨List.mem_of_getElem? (i := 1187) (by decide +kernel), rfl⟩
theorem k_1188 : zW (.fieldLink "GlassPalaceModel" 55 "GlassPalaceModel" "toldOn" "[I") := ⟨List.mem_of_getElem? (i := 1188) (by decide +kernel), rfl⟩
theorem k_1189 : zW (.fieldLink "GlassPalaceModel" 58 "GlassPalaceModel" "gone" "[I") := ⟨List.mem_of_getElem? (i := 1189) (by decide +kernel), rfl⟩
theorem k_1190 : zW (.fieldLink "GlassPalaceModel" 61 "GlassPalaceModel" "broke" "[Z") := ⟨List.mem_of_getElem? (i := 1190) (by decide +kernel), rfl⟩
theorem k_1191 : zW (.fieldLink "GlassPalaceModel" 65 "GlassPalaceModel" "broken" "I") := ⟨List.mem_of_getElem? (i := 1191) (by decide +kernel), rfl⟩
theorem k_1192 : zW (.fieldLink "GlassPalaceModel" 68 "GlassPalaceModel" "stands" "[I") := ⟨List.mem_of_getElem? (i := 1192) (by decide +kernel), rfl⟩
theorem k_1193 : zW (.fieldLink "GlassPalaceModel" 71 "GlassPalaceModel" "paneMany" "[I") := ⟨List.mem_of_getElem? (i := 1193) (by decide +kernel), rfl⟩
theorem k_1194 : zW (.fieldLink "GlassPalaceModel" 74 "GlassPalaceModel" "paneLot" "[I") := ⟨List.mem_of_getElem? (i := 1194) (by decide +kernel), rfl⟩
theorem k_1195 : zW (.fieldLink "GlassPalaceModel" 77 "GlassPalaceModel" "leadsTo" "[I") := ⟨List.mem_of_getElem? (i := 1195) (by decide +kernel), rfl⟩
theorem k_1196 : zW (.fieldLink "GlassPalaceModel" 80 "GlassPalaceModel" "crowd" "[I") := ⟨List.mem_of_getElem? (i := 1196) (by decide +kernel), rfl⟩
theorem k_1197 : zW (.fieldLink "GlassPalaceModel" 83 "GlassPalaceModel" "laws" "I") := ⟨List.mem_of_getElem? (i := 1197) (by decide +kernel), rfl⟩
theorem k_1198 : zW (.fieldLink "GlassPalaceModel" 86 "GlassPalaceModel" "fed" "I") := ⟨List.mem_of_getElem? (i := 1198) (by decide +kernel), rfl⟩
theorem k_1199 : zW (.fieldLink "GlassPalaceModel" 89 "GlassPalaceModel" "lawDay" "[I") := ⟨List.mem_of_getElem? (i := 1199) (by decide +kernel), rfl⟩
theorem k_1200 : zW (.fieldLink "GlassPalaceModel" 92 "GlassPalaceModel" "text" "[I") := ⟨List.mem_of_getElem? (i := 1200) (by decide +kernel), rfl⟩
theorem k_1201 : zW (.fieldLink "GlassPalaceModel" 95 "GlassPalaceModel" "size" "[I") := ⟨List.mem_of_getElem? (i := 1201) (by decide +kernel), rfl⟩
theorem k_1202 : zW (.fieldLink "GlassPalaceModel" 98 "GlassPalaceModel" "facts" "[I") := ⟨List.mem_of_getElem? (i := 1202) (by decide +kernel), rfl⟩
theorem k_1203 : zW (.fieldLink "GlassPalaceModel" 101 "GlassPalaceModel" "placeAt" "[I") := ⟨List.mem_of_getElem? (i := 1203) (by decide +kernel), rfl⟩
theorem k_1204 : zW (.fieldLink "GlassPalaceModel" 104 "GlassPalaceModel" "numberAt" "[I") := ⟨List.mem_of_getElem? (i := 1204) (by decide +kernel), rfl⟩
theorem k_1205 : zW (.fieldLink "GlassPalaceModel" 107 "GlassPalaceModel" "holdsAt" "[Z") := ⟨List.mem_of_getElem? (i := 1205) (by decide +kernel), rfl⟩
theorem k_1206 : zW (.fieldLink "GlassPalaceModel" 110 "GlassPalaceModel" "base" "I") := ⟨List.mem_of_getElem? (i := 1206) (by decide +kernel), rfl⟩
theorem k_1207 : zW (.fieldLink "GlassPalaceModel" 113 "GlassPalaceModel" "many" "I") := ⟨List.mem_of_getElem? (i := 1207) (by decide +kernel), rfl⟩
theorem k_1208 : zW (.fieldLink "GlassPalaceModel" 116 "GlassPalaceModel" "at" "I") := ⟨List.mem_of_getElem? (i := 1208) (by decide +kernel), rfl⟩
theorem k_1209 : zW (.fieldLink "GlassPalaceModel" 119 "GlassPalaceModel" "clauses" "I") := ⟨List.mem_of_getElem? (i := 1209) (by decide +kernel), rfl⟩
theorem k_1210 : zW (.fieldLink "GlassPalaceModel" 122 "GlassPalaceModel" "digits" "I") := ⟨List.mem_of_getElem? (i := 1210) (by decide +kernel), rfl⟩
theorem k_1211 : zW (.fieldLink "GlassPalaceModel" 125 "GlassPalaceModel" "waits" "[I") := ⟨List.mem_of_getElem? (i := 1211) (by decide +kernel), rfl⟩
theorem k_1212 : zW (.fieldLink "GlassPalaceModel" 128 "GlassPalaceModel" "pile" "[Z") := ⟨List.mem_of_getElem? (i := 1212) (by decide +kernel), rfl⟩
theorem k_1213 : zW (.fieldLink "GlassPalaceModel" 131 "GlassPalaceModel" "waiting" "I") := ⟨List.mem_of_getElem? (i := 1213) (by decide +kernel), rfl⟩
theorem k_1214 : zW (.fieldLink "GlassPalaceModel" 134 "GlassPalaceModel" "piled" "I") := ⟨List.mem_of_getElem? (i := 1214) (by decide +kernel), rfl⟩
theorem k_1215 : zW (.fieldLink "GlassPalaceModel" 137 "GlassPalaceModel" "open" "I") := ⟨List.mem_of_getElem? (i := 1215) (by decide +kernel), rfl⟩
theorem k_1216 : zW (.fieldLink "GlassPalaceModel" 140 "GlassPalaceModel" "rain" "[I") := ⟨List.mem_of_getElem? (i := 1216) (by decide +kernel), rfl⟩
theorem k_1217 : zW (.fieldLink "GlassPalaceModel" 143 "GlassPalaceModel" "water" "[I") := ⟨List.mem_of_getElem? (i := 1217) (by decide +kernel), rfl⟩
theorem k_1218 : zW (.fieldLink "GlassPalaceModel" 146 "GlassPalaceModel" "coming" "[I") := ⟨List.mem_of_getElem? (i := 1218) (by decide +kernel), rfl⟩
theorem k_1219 : zW (.fieldLink "GlassPalaceModel" 149 "GlassPalaceModel" "leak" "[I") := ⟨List.mem_of_getElem? (i := 1219) (by decide +kernel), rfl⟩
theorem k_1220 : zW (.fieldLink "GlassPalaceModel" 152 "GlassPalaceModel" "gangs" "I") := ⟨List.mem_of_getElem? (i := 1220) (by decide +kernel), rfl⟩
theorem k_1221 : zW (.fieldLink "GlassPalaceModel" 155 "GlassPalaceModel" "gangPlace" "[I") := ⟨List.mem_of_getElem? (i := 1221) (by decide +kernel), rfl⟩
theorem k_1222 : zW (.fieldLink "GlassPalaceModel" 158 "GlassPalaceModel" "gangPace" "[I") := ⟨List.mem_of_getElem? (i := 1222) (by decide +kernel), rfl⟩
theorem k_1223 : zW (.fieldLink "GlassPalaceModel" 161 "GlassPalaceModel" "gangSet" "[I") := ⟨List.mem_of_getElem? (i := 1223) (by decide +kernel), rfl⟩
theorem k_1224 : zW (.fieldLink "GlassPalaceModel" 164 "GlassPalaceModel" "busy" "[I") := ⟨List.mem_of_getElem? (i := 1224) (by decide +kernel), rfl⟩
theorem k_1225 : zW (.fieldLink "GlassPalaceModel" 167 "GlassPalaceModel" "worked" "[Z") := ⟨List.mem_of_getElem? (i := 1225) (by decide +kernel), rfl⟩
theorem k_1226 : zW (.fieldLink "GlassPalaceModel" 170 "GlassPalaceModel" "raised" "[Z") := ⟨List.mem_of_getElem? (i := 1226) (by decide +kernel), rfl⟩
theorem k_1227 : zW (.fieldLink "GlassPalaceModel" 173 "GlassPalaceModel" "wantRows" "I") := ⟨List.mem_of_getElem? (i := 1227) (by decide +kernel), rfl⟩
theorem k_1228 : zW (.fieldLink "GlassPalaceModel" 176 "GlassPalaceModel" "additions" "I") := ⟨List.mem_of_getElem? (i := 1228) (by decide +kernel), rfl⟩
theorem k_1229 : zW (.fieldLink "GlassPalaceModel" 179 "GlassPalaceModel" "wantKind" "[I") := ⟨List.mem_of_getElem? (i := 1229) (by decide +kernel), rfl⟩
theorem k_1230 : zW (.fieldLink "GlassPalaceModel" 182 "GlassPalaceModel" "wantMany" "[I") := ⟨List.mem_of_getElem? (i := 1230) (by decide +kernel), rfl⟩
theorem k_1231 : zW (.fieldLink "GlassPalaceModel" 185 "GlassPalaceModel" "wantDay" "[I") := ⟨List.mem_of_getElem? (i := 1231) (by decide +kernel), rfl⟩
theorem k_1232 : zW (.fieldLink "GlassPalaceModel" 188 "GlassPalaceModel" "addKind" "[I") := ⟨List.mem_of_getElem? (i := 1232) (by decide +kernel), rfl⟩
theorem k_1233 : zW (.fieldLink "GlassPalaceModel" 191 "GlassPalaceModel" "addMany" "[I") := ⟨List.mem_of_getElem? (i := 1233) (by decide +kernel), rfl⟩
theorem k_1234 : zW (.fieldLink "GlassPalaceModel" 194 "GlassPalaceModel" "addDay" "[I") := ⟨List.mem_of_getElem? (i := 1234) (by decide +kernel), rfl⟩
theorem k_1235 : zW (.fieldLink "GlassPalaceModel" 197 "GlassPalaceModel" "addCoin" "[I") := ⟨List.mem_of_getElem? (i := 1235) (by decide +kernel), rfl⟩
theorem k_1236 : zW (.fieldLink "GlassPalaceModel" 200 "GlassPalaceModel" "needed" "[I") := ⟨List.mem_of_getElem? (i := 1236) (by decide +kernel), rfl⟩
theorem k_1237 : zW (.fieldLink "GlassPalaceModel" 203 "GlassPalaceModel" "coming0" "[I") := ⟨List.mem_of_getElem? (i := 1237) (by decide +kernel), rfl⟩
theorem k_1238 : zW (.fieldLink "GlassPalaceModel" 206 "GlassPalaceModel" "runAt" "[I") := ⟨List.mem_of_getElem? (i := 1238) (by decide +kernel), rfl⟩
theorem k_1239 : zW (.fieldLink "GlassPalaceModel" 209 "GlassPalaceModel" "runMany" "[I") := ⟨List.mem_of_getElem? (i := 1239) (by decide +kernel), rfl⟩
theorem k_1240 : zW (.fieldLink "GlassPalaceModel" 212 "GlassPalaceModel" "gaveWay" "[I") := ⟨List.mem_of_getElem? (i := 1240) (by decide +kernel), rfl⟩
theorem k_1241 : zW (.fieldLink "GlassPalaceModel" 215 "GlassPalaceModel" "yet" "[Z") := ⟨List.mem_of_getElem? (i := 1241) (by decide +kernel), rfl⟩
theorem k_1242 : zW (.fieldLink "GlassPalaceModel" 218 "GlassPalaceModel" "ran" "I") := ⟨List.mem_of_getElem? (i := 1242) (by decide +kernel), rfl⟩
theorem k_1243 : zW (.fieldLink "GlassPalaceModel" 221 "GlassPalaceModel" "bodies" "[I") := ⟨List.mem_of_getElem? (i := 1243) (by decide +kernel), rfl⟩
theorem k_1244 : zW (.fieldLink "GlassPalaceModel" 224 "GlassPalaceModel" "sort" "[I") := ⟨List.mem_of_getElem? (i := 1244) (by decide +kernel), rfl⟩
theorem k_1245 : zW (.fieldLink "GlassPalaceModel" 227 "GlassPalaceModel" "length" "[I") := ⟨List.mem_of_getElem? (i := 1245) (by decide +kernel), rfl⟩
theorem k_1246 : zW (.fieldLink "GlassPalaceModel" 230 "GlassPalaceModel" "item" "[J") := ⟨List.mem_of_getElem? (i := 1246) (by decide +kernel), rfl⟩
theorem k_1247 : zW (.fieldLink "GlassPalaceModel" 234 "GlassPalaceModel" "aside" "[J") := ⟨List.mem_of_getElem? (i := 1247) (by decide +kernel), rfl⟩
theorem k_1398 : zW (.methodLink "GlassPalaceModel" 3 yX12_in) := ⟨List.mem_of_getElem? (i := 1398) (by decide +kernel), rfl⟩
theorem k_1400 : zW (.instanceMethod yX12_in) := ⟨List.mem_of_getElem? (i := 1400) (by decide +kernel), rfl⟩
theorem k_1401 : zW (.code yX12_in cX12_in 4 (some .boolean)) := ⟨List.mem_of_getElem? (i := 1401) (by decide +kernel), rfl⟩
theorem k_1406 : zW (.methodLink "GlassPalaceModel" 241 yX12_isBay) := ⟨List.mem_of_getElem? (i := 1406) (by decide +kernel), rfl⟩
theorem k_1408 : zW (.instanceMethod yX12_isBay) := ⟨List.mem_of_getElem? (i := 1408) (by decide +kernel), rfl⟩
theorem k_1409 : zW (.code yX12_isBay cX12_isBay 2 (some .boolean)) := ⟨List.mem_of_getElem? (i := 1409) (by decide +kernel), rfl⟩
theorem k_1410 : zW (.methodLink "GlassPalaceModel" 245 yX12_isEmpty) := ⟨List.mem_of_getElem? (i := 1410) (by decide +kernel), rfl⟩
theorem k_1412 : zW (.instanceMethod yX12_isEmpty) := ⟨List.mem_of_getElem? (i := 1412) (by decide +kernel), rfl⟩
theorem k_1413 : zW (.code yX12_isEmpty cX12_isEmpty 3 (some .boolean)) := ⟨List.mem_of_getElem? (i := 1413) (by decide +kernel), rfl⟩
theorem k_1414 : zW (.methodLink "GlassPalaceModel" 237 yX12_has) := ⟨List.mem_of_getElem? (i := 1414) (by decide +kernel), rfl⟩
theorem k_1416 : zW (.instanceMethod yX12_has) := ⟨List.mem_of_getElem? (i := 1416) (by decide +kernel), rfl⟩
theorem k_1417 : zW (.code yX12_has cX12_has 3 (some .boolean)) := ⟨List.mem_of_getElem? (i := 1417) (by decide +kernel), rfl⟩
theorem k_1422 : zW (.methodLink "GlassPalaceModel" 248 yX12_isFoundry) := ⟨List.mem_of_getElem? (i := 1422) (by decide +kernel), rfl⟩
theorem k_1424 : zW (.instanceMethod yX12_isFoundry) := ⟨List.mem_of_getElem? (i := 1424) (by decide +kernel), rfl⟩
theorem k_1425 : zW (.code yX12_isFoundry cX12_isFoundry 2 (some .boolean)) := ⟨List.mem_of_getElem? (i := 1425) (by decide +kernel), rfl⟩
theorem k_1434 : zW (.methodLink "GlassPalaceModel" 251 yX12_isLot) := ⟨List.mem_of_getElem? (i := 1434) (by decide +kernel), rfl⟩
theorem k_1436 : zW (.instanceMethod yX12_isLot) := ⟨List.mem_of_getElem? (i := 1436) (by decide +kernel), rfl⟩
theorem k_1437 : zW (.code yX12_isLot cX12_isLot 2 (some .boolean)) := ⟨List.mem_of_getElem? (i := 1437) (by decide +kernel), rfl⟩
theorem k_1442 : zW (.methodLink "GlassPalaceModel" 257 yX12_stock) := ⟨List.mem_of_getElem? (i := 1442) (by decide +kernel), rfl⟩
theorem k_1444 : zW (.instanceMethod yX12_stock) := ⟨List.mem_of_getElem? (i := 1444) (by decide +kernel), rfl⟩
theorem k_1445 : zW (.code yX12_stock cX12_stock 2 (some .int)) := ⟨List.mem_of_getElem? (i := 1445) (by decide +kernel), rfl⟩
theorem k_1446 : zW (.methodLink "GlassPalaceModel" 260 yX12_isBarred) := ⟨List.mem_of_getElem? (i := 1446) (by decide +kernel), rfl⟩
theorem k_1448 : zW (.instanceMethod yX12_isBarred) := ⟨List.mem_of_getElem? (i := 1448) (by decide +kernel), rfl⟩
theorem k_1449 : zW (.code yX12_isBarred cX12_isBarred 3 (some .boolean)) := ⟨List.mem_of_getElem? (i := 1449) (by decide +kernel), rfl⟩
theorem k_1450 : zW (.methodLink "GlassPalaceModel" 254 yX12_barsFoundry) := ⟨List.mem_of_getElem? (i := 1450) (by decide +kernel), rfl⟩
theorem k_1452 : zW (.instanceMethod yX12_barsFoundry) := ⟨List.mem_of_getElem? (i := 1452) (by decide +kernel), rfl⟩
theorem k_1453 : zW (.code yX12_barsFoundry cX12_barsFoundry 4 (some .boolean)) := ⟨List.mem_of_getElem? (i := 1453) (by decide +kernel), rfl⟩
theorem k_1454 : zW (.methodLink "GlassPalaceModel" 332 yX12_ruler) := ⟨List.mem_of_getElem? (i := 1454) (by decide +kernel), rfl⟩
theorem k_1456 : zW (.instanceMethod yX12_ruler) := ⟨List.mem_of_getElem? (i := 1456) (by decide +kernel), rfl⟩
theorem k_1457 : zW (.code yX12_ruler cX12_ruler 5 (some .int)) := ⟨List.mem_of_getElem? (i := 1457) (by decide +kernel), rfl⟩
theorem k_1458 : zW (.methodLink "GlassPalaceModel" 329 yX12_goes) := ⟨List.mem_of_getElem? (i := 1458) (by decide +kernel), rfl⟩
theorem k_1460 : zW (.instanceMethod yX12_goes) := ⟨List.mem_of_getElem? (i := 1460) (by decide +kernel), rfl⟩
theorem k_1461 : zW (.code yX12_goes cX12_goes 3 (some .boolean)) := ⟨List.mem_of_getElem? (i := 1461) (by decide +kernel), rfl⟩
theorem k_1462 : zW (.methodLink "GlassPalaceModel" 323 yX12_takesClause) := ⟨List.mem_of_getElem? (i := 1462) (by decide +kernel), rfl⟩
theorem k_1464 : zW (.instanceMethod yX12_takesClause) := ⟨List.mem_of_getElem? (i := 1464) (by decide +kernel), rfl⟩
theorem k_1465 : zW (.code yX12_takesClause cX12_takesClause 2 (some .boolean)) := ⟨List.mem_of_getElem? (i := 1465) (by decide +kernel), rfl⟩
theorem k_1466 : zW (.methodLink "GlassPalaceModel" 317 yX12_takesAnyWord) := ⟨List.mem_of_getElem? (i := 1466) (by decide +kernel), rfl⟩
theorem k_1468 : zW (.instanceMethod yX12_takesAnyWord) := ⟨List.mem_of_getElem? (i := 1468) (by decide +kernel), rfl⟩
theorem k_1469 : zW (.code yX12_takesAnyWord cX12_takesAnyWord 3 (some .int)) := ⟨List.mem_of_getElem? (i := 1469) (by decide +kernel), rfl⟩
theorem k_1470 : zW (.methodLink "GlassPalaceModel" 286 yX12_next) := ⟨List.mem_of_getElem? (i := 1470) (by decide +kernel), rfl⟩
theorem k_1472 : zW (.instanceMethod yX12_next) := ⟨List.mem_of_getElem? (i := 1472) (by decide +kernel), rfl⟩
theorem k_1473 : zW (.code yX12_next cX12_next 1 (some .int)) := ⟨List.mem_of_getElem? (i := 1473) (by decide +kernel), rfl⟩
theorem k_1474 : zW (.methodLink "GlassPalaceModel" 311 yX12_takesWord) := ⟨List.mem_of_getElem? (i := 1474) (by decide +kernel), rfl⟩
theorem k_1476 : zW (.instanceMethod yX12_takesWord) := ⟨List.mem_of_getElem? (i := 1476) (by decide +kernel), rfl⟩
theorem k_1477 : zW (.code yX12_takesWord cX12_takesWord 4 (some .boolean)) := ⟨List.mem_of_getElem? (i := 1477) (by decide +kernel), rfl⟩
theorem k_1478 : zW (.methodLink "GlassPalaceModel" 290 yX12_takes) := ⟨List.mem_of_getElem? (i := 1478) (by decide +kernel), rfl⟩
theorem k_1480 : zW (.instanceMethod yX12_takes) := ⟨List.mem_of_getElem? (i := 1480) (by decide +kernel), rfl⟩
theorem k_1481 : zW (.code yX12_takes cX12_takes 2 (some .boolean)) := ⟨List.mem_of_getElem? (i := 1481) (by decide +kernel), rfl⟩
theorem k_1482 : zW (.constant "GlassPalaceModel" 314 (525419)) := ⟨List.mem_of_getElem? (i := 1482) (by decide +kernel), rfl⟩
theorem k_1483 : zW (.constant "GlassPalaceModel" 315 (408612)) := ⟨List.mem_of_getElem? (i := 1483) (by decide +kernel), rfl⟩
theorem k_1484 : zW (.constant "GlassPalaceModel" 316 (637431)) := ⟨List.mem_of_getElem? (i := 1484) (by decide +kernel), rfl⟩
theorem k_1485 : zW (.methodLink "GlassPalaceModel" 297 yX12_takesNumber) := ⟨List.mem_of_getElem? (i := 1485) (by decide +kernel), rfl⟩
theorem k_1487 : zW (.instanceMethod yX12_takesNumber) := ⟨List.mem_of_getElem? (i := 1487) (by decide +kernel), rfl⟩
theorem k_1488 : zW (.code yX12_takesNumber cX12_takesNumber 2 (some .boolean)) := ⟨List.mem_of_getElem? (i := 1488) (by decide +kernel), rfl⟩
theorem k_1489 : zW (.methodLink "GlassPalaceModel" 293 yX12_isDigit) := ⟨List.mem_of_getElem? (i := 1489) (by decide +kernel), rfl⟩
theorem k_1491 : zW (.instanceMethod yX12_isDigit) := ⟨List.mem_of_getElem? (i := 1491) (by decide +kernel), rfl⟩
theorem k_1492 : zW (.code yX12_isDigit cX12_isDigit 1 (some .boolean)) := ⟨List.mem_of_getElem? (i := 1492) (by decide +kernel), rfl⟩
theorem k_1493 : zW (.methodLink "GlassPalaceModel" 320 yX12_takesE) := ⟨List.mem_of_getElem? (i := 1493) (by decide +kernel), rfl⟩
theorem k_1495 : zW (.instanceMethod yX12_takesE) := ⟨List.mem_of_getElem? (i := 1495) (by decide +kernel), rfl⟩
theorem k_1496 : zW (.code yX12_takesE cX12_takesE 3 (some .boolean)) := ⟨List.mem_of_getElem? (i := 1496) (by decide +kernel), rfl⟩
theorem k_1497 : zW (.methodLink "GlassPalaceModel" 304 yX12_takesTest) := ⟨List.mem_of_getElem? (i := 1497) (by decide +kernel), rfl⟩
theorem k_1499 : zW (.instanceMethod yX12_takesTest) := ⟨List.mem_of_getElem? (i := 1499) (by decide +kernel), rfl⟩
theorem k_1500 : zW (.code yX12_takesTest cX12_takesTest 4 (some .boolean)) := ⟨List.mem_of_getElem? (i := 1500) (by decide +kernel), rfl⟩
theorem k_1501 : zW (.methodLink "GlassPalaceModel" 300 yX12_push) := ⟨List.mem_of_getElem? (i := 1501) (by decide +kernel), rfl⟩
theorem k_1503 : zW (.instanceMethod yX12_push) := ⟨List.mem_of_getElem? (i := 1503) (by decide +kernel), rfl⟩
theorem k_1504 : zW (.code yX12_push cX12_push 3 none) := ⟨List.mem_of_getElem? (i := 1504) (by decide +kernel), rfl⟩
theorem k_1505 : zW (.methodLink "GlassPalaceModel" 307 yX12_settle) := ⟨List.mem_of_getElem? (i := 1505) (by decide +kernel), rfl⟩
theorem k_1507 : zW (.instanceMethod yX12_settle) := ⟨List.mem_of_getElem? (i := 1507) (by decide +kernel), rfl⟩
theorem k_1508 : zW (.code yX12_settle cX12_settle 2 none) := ⟨List.mem_of_getElem? (i := 1508) (by decide +kernel), rfl⟩
theorem k_1509 : zW (.methodLink "GlassPalaceModel" 263 yX12_number) := ⟨List.mem_of_getElem? (i := 1509) (by decide +kernel), rfl⟩
theorem k_1511 : zW (.instanceMethod yX12_number) := ⟨List.mem_of_getElem? (i := 1511) (by decide +kernel), rfl⟩
theorem k_1512 : zW (.code yX12_number cX12_number 3 (some .int)) := ⟨List.mem_of_getElem? (i := 1512) (by decide +kernel), rfl⟩
theorem k_1525 : zW (.methodLink "GlassPalaceModel" 267 yX12_wantsOf) := ⟨List.mem_of_getElem? (i := 1525) (by decide +kernel), rfl⟩
theorem k_1527 : zW (.instanceMethod yX12_wantsOf) := ⟨List.mem_of_getElem? (i := 1527) (by decide +kernel), rfl⟩
theorem k_1528 : zW (.code yX12_wantsOf cX12_wantsOf 2 (some .int)) := ⟨List.mem_of_getElem? (i := 1528) (by decide +kernel), rfl⟩
theorem k_1533 : zW (.methodLink "GlassPalaceModel" 273 yX12_fits) := ⟨List.mem_of_getElem? (i := 1533) (by decide +kernel), rfl⟩
theorem k_1535 : zW (.instanceMethod yX12_fits) := ⟨List.mem_of_getElem? (i := 1535) (by decide +kernel), rfl⟩
theorem k_1536 : zW (.code yX12_fits cX12_fits 5 (some .int)) := ⟨List.mem_of_getElem? (i := 1536) (by decide +kernel), rfl⟩
theorem k_1537 : zW (.methodLink "GlassPalaceModel" 270 yX12_placeOf) := ⟨List.mem_of_getElem? (i := 1537) (by decide +kernel), rfl⟩
theorem k_1539 : zW (.instanceMethod yX12_placeOf) := ⟨List.mem_of_getElem? (i := 1539) (by decide +kernel), rfl⟩
theorem k_1540 : zW (.code yX12_placeOf cX12_placeOf 2 (some .int)) := ⟨List.mem_of_getElem? (i := 1540) (by decide +kernel), rfl⟩
theorem k_1545 : zW (.methodLink "GlassPalaceModel" 276 yX12_put) := ⟨List.mem_of_getElem? (i := 1545) (by decide +kernel), rfl⟩
theorem k_1547 : zW (.instanceMethod yX12_put) := ⟨List.mem_of_getElem? (i := 1547) (by decide +kernel), rfl⟩
theorem k_1548 : zW (.code yX12_put cX12_put 4 none) := ⟨List.mem_of_getElem? (i := 1548) (by decide +kernel), rfl⟩
theorem k_1553 : zW (.methodLink "GlassPalaceModel" 280 yX12_isPlace) := ⟨List.mem_of_getElem? (i := 1553) (by decide +kernel), rfl⟩
theorem k_1555 : zW (.instanceMethod yX12_isPlace) := ⟨List.mem_of_getElem? (i := 1555) (by decide +kernel), rfl⟩
theorem k_1556 : zW (.code yX12_isPlace cX12_isPlace 2 (some .boolean)) := ⟨List.mem_of_getElem? (i := 1556) (by decide +kernel), rfl⟩
theorem k_1565 : zW (.methodLink "GlassPalaceModel" 283 yX12_mayCut) := ⟨List.mem_of_getElem? (i := 1565) (by decide +kernel), rfl⟩
theorem k_1567 : zW (.instanceMethod yX12_mayCut) := ⟨List.mem_of_getElem? (i := 1567) (by decide +kernel), rfl⟩
theorem k_1568 : zW (.code yX12_mayCut cX12_mayCut 3 (some .boolean)) := ⟨List.mem_of_getElem? (i := 1568) (by decide +kernel), rfl⟩
theorem k_1577 : zW (.methodLink "GlassPalaceModel" 326 yX12_isDay) := ⟨List.mem_of_getElem? (i := 1577) (by decide +kernel), rfl⟩
theorem k_1579 : zW (.instanceMethod yX12_isDay) := ⟨List.mem_of_getElem? (i := 1579) (by decide +kernel), rfl⟩
theorem k_1580 : zW (.code yX12_isDay cX12_isDay 2 (some .boolean)) := ⟨List.mem_of_getElem? (i := 1580) (by decide +kernel), rfl⟩
theorem k_1597 : zW (.methodLink "GlassPalaceModel" 335 yX12_loadOf) := ⟨List.mem_of_getElem? (i := 1597) (by decide +kernel), rfl⟩
theorem k_1599 : zW (.instanceMethod yX12_loadOf) := ⟨List.mem_of_getElem? (i := 1599) (by decide +kernel), rfl⟩
theorem k_1600 : zW (.code yX12_loadOf cX12_loadOf 2 (some .int)) := ⟨List.mem_of_getElem? (i := 1600) (by decide +kernel), rfl⟩
theorem k_1601 : zW (.methodLink "GlassPalaceModel" 338 yX12_borne) := ⟨List.mem_of_getElem? (i := 1601) (by decide +kernel), rfl⟩
theorem k_1603 : zW (.instanceMethod yX12_borne) := ⟨List.mem_of_getElem? (i := 1603) (by decide +kernel), rfl⟩
theorem k_1604 : zW (.code yX12_borne cX12_borne 2 (some .int)) := ⟨List.mem_of_getElem? (i := 1604) (by decide +kernel), rfl⟩
theorem k_1605 : zW (.methodLink "GlassPalaceModel" 341 yX12_girderHolds) := ⟨List.mem_of_getElem? (i := 1605) (by decide +kernel), rfl⟩
theorem k_1607 : zW (.instanceMethod yX12_girderHolds) := ⟨List.mem_of_getElem? (i := 1607) (by decide +kernel), rfl⟩
theorem k_1608 : zW (.code yX12_girderHolds cX12_girderHolds 2 (some .boolean)) := ⟨List.mem_of_getElem? (i := 1608) (by decide +kernel), rfl⟩
theorem k_1609 : zW (.methodLink "GlassPalaceModel" 344 yX12_columnHolds) := ⟨List.mem_of_getElem? (i := 1609) (by decide +kernel), rfl⟩
theorem k_1611 : zW (.instanceMethod yX12_columnHolds) := ⟨List.mem_of_getElem? (i := 1611) (by decide +kernel), rfl⟩
theorem k_1612 : zW (.code yX12_columnHolds cX12_columnHolds 2 (some .boolean)) := ⟨List.mem_of_getElem? (i := 1612) (by decide +kernel), rfl⟩
theorem k_1625 : zW (.methodLink "GlassPalaceModel" 347 yX12_areBeside) := ⟨List.mem_of_getElem? (i := 1625) (by decide +kernel), rfl⟩
theorem k_1627 : zW (.instanceMethod yX12_areBeside) := ⟨List.mem_of_getElem? (i := 1627) (by decide +kernel), rfl⟩
theorem k_1628 : zW (.code yX12_areBeside cX12_areBeside 3 (some .boolean)) := ⟨List.mem_of_getElem? (i := 1628) (by decide +kernel), rfl⟩
theorem k_1629 : zW (.methodLink "GlassPalaceModel" 7 yX12_abs) := ⟨List.mem_of_getElem? (i := 1629) (by decide +kernel), rfl⟩
theorem k_1631 : zW (.instanceMethod yX12_abs) := ⟨List.mem_of_getElem? (i := 1631) (by decide +kernel), rfl⟩
theorem k_1632 : zW (.code yX12_abs cX12_abs 2 (some .int)) := ⟨List.mem_of_getElem? (i := 1632) (by decide +kernel), rfl⟩
theorem k_1637 : zW (.methodLink "GlassPalaceModel" 350 yX12_flow) := ⟨List.mem_of_getElem? (i := 1637) (by decide +kernel), rfl⟩
theorem k_1639 : zW (.instanceMethod yX12_flow) := ⟨List.mem_of_getElem? (i := 1639) (by decide +kernel), rfl⟩
theorem k_1640 : zW (.code yX12_flow cX12_flow 6 none) := ⟨List.mem_of_getElem? (i := 1640) (by decide +kernel), rfl⟩
theorem k_1653 : zW (.methodLink "GlassPalaceModel" 353 yX12_isGang) := ⟨List.mem_of_getElem? (i := 1653) (by decide +kernel), rfl⟩
theorem k_1655 : zW (.instanceMethod yX12_isGang) := ⟨List.mem_of_getElem? (i := 1655) (by decide +kernel), rfl⟩
theorem k_1656 : zW (.code yX12_isGang cX12_isGang 2 (some .boolean)) := ⟨List.mem_of_getElem? (i := 1656) (by decide +kernel), rfl⟩
theorem k_1657 : zW (.methodLink "GlassPalaceModel" 356 yX12_paceOf) := ⟨List.mem_of_getElem? (i := 1657) (by decide +kernel), rfl⟩
theorem k_1659 : zW (.instanceMethod yX12_paceOf) := ⟨List.mem_of_getElem? (i := 1659) (by decide +kernel), rfl⟩
theorem k_1660 : zW (.code yX12_paceOf cX12_paceOf 3 (some .int)) := ⟨List.mem_of_getElem? (i := 1660) (by decide +kernel), rfl⟩
theorem k_1669 : zW (.methodLink "GlassPalaceModel" 359 yX12_isKind) := ⟨List.mem_of_getElem? (i := 1669) (by decide +kernel), rfl⟩
theorem k_1671 : zW (.instanceMethod yX12_isKind) := ⟨List.mem_of_getElem? (i := 1671) (by decide +kernel), rfl⟩
theorem k_1672 : zW (.code yX12_isKind cX12_isKind 2 (some .boolean)) := ⟨List.mem_of_getElem? (i := 1672) (by decide +kernel), rfl⟩
theorem k_1677 : zW (.methodLink "GlassPalaceModel" 362 yX12_comes) := ⟨List.mem_of_getElem? (i := 1677) (by decide +kernel), rfl⟩
theorem k_1679 : zW (.instanceMethod yX12_comes) := ⟨List.mem_of_getElem? (i := 1679) (by decide +kernel), rfl⟩
theorem k_1680 : zW (.code yX12_comes cX12_comes 7 (some .int)) := ⟨List.mem_of_getElem? (i := 1680) (by decide +kernel), rfl⟩
theorem k_1685 : zW (.methodLink "GlassPalaceModel" 366 yX12_findNeeds) := ⟨List.mem_of_getElem? (i := 1685) (by decide +kernel), rfl⟩
theorem k_1687 : zW (.instanceMethod yX12_findNeeds) := ⟨List.mem_of_getElem? (i := 1687) (by decide +kernel), rfl⟩
theorem k_1688 : zW (.code yX12_findNeeds cX12_findNeeds 4 none) := ⟨List.mem_of_getElem? (i := 1688) (by decide +kernel), rfl⟩
theorem k_1689 : zW (.methodLink "GlassPalaceModel" 369 yX12_lacking) := ⟨List.mem_of_getElem? (i := 1689) (by decide +kernel), rfl⟩
theorem k_1691 : zW (.instanceMethod yX12_lacking) := ⟨List.mem_of_getElem? (i := 1691) (by decide +kernel), rfl⟩
theorem k_1692 : zW (.code yX12_lacking cX12_lacking 6 (some .int)) := ⟨List.mem_of_getElem? (i := 1692) (by decide +kernel), rfl⟩
theorem k_1705 : zW (.methodLink "GlassPalaceModel" 372 yX12_meet) := ⟨List.mem_of_getElem? (i := 1705) (by decide +kernel), rfl⟩
theorem k_1707 : zW (.instanceMethod yX12_meet) := ⟨List.mem_of_getElem? (i := 1707) (by decide +kernel), rfl⟩
theorem k_1708 : zW (.code yX12_meet cX12_meet 4 (some .boolean)) := ⟨List.mem_of_getElem? (i := 1708) (by decide +kernel), rfl⟩
theorem k_1717 : zW (.methodLink "GlassPalaceModel" 378 yX12_nextDown) := ⟨List.mem_of_getElem? (i := 1717) (by decide +kernel), rfl⟩
theorem k_1719 : zW (.instanceMethod yX12_nextDown) := ⟨List.mem_of_getElem? (i := 1719) (by decide +kernel), rfl⟩
theorem k_1720 : zW (.code yX12_nextDown cX12_nextDown 3 (some .int)) := ⟨List.mem_of_getElem? (i := 1720) (by decide +kernel), rfl⟩
theorem k_1721 : zW (.methodLink "GlassPalaceModel" 375 yX12_mayGo) := ⟨List.mem_of_getElem? (i := 1721) (by decide +kernel), rfl⟩
theorem k_1723 : zW (.instanceMethod yX12_mayGo) := ⟨List.mem_of_getElem? (i := 1723) (by decide +kernel), rfl⟩
theorem k_1724 : zW (.code yX12_mayGo cX12_mayGo 3 (some .boolean)) := ⟨List.mem_of_getElem? (i := 1724) (by decide +kernel), rfl⟩
theorem k_1733 : zW (.methodLink "GlassPalaceModel" 390 yX12_fitsOf) := ⟨List.mem_of_getElem? (i := 1733) (by decide +kernel), rfl⟩
theorem k_1735 : zW (.instanceMethod yX12_fitsOf) := ⟨List.mem_of_getElem? (i := 1735) (by decide +kernel), rfl⟩
theorem k_1736 : zW (.code yX12_fitsOf cX12_fitsOf 3 (some .int)) := ⟨List.mem_of_getElem? (i := 1736) (by decide +kernel), rfl⟩
theorem k_1737 : zW (.methodLink "GlassPalaceModel" 387 yX12_columnFits) := ⟨List.mem_of_getElem? (i := 1737) (by decide +kernel), rfl⟩
theorem k_1739 : zW (.instanceMethod yX12_columnFits) := ⟨List.mem_of_getElem? (i := 1739) (by decide +kernel), rfl⟩
theorem k_1740 : zW (.code yX12_columnFits cX12_columnFits 3 (some .int)) := ⟨List.mem_of_getElem? (i := 1740) (by decide +kernel), rfl⟩
theorem k_1741 : zW (.methodLink "GlassPalaceModel" 381 yX12_body) := ⟨List.mem_of_getElem? (i := 1741) (by decide +kernel), rfl⟩
theorem k_1743 : zW (.instanceMethod yX12_body) := ⟨List.mem_of_getElem? (i := 1743) (by decide +kernel), rfl⟩
theorem k_1744 : zW (.code yX12_body cX12_body 2 none) := ⟨List.mem_of_getElem? (i := 1744) (by decide +kernel), rfl⟩
theorem k_1745 : zW (.methodLink "GlassPalaceModel" 384 yX12_plainFits) := ⟨List.mem_of_getElem? (i := 1745) (by decide +kernel), rfl⟩
theorem k_1747 : zW (.instanceMethod yX12_plainFits) := ⟨List.mem_of_getElem? (i := 1747) (by decide +kernel), rfl⟩
theorem k_1748 : zW (.code yX12_plainFits cX12_plainFits 3 (some .int)) := ⟨List.mem_of_getElem? (i := 1748) (by decide +kernel), rfl⟩
theorem k_1749 : zW (.methodLink "GlassPalaceModel" 396 yX12_bearsOf) := ⟨List.mem_of_getElem? (i := 1749) (by decide +kernel), rfl⟩
theorem k_1751 : zW (.instanceMethod yX12_bearsOf) := ⟨List.mem_of_getElem? (i := 1751) (by decide +kernel), rfl⟩
theorem k_1752 : zW (.code yX12_bearsOf cX12_bearsOf 4 (some .int)) := ⟨List.mem_of_getElem? (i := 1752) (by decide +kernel), rfl⟩
theorem k_1753 : zW (.methodLink "GlassPalaceModel" 393 yX12_plainBears) := ⟨List.mem_of_getElem? (i := 1753) (by decide +kernel), rfl⟩
theorem k_1755 : zW (.instanceMethod yX12_plainBears) := ⟨List.mem_of_getElem? (i := 1755) (by decide +kernel), rfl⟩
theorem k_1756 : zW (.code yX12_plainBears cX12_plainBears 3 (some .int)) := ⟨List.mem_of_getElem? (i := 1756) (by decide +kernel), rfl⟩
theorem k_1757 : zW (.methodLink "GlassPalaceModel" 402 yX12_endsOf) := ⟨List.mem_of_getElem? (i := 1757) (by decide +kernel), rfl⟩
theorem k_1759 : zW (.instanceMethod yX12_endsOf) := ⟨List.mem_of_getElem? (i := 1759) (by decide +kernel), rfl⟩
theorem k_1760 : zW (.code yX12_endsOf cX12_endsOf 4 (some .int)) := ⟨List.mem_of_getElem? (i := 1760) (by decide +kernel), rfl⟩
theorem k_1761 : zW (.methodLink "GlassPalaceModel" 399 yX12_plainEnds) := ⟨List.mem_of_getElem? (i := 1761) (by decide +kernel), rfl⟩
theorem k_1763 : zW (.instanceMethod yX12_plainEnds) := ⟨List.mem_of_getElem? (i := 1763) (by decide +kernel), rfl⟩
theorem k_1764 : zW (.code yX12_plainEnds cX12_plainEnds 3 (some .int)) := ⟨List.mem_of_getElem? (i := 1764) (by decide +kernel), rfl⟩
theorem k_1777 : zW (.methodLink "GlassPalaceModel" 405 yX12_standing) := ⟨List.mem_of_getElem? (i := 1777) (by decide +kernel), rfl⟩
theorem k_1779 : zW (.instanceMethod yX12_standing) := ⟨List.mem_of_getElem? (i := 1779) (by decide +kernel), rfl⟩
theorem k_1780 : zW (.code yX12_standing cX12_standing 3 (some .int)) := ⟨List.mem_of_getElem? (i := 1780) (by decide +kernel), rfl⟩
theorem k_1785 : zW (.methodLink "GlassPalaceModel" 408 yX12_isTape) := ⟨List.mem_of_getElem? (i := 1785) (by decide +kernel), rfl⟩
theorem k_1787 : zW (.instanceMethod yX12_isTape) := ⟨List.mem_of_getElem? (i := 1787) (by decide +kernel), rfl⟩
theorem k_1788 : zW (.code yX12_isTape cX12_isTape 2 (some .boolean)) := ⟨List.mem_of_getElem? (i := 1788) (by decide +kernel), rfl⟩
theorem k_1789 : zW (.constantLong "GlassPalaceModel" 411 (-9223372036854775808)) := ⟨List.mem_of_getElem? (i := 1789) (by decide +kernel), rfl⟩
theorem k_1790 : zW (.constantLong "GlassPalaceModel" 413 (-9223372036854775807)) := ⟨List.mem_of_getElem? (i := 1790) (by decide +kernel), rfl⟩
theorem k_1791 : zW (.constantLong "GlassPalaceModel" 415 (1000000)) := ⟨List.mem_of_getElem? (i := 1791) (by decide +kernel), rfl⟩
theorem k_1792 : zW (.constantLong "GlassPalaceModel" 417 (1000)) := ⟨List.mem_of_getElem? (i := 1792) (by decide +kernel), rfl⟩
theorem k_1801 : zW (.methodLink "GlassPalaceModel" 419 yX12_narrow) := ⟨List.mem_of_getElem? (i := 1801) (by decide +kernel), rfl⟩
theorem k_1803 : zW (.instanceMethod yX12_narrow) := ⟨List.mem_of_getElem? (i := 1803) (by decide +kernel), rfl⟩
theorem k_1804 : zW (.code yX12_narrow cX12_narrow 4 (some .long)) := ⟨List.mem_of_getElem? (i := 1804) (by decide +kernel), rfl⟩
theorem k_1814 : zW (.fieldLink "java/lang/String" 9 "java/lang/String" "value" "[B") := ⟨List.mem_of_getElem? (i := 1814) (by decide +kernel), rfl⟩
theorem k_1815 : zW (.fieldLink "java/lang/String" 15 "java/lang/String" "coder" "B") := ⟨List.mem_of_getElem? (i := 1815) (by decide +kernel), rfl⟩
theorem mw_X0_begin : MW yX0_begin cX0_begin 2 none 1 := ⟨k_1071, k_110, by decide, by decide, by decide +kernel⟩
theorem mv_X0_begin : zW (.instanceMethod yX0_begin) ∧ Cond.selects (yX0_begin).cls yX0_begin yX0_begin ∈ ztb := ⟨k_1070, (k_37).mem⟩
theorem mw_X0_fitsFrom : MW yX0_fitsFrom cX0_fitsFrom 4 (some .int) 3 := ⟨k_1067, k_110, by decide, by decide, by decide +kernel⟩
theorem mv_X0_fitsFrom : zW (.instanceMethod yX0_fitsFrom) ∧ Cond.selects (yX0_fitsFrom).cls yX0_fitsFrom yX0_fitsFrom ∈ ztb := ⟨k_1066, (k_36).mem⟩
theorem mw_X0_bearsFrom : MW yX0_bearsFrom cX0_bearsFrom 4 (some .int) 3 := ⟨k_1075, k_110, by decide, by decide, by decide +kernel⟩
theorem mv_X0_bearsFrom : zW (.instanceMethod yX0_bearsFrom) ∧ Cond.selects (yX0_bearsFrom).cls yX0_bearsFrom yX0_bearsFrom ∈ ztb := ⟨k_1074, (k_38).mem⟩
theorem mw_X0_endsFrom : MW yX0_endsFrom cX0_endsFrom 4 (some .int) 3 := ⟨k_1079, k_110, by decide, by decide, by decide +kernel⟩
theorem mv_X0_endsFrom : zW (.instanceMethod yX0_endsFrom) ∧ Cond.selects (yX0_endsFrom).cls yX0_endsFrom yX0_endsFrom ∈ ztb := ⟨k_1078, (k_39).mem⟩
theorem mw_X1_latestAt : MW yX1_latestAt cX1_latestAt 2 (some (.object "GlassPalace$Lot")) 1 := ⟨k_434, k_111, by decide, by decide, by decide +kernel⟩
theorem mv_X1_latestAt : zW (.instanceMethod yX1_latestAt) ∧ Cond.selects (yX1_latestAt).cls yX1_latestAt yX1_latestAt ∈ ztb := ⟨k_432, (k_433).mem⟩
theorem mw_X1_has : MW yX1_has cX1_has 2 (some .boolean) 1 := ⟨k_430, k_111, by decide, by decide, by decide +kernel⟩
theorem mv_X1_has : zW (.instanceMethod yX1_has) ∧ Cond.selects (yX1_has).cls yX1_has yX1_has ∈ ztb := ⟨k_428, (k_429).mem⟩
theorem mw_X4_place : MW yX4_place cX4_place 1 (some .int) 0 := ⟨k_604, k_114, by decide, by decide, by decide +kernel⟩
theorem mv_X4_place : zW (.instanceMethod yX4_place) ∧ Cond.selects (yX4_place).cls yX4_place yX4_place ∈ ztb := ⟨k_602, (k_603).mem⟩
theorem mw_X1_room : MW yX1_room cX1_room 2 (some .int) 1 := ⟨k_608, k_111, by decide, by decide, by decide +kernel⟩
theorem mv_X1_room : zW (.instanceMethod yX1_room) ∧ Cond.selects (yX1_room).cls yX1_room yX1_room ∈ ztb := ⟨k_606, (k_607).mem⟩
theorem mw_X9_lastClauseOf : MW yX9_lastClauseOf cX9_lastClauseOf 4 (some .int) 1 := ⟨k_548, k_106, by decide, by decide, by decide +kernel⟩
theorem mv_X9_lastClauseOf : zW (.instanceMethod yX9_lastClauseOf) ∧ Cond.selects (yX9_lastClauseOf).cls yX9_lastClauseOf yX9_lastClauseOf ∈ ztb := ⟨k_546, (k_547).mem⟩
theorem mw_X3_textFor : MW yX3_textFor cX3_textFor 7 (some .int) 2 := ⟨k_544, k_105, by decide, by decide, by decide +kernel⟩
theorem mv_X3_textFor : zW (.instanceMethod yX3_textFor) ∧ Cond.selects (yX3_textFor).cls yX3_textFor yX3_textFor ∈ ztb := ⟨k_542, (k_543).mem⟩
theorem mw_X3_textOf : MW yX3_textOf cX3_textOf 2 (some (.object "GlassPalace$Text")) 1 := ⟨k_552, k_105, by decide, by decide, by decide +kernel⟩
theorem mv_X3_textOf : zW (.instanceMethod yX3_textOf) ∧ Cond.selects (yX3_textOf).cls yX3_textOf yX3_textOf ∈ ztb := ⟨k_550, (k_551).mem⟩
theorem mw_X9_valueOf : MW yX9_valueOf cX9_valueOf 2 (some .int) 1 := ⟨k_556, k_106, by decide, by decide, by decide +kernel⟩
theorem mv_X9_valueOf : zW (.instanceMethod yX9_valueOf) ∧ Cond.selects (yX9_valueOf).cls yX9_valueOf yX9_valueOf ∈ ztb := ⟨k_554, (k_555).mem⟩
theorem mw_X9_testHolds : MW yX9_testHolds cX9_testHolds 6 (some .boolean) 2 := ⟨k_566, k_106, by decide, by decide, by decide +kernel⟩
theorem mv_X9_testHolds : zW (.static yX9_testHolds) := k_565
theorem mw_X9_holds : MW yX9_holds cX9_holds 6 (some .boolean) 2 := ⟨k_560, k_106, by decide, by decide, by decide +kernel⟩
theorem mv_X9_holds : zW (.instanceMethod yX9_holds) ∧ Cond.selects (yX9_holds).cls yX9_holds yX9_holds ∈ ztb := ⟨k_558, (k_559).mem⟩
theorem mw_X1_column : MW yX1_column cX1_column 1 (some .int) 0 := ⟨k_625, k_111, by decide, by decide, by decide +kernel⟩
theorem mv_X1_column : zW (.instanceMethod yX1_column) ∧ Cond.selects (yX1_column).cls yX1_column yX1_column ∈ ztb := ⟨k_623, (k_624).mem⟩
theorem mw_X1_row : MW yX1_row cX1_row 1 (some .int) 0 := ⟨k_672, k_111, by decide, by decide, by decide +kernel⟩
theorem mv_X1_row : zW (.instanceMethod yX1_row) ∧ Cond.selects (yX1_row).cls yX1_row yX1_row ∈ ztb := ⟨k_670, (k_671).mem⟩
theorem mw_X3_holdsFor : MW yX3_holdsFor cX3_holdsFor 4 (some .boolean) 2 := ⟨k_540, k_105, by decide, by decide, by decide +kernel⟩
theorem mv_X3_holdsFor : zW (.instanceMethod yX3_holdsFor) ∧ Cond.selects (yX3_holdsFor).cls yX3_holdsFor yX3_holdsFor ∈ ztb := ⟨k_539, (k_3).mem⟩
theorem mw_X4_isTold : MW yX4_isTold cX4_isTold 1 (some .boolean) 0 := ⟨k_519, k_114, by decide, by decide, by decide +kernel⟩
theorem mv_X4_isTold : zW (.instanceMethod yX4_isTold) ∧ Cond.selects (yX4_isTold).cls yX4_isTold yX4_isTold ∈ ztb := ⟨k_517, (k_518).mem⟩
theorem mw_X5_meets : MW yX5_meets cX5_meets 4 (some .boolean) 3 := ⟨k_1039, k_109, by decide, by decide, by decide +kernel⟩
theorem mv_X5_meets : zW (.instanceMethod yX5_meets) ∧ Cond.selects (yX5_meets).cls yX5_meets yX5_meets ∈ ztb := ⟨k_1038, (k_34).mem⟩
theorem mw_X5_inTheWay : MW yX5_inTheWay cX5_inTheWay 5 (some .int) 2 := ⟨k_1035, k_109, by decide, by decide, by decide +kernel⟩
theorem mv_X5_inTheWay : zW (.instanceMethod yX5_inTheWay) ∧ Cond.selects (yX5_inTheWay).cls yX5_inTheWay yX5_inTheWay ∈ ztb := ⟨k_1034, (k_33).mem⟩
theorem mw_X5_clear : MW yX5_clear cX5_clear 4 none 2 := ⟨k_1043, k_109, by decide, by decide, by decide +kernel⟩
theorem mv_X5_clear : zW (.instanceMethod yX5_clear) ∧ Cond.selects (yX5_clear).cls yX5_clear yX5_clear ∈ ztb := ⟨k_1042, (k_35).mem⟩
theorem mw_X6_addedFor : MW yX6_addedFor cX6_addedFor 5 (some .int) 2 := ⟨k_989, k_108, by decide, by decide, by decide +kernel⟩
theorem mv_X6_addedFor : zW (.instanceMethod yX6_addedFor) ∧ Cond.selects (yX6_addedFor).cls yX6_addedFor yX6_addedFor ∈ ztb := ⟨k_988, (k_30).mem⟩
theorem mw_X6_isAhead : MW yX6_isAhead cX6_isAhead 3 (some .boolean) 2 := ⟨k_993, k_108, by decide, by decide, by decide +kernel⟩
theorem mv_X6_isAhead : zW (.instanceMethod yX6_isAhead) ∧ Cond.selects (yX6_isAhead).cls yX6_isAhead yX6_isAhead ∈ ztb := ⟨k_992, (k_31).mem⟩
theorem mw_X6_coinOf : MW yX6_coinOf cX6_coinOf 4 (some .int) 1 := ⟨k_1013, k_108, by decide, by decide, by decide +kernel⟩
theorem mv_X6_coinOf : zW (.instanceMethod yX6_coinOf) ∧ Cond.selects (yX6_coinOf).cls yX6_coinOf yX6_coinOf ∈ ztb := ⟨k_1012, (k_32).mem⟩
theorem mw_X6_firstLack : MW yX6_firstLack cX6_firstLack 4 (some .int) 1 := ⟨k_985, k_108, by decide, by decide, by decide +kernel⟩
theorem mv_X6_firstLack : zW (.instanceMethod yX6_firstLack) ∧ Cond.selects (yX6_firstLack).cls yX6_firstLack yX6_firstLack ∈ ztb := ⟨k_983, (k_984).mem⟩
theorem mw_J6_bitCount_0f7a4 : MW yJ6_bitCount_0f7a4 cJ6_bitCount_0f7a4 1 (some .int) 1 := ⟨k_1016, k_121, by decide, by decide, by decide +kernel⟩
theorem mv_J6_bitCount_0f7a4 : zW (.static yJ6_bitCount_0f7a4) := k_1015
theorem mw_J0_length_8abf5 : MW yJ0_length_8abf5 cJ0_length_8abf5 1 (some .int) 0 := ⟨k_718, k_116, by decide, by decide, by decide +kernel⟩
theorem mv_J0_length_8abf5 : zW (.instanceMethod yJ0_length_8abf5) ∧ Cond.selects (yJ0_length_8abf5).cls yJ0_length_8abf5 yJ0_length_8abf5 ∈ ztb := ⟨k_716, (k_717).mem⟩
theorem mw_J0_charAt_5068e : MW yJ0_charAt_5068e cJ0_charAt_5068e 2 (some .char) 1 := ⟨k_728, k_116, by decide, by decide, by decide +kernel⟩
theorem mv_J0_charAt_5068e : zW (.instanceMethod yJ0_charAt_5068e) ∧ Cond.selects (yJ0_charAt_5068e).cls yJ0_charAt_5068e yJ0_charAt_5068e ∈ ztb := ⟨k_726, (k_727).mem⟩
theorem mw_X7_bytesLike : MW yX7_bytesLike cX7_bytesLike 4 (some .int) 2 := ⟨k_713, k_104, by decide, by decide, by decide +kernel⟩
theorem mv_X7_bytesLike : zW (.instanceMethod yX7_bytesLike) ∧ Cond.selects (yX7_bytesLike).cls yX7_bytesLike yX7_bytesLike ∈ ztb := ⟨k_712, (k_12).mem⟩
theorem mw_X7_fail : MW yX7_fail cX7_fail 1 none 0 := ⟨k_767, k_104, by decide, by decide, by decide +kernel⟩
theorem mv_X7_fail : zW (.instanceMethod yX7_fail) ∧ Cond.selects (yX7_fail).cls yX7_fail yX7_fail ∈ ztb := ⟨k_766, (k_13).mem⟩
theorem mw_X7_readOne : MW yX7_readOne cX7_readOne 4 none 2 := ⟨k_779, k_104, by decide, by decide, by decide +kernel⟩
theorem mv_X7_readOne : zW (.instanceMethod yX7_readOne) ∧ Cond.selects (yX7_readOne).cls yX7_readOne yX7_readOne ∈ ztb := ⟨k_778, (k_15).mem⟩
theorem mw_X7_look : MW yX7_look cX7_look 2 (some .int) 0 := ⟨k_783, k_104, by decide, by decide, by decide +kernel⟩
theorem mv_X7_look : zW (.instanceMethod yX7_look) ∧ Cond.selects (yX7_look).cls yX7_look yX7_look ∈ ztb := ⟨k_782, (k_16).mem⟩
theorem mw_X9_addCode : MW yX9_addCode cX9_addCode 2 none 1 := ⟨k_787, k_106, by decide, by decide, by decide +kernel⟩
theorem mv_X9_addCode : zW (.instanceMethod yX9_addCode) ∧ Cond.selects (yX9_addCode).cls yX9_addCode yX9_addCode ∈ ztb := ⟨k_785, (k_786).mem⟩
theorem mw_X9_letterOf : MW yX9_letterOf cX9_letterOf 1 (some .int) 1 := ⟨k_794, k_106, by decide, by decide, by decide +kernel⟩
theorem mv_X9_letterOf : zW (.static yX9_letterOf) := k_793
theorem mw_X9_relationOf : MW yX9_relationOf cX9_relationOf 1 (some .int) 1 := ⟨k_797, k_106, by decide, by decide, by decide +kernel⟩
theorem mv_X9_relationOf : zW (.static yX9_relationOf) := k_796
theorem mw_X7_readNumber : MW yX7_readNumber cX7_readNumber 3 (some .int) 0 := ⟨k_801, k_104, by decide, by decide, by decide +kernel⟩
theorem mv_X7_readNumber : zW (.instanceMethod yX7_readNumber) ∧ Cond.selects (yX7_readNumber).cls yX7_readNumber yX7_readNumber ∈ ztb := ⟨k_800, (k_18).mem⟩
theorem mw_X9_addTest : MW yX9_addTest cX9_addTest 4 none 3 := ⟨k_805, k_106, by decide, by decide, by decide +kernel⟩
theorem mv_X9_addTest : zW (.instanceMethod yX9_addTest) ∧ Cond.selects (yX9_addTest).cls yX9_addTest yX9_addTest ∈ ztb := ⟨k_803, (k_804).mem⟩
theorem mw_X7_readTest : MW yX7_readTest cX7_readTest 4 none 1 := ⟨k_791, k_104, by decide, by decide, by decide +kernel⟩
theorem mv_X7_readTest : zW (.instanceMethod yX7_readTest) ∧ Cond.selects (yX7_readTest).cls yX7_readTest yX7_readTest ∈ ztb := ⟨k_790, (k_17).mem⟩
theorem mw_X7_readEither : MW yX7_readEither cX7_readEither 7 none 2 := ⟨k_775, k_104, by decide, by decide, by decide +kernel⟩
theorem mv_X7_readEither : zW (.instanceMethod yX7_readEither) ∧ Cond.selects (yX7_readEither).cls yX7_readEither yX7_readEither ∈ ztb := ⟨k_774, (k_14).mem⟩
theorem mw_X7_readWord : MW yX7_readWord cX7_readWord 5 (some .int) 0 := ⟨k_707, k_104, by decide, by decide, by decide +kernel⟩
theorem mv_X7_readWord : zW (.instanceMethod yX7_readWord) ∧ Cond.selects (yX7_readWord).cls yX7_readWord yX7_readWord ∈ ztb := ⟨k_706, (k_11).mem⟩
theorem mw_X9_addClause : MW yX9_addClause cX9_addClause 3 none 2 := ⟨k_771, k_106, by decide, by decide, by decide +kernel⟩
theorem mv_X9_addClause : zW (.instanceMethod yX9_addClause) ∧ Cond.selects (yX9_addClause).cls yX9_addClause yX9_addClause ∈ ztb := ⟨k_769, (k_770).mem⟩
theorem mw_X9_empty : MW yX9_empty cX9_empty 1 none 0 := ⟨k_699, k_106, by decide, by decide, by decide +kernel⟩
theorem mv_X9_empty : zW (.instanceMethod yX9_empty) ∧ Cond.selects (yX9_empty).cls yX9_empty yX9_empty ∈ ztb := ⟨k_697, (k_698).mem⟩
theorem mw_X7_readClause : MW yX7_readClause cX7_readClause 3 none 1 := ⟨k_703, k_104, by decide, by decide, by decide +kernel⟩
theorem mv_X7_readClause : zW (.instanceMethod yX7_readClause) ∧ Cond.selects (yX7_readClause).cls yX7_readClause yX7_readClause ∈ ztb := ⟨k_702, (k_10).mem⟩
theorem mw_X8_hasItem : MW yX8_hasItem cX8_hasItem 3 (some .boolean) 1 := ⟨k_1110, k_112, by decide, by decide, by decide +kernel⟩
theorem mv_X8_hasItem : zW (.instanceMethod yX8_hasItem) ∧ Cond.selects (yX8_hasItem).cls yX8_hasItem yX8_hasItem ∈ ztb := ⟨k_1108, (k_1109).mem⟩
theorem mw_X8_trimmed : MW yX8_trimmed cX8_trimmed 3 (some .long) 1 := ⟨k_1154, k_112, by decide, by decide, by decide +kernel⟩
theorem mv_X8_trimmed : zW (.instanceMethod yX8_trimmed) ∧ Cond.selects (yX8_trimmed).cls yX8_trimmed yX8_trimmed ∈ ztb := ⟨k_1153, (k_44).mem⟩
theorem mw_X10_drain : MW yX10_drain cX10_drain 5 none 2 := ⟨k_882, k_107, by decide, by decide, by decide +kernel⟩
theorem mv_X10_drain : zW (.instanceMethod yX10_drain) ∧ Cond.selects (yX10_drain).cls yX10_drain yX10_drain ∈ ztb := ⟨k_881, (k_24).mem⟩
theorem mw_X10_runHour : MW yX10_runHour cX10_runHour 5 none 2 := ⟨k_878, k_107, by decide, by decide, by decide +kernel⟩
theorem mv_X10_runHour : zW (.instanceMethod yX10_runHour) ∧ Cond.selects (yX10_runHour).cls yX10_runHour yX10_runHour ∈ ztb := ⟨k_877, (k_23).mem⟩
theorem mw_X11_isBay : MW yX11_isBay cX11_isBay 1 (some .boolean) 1 := ⟨k_422, k_103, by decide, by decide, by decide +kernel⟩
theorem mv_X11_isBay : zW (.static yX11_isBay) := k_421
theorem mw_X11_bayOf : MW yX11_bayOf cX11_bayOf 2 (some (.object "GlassPalace$Bay")) 1 := ⟨k_419, k_103, by decide, by decide, by decide +kernel⟩
theorem mv_X11_bayOf : zW (.instanceMethod yX11_bayOf) ∧ Cond.selects (yX11_bayOf).cls yX11_bayOf yX11_bayOf ∈ ztb := ⟨k_418, (k_0).mem⟩
theorem mw_X1_isBare : MW yX1_isBare cX1_isBare 3 (some .boolean) 0 := ⟨k_426, k_111, by decide, by decide, by decide +kernel⟩
theorem mv_X1_isBare : zW (.instanceMethod yX1_isBare) ∧ Cond.selects (yX1_isBare).cls yX1_isBare yX1_isBare ∈ ztb := ⟨k_424, (k_425).mem⟩
theorem mw_X11_isFoundry : MW yX11_isFoundry cX11_isFoundry 1 (some .boolean) 1 := ⟨k_441, k_103, by decide, by decide, by decide +kernel⟩
theorem mv_X11_isFoundry : zW (.static yX11_isFoundry) := k_440
theorem mw_X11_isKind : MW yX11_isKind cX11_isKind 1 (some .boolean) 1 := ⟨k_448, k_103, by decide, by decide, by decide +kernel⟩
theorem mv_X11_isKind : zW (.static yX11_isKind) := k_447
theorem mw_X11_isNumberOfPieces : MW yX11_isNumberOfPieces cX11_isNumberOfPieces 1 (some .boolean) 1 := ⟨k_451, k_103, by decide, by decide, by decide +kernel⟩
theorem mv_X11_isNumberOfPieces : zW (.static yX11_isNumberOfPieces) := k_450
theorem mw_X4_init : MW yX4_init cX4_init 7 none 6 := ⟨k_455, k_114, by decide, by decide, by decide +kernel⟩
theorem mv_X4_init : zW (.instanceMethod yX4_init) := k_454
theorem mw_X11_lotOf : MW yX11_lotOf cX11_lotOf 2 (some (.object "GlassPalace$Lot")) 1 := ⟨k_515, k_103, by decide, by decide, by decide +kernel⟩
theorem mv_X11_lotOf : zW (.instanceMethod yX11_lotOf) ∧ Cond.selects (yX11_lotOf).cls yX11_lotOf yX11_lotOf ∈ ztb := ⟨k_514, (k_1).mem⟩
theorem mw_X3_bars : MW yX3_bars cX3_bars 3 (some .boolean) 2 := ⟨k_536, k_105, by decide, by decide, by decide +kernel⟩
theorem mv_X3_bars : zW (.instanceMethod yX3_bars) ∧ Cond.selects (yX3_bars).cls yX3_bars yX3_bars ∈ ztb := ⟨k_534, (k_535).mem⟩
theorem mw_X4_isOrderedLike : MW yX4_isOrderedLike cX4_isOrderedLike 2 (some .boolean) 1 := ⟨k_570, k_114, by decide, by decide, by decide +kernel⟩
theorem mv_X4_isOrderedLike : zW (.instanceMethod yX4_isOrderedLike) ∧ Cond.selects (yX4_isOrderedLike).cls yX4_isOrderedLike yX4_isOrderedLike ∈ ztb := ⟨k_568, (k_569).mem⟩
theorem mw_X4_stock : MW yX4_stock cX4_stock 1 (some .int) 0 := ⟨k_527, k_114, by decide, by decide, by decide +kernel⟩
theorem mv_X4_stock : zW (.instanceMethod yX4_stock) ∧ Cond.selects (yX4_stock).cls yX4_stock yX4_stock ∈ ztb := ⟨k_525, (k_526).mem⟩
theorem mw_X11_isBarred : MW yX11_isBarred cX11_isBarred 6 (some .boolean) 1 := ⟨k_532, k_103, by decide, by decide, by decide +kernel⟩
theorem mv_X11_isBarred : zW (.instanceMethod yX11_isBarred) ∧ Cond.selects (yX11_isBarred).cls yX11_isBarred yX11_isBarred ∈ ztb := ⟨k_531, (k_2).mem⟩
theorem mw_X3_numberFor : MW yX3_numberFor cX3_numberFor 4 (some .int) 2 := ⟨k_574, k_105, by decide, by decide, by decide +kernel⟩
theorem mv_X3_numberFor : zW (.instanceMethod yX3_numberFor) ∧ Cond.selects (yX3_numberFor).cls yX3_numberFor yX3_numberFor ∈ ztb := ⟨k_572, (k_573).mem⟩
theorem mw_X1_wantedLength : MW yX1_wantedLength cX1_wantedLength 1 (some .int) 0 := ⟨k_592, k_111, by decide, by decide, by decide +kernel⟩
theorem mv_X1_wantedLength : zW (.instanceMethod yX1_wantedLength) ∧ Cond.selects (yX1_wantedLength).cls yX1_wantedLength yX1_wantedLength ∈ ztb := ⟨k_590, (k_591).mem⟩
theorem mw_X11_rightOf : MW yX11_rightOf cX11_rightOf 2 (some (.object "GlassPalace$Bay")) 1 := ⟨k_621, k_103, by decide, by decide, by decide +kernel⟩
theorem mv_X11_rightOf : zW (.instanceMethod yX11_rightOf) ∧ Cond.selects (yX11_rightOf).cls yX11_rightOf yX11_rightOf ∈ ztb := ⟨k_620, (k_7).mem⟩
theorem mw_X11_hasGroundFor : MW yX11_hasGroundFor cX11_hasGroundFor 4 (some .boolean) 2 := ⟨k_616, k_103, by decide, by decide, by decide +kernel⟩
theorem mv_X11_hasGroundFor : zW (.instanceMethod yX11_hasGroundFor) ∧ Cond.selects (yX11_hasGroundFor).cls yX11_hasGroundFor yX11_hasGroundFor ∈ ztb := ⟨k_615, (k_6).mem⟩
theorem mw_X11_hasLengthFor : MW yX11_hasLengthFor cX11_hasLengthFor 4 (some .boolean) 2 := ⟨k_612, k_103, by decide, by decide, by decide +kernel⟩
theorem mv_X11_hasLengthFor : zW (.instanceMethod yX11_hasLengthFor) ∧ Cond.selects (yX11_hasLengthFor).cls yX11_hasLengthFor yX11_hasLengthFor ∈ ztb := ⟨k_611, (k_5).mem⟩
theorem mw_X11_hindrance : MW yX11_hindrance cX11_hindrance 4 (some .int) 2 := ⟨k_600, k_103, by decide, by decide, by decide +kernel⟩
theorem mv_X11_hindrance : zW (.instanceMethod yX11_hindrance) ∧ Cond.selects (yX11_hindrance).cls yX11_hindrance yX11_hindrance ∈ ztb := ⟨k_599, (k_4).mem⟩
theorem mw_X1_put : MW yX1_put cX1_put 3 none 1 := ⟨k_633, k_111, by decide, by decide, by decide +kernel⟩
theorem mv_X1_put : zW (.instanceMethod yX1_put) ∧ Cond.selects (yX1_put).cls yX1_put yX1_put ∈ ztb := ⟨k_631, (k_632).mem⟩
theorem mw_X11_isPlace : MW yX11_isPlace cX11_isPlace 1 (some .boolean) 1 := ⟨k_642, k_103, by decide, by decide, by decide +kernel⟩
theorem mv_X11_isPlace : zW (.static yX11_isPlace) := k_641
theorem mw_X11_leftOf : MW yX11_leftOf cX11_leftOf 2 (some (.object "GlassPalace$Bay")) 1 := ⟨k_655, k_103, by decide, by decide, by decide +kernel⟩
theorem mv_X11_leftOf : zW (.instanceMethod yX11_leftOf) ∧ Cond.selects (yX11_leftOf).cls yX11_leftOf yX11_leftOf ∈ ztb := ⟨k_654, (k_9).mem⟩
theorem mw_X11_isNeeded : MW yX11_isNeeded cX11_isNeeded 4 (some .boolean) 2 := ⟨k_651, k_103, by decide, by decide, by decide +kernel⟩
theorem mv_X11_isNeeded : zW (.instanceMethod yX11_isNeeded) ∧ Cond.selects (yX11_isNeeded).cls yX11_isNeeded yX11_isNeeded ∈ ztb := ⟨k_650, (k_8).mem⟩
theorem mw_X1_remove : MW yX1_remove cX1_remove 3 none 1 := ⟨k_659, k_111, by decide, by decide, by decide +kernel⟩
theorem mv_X1_remove : zW (.instanceMethod yX1_remove) ∧ Cond.selects (yX1_remove).cls yX1_remove yX1_remove ∈ ztb := ⟨k_657, (k_658).mem⟩
theorem mw_X3_mayCut : MW yX3_mayCut cX3_mayCut 3 (some .boolean) 2 := ⟨k_667, k_105, by decide, by decide, by decide +kernel⟩
theorem mv_X3_mayCut : zW (.instanceMethod yX3_mayCut) ∧ Cond.selects (yX3_mayCut).cls yX3_mayCut yX3_mayCut ∈ ztb := ⟨k_665, (k_666).mem⟩
theorem mw_X7_append : MW yX7_append cX7_append 2 none 1 := ⟨k_680, k_104, by decide, by decide, by decide +kernel⟩
theorem mv_X7_append : zW (.instanceMethod yX7_append) ∧ Cond.selects (yX7_append).cls yX7_append yX7_append ∈ ztb := ⟨k_678, (k_679).mem⟩
theorem mw_X11_isDay : MW yX11_isDay cX11_isDay 1 (some .boolean) 1 := ⟨k_687, k_103, by decide, by decide, by decide +kernel⟩
theorem mv_X11_isDay : zW (.static yX11_isDay) := k_686
theorem mw_X3_nextText : MW yX3_nextText cX3_nextText 1 (some (.object "GlassPalace$Text")) 0 := ⟨k_691, k_105, by decide, by decide, by decide +kernel⟩
theorem mv_X3_nextText : zW (.instanceMethod yX3_nextText) ∧ Cond.selects (yX3_nextText).cls yX3_nextText yX3_nextText ∈ ztb := ⟨k_689, (k_690).mem⟩
theorem mw_X7_readInto : MW yX7_readInto cX7_readInto 4 (some .int) 1 := ⟨k_695, k_104, by decide, by decide, by decide +kernel⟩
theorem mv_X7_readInto : zW (.instanceMethod yX7_readInto) ∧ Cond.selects (yX7_readInto).cls yX7_readInto yX7_readInto ∈ ztb := ⟨k_693, (k_694).mem⟩
theorem mw_X11_isWord : MW yX11_isWord cX11_isWord 1 (some .boolean) 1 := ⟨k_814, k_103, by decide, by decide, by decide +kernel⟩
theorem mv_X11_isWord : zW (.static yX11_isWord) := k_813
theorem mw_X11_girderLoad : MW yX11_girderLoad cX11_girderLoad 2 (some .int) 1 := ⟨k_833, k_103, by decide, by decide, by decide +kernel⟩
theorem mv_X11_girderLoad : zW (.instanceMethod yX11_girderLoad) ∧ Cond.selects (yX11_girderLoad).cls yX11_girderLoad yX11_girderLoad ∈ ztb := ⟨k_832, (k_19).mem⟩
theorem mw_X11_columnLoad : MW yX11_columnLoad cX11_columnLoad 3 (some .int) 1 := ⟨k_837, k_103, by decide, by decide, by decide +kernel⟩
theorem mv_X11_columnLoad : zW (.instanceMethod yX11_columnLoad) ∧ Cond.selects (yX11_columnLoad).cls yX11_columnLoad yX11_columnLoad ∈ ztb := ⟨k_836, (k_20).mem⟩
theorem mw_X11_girderHolds : MW yX11_girderHolds cX11_girderHolds 3 (some .boolean) 1 := ⟨k_841, k_103, by decide, by decide, by decide +kernel⟩
theorem mv_X11_girderHolds : zW (.instanceMethod yX11_girderHolds) ∧ Cond.selects (yX11_girderHolds).cls yX11_girderHolds yX11_girderHolds ∈ ztb := ⟨k_840, (k_21).mem⟩
theorem mw_X11_columnHolds : MW yX11_columnHolds cX11_columnHolds 3 (some .boolean) 1 := ⟨k_845, k_103, by decide, by decide, by decide +kernel⟩
theorem mv_X11_columnHolds : zW (.instanceMethod yX11_columnHolds) ∧ Cond.selects (yX11_columnHolds).cls yX11_columnHolds yX11_columnHolds ∈ ztb := ⟨k_844, (k_22).mem⟩
theorem mw_X11_isHour : MW yX11_isHour cX11_isHour 1 (some .boolean) 1 := ⟨k_856, k_103, by decide, by decide, by decide +kernel⟩
theorem mv_X11_isHour : zW (.static yX11_isHour) := k_855
theorem mw_X11_isBeside : MW yX11_isBeside cX11_isBeside 4 (some .boolean) 2 := ⟨k_863, k_103, by decide, by decide, by decide +kernel⟩
theorem mv_X11_isBeside : zW (.static yX11_isBeside) := k_862
theorem mw_X10_runThrough : MW yX10_runThrough cX10_runThrough 4 none 2 := ⟨k_874, k_107, by decide, by decide, by decide +kernel⟩
theorem mv_X10_runThrough : zW (.instanceMethod yX10_runThrough) ∧ Cond.selects (yX10_runThrough).cls yX10_runThrough yX10_runThrough ∈ ztb := ⟨k_872, (k_873).mem⟩
theorem mw_X10_leaksOfAll : MW yX10_leaksOfAll cX10_leaksOfAll 3 (some .int) 0 := ⟨k_895, k_107, by decide, by decide, by decide +kernel⟩
theorem mv_X10_leaksOfAll : zW (.instanceMethod yX10_leaksOfAll) ∧ Cond.selects (yX10_leaksOfAll).cls yX10_leaksOfAll yX10_leaksOfAll ∈ ztb := ⟨k_893, (k_894).mem⟩
theorem mw_X2_init : MW yX2_init cX2_init 3 none 2 := ⟨k_903, k_120, by decide, by decide, by decide +kernel⟩
theorem mv_X2_init : zW (.instanceMethod yX2_init) := k_902
theorem mw_X11_gangOf : MW yX11_gangOf cX11_gangOf 2 (some (.object "GlassPalace$Gang")) 1 := ⟨k_931, k_103, by decide, by decide, by decide +kernel⟩
theorem mv_X11_gangOf : zW (.instanceMethod yX11_gangOf) ∧ Cond.selects (yX11_gangOf).cls yX11_gangOf yX11_gangOf ∈ ztb := ⟨k_930, (k_25).mem⟩
theorem mw_X11_isKeptAway : MW yX11_isKeptAway cX11_isKeptAway 8 (some .boolean) 2 := ⟨k_935, k_103, by decide, by decide, by decide +kernel⟩
theorem mv_X11_isKeptAway : zW (.instanceMethod yX11_isKeptAway) ∧ Cond.selects (yX11_isKeptAway).cls yX11_isKeptAway yX11_isKeptAway ∈ ztb := ⟨k_934, (k_26).mem⟩
theorem mw_X2_pieces : MW yX2_pieces cX2_pieces 1 (some .int) 0 := ⟨k_939, k_120, by decide, by decide, by decide +kernel⟩
theorem mv_X2_pieces : zW (.instanceMethod yX2_pieces) ∧ Cond.selects (yX2_pieces).cls yX2_pieces yX2_pieces ∈ ztb := ⟨k_937, (k_938).mem⟩
theorem mw_X2_worked : MW yX2_worked cX2_worked 4 none 3 := ⟨k_945, k_120, by decide, by decide, by decide +kernel⟩
theorem mv_X2_worked : zW (.instanceMethod yX2_worked) ∧ Cond.selects (yX2_worked).cls yX2_worked yX2_worked ∈ ztb := ⟨k_943, (k_944).mem⟩
theorem mw_X6_addRow : MW yX6_addRow cX6_addRow 4 (some .boolean) 3 := ⟨k_957, k_108, by decide, by decide, by decide +kernel⟩
theorem mv_X6_addRow : zW (.instanceMethod yX6_addRow) ∧ Cond.selects (yX6_addRow).cls yX6_addRow yX6_addRow ∈ ztb := ⟨k_955, (k_956).mem⟩
theorem mw_X11_comingDay : MW yX11_comingDay cX11_comingDay 3 (some .int) 2 := ⟨k_969, k_103, by decide, by decide, by decide +kernel⟩
theorem mv_X11_comingDay : zW (.instanceMethod yX11_comingDay) ∧ Cond.selects (yX11_comingDay).cls yX11_comingDay yX11_comingDay ∈ ztb := ⟨k_968, (k_28).mem⟩
theorem mw_X11_willHaveCome : MW yX11_willHaveCome cX11_willHaveCome 9 (some .int) 3 := ⟨k_965, k_103, by decide, by decide, by decide +kernel⟩
theorem mv_X11_willHaveCome : zW (.instanceMethod yX11_willHaveCome) ∧ Cond.selects (yX11_willHaveCome).cls yX11_willHaveCome yX11_willHaveCome ∈ ztb := ⟨k_964, (k_27).mem⟩
theorem mw_X6_wantedWith : MW yX6_wantedWith cX6_wantedWith 4 (some .int) 1 := ⟨k_981, k_108, by decide, by decide, by decide +kernel⟩
theorem mv_X6_wantedWith : zW (.instanceMethod yX6_wantedWith) ∧ Cond.selects (yX6_wantedWith).cls yX6_wantedWith yX6_wantedWith ∈ ztb := ⟨k_979, (k_980).mem⟩
theorem mw_X11_lookAhead : MW yX11_lookAhead cX11_lookAhead 4 none 1 := ⟨k_977, k_103, by decide, by decide, by decide +kernel⟩
theorem mv_X11_lookAhead : zW (.instanceMethod yX11_lookAhead) ∧ Cond.selects (yX11_lookAhead).cls yX11_lookAhead yX11_lookAhead ∈ ztb := ⟨k_976, (k_29).mem⟩
theorem mw_X6_addAddition : MW yX6_addAddition cX6_addAddition 5 (some .boolean) 4 := ⟨k_1001, k_108, by decide, by decide, by decide +kernel⟩
theorem mv_X6_addAddition : zW (.instanceMethod yX6_addAddition) ∧ Cond.selects (yX6_addAddition).cls yX6_addAddition yX6_addAddition ∈ ztb := ⟨k_999, (k_1000).mem⟩
theorem mw_X6_cheapestSet : MW yX6_cheapestSet cX6_cheapestSet 6 (some .int) 0 := ⟨k_1009, k_108, by decide, by decide, by decide +kernel⟩
theorem mv_X6_cheapestSet : zW (.instanceMethod yX6_cheapestSet) ∧ Cond.selects (yX6_cheapestSet).cls yX6_cheapestSet yX6_cheapestSet ∈ ztb := ⟨k_1007, (k_1008).mem⟩
theorem mw_X11_isNation : MW yX11_isNation cX11_isNation 1 (some .boolean) 1 := ⟨k_1027, k_103, by decide, by decide, by decide +kernel⟩
theorem mv_X11_isNation : zW (.static yX11_isNation) := k_1026
theorem mw_X5_place : MW yX5_place cX5_place 6 (some .int) 2 := ⟨k_1031, k_109, by decide, by decide, by decide +kernel⟩
theorem mv_X5_place : zW (.instanceMethod yX5_place) ∧ Cond.selects (yX5_place).cls yX5_place yX5_place ∈ ztb := ⟨k_1029, (k_1030).mem⟩
theorem mw_X0_perform : MW yX0_perform cX0_perform 4 (some .int) 3 := ⟨k_1063, k_110, by decide, by decide, by decide +kernel⟩
theorem mv_X0_perform : zW (.instanceMethod yX0_perform) ∧ Cond.selects (yX0_perform).cls yX0_perform yX0_perform ∈ ztb := ⟨k_1061, (k_1062).mem⟩
theorem mw_X0_bodyAt : MW yX0_bodyAt cX0_bodyAt 2 (some .int) 1 := ⟨k_1087, k_110, by decide, by decide, by decide +kernel⟩
theorem mv_X0_bodyAt : zW (.instanceMethod yX0_bodyAt) ∧ Cond.selects (yX0_bodyAt).cls yX0_bodyAt yX0_bodyAt ∈ ztb := ⟨k_1085, (k_1086).mem⟩
theorem mw_X4_isUnder : MW yX4_isUnder cX4_isUnder 2 (some .boolean) 1 := ⟨k_1095, k_114, by decide, by decide, by decide +kernel⟩
theorem mv_X4_isUnder : zW (.instanceMethod yX4_isUnder) ∧ Cond.selects (yX4_isUnder).cls yX4_isUnder yX4_isUnder ∈ ztb := ⟨k_1093, (k_1094).mem⟩
theorem mw_X11_tapeOf : MW yX11_tapeOf cX11_tapeOf 2 (some (.object "GlassPalace$Tape")) 1 := ⟨k_1103, k_103, by decide, by decide, by decide +kernel⟩
theorem mv_X11_tapeOf : zW (.instanceMethod yX11_tapeOf) ∧ Cond.selects (yX11_tapeOf).cls yX11_tapeOf yX11_tapeOf ∈ ztb := ⟨k_1102, (k_40).mem⟩
theorem mw_X8_itemAt : MW yX8_itemAt cX8_itemAt 3 (some .long) 1 := ⟨k_1116, k_112, by decide, by decide, by decide +kernel⟩
theorem mv_X8_itemAt : zW (.instanceMethod yX8_itemAt) ∧ Cond.selects (yX8_itemAt).cls yX8_itemAt yX8_itemAt ∈ ztb := ⟨k_1114, (k_1115).mem⟩
theorem mw_X11_agrees : MW yX11_agrees cX11_agrees 6 (some .boolean) 2 := ⟨k_1121, k_103, by decide, by decide, by decide +kernel⟩
theorem mv_X11_agrees : zW (.instanceMethod yX11_agrees) ∧ Cond.selects (yX11_agrees).cls yX11_agrees yX11_agrees ∈ ztb := ⟨k_1120, (k_41).mem⟩
theorem mw_X11_standingPieces : MW yX11_standingPieces cX11_standingPieces 6 (some .int) 0 := ⟨k_1130, k_103, by decide, by decide, by decide +kernel⟩
theorem mv_X11_standingPieces : zW (.instanceMethod yX11_standingPieces) ∧ Cond.selects (yX11_standingPieces).cls yX11_standingPieces yX11_standingPieces ∈ ztb := ⟨k_1129, (k_42).mem⟩
theorem mw_X11_brokenPieces : MW yX11_brokenPieces cX11_brokenPieces 6 (some .int) 0 := ⟨k_1134, k_103, by decide, by decide, by decide +kernel⟩
theorem mv_X11_brokenPieces : zW (.instanceMethod yX11_brokenPieces) ∧ Cond.selects (yX11_brokenPieces).cls yX11_brokenPieces yX11_brokenPieces ∈ ztb := ⟨k_1133, (k_43).mem⟩
theorem mw_X8_become : MW yX8_become cX8_become 4 none 2 := ⟨k_1142, k_112, by decide, by decide, by decide +kernel⟩
theorem mv_X8_become : zW (.instanceMethod yX8_become) ∧ Cond.selects (yX8_become).cls yX8_become yX8_become ∈ ztb := ⟨k_1140, (k_1141).mem⟩
theorem mw_X8_put : MW yX8_put cX8_put 4 (some .boolean) 2 := ⟨k_1150, k_112, by decide, by decide, by decide +kernel⟩
theorem mv_X8_put : zW (.instanceMethod yX8_put) ∧ Cond.selects (yX8_put).cls yX8_put yX8_put ∈ ztb := ⟨k_1148, (k_1149).mem⟩
theorem mw_X8_hasItems : MW yX8_hasItems cX8_hasItems 3 (some .boolean) 2 := ⟨k_1166, k_112, by decide, by decide, by decide +kernel⟩
theorem mv_X8_hasItems : zW (.instanceMethod yX8_hasItems) ∧ Cond.selects (yX8_hasItems).cls yX8_hasItems yX8_hasItems ∈ ztb := ⟨k_1164, (k_1165).mem⟩
theorem mw_X12_in : MW yX12_in cX12_in 4 (some .boolean) 3 := ⟨k_1401, k_113, by decide, by decide, by decide +kernel⟩
theorem mv_X12_in : zW (.instanceMethod yX12_in) ∧ Cond.selects (yX12_in).cls yX12_in yX12_in ∈ ztb := ⟨k_1400, (k_45).mem⟩
theorem mw_X12_abs : MW yX12_abs cX12_abs 2 (some .int) 1 := ⟨k_1632, k_113, by decide, by decide, by decide +kernel⟩
theorem mv_X12_abs : zW (.instanceMethod yX12_abs) ∧ Cond.selects (yX12_abs).cls yX12_abs yX12_abs ∈ ztb := ⟨k_1631, (k_80).mem⟩
theorem mw_X12_has : MW yX12_has cX12_has 3 (some .boolean) 2 := ⟨k_1417, k_113, by decide, by decide, by decide +kernel⟩
theorem mv_X12_has : zW (.instanceMethod yX12_has) ∧ Cond.selects (yX12_has).cls yX12_has yX12_has ∈ ztb := ⟨k_1416, (k_48).mem⟩
theorem mw_X12_isBay : MW yX12_isBay cX12_isBay 2 (some .boolean) 1 := ⟨k_1409, k_113, by decide, by decide, by decide +kernel⟩
theorem mv_X12_isBay : zW (.instanceMethod yX12_isBay) ∧ Cond.selects (yX12_isBay).cls yX12_isBay yX12_isBay ∈ ztb := ⟨k_1408, (k_46).mem⟩
theorem mw_X12_isEmpty : MW yX12_isEmpty cX12_isEmpty 3 (some .boolean) 1 := ⟨k_1413, k_113, by decide, by decide, by decide +kernel⟩
theorem mv_X12_isEmpty : zW (.instanceMethod yX12_isEmpty) ∧ Cond.selects (yX12_isEmpty).cls yX12_isEmpty yX12_isEmpty ∈ ztb := ⟨k_1412, (k_47).mem⟩
theorem mw_X12_isFoundry : MW yX12_isFoundry cX12_isFoundry 2 (some .boolean) 1 := ⟨k_1425, k_113, by decide, by decide, by decide +kernel⟩
theorem mv_X12_isFoundry : zW (.instanceMethod yX12_isFoundry) ∧ Cond.selects (yX12_isFoundry).cls yX12_isFoundry yX12_isFoundry ∈ ztb := ⟨k_1424, (k_49).mem⟩
theorem mw_X12_isLot : MW yX12_isLot cX12_isLot 2 (some .boolean) 1 := ⟨k_1437, k_113, by decide, by decide, by decide +kernel⟩
theorem mv_X12_isLot : zW (.instanceMethod yX12_isLot) ∧ Cond.selects (yX12_isLot).cls yX12_isLot yX12_isLot ∈ ztb := ⟨k_1436, (k_50).mem⟩
theorem mw_X12_next : MW yX12_next cX12_next 1 (some .int) 0 := ⟨k_1473, k_113, by decide, by decide, by decide +kernel⟩
theorem mv_X12_next : zW (.instanceMethod yX12_next) ∧ Cond.selects (yX12_next).cls yX12_next yX12_next ∈ ztb := ⟨k_1472, (k_58).mem⟩
theorem mw_X12_takes : MW yX12_takes cX12_takes 2 (some .boolean) 1 := ⟨k_1481, k_113, by decide, by decide, by decide +kernel⟩
theorem mv_X12_takes : zW (.instanceMethod yX12_takes) ∧ Cond.selects (yX12_takes).cls yX12_takes yX12_takes ∈ ztb := ⟨k_1480, (k_60).mem⟩
theorem mw_X12_takesWord : MW yX12_takesWord cX12_takesWord 4 (some .boolean) 2 := ⟨k_1477, k_113, by decide, by decide, by decide +kernel⟩
theorem mv_X12_takesWord : zW (.instanceMethod yX12_takesWord) ∧ Cond.selects (yX12_takesWord).cls yX12_takesWord yX12_takesWord ∈ ztb := ⟨k_1476, (k_59).mem⟩
theorem mw_X12_isDigit : MW yX12_isDigit cX12_isDigit 1 (some .boolean) 0 := ⟨k_1492, k_113, by decide, by decide, by decide +kernel⟩
theorem mv_X12_isDigit : zW (.instanceMethod yX12_isDigit) ∧ Cond.selects (yX12_isDigit).cls yX12_isDigit yX12_isDigit ∈ ztb := ⟨k_1491, (k_62).mem⟩
theorem mw_X12_takesNumber : MW yX12_takesNumber cX12_takesNumber 2 (some .boolean) 0 := ⟨k_1488, k_113, by decide, by decide, by decide +kernel⟩
theorem mv_X12_takesNumber : zW (.instanceMethod yX12_takesNumber) ∧ Cond.selects (yX12_takesNumber).cls yX12_takesNumber yX12_takesNumber ∈ ztb := ⟨k_1487, (k_61).mem⟩
theorem mw_X12_push : MW yX12_push cX12_push 3 none 1 := ⟨k_1504, k_113, by decide, by decide, by decide +kernel⟩
theorem mv_X12_push : zW (.instanceMethod yX12_push) ∧ Cond.selects (yX12_push).cls yX12_push yX12_push ∈ ztb := ⟨k_1503, (k_65).mem⟩
theorem mw_X12_settle : MW yX12_settle cX12_settle 2 none 1 := ⟨k_1508, k_113, by decide, by decide, by decide +kernel⟩
theorem mv_X12_settle : zW (.instanceMethod yX12_settle) ∧ Cond.selects (yX12_settle).cls yX12_settle yX12_settle ∈ ztb := ⟨k_1507, (k_66).mem⟩
theorem mw_X12_takesTest : MW yX12_takesTest cX12_takesTest 4 (some .boolean) 0 := ⟨k_1500, k_113, by decide, by decide, by decide +kernel⟩
theorem mv_X12_takesTest : zW (.instanceMethod yX12_takesTest) ∧ Cond.selects (yX12_takesTest).cls yX12_takesTest yX12_takesTest ∈ ztb := ⟨k_1499, (k_64).mem⟩
theorem mw_X12_takesAnyWord : MW yX12_takesAnyWord cX12_takesAnyWord 3 (some .int) 0 := ⟨k_1469, k_113, by decide, by decide, by decide +kernel⟩
theorem mv_X12_takesAnyWord : zW (.instanceMethod yX12_takesAnyWord) ∧ Cond.selects (yX12_takesAnyWord).cls yX12_takesAnyWord yX12_takesAnyWord ∈ ztb := ⟨k_1468, (k_57).mem⟩
theorem mw_X12_takesE : MW yX12_takesE cX12_takesE 3 (some .boolean) 0 := ⟨k_1496, k_113, by decide, by decide, by decide +kernel⟩
theorem mv_X12_takesE : zW (.instanceMethod yX12_takesE) ∧ Cond.selects (yX12_takesE).cls yX12_takesE yX12_takesE ∈ ztb := ⟨k_1495, (k_63).mem⟩
theorem mw_X12_takesClause : MW yX12_takesClause cX12_takesClause 2 (some .boolean) 0 := ⟨k_1465, k_113, by decide, by decide, by decide +kernel⟩
theorem mv_X12_takesClause : zW (.instanceMethod yX12_takesClause) ∧ Cond.selects (yX12_takesClause).cls yX12_takesClause yX12_takesClause ∈ ztb := ⟨k_1464, (k_56).mem⟩
theorem mw_X12_goes : MW yX12_goes cX12_goes 3 (some .boolean) 1 := ⟨k_1461, k_113, by decide, by decide, by decide +kernel⟩
theorem mv_X12_goes : zW (.instanceMethod yX12_goes) ∧ Cond.selects (yX12_goes).cls yX12_goes yX12_goes ∈ ztb := ⟨k_1460, (k_55).mem⟩
theorem mw_X12_ruler : MW yX12_ruler cX12_ruler 5 (some .int) 2 := ⟨k_1457, k_113, by decide, by decide, by decide +kernel⟩
theorem mv_X12_ruler : zW (.instanceMethod yX12_ruler) ∧ Cond.selects (yX12_ruler).cls yX12_ruler yX12_ruler ∈ ztb := ⟨k_1456, (k_54).mem⟩
theorem mw_X12_barsFoundry : MW yX12_barsFoundry cX12_barsFoundry 4 (some .boolean) 2 := ⟨k_1453, k_113, by decide, by decide, by decide +kernel⟩
theorem mv_X12_barsFoundry : zW (.instanceMethod yX12_barsFoundry) ∧ Cond.selects (yX12_barsFoundry).cls yX12_barsFoundry yX12_barsFoundry ∈ ztb := ⟨k_1452, (k_53).mem⟩
theorem mw_X12_stock : MW yX12_stock cX12_stock 2 (some .int) 1 := ⟨k_1445, k_113, by decide, by decide, by decide +kernel⟩
theorem mv_X12_stock : zW (.instanceMethod yX12_stock) ∧ Cond.selects (yX12_stock).cls yX12_stock yX12_stock ∈ ztb := ⟨k_1444, (k_51).mem⟩
theorem mw_X12_isBarred : MW yX12_isBarred cX12_isBarred 3 (some .boolean) 1 := ⟨k_1449, k_113, by decide, by decide, by decide +kernel⟩
theorem mv_X12_isBarred : zW (.instanceMethod yX12_isBarred) ∧ Cond.selects (yX12_isBarred).cls yX12_isBarred yX12_isBarred ∈ ztb := ⟨k_1448, (k_52).mem⟩
theorem mw_X12_number : MW yX12_number cX12_number 3 (some .int) 2 := ⟨k_1512, k_113, by decide, by decide, by decide +kernel⟩
theorem mv_X12_number : zW (.instanceMethod yX12_number) ∧ Cond.selects (yX12_number).cls yX12_number yX12_number ∈ ztb := ⟨k_1511, (k_67).mem⟩
theorem mw_X12_wantsOf : MW yX12_wantsOf cX12_wantsOf 2 (some .int) 1 := ⟨k_1528, k_113, by decide, by decide, by decide +kernel⟩
theorem mv_X12_wantsOf : zW (.instanceMethod yX12_wantsOf) ∧ Cond.selects (yX12_wantsOf).cls yX12_wantsOf yX12_wantsOf ∈ ztb := ⟨k_1527, (k_68).mem⟩
theorem mw_X12_placeOf : MW yX12_placeOf cX12_placeOf 2 (some .int) 1 := ⟨k_1540, k_113, by decide, by decide, by decide +kernel⟩
theorem mv_X12_placeOf : zW (.instanceMethod yX12_placeOf) ∧ Cond.selects (yX12_placeOf).cls yX12_placeOf yX12_placeOf ∈ ztb := ⟨k_1539, (k_70).mem⟩
theorem mw_X12_fits : MW yX12_fits cX12_fits 5 (some .int) 2 := ⟨k_1536, k_113, by decide, by decide, by decide +kernel⟩
theorem mv_X12_fits : zW (.instanceMethod yX12_fits) ∧ Cond.selects (yX12_fits).cls yX12_fits yX12_fits ∈ ztb := ⟨k_1535, (k_69).mem⟩
theorem mw_X12_put : MW yX12_put cX12_put 4 none 2 := ⟨k_1548, k_113, by decide, by decide, by decide +kernel⟩
theorem mv_X12_put : zW (.instanceMethod yX12_put) ∧ Cond.selects (yX12_put).cls yX12_put yX12_put ∈ ztb := ⟨k_1547, (k_71).mem⟩
theorem mw_X12_isPlace : MW yX12_isPlace cX12_isPlace 2 (some .boolean) 1 := ⟨k_1556, k_113, by decide, by decide, by decide +kernel⟩
theorem mv_X12_isPlace : zW (.instanceMethod yX12_isPlace) ∧ Cond.selects (yX12_isPlace).cls yX12_isPlace yX12_isPlace ∈ ztb := ⟨k_1555, (k_72).mem⟩
theorem mw_X12_mayCut : MW yX12_mayCut cX12_mayCut 3 (some .boolean) 2 := ⟨k_1568, k_113, by decide, by decide, by decide +kernel⟩
theorem mv_X12_mayCut : zW (.instanceMethod yX12_mayCut) ∧ Cond.selects (yX12_mayCut).cls yX12_mayCut yX12_mayCut ∈ ztb := ⟨k_1567, (k_73).mem⟩
theorem mw_X12_isDay : MW yX12_isDay cX12_isDay 2 (some .boolean) 1 := ⟨k_1580, k_113, by decide, by decide, by decide +kernel⟩
theorem mv_X12_isDay : zW (.instanceMethod yX12_isDay) ∧ Cond.selects (yX12_isDay).cls yX12_isDay yX12_isDay ∈ ztb := ⟨k_1579, (k_74).mem⟩
theorem mw_X12_loadOf : MW yX12_loadOf cX12_loadOf 2 (some .int) 1 := ⟨k_1600, k_113, by decide, by decide, by decide +kernel⟩
theorem mv_X12_loadOf : zW (.instanceMethod yX12_loadOf) ∧ Cond.selects (yX12_loadOf).cls yX12_loadOf yX12_loadOf ∈ ztb := ⟨k_1599, (k_75).mem⟩
theorem mw_X12_borne : MW yX12_borne cX12_borne 2 (some .int) 1 := ⟨k_1604, k_113, by decide, by decide, by decide +kernel⟩
theorem mv_X12_borne : zW (.instanceMethod yX12_borne) ∧ Cond.selects (yX12_borne).cls yX12_borne yX12_borne ∈ ztb := ⟨k_1603, (k_76).mem⟩
theorem mw_X12_columnHolds : MW yX12_columnHolds cX12_columnHolds 2 (some .boolean) 1 := ⟨k_1612, k_113, by decide, by decide, by decide +kernel⟩
theorem mv_X12_columnHolds : zW (.instanceMethod yX12_columnHolds) ∧ Cond.selects (yX12_columnHolds).cls yX12_columnHolds yX12_columnHolds ∈ ztb := ⟨k_1611, (k_78).mem⟩
theorem mw_X12_girderHolds : MW yX12_girderHolds cX12_girderHolds 2 (some .boolean) 1 := ⟨k_1608, k_113, by decide, by decide, by decide +kernel⟩
theorem mv_X12_girderHolds : zW (.instanceMethod yX12_girderHolds) ∧ Cond.selects (yX12_girderHolds).cls yX12_girderHolds yX12_girderHolds ∈ ztb := ⟨k_1607, (k_77).mem⟩
theorem mw_X12_areBeside : MW yX12_areBeside cX12_areBeside 3 (some .boolean) 2 := ⟨k_1628, k_113, by decide, by decide, by decide +kernel⟩
theorem mv_X12_areBeside : zW (.instanceMethod yX12_areBeside) ∧ Cond.selects (yX12_areBeside).cls yX12_areBeside yX12_areBeside ∈ ztb := ⟨k_1627, (k_79).mem⟩
theorem mw_X12_flow : MW yX12_flow cX12_flow 6 none 1 := ⟨k_1640, k_113, by decide, by decide, by decide +kernel⟩
theorem mv_X12_flow : zW (.instanceMethod yX12_flow) ∧ Cond.selects (yX12_flow).cls yX12_flow yX12_flow ∈ ztb := ⟨k_1639, (k_81).mem⟩
theorem mw_X12_isGang : MW yX12_isGang cX12_isGang 2 (some .boolean) 1 := ⟨k_1656, k_113, by decide, by decide, by decide +kernel⟩
theorem mv_X12_isGang : zW (.instanceMethod yX12_isGang) ∧ Cond.selects (yX12_isGang).cls yX12_isGang yX12_isGang ∈ ztb := ⟨k_1655, (k_82).mem⟩
theorem mw_X12_paceOf : MW yX12_paceOf cX12_paceOf 3 (some .int) 1 := ⟨k_1660, k_113, by decide, by decide, by decide +kernel⟩
theorem mv_X12_paceOf : zW (.instanceMethod yX12_paceOf) ∧ Cond.selects (yX12_paceOf).cls yX12_paceOf yX12_paceOf ∈ ztb := ⟨k_1659, (k_83).mem⟩
theorem mw_X12_isKind : MW yX12_isKind cX12_isKind 2 (some .boolean) 1 := ⟨k_1672, k_113, by decide, by decide, by decide +kernel⟩
theorem mv_X12_isKind : zW (.instanceMethod yX12_isKind) ∧ Cond.selects (yX12_isKind).cls yX12_isKind yX12_isKind ∈ ztb := ⟨k_1671, (k_84).mem⟩
theorem mw_X12_comes : MW yX12_comes cX12_comes 7 (some .int) 3 := ⟨k_1680, k_113, by decide, by decide, by decide +kernel⟩
theorem mv_X12_comes : zW (.instanceMethod yX12_comes) ∧ Cond.selects (yX12_comes).cls yX12_comes yX12_comes ∈ ztb := ⟨k_1679, (k_85).mem⟩
theorem mw_X12_findNeeds : MW yX12_findNeeds cX12_findNeeds 4 none 1 := ⟨k_1688, k_113, by decide, by decide, by decide +kernel⟩
theorem mv_X12_findNeeds : zW (.instanceMethod yX12_findNeeds) ∧ Cond.selects (yX12_findNeeds).cls yX12_findNeeds yX12_findNeeds ∈ ztb := ⟨k_1687, (k_86).mem⟩
theorem mw_X12_lacking : MW yX12_lacking cX12_lacking 6 (some .int) 1 := ⟨k_1692, k_113, by decide, by decide, by decide +kernel⟩
theorem mv_X12_lacking : zW (.instanceMethod yX12_lacking) ∧ Cond.selects (yX12_lacking).cls yX12_lacking yX12_lacking ∈ ztb := ⟨k_1691, (k_87).mem⟩
theorem mw_X12_meet : MW yX12_meet cX12_meet 4 (some .boolean) 3 := ⟨k_1708, k_113, by decide, by decide, by decide +kernel⟩
theorem mv_X12_meet : zW (.instanceMethod yX12_meet) ∧ Cond.selects (yX12_meet).cls yX12_meet yX12_meet ∈ ztb := ⟨k_1707, (k_88).mem⟩
theorem mw_X12_mayGo : MW yX12_mayGo cX12_mayGo 3 (some .boolean) 2 := ⟨k_1724, k_113, by decide, by decide, by decide +kernel⟩
theorem mv_X12_mayGo : zW (.instanceMethod yX12_mayGo) ∧ Cond.selects (yX12_mayGo).cls yX12_mayGo yX12_mayGo ∈ ztb := ⟨k_1723, (k_90).mem⟩
theorem mw_X12_nextDown : MW yX12_nextDown cX12_nextDown 3 (some .int) 0 := ⟨k_1720, k_113, by decide, by decide, by decide +kernel⟩
theorem mv_X12_nextDown : zW (.instanceMethod yX12_nextDown) ∧ Cond.selects (yX12_nextDown).cls yX12_nextDown yX12_nextDown ∈ ztb := ⟨k_1719, (k_89).mem⟩
theorem mw_X12_body : MW yX12_body cX12_body 2 none 1 := ⟨k_1744, k_113, by decide, by decide, by decide +kernel⟩
theorem mv_X12_body : zW (.instanceMethod yX12_body) ∧ Cond.selects (yX12_body).cls yX12_body yX12_body ∈ ztb := ⟨k_1743, (k_93).mem⟩
theorem mw_X12_plainFits : MW yX12_plainFits cX12_plainFits 3 (some .int) 2 := ⟨k_1748, k_113, by decide, by decide, by decide +kernel⟩
theorem mv_X12_plainFits : zW (.instanceMethod yX12_plainFits) ∧ Cond.selects (yX12_plainFits).cls yX12_plainFits yX12_plainFits ∈ ztb := ⟨k_1747, (k_94).mem⟩
theorem mw_X12_columnFits : MW yX12_columnFits cX12_columnFits 3 (some .int) 2 := ⟨k_1740, k_113, by decide, by decide, by decide +kernel⟩
theorem mv_X12_columnFits : zW (.instanceMethod yX12_columnFits) ∧ Cond.selects (yX12_columnFits).cls yX12_columnFits yX12_columnFits ∈ ztb := ⟨k_1739, (k_92).mem⟩
theorem mw_X12_fitsOf : MW yX12_fitsOf cX12_fitsOf 3 (some .int) 2 := ⟨k_1736, k_113, by decide, by decide, by decide +kernel⟩
theorem mv_X12_fitsOf : zW (.instanceMethod yX12_fitsOf) ∧ Cond.selects (yX12_fitsOf).cls yX12_fitsOf yX12_fitsOf ∈ ztb := ⟨k_1735, (k_91).mem⟩
theorem mw_X12_plainBears : MW yX12_plainBears cX12_plainBears 3 (some .int) 2 := ⟨k_1756, k_113, by decide, by decide, by decide +kernel⟩
theorem mv_X12_plainBears : zW (.instanceMethod yX12_plainBears) ∧ Cond.selects (yX12_plainBears).cls yX12_plainBears yX12_plainBears ∈ ztb := ⟨k_1755, (k_96).mem⟩
theorem mw_X12_bearsOf : MW yX12_bearsOf cX12_bearsOf 4 (some .int) 2 := ⟨k_1752, k_113, by decide, by decide, by decide +kernel⟩
theorem mv_X12_bearsOf : zW (.instanceMethod yX12_bearsOf) ∧ Cond.selects (yX12_bearsOf).cls yX12_bearsOf yX12_bearsOf ∈ ztb := ⟨k_1751, (k_95).mem⟩
theorem mw_X12_plainEnds : MW yX12_plainEnds cX12_plainEnds 3 (some .int) 2 := ⟨k_1764, k_113, by decide, by decide, by decide +kernel⟩
theorem mv_X12_plainEnds : zW (.instanceMethod yX12_plainEnds) ∧ Cond.selects (yX12_plainEnds).cls yX12_plainEnds yX12_plainEnds ∈ ztb := ⟨k_1763, (k_98).mem⟩
theorem mw_X12_endsOf : MW yX12_endsOf cX12_endsOf 4 (some .int) 2 := ⟨k_1760, k_113, by decide, by decide, by decide +kernel⟩
theorem mv_X12_endsOf : zW (.instanceMethod yX12_endsOf) ∧ Cond.selects (yX12_endsOf).cls yX12_endsOf yX12_endsOf ∈ ztb := ⟨k_1759, (k_97).mem⟩
theorem mw_X12_standing : MW yX12_standing cX12_standing 3 (some .int) 0 := ⟨k_1780, k_113, by decide, by decide, by decide +kernel⟩
theorem mv_X12_standing : zW (.instanceMethod yX12_standing) ∧ Cond.selects (yX12_standing).cls yX12_standing yX12_standing ∈ ztb := ⟨k_1779, (k_99).mem⟩
theorem mw_X12_isTape : MW yX12_isTape cX12_isTape 2 (some .boolean) 1 := ⟨k_1788, k_113, by decide, by decide, by decide +kernel⟩
theorem mv_X12_isTape : zW (.instanceMethod yX12_isTape) ∧ Cond.selects (yX12_isTape).cls yX12_isTape yX12_isTape ∈ ztb := ⟨k_1787, (k_100).mem⟩
theorem mw_X12_narrow : MW yX12_narrow cX12_narrow 4 (some .long) 2 := ⟨k_1804, k_113, by decide, by decide, by decide +kernel⟩
theorem mv_X12_narrow : zW (.instanceMethod yX12_narrow) ∧ Cond.selects (yX12_narrow).cls yX12_narrow yX12_narrow ∈ ztb := ⟨k_1803, (k_101).mem⟩
theorem mw_J3_checkIndex_8e157 : MW yJ3_checkIndex_8e157 cJ3_checkIndex_8e157 3 (some .int) 3 := ⟨k_743, k_118, by decide, by decide, by decide +kernel⟩
theorem mv_J3_checkIndex_8e157 : zW (.static yJ3_checkIndex_8e157) := k_742
theorem mw_J0_checkIndex_df160 : MW yJ0_checkIndex_df160 cJ0_checkIndex_df160 2 none 2 := ⟨k_738, k_116, by decide, by decide, by decide +kernel⟩
theorem mv_J0_checkIndex_df160 : zW (.static yJ0_checkIndex_df160) := k_737
theorem mw_J0_coder_7d493 : MW yJ0_coder_7d493 cJ0_coder_7d493 1 (some .byte) 0 := ⟨k_722, k_116, by decide, by decide, by decide +kernel⟩
theorem mv_J0_coder_7d493 : zW (.instanceMethod yJ0_coder_7d493) ∧ Cond.selects (yJ0_coder_7d493).cls yJ0_coder_7d493 yJ0_coder_7d493 ∈ ztb := ⟨k_720, (k_721).mem⟩
theorem mw_J0_isLatin1_aae02 : MW yJ0_isLatin1_aae02 cJ0_isLatin1_aae02 1 (some .boolean) 0 := ⟨k_732, k_116, by decide, by decide, by decide +kernel⟩
theorem mv_J0_isLatin1_aae02 : zW (.instanceMethod yJ0_isLatin1_aae02) ∧ Cond.selects (yJ0_isLatin1_aae02).cls yJ0_isLatin1_aae02 yJ0_isLatin1_aae02 ∈ ztb := ⟨k_730, (k_731).mem⟩
theorem mw_J1_charAt_3b067 : MW yJ1_charAt_3b067 cJ1_charAt_3b067 2 (some .char) 2 := ⟨k_735, k_117, by decide, by decide, by decide +kernel⟩
theorem mv_J1_charAt_3b067 : zW (.static yJ1_charAt_3b067) := k_734
