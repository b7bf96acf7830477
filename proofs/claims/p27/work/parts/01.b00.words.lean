set_option maxRecDepth 20000 in
theorem mw_0 : (Cond.selects RX8 yX8_refuse yX8_refuse) ∈ WS := ws_p (List.mem_of_getElem? (i := 0) (by decide +kernel)) rfl
set_option maxRecDepth 20000 in
theorem mw_1 : (Cond.selects RX8 yX8_isOwner yX8_isOwner) ∈ WS := ws_p (List.mem_of_getElem? (i := 1) (by decide +kernel)) rfl
set_option maxRecDepth 20000 in
theorem mw_2 : (Cond.selects RX8 yX8_isHouse yX8_isHouse) ∈ WS := ws_p (List.mem_of_getElem? (i := 2) (by decide +kernel)) rfl
set_option maxRecDepth 20000 in
theorem mw_3 : (Cond.selects RX8 yX8_isPiece yX8_isPiece) ∈ WS := ws_p (List.mem_of_getElem? (i := 3) (by decide +kernel)) rfl
set_option maxRecDepth 20000 in
theorem mw_4 : (Cond.selects RX8 yX8_addRight yX8_addRight) ∈ WS := ws_p (List.mem_of_getElem? (i := 4) (by decide +kernel)) rfl
set_option maxRecDepth 20000 in
theorem mw_5 : (Cond.selects RX8 yX8_canPass yX8_canPass) ∈ WS := ws_p (List.mem_of_getElem? (i := 5) (by decide +kernel)) rfl
set_option maxRecDepth 20000 in
theorem mw_6 : (Cond.selects RX8 yX8_isRight yX8_isRight) ∈ WS := ws_p (List.mem_of_getElem? (i := 6) (by decide +kernel)) rfl
set_option maxRecDepth 20000 in
theorem mw_7 : (Cond.selects RX8 yX8_holder yX8_holder) ∈ WS := ws_p (List.mem_of_getElem? (i := 7) (by decide +kernel)) rfl
set_option maxRecDepth 20000 in
theorem mw_8 : (Cond.selects RX8 yX8_countingParts yX8_countingParts) ∈ WS := ws_p (List.mem_of_getElem? (i := 8) (by decide +kernel)) rfl
set_option maxRecDepth 20000 in
theorem mw_9 : (Cond.selects RX8 yX8_isHerd yX8_isHerd) ∈ WS := ws_p (List.mem_of_getElem? (i := 9) (by decide +kernel)) rfl
set_option maxRecDepth 20000 in
theorem mw_10 : (Cond.selects RX8 yX8_lackOf yX8_lackOf) ∈ WS := ws_p (List.mem_of_getElem? (i := 10) (by decide +kernel)) rfl
set_option maxRecDepth 20000 in
theorem mw_11 : (Cond.selects RX8 yX8_coverOf yX8_coverOf) ∈ WS := ws_p (List.mem_of_getElem? (i := 11) (by decide +kernel)) rfl
set_option maxRecDepth 20000 in
theorem mw_12 : (Cond.selects RX8 yX8_partsOn yX8_partsOn) ∈ WS := ws_p (List.mem_of_getElem? (i := 12) (by decide +kernel)) rfl
set_option maxRecDepth 20000 in
theorem mw_13 : (Cond.selects RX8 yX8_latestOn yX8_latestOn) ∈ WS := ws_p (List.mem_of_getElem? (i := 13) (by decide +kernel)) rfl
set_option maxRecDepth 20000 in
theorem mw_14 : (Cond.selects RX8 yX8_grazeAll yX8_grazeAll) ∈ WS := ws_p (List.mem_of_getElem? (i := 14) (by decide +kernel)) rfl
set_option maxRecDepth 20000 in
theorem mw_15 : (Cond.selects RX8 yX8_graze yX8_graze) ∈ WS := ws_p (List.mem_of_getElem? (i := 15) (by decide +kernel)) rfl
set_option maxRecDepth 20000 in
theorem mw_16 : (Cond.selects RX3 yX3_tread yX3_tread) ∈ WS := ws_p (List.mem_of_getElem? (i := 16) (by decide +kernel)) rfl
set_option maxRecDepth 20000 in
theorem mw_17 : (Cond.selects RX3 yX3_shareHunger yX3_shareHunger) ∈ WS := ws_p (List.mem_of_getElem? (i := 17) (by decide +kernel)) rfl
set_option maxRecDepth 20000 in
theorem mw_18 : (Cond.selects RX3 yX3_greatestRemainder yX3_greatestRemainder) ∈ WS := ws_p (List.mem_of_getElem? (i := 18) (by decide +kernel)) rfl
set_option maxRecDepth 20000 in
theorem mw_19 : (Cond.selects RX8 yX8_sellFromPound yX8_sellFromPound) ∈ WS := ws_p (List.mem_of_getElem? (i := 19) (by decide +kernel)) rfl
set_option maxRecDepth 20000 in
theorem mw_20 : (Cond.selects RX8 yX8_findUsed yX8_findUsed) ∈ WS := ws_p (List.mem_of_getElem? (i := 20) (by decide +kernel)) rfl
set_option maxRecDepth 20000 in
theorem mw_21 : (Cond.selects RX8 yX8_hasHerdFor yX8_hasHerdFor) ∈ WS := ws_p (List.mem_of_getElem? (i := 21) (by decide +kernel)) rfl
set_option maxRecDepth 20000 in
theorem mw_22 : (Cond.selects RX8 yX8_lapse yX8_lapse) ∈ WS := ws_p (List.mem_of_getElem? (i := 22) (by decide +kernel)) rfl
set_option maxRecDepth 20000 in
theorem mw_23 : (Cond.selects RX8 yX8_herdsOn yX8_herdsOn) ∈ WS := ws_p (List.mem_of_getElem? (i := 23) (by decide +kernel)) rfl
set_option maxRecDepth 20000 in
theorem mw_24 : (Cond.selects RX8 yX8_shareHay yX8_shareHay) ∈ WS := ws_p (List.mem_of_getElem? (i := 24) (by decide +kernel)) rfl
set_option maxRecDepth 20000 in
theorem mw_25 : (Cond.selects RX8 yX8_openPieces yX8_openPieces) ∈ WS := ws_p (List.mem_of_getElem? (i := 25) (by decide +kernel)) rfl
set_option maxRecDepth 20000 in
theorem mw_26 : (Cond.selects RX8 yX8_reckonTurns yX8_reckonTurns) ∈ WS := ws_p (List.mem_of_getElem? (i := 26) (by decide +kernel)) rfl
set_option maxRecDepth 20000 in
theorem mw_27 : (Cond.selects RX8 yX8_hungerOfVisits yX8_hungerOfVisits) ∈ WS := ws_p (List.mem_of_getElem? (i := 27) (by decide +kernel)) rfl
set_option maxRecDepth 20000 in
theorem mw_28 : (Cond.selects RX8 yX8_gatherForStep yX8_gatherForStep) ∈ WS := ws_p (List.mem_of_getElem? (i := 28) (by decide +kernel)) rfl
set_option maxRecDepth 20000 in
theorem mw_29 : (Cond.selects RX6 yX6_isOpen yX6_isOpen) ∈ WS := ws_p (List.mem_of_getElem? (i := 29) (by decide +kernel)) rfl
set_option maxRecDepth 20000 in
theorem mw_30 : (Cond.selects RX6 yX6_hungerOfTrial yX6_hungerOfTrial) ∈ WS := ws_p (List.mem_of_getElem? (i := 30) (by decide +kernel)) rfl
set_option maxRecDepth 20000 in
theorem mw_31 : (Cond.selects RX6 yX6_nextTrial yX6_nextTrial) ∈ WS := ws_p (List.mem_of_getElem? (i := 31) (by decide +kernel)) rfl
set_option maxRecDepth 20000 in
theorem mw_32 : (Cond.selects RX8 yX8_rightsInForce yX8_rightsInForce) ∈ WS := ws_p (List.mem_of_getElem? (i := 32) (by decide +kernel)) rfl
set_option maxRecDepth 20000 in
theorem mw_33 : (Cond.selects RX8 yX8_herdsNotLost yX8_herdsNotLost) ∈ WS := ws_p (List.mem_of_getElem? (i := 33) (by decide +kernel)) rfl
set_option maxRecDepth 20000 in
theorem mw_34 : (Cond.selects RX8 yX8_allGrass yX8_allGrass) ∈ WS := ws_p (List.mem_of_getElem? (i := 34) (by decide +kernel)) rfl
set_option maxRecDepth 20000 in
theorem mw_35 : (Cond.selects RX8 yX8_allHunger yX8_allHunger) ∈ WS := ws_p (List.mem_of_getElem? (i := 35) (by decide +kernel)) rfl
set_option maxRecDepth 20000 in
theorem mw_36 : (Cond.selects RX8 yX8_allEaten yX8_allEaten) ∈ WS := ws_p (List.mem_of_getElem? (i := 36) (by decide +kernel)) rfl
set_option maxRecDepth 20000 in
theorem mw_37 : (Cond.selects RX9 yX9_refuse yX9_refuse) ∈ WS := ws_p (List.mem_of_getElem? (i := 37) (by decide +kernel)) rfl
set_option maxRecDepth 20000 in
theorem mw_38 : (Cond.selects RX9 yX9_adds yX9_adds) ∈ WS := ws_p (List.mem_of_getElem? (i := 38) (by decide +kernel)) rfl
set_option maxRecDepth 20000 in
theorem mw_39 : (Cond.selects RX9 yX9_ownerOfRight yX9_ownerOfRight) ∈ WS := ws_p (List.mem_of_getElem? (i := 39) (by decide +kernel)) rfl
set_option maxRecDepth 20000 in
theorem mw_40 : (Cond.selects RX9 yX9_isInForce yX9_isInForce) ∈ WS := ws_p (List.mem_of_getElem? (i := 40) (by decide +kernel)) rfl
set_option maxRecDepth 20000 in
theorem mw_41 : (Cond.selects RX9 yX9_partsOf yX9_partsOf) ∈ WS := ws_p (List.mem_of_getElem? (i := 41) (by decide +kernel)) rfl
set_option maxRecDepth 20000 in
theorem mw_42 : (Cond.selects RX9 yX9_rests yX9_rests) ∈ WS := ws_p (List.mem_of_getElem? (i := 42) (by decide +kernel)) rfl
set_option maxRecDepth 20000 in
theorem mw_43 : (Cond.selects RX9 yX9_lacksOf yX9_lacksOf) ∈ WS := ws_p (List.mem_of_getElem? (i := 43) (by decide +kernel)) rfl
set_option maxRecDepth 20000 in
theorem mw_44 : (Cond.selects RX9 yX9_isOut yX9_isOut) ∈ WS := ws_p (List.mem_of_getElem? (i := 44) (by decide +kernel)) rfl
set_option maxRecDepth 20000 in
theorem mw_45 : (Cond.selects RX9 yX9_partsOfHerd yX9_partsOfHerd) ∈ WS := ws_p (List.mem_of_getElem? (i := 45) (by decide +kernel)) rfl
set_option maxRecDepth 20000 in
theorem mw_46 : (Cond.selects RX9 yX9_partsOn yX9_partsOn) ∈ WS := ws_p (List.mem_of_getElem? (i := 46) (by decide +kernel)) rfl
set_option maxRecDepth 20000 in
theorem mw_47 : (Cond.selects RX9 yX9_places yX9_places) ∈ WS := ws_p (List.mem_of_getElem? (i := 47) (by decide +kernel)) rfl
set_option maxRecDepth 20000 in
theorem mw_48 : (Cond.selects RX9 yX9_goes yX9_goes) ∈ WS := ws_p (List.mem_of_getElem? (i := 48) (by decide +kernel)) rfl
set_option maxRecDepth 20000 in
theorem mw_49 : (Cond.selects RX9 yX9_shares yX9_shares) ∈ WS := ws_p (List.mem_of_getElem? (i := 49) (by decide +kernel)) rfl
set_option maxRecDepth 20000 in
theorem mw_50 : (Cond.selects RX9 yX9_sells yX9_sells) ∈ WS := ws_p (List.mem_of_getElem? (i := 50) (by decide +kernel)) rfl
set_option maxRecDepth 20000 in
theorem mw_51 : (Cond.selects RX9 yX9_lapses yX9_lapses) ∈ WS := ws_p (List.mem_of_getElem? (i := 51) (by decide +kernel)) rfl
set_option maxRecDepth 20000 in
theorem mw_52 : (Cond.selects RX9 yX9_isAsked yX9_isAsked) ∈ WS := ws_p (List.mem_of_getElem? (i := 52) (by decide +kernel)) rfl
set_option maxRecDepth 20000 in
theorem mw_53 : (Cond.selects RX9 yX9_counts yX9_counts) ∈ WS := ws_p (List.mem_of_getElem? (i := 53) (by decide +kernel)) rfl
set_option maxRecDepth 20000 in
theorem mw_54 : (Cond.selects RX9 yX9_feeOf yX9_feeOf) ∈ WS := ws_p (List.mem_of_getElem? (i := 54) (by decide +kernel)) rfl
set_option maxRecDepth 20000 in
theorem mw_55 : (Cond.selects RX9 yX9_mayTake yX9_mayTake) ∈ WS := ws_p (List.mem_of_getElem? (i := 55) (by decide +kernel)) rfl
set_option maxRecDepth 20000 in
theorem mw_56 : (Cond.selects RX9 yX9_tries yX9_tries) ∈ WS := ws_p (List.mem_of_getElem? (i := 56) (by decide +kernel)) rfl
set_option maxRecDepth 20000 in
theorem mw_58 : (Cond.initialized RX8) ∈ WS := ws_t1 (List.mem_of_getElem? (i := 1) rfl) rfl
set_option maxRecDepth 20000 in
theorem mw_59 : (Cond.initialized RX5) ∈ WS := ws_t1 (List.mem_of_getElem? (i := 2) rfl) rfl
set_option maxRecDepth 20000 in
theorem mw_60 : (Cond.initialized RX7) ∈ WS := ws_t1 (List.mem_of_getElem? (i := 3) rfl) rfl
set_option maxRecDepth 20000 in
theorem mw_61 : (Cond.initialized RX1) ∈ WS := ws_t1 (List.mem_of_getElem? (i := 4) rfl) rfl
set_option maxRecDepth 20000 in
theorem mw_62 : (Cond.initialized RX3) ∈ WS := ws_t1 (List.mem_of_getElem? (i := 5) rfl) rfl
set_option maxRecDepth 20000 in
theorem mw_63 : (Cond.initialized RX6) ∈ WS := ws_t1 (List.mem_of_getElem? (i := 6) rfl) rfl
set_option maxRecDepth 20000 in
theorem mw_64 : (Cond.initialized RX9) ∈ WS := ws_t1 (List.mem_of_getElem? (i := 7) rfl) rfl
set_option maxRecDepth 20000 in
theorem mw_65 : (Cond.initialized RX4) ∈ WS := ws_t1 (List.mem_of_getElem? (i := 8) rfl) rfl
set_option maxRecDepth 20000 in
theorem mw_66 : (Cond.initialized RX0) ∈ WS := ws_t1 (List.mem_of_getElem? (i := 9) rfl) rfl
set_option maxRecDepth 20000 in
theorem mw_67 : (Cond.initialized RX2) ∈ WS := ws_t1 (List.mem_of_getElem? (i := 10) rfl) rfl
set_option maxRecDepth 20000 in
theorem mw_68 : (Cond.initialized "java/lang/Math") ∈ WS := ws_t1 (List.mem_of_getElem? (i := 11) rfl) rfl
set_option maxRecDepth 20000 in
theorem mw_69 : (Cond.initialized "java/lang/System") ∈ WS := ws_t1 (List.mem_of_getElem? (i := 12) rfl) rfl
set_option maxRecDepth 20000 in
theorem mw_71 : (Cond.instantiable RX8 19) ∈ WS := ws_t1 (List.mem_of_getElem? (i := 14) rfl) rfl
set_option maxRecDepth 20000 in
theorem mw_73 : (Cond.instanceMethod yX8_init) ∈ WS := ws_t1 (List.mem_of_getElem? (i := 16) rfl) rfl
set_option maxRecDepth 20000 in
theorem mw_74 : (Cond.code yX8_init cX8_init 1 none) ∈ WS := ws_t1 (List.mem_of_getElem? (i := 17) rfl) rfl
set_option maxRecDepth 20000 in
theorem mw_75 : (Cond.methodLink RX8 1 objectInit) ∈ WS := ws_t1 (List.mem_of_getElem? (i := 18) rfl) rfl
set_option maxRecDepth 20000 in
theorem mw_76 : (Cond.instanceMethod objectInit) ∈ WS := ws_t1 (List.mem_of_getElem? (i := 19) rfl) rfl
set_option maxRecDepth 20000 in
theorem mw_78 : (Cond.classLink RX8 9 RX4) ∈ WS := ws_t1 (List.mem_of_getElem? (i := 21) rfl) rfl
set_option maxRecDepth 20000 in
theorem mw_80 : (Cond.classLink RX8 15 RX5) ∈ WS := ws_t1 (List.mem_of_getElem? (i := 23) rfl) rfl
set_option maxRecDepth 20000 in
theorem mw_82 : (Cond.instantiable RX5 2) ∈ WS := ws_t1 (List.mem_of_getElem? (i := 25) rfl) rfl
set_option maxRecDepth 20000 in
theorem mw_83 : (Cond.methodLink RX8 21 yX5_init) ∈ WS := ws_t1 (List.mem_of_getElem? (i := 26) rfl) rfl
set_option maxRecDepth 20000 in
theorem mw_84 : (Cond.instanceMethod yX5_init) ∈ WS := ws_t1 (List.mem_of_getElem? (i := 27) rfl) rfl
set_option maxRecDepth 20000 in
theorem mw_85 : (Cond.code yX5_init cX5_init 2 none) ∈ WS := ws_t1 (List.mem_of_getElem? (i := 28) rfl) rfl
set_option maxRecDepth 20000 in
theorem mw_86 : (Cond.methodLink RX5 1 objectInit) ∈ WS := ws_t1 (List.mem_of_getElem? (i := 29) rfl) rfl
set_option maxRecDepth 20000 in
theorem mw_87 : (Cond.fieldLink RX5 13 "GrazeBook$Purse" "coins" "I") ∈ WS := ws_t1 (List.mem_of_getElem? (i := 30) rfl) rfl
set_option maxRecDepth 20000 in
theorem mw_88 : (Cond.fieldLink RX8 228 "GrazeBook$Purse" "coins" "I") ∈ WS := ws_t1 (List.mem_of_getElem? (i := 31) rfl) rfl
set_option maxRecDepth 20000 in
theorem mw_89 : (Cond.fieldLink RX5 7 "GrazeBook$Purse" "hay" "I") ∈ WS := ws_t1 (List.mem_of_getElem? (i := 32) rfl) rfl
set_option maxRecDepth 20000 in
theorem mw_90 : (Cond.fieldLink RX8 281 "GrazeBook$Purse" "hay" "I") ∈ WS := ws_t1 (List.mem_of_getElem? (i := 33) rfl) rfl
set_option maxRecDepth 20000 in
theorem mw_91 : (Cond.lays "GrazeBook$Purse" "GrazeBook$Purse" "coins" "I") ∈ WS := ws_t1 (List.mem_of_getElem? (i := 34) rfl) rfl
set_option maxRecDepth 20000 in
theorem mw_93 : (Cond.lays "GrazeBook$Purse" "GrazeBook$Purse" "hay" "I") ∈ WS := ws_t1 (List.mem_of_getElem? (i := 36) rfl) rfl
set_option maxRecDepth 20000 in
theorem mw_96 : (Cond.classLink RX8 32 RX0) ∈ WS := ws_t1 (List.mem_of_getElem? (i := 39) rfl) rfl
set_option maxRecDepth 20000 in
theorem mw_98 : (Cond.classLink RX8 38 RX2) ∈ WS := ws_t1 (List.mem_of_getElem? (i := 41) rfl) rfl
set_option maxRecDepth 20000 in
theorem mw_100 : (Cond.classLink RX8 44 RX7) ∈ WS := ws_t1 (List.mem_of_getElem? (i := 43) rfl) rfl
set_option maxRecDepth 20000 in
theorem mw_101 : (Cond.instantiable RX7 2) ∈ WS := ws_t1 (List.mem_of_getElem? (i := 44) rfl) rfl
set_option maxRecDepth 20000 in
theorem mw_103 : (Cond.instanceMethod yX7_init) ∈ WS := ws_t1 (List.mem_of_getElem? (i := 46) rfl) rfl
set_option maxRecDepth 20000 in
theorem mw_104 : (Cond.code yX7_init cX7_init 1 none) ∈ WS := ws_t1 (List.mem_of_getElem? (i := 47) rfl) rfl
set_option maxRecDepth 20000 in
theorem mw_105 : (Cond.methodLink RX7 3 objectInit) ∈ WS := ws_t1 (List.mem_of_getElem? (i := 48) rfl) rfl
set_option maxRecDepth 20000 in
theorem mw_106 : (Cond.fieldLink RX7 11 "GrazeBook$Year" "rates" "[I") ∈ WS := ws_t1 (List.mem_of_getElem? (i := 49) rfl) rfl
set_option maxRecDepth 20000 in
theorem mw_107 : (Cond.fieldLink RX7 15 "GrazeBook$Year" "skies" "[I") ∈ WS := ws_t1 (List.mem_of_getElem? (i := 50) rfl) rfl
set_option maxRecDepth 20000 in
theorem mw_108 : (Cond.laysFinal "GrazeBook$Year" "GrazeBook$Year" "rates" "[I") ∈ WS := ws_t1 (List.mem_of_getElem? (i := 51) rfl) rfl
set_option maxRecDepth 20000 in
theorem mw_110 : (Cond.laysFinal "GrazeBook$Year" "GrazeBook$Year" "skies" "[I") ∈ WS := ws_t1 (List.mem_of_getElem? (i := 53) rfl) rfl
set_option maxRecDepth 20000 in
theorem mw_113 : (Cond.arrayClass .int) ∈ WS := ws_t1 (List.mem_of_getElem? (i := 56) rfl) rfl
set_option maxRecDepth 20000 in
theorem mw_114 : (Cond.classLink RX8 51 RX1) ∈ WS := ws_t1 (List.mem_of_getElem? (i := 57) rfl) rfl
set_option maxRecDepth 20000 in
theorem mw_115 : (Cond.instantiable RX1 5) ∈ WS := ws_t1 (List.mem_of_getElem? (i := 58) rfl) rfl
set_option maxRecDepth 20000 in
theorem mw_117 : (Cond.instanceMethod yX1_init) ∈ WS := ws_t1 (List.mem_of_getElem? (i := 60) rfl) rfl
set_option maxRecDepth 20000 in
theorem mw_118 : (Cond.code yX1_init cX1_init 1 none) ∈ WS := ws_t1 (List.mem_of_getElem? (i := 61) rfl) rfl
set_option maxRecDepth 20000 in
theorem mw_119 : (Cond.methodLink RX1 3 objectInit) ∈ WS := ws_t1 (List.mem_of_getElem? (i := 62) rfl) rfl
set_option maxRecDepth 20000 in
theorem mw_120 : (Cond.fieldLink RX1 9 "GrazeBook$Cover" "sheepOn" "[I") ∈ WS := ws_t1 (List.mem_of_getElem? (i := 63) rfl) rfl
set_option maxRecDepth 20000 in
theorem mw_121 : (Cond.fieldLink RX1 15 "GrazeBook$Cover" "othersOn" "[I") ∈ WS := ws_t1 (List.mem_of_getElem? (i := 64) rfl) rfl
set_option maxRecDepth 20000 in
theorem mw_122 : (Cond.fieldLink RX1 18 "GrazeBook$Cover" "leazesFor" "[I") ∈ WS := ws_t1 (List.mem_of_getElem? (i := 65) rfl) rfl
set_option maxRecDepth 20000 in
theorem mw_123 : (Cond.fieldLink RX1 21 "GrazeBook$Cover" "walks" "I") ∈ WS := ws_t1 (List.mem_of_getElem? (i := 66) rfl) rfl
set_option maxRecDepth 20000 in
theorem mw_124 : (Cond.fieldLink RX1 25 "GrazeBook$Cover" "forAny" "I") ∈ WS := ws_t1 (List.mem_of_getElem? (i := 67) rfl) rfl
set_option maxRecDepth 20000 in
theorem mw_125 : (Cond.laysFinal "GrazeBook$Cover" "GrazeBook$Cover" "sheepOn" "[I") ∈ WS := ws_t1 (List.mem_of_getElem? (i := 68) rfl) rfl
set_option maxRecDepth 20000 in
theorem mw_127 : (Cond.laysFinal "GrazeBook$Cover" "GrazeBook$Cover" "othersOn" "[I") ∈ WS := ws_t1 (List.mem_of_getElem? (i := 70) rfl) rfl
set_option maxRecDepth 20000 in
theorem mw_129 : (Cond.laysFinal "GrazeBook$Cover" "GrazeBook$Cover" "leazesFor" "[I") ∈ WS := ws_t1 (List.mem_of_getElem? (i := 72) rfl) rfl
set_option maxRecDepth 20000 in
theorem mw_131 : (Cond.lays "GrazeBook$Cover" "GrazeBook$Cover" "walks" "I") ∈ WS := ws_t1 (List.mem_of_getElem? (i := 74) rfl) rfl
set_option maxRecDepth 20000 in
theorem mw_133 : (Cond.lays "GrazeBook$Cover" "GrazeBook$Cover" "forAny" "I") ∈ WS := ws_t1 (List.mem_of_getElem? (i := 76) rfl) rfl
set_option maxRecDepth 20000 in
theorem mw_136 : (Cond.classLink RX8 58 RX3) ∈ WS := ws_t1 (List.mem_of_getElem? (i := 79) rfl) rfl
set_option maxRecDepth 20000 in
theorem mw_137 : (Cond.instantiable RX3 7) ∈ WS := ws_t1 (List.mem_of_getElem? (i := 80) rfl) rfl
set_option maxRecDepth 20000 in
theorem mw_139 : (Cond.instanceMethod yX3_init) ∈ WS := ws_t1 (List.mem_of_getElem? (i := 82) rfl) rfl
set_option maxRecDepth 20000 in
theorem mw_140 : (Cond.code yX3_init cX3_init 1 none) ∈ WS := ws_t1 (List.mem_of_getElem? (i := 83) rfl) rfl
set_option maxRecDepth 20000 in
theorem mw_141 : (Cond.methodLink RX3 3 objectInit) ∈ WS := ws_t1 (List.mem_of_getElem? (i := 84) rfl) rfl
set_option maxRecDepth 20000 in
theorem mw_142 : (Cond.fieldLink RX3 9 "GrazeBook$Grazing" "numbers" "[I") ∈ WS := ws_t1 (List.mem_of_getElem? (i := 85) rfl) rfl
set_option maxRecDepth 20000 in
theorem mw_143 : (Cond.fieldLink RX3 15 "GrazeBook$Grazing" "partsOf" "[I") ∈ WS := ws_t1 (List.mem_of_getElem? (i := 86) rfl) rfl
set_option maxRecDepth 20000 in
theorem mw_144 : (Cond.fieldLink RX3 18 "GrazeBook$Grazing" "hungers" "[I") ∈ WS := ws_t1 (List.mem_of_getElem? (i := 87) rfl) rfl
set_option maxRecDepth 20000 in
theorem mw_145 : (Cond.fieldLink RX3 21 "GrazeBook$Grazing" "remainders" "[I") ∈ WS := ws_t1 (List.mem_of_getElem? (i := 88) rfl) rfl
set_option maxRecDepth 20000 in
theorem mw_146 : (Cond.fieldLink RX3 24 "GrazeBook$Grazing" "size" "I") ∈ WS := ws_t1 (List.mem_of_getElem? (i := 89) rfl) rfl
set_option maxRecDepth 20000 in
theorem mw_147 : (Cond.fieldLink RX3 28 "GrazeBook$Grazing" "all" "I") ∈ WS := ws_t1 (List.mem_of_getElem? (i := 90) rfl) rfl
set_option maxRecDepth 20000 in
theorem mw_148 : (Cond.fieldLink RX3 31 "GrazeBook$Grazing" "eaten" "I") ∈ WS := ws_t1 (List.mem_of_getElem? (i := 91) rfl) rfl
set_option maxRecDepth 20000 in
theorem mw_149 : (Cond.fieldLink RX8 341 "GrazeBook$Grazing" "eaten" "I") ∈ WS := ws_t1 (List.mem_of_getElem? (i := 92) rfl) rfl
set_option maxRecDepth 20000 in
theorem mw_150 : (Cond.laysFinal "GrazeBook$Grazing" "GrazeBook$Grazing" "numbers" "[I") ∈ WS := ws_t1 (List.mem_of_getElem? (i := 93) rfl) rfl
set_option maxRecDepth 20000 in
theorem mw_152 : (Cond.laysFinal "GrazeBook$Grazing" "GrazeBook$Grazing" "partsOf" "[I") ∈ WS := ws_t1 (List.mem_of_getElem? (i := 95) rfl) rfl
set_option maxRecDepth 20000 in
theorem mw_154 : (Cond.laysFinal "GrazeBook$Grazing" "GrazeBook$Grazing" "hungers" "[I") ∈ WS := ws_t1 (List.mem_of_getElem? (i := 97) rfl) rfl
set_option maxRecDepth 20000 in
theorem mw_156 : (Cond.laysFinal "GrazeBook$Grazing" "GrazeBook$Grazing" "remainders" "[I") ∈ WS := ws_t1 (List.mem_of_getElem? (i := 99) rfl) rfl
set_option maxRecDepth 20000 in
theorem mw_158 : (Cond.lays "GrazeBook$Grazing" "GrazeBook$Grazing" "size" "I") ∈ WS := ws_t1 (List.mem_of_getElem? (i := 101) rfl) rfl
set_option maxRecDepth 20000 in
theorem mw_160 : (Cond.lays "GrazeBook$Grazing" "GrazeBook$Grazing" "all" "I") ∈ WS := ws_t1 (List.mem_of_getElem? (i := 103) rfl) rfl
set_option maxRecDepth 20000 in
theorem mw_162 : (Cond.lays "GrazeBook$Grazing" "GrazeBook$Grazing" "eaten" "I") ∈ WS := ws_t1 (List.mem_of_getElem? (i := 105) rfl) rfl
set_option maxRecDepth 20000 in
theorem mw_165 : (Cond.classLink RX8 65 RX6) ∈ WS := ws_t1 (List.mem_of_getElem? (i := 108) rfl) rfl
set_option maxRecDepth 20000 in
theorem mw_166 : (Cond.instantiable RX6 10) ∈ WS := ws_t1 (List.mem_of_getElem? (i := 109) rfl) rfl
set_option maxRecDepth 20000 in
theorem mw_168 : (Cond.instanceMethod yX6_init) ∈ WS := ws_t1 (List.mem_of_getElem? (i := 111) rfl) rfl
set_option maxRecDepth 20000 in
theorem mw_169 : (Cond.code yX6_init cX6_init 1 none) ∈ WS := ws_t1 (List.mem_of_getElem? (i := 112) rfl) rfl
set_option maxRecDepth 20000 in
theorem mw_170 : (Cond.methodLink RX6 3 objectInit) ∈ WS := ws_t1 (List.mem_of_getElem? (i := 113) rfl) rfl
set_option maxRecDepth 20000 in
theorem mw_171 : (Cond.classLink RX6 9 "[[I") ∈ WS := ws_t1 (List.mem_of_getElem? (i := 114) rfl) rfl
set_option maxRecDepth 20000 in
theorem mw_173 : (Cond.fieldLink RX6 11 "GrazeBook$Turns" "hunger" "[[I") ∈ WS := ws_t1 (List.mem_of_getElem? (i := 116) rfl) rfl
set_option maxRecDepth 20000 in
theorem mw_174 : (Cond.fieldLink RX8 374 "GrazeBook$Turns" "hunger" "[[I") ∈ WS := ws_t1 (List.mem_of_getElem? (i := 117) rfl) rfl
set_option maxRecDepth 20000 in
theorem mw_175 : (Cond.fieldLink RX6 16 "GrazeBook$Turns" "open" "[I") ∈ WS := ws_t1 (List.mem_of_getElem? (i := 118) rfl) rfl
set_option maxRecDepth 20000 in
theorem mw_176 : (Cond.fieldLink RX8 365 "GrazeBook$Turns" "open" "[I") ∈ WS := ws_t1 (List.mem_of_getElem? (i := 119) rfl) rfl
set_option maxRecDepth 20000 in
theorem mw_177 : (Cond.fieldLink RX6 20 "GrazeBook$Turns" "trial" "[I") ∈ WS := ws_t1 (List.mem_of_getElem? (i := 120) rfl) rfl
set_option maxRecDepth 20000 in
theorem mw_178 : (Cond.fieldLink RX6 23 "GrazeBook$Turns" "best" "[I") ∈ WS := ws_t1 (List.mem_of_getElem? (i := 121) rfl) rfl
set_option maxRecDepth 20000 in
theorem mw_179 : (Cond.fieldLink RX6 26 "GrazeBook$Turns" "visitsOf" "[I") ∈ WS := ws_t1 (List.mem_of_getElem? (i := 122) rfl) rfl
set_option maxRecDepth 20000 in
theorem mw_180 : (Cond.fieldLink RX6 29 "GrazeBook$Turns" "firstHerd" "I") ∈ WS := ws_t1 (List.mem_of_getElem? (i := 123) rfl) rfl
set_option maxRecDepth 20000 in
theorem mw_181 : (Cond.fieldLink RX8 383 "GrazeBook$Turns" "firstHerd" "I") ∈ WS := ws_t1 (List.mem_of_getElem? (i := 124) rfl) rfl
set_option maxRecDepth 20000 in
theorem mw_182 : (Cond.fieldLink RX6 33 "GrazeBook$Turns" "secondHerd" "I") ∈ WS := ws_t1 (List.mem_of_getElem? (i := 125) rfl) rfl
set_option maxRecDepth 20000 in
theorem mw_183 : (Cond.fieldLink RX8 386 "GrazeBook$Turns" "secondHerd" "I") ∈ WS := ws_t1 (List.mem_of_getElem? (i := 126) rfl) rfl
set_option maxRecDepth 20000 in
theorem mw_184 : (Cond.fieldLink RX6 36 "GrazeBook$Turns" "width" "I") ∈ WS := ws_t1 (List.mem_of_getElem? (i := 127) rfl) rfl
set_option maxRecDepth 20000 in
theorem mw_185 : (Cond.fieldLink RX6 39 "GrazeBook$Turns" "steps" "I") ∈ WS := ws_t1 (List.mem_of_getElem? (i := 128) rfl) rfl
set_option maxRecDepth 20000 in
theorem mw_186 : (Cond.fieldLink RX8 362 "GrazeBook$Turns" "steps" "I") ∈ WS := ws_t1 (List.mem_of_getElem? (i := 129) rfl) rfl
set_option maxRecDepth 20000 in
theorem mw_187 : (Cond.fieldLink RX6 42 "GrazeBook$Turns" "days" "I") ∈ WS := ws_t1 (List.mem_of_getElem? (i := 130) rfl) rfl
set_option maxRecDepth 20000 in
theorem mw_188 : (Cond.fieldLink RX8 368 "GrazeBook$Turns" "days" "I") ∈ WS := ws_t1 (List.mem_of_getElem? (i := 131) rfl) rfl
set_option maxRecDepth 20000 in
theorem mw_189 : (Cond.laysFinal "GrazeBook$Turns" "GrazeBook$Turns" "hunger" "[[I") ∈ WS := ws_t1 (List.mem_of_getElem? (i := 132) rfl) rfl
set_option maxRecDepth 20000 in
theorem mw_191 : (Cond.laysFinal "GrazeBook$Turns" "GrazeBook$Turns" "open" "[I") ∈ WS := ws_t1 (List.mem_of_getElem? (i := 134) rfl) rfl
set_option maxRecDepth 20000 in
theorem mw_193 : (Cond.laysFinal "GrazeBook$Turns" "GrazeBook$Turns" "trial" "[I") ∈ WS := ws_t1 (List.mem_of_getElem? (i := 136) rfl) rfl
set_option maxRecDepth 20000 in
theorem mw_195 : (Cond.laysFinal "GrazeBook$Turns" "GrazeBook$Turns" "best" "[I") ∈ WS := ws_t1 (List.mem_of_getElem? (i := 138) rfl) rfl
set_option maxRecDepth 20000 in
theorem mw_197 : (Cond.laysFinal "GrazeBook$Turns" "GrazeBook$Turns" "visitsOf" "[I") ∈ WS := ws_t1 (List.mem_of_getElem? (i := 140) rfl) rfl
set_option maxRecDepth 20000 in
theorem mw_199 : (Cond.lays "GrazeBook$Turns" "GrazeBook$Turns" "firstHerd" "I") ∈ WS := ws_t1 (List.mem_of_getElem? (i := 142) rfl) rfl
set_option maxRecDepth 20000 in
theorem mw_201 : (Cond.lays "GrazeBook$Turns" "GrazeBook$Turns" "secondHerd" "I") ∈ WS := ws_t1 (List.mem_of_getElem? (i := 144) rfl) rfl
set_option maxRecDepth 20000 in
theorem mw_203 : (Cond.lays "GrazeBook$Turns" "GrazeBook$Turns" "width" "I") ∈ WS := ws_t1 (List.mem_of_getElem? (i := 146) rfl) rfl
set_option maxRecDepth 20000 in
theorem mw_205 : (Cond.lays "GrazeBook$Turns" "GrazeBook$Turns" "steps" "I") ∈ WS := ws_t1 (List.mem_of_getElem? (i := 148) rfl) rfl
set_option maxRecDepth 20000 in
theorem mw_207 : (Cond.lays "GrazeBook$Turns" "GrazeBook$Turns" "days" "I") ∈ WS := ws_t1 (List.mem_of_getElem? (i := 150) rfl) rfl
set_option maxRecDepth 20000 in
theorem mw_210 : (Cond.fieldLink RX8 11 "GrazeBook" "pieces" "[LGrazeBook$Ground;") ∈ WS := ws_t1 (List.mem_of_getElem? (i := 153) rfl) rfl
set_option maxRecDepth 20000 in
theorem mw_211 : (Cond.fieldLink RX8 17 "GrazeBook" "owners" "[LGrazeBook$Purse;") ∈ WS := ws_t1 (List.mem_of_getElem? (i := 154) rfl) rfl
set_option maxRecDepth 20000 in
theorem mw_212 : (Cond.fieldLink RX8 24 "GrazeBook" "reeve" "LGrazeBook$Purse;") ∈ WS := ws_t1 (List.mem_of_getElem? (i := 155) rfl) rfl
set_option maxRecDepth 20000 in
theorem mw_213 : (Cond.fieldLink RX8 28 "GrazeBook" "houses" "[I") ∈ WS := ws_t1 (List.mem_of_getElem? (i := 156) rfl) rfl
set_option maxRecDepth 20000 in
theorem mw_214 : (Cond.fieldLink RX8 34 "GrazeBook" "rights" "[LGrazeBook$Claim;") ∈ WS := ws_t1 (List.mem_of_getElem? (i := 157) rfl) rfl
set_option maxRecDepth 20000 in
theorem mw_215 : (Cond.fieldLink RX8 40 "GrazeBook" "herds" "[LGrazeBook$Drove;") ∈ WS := ws_t1 (List.mem_of_getElem? (i := 158) rfl) rfl
set_option maxRecDepth 20000 in
theorem mw_216 : (Cond.fieldLink RX8 47 "GrazeBook" "year" "LGrazeBook$Year;") ∈ WS := ws_t1 (List.mem_of_getElem? (i := 159) rfl) rfl
set_option maxRecDepth 20000 in
theorem mw_217 : (Cond.fieldLink RX8 54 "GrazeBook" "cover" "LGrazeBook$Cover;") ∈ WS := ws_t1 (List.mem_of_getElem? (i := 160) rfl) rfl
set_option maxRecDepth 20000 in
theorem mw_218 : (Cond.fieldLink RX8 61 "GrazeBook" "grazing" "LGrazeBook$Grazing;") ∈ WS := ws_t1 (List.mem_of_getElem? (i := 161) rfl) rfl
set_option maxRecDepth 20000 in
theorem mw_219 : (Cond.fieldLink RX8 68 "GrazeBook" "turns" "LGrazeBook$Turns;") ∈ WS := ws_t1 (List.mem_of_getElem? (i := 162) rfl) rfl
set_option maxRecDepth 20000 in
theorem mw_220 : (Cond.fieldLink RX8 72 "GrazeBook" "refusals" "[I") ∈ WS := ws_t1 (List.mem_of_getElem? (i := 163) rfl) rfl
set_option maxRecDepth 20000 in
theorem mw_221 : (Cond.fieldLink RX8 75 "GrazeBook" "pieceCount" "I") ∈ WS := ws_t1 (List.mem_of_getElem? (i := 164) rfl) rfl
set_option maxRecDepth 20000 in
theorem mw_222 : (Cond.fieldLink RX8 79 "GrazeBook" "ownerCount" "I") ∈ WS := ws_t1 (List.mem_of_getElem? (i := 165) rfl) rfl
set_option maxRecDepth 20000 in
theorem mw_223 : (Cond.fieldLink RX8 82 "GrazeBook" "houseCount" "I") ∈ WS := ws_t1 (List.mem_of_getElem? (i := 166) rfl) rfl
set_option maxRecDepth 20000 in
theorem mw_224 : (Cond.fieldLink RX8 85 "GrazeBook" "rightCount" "I") ∈ WS := ws_t1 (List.mem_of_getElem? (i := 167) rfl) rfl
set_option maxRecDepth 20000 in
theorem mw_225 : (Cond.fieldLink RX8 88 "GrazeBook" "herdCount" "I") ∈ WS := ws_t1 (List.mem_of_getElem? (i := 168) rfl) rfl
set_option maxRecDepth 20000 in
theorem mw_226 : (Cond.fieldLink RX8 91 "GrazeBook" "day" "I") ∈ WS := ws_t1 (List.mem_of_getElem? (i := 169) rfl) rfl
set_option maxRecDepth 20000 in
theorem mw_227 : (Cond.fieldLink RX8 94 "GrazeBook" "latestOrder" "I") ∈ WS := ws_t1 (List.mem_of_getElem? (i := 170) rfl) rfl
set_option maxRecDepth 20000 in
theorem mw_228 : (Cond.fieldLink RX8 97 "GrazeBook" "lapses" "I") ∈ WS := ws_t1 (List.mem_of_getElem? (i := 171) rfl) rfl
set_option maxRecDepth 20000 in
theorem mw_229 : (Cond.laysFinal "GrazeBook" "GrazeBook" "pieces" "[LGrazeBook$Ground;") ∈ WS := ws_t1 (List.mem_of_getElem? (i := 172) rfl) rfl
set_option maxRecDepth 20000 in
theorem mw_231 : (Cond.laysFinal "GrazeBook" "GrazeBook" "owners" "[LGrazeBook$Purse;") ∈ WS := ws_t1 (List.mem_of_getElem? (i := 174) rfl) rfl
set_option maxRecDepth 20000 in
theorem mw_233 : (Cond.laysFinal "GrazeBook" "GrazeBook" "reeve" "LGrazeBook$Purse;") ∈ WS := ws_t1 (List.mem_of_getElem? (i := 176) rfl) rfl
set_option maxRecDepth 20000 in
theorem mw_235 : (Cond.laysFinal "GrazeBook" "GrazeBook" "houses" "[I") ∈ WS := ws_t1 (List.mem_of_getElem? (i := 178) rfl) rfl
set_option maxRecDepth 20000 in
theorem mw_237 : (Cond.laysFinal "GrazeBook" "GrazeBook" "rights" "[LGrazeBook$Claim;") ∈ WS := ws_t1 (List.mem_of_getElem? (i := 180) rfl) rfl
set_option maxRecDepth 20000 in
theorem mw_239 : (Cond.laysFinal "GrazeBook" "GrazeBook" "herds" "[LGrazeBook$Drove;") ∈ WS := ws_t1 (List.mem_of_getElem? (i := 182) rfl) rfl
set_option maxRecDepth 20000 in
theorem mw_241 : (Cond.laysFinal "GrazeBook" "GrazeBook" "year" "LGrazeBook$Year;") ∈ WS := ws_t1 (List.mem_of_getElem? (i := 184) rfl) rfl
set_option maxRecDepth 20000 in
theorem mw_243 : (Cond.laysFinal "GrazeBook" "GrazeBook" "cover" "LGrazeBook$Cover;") ∈ WS := ws_t1 (List.mem_of_getElem? (i := 186) rfl) rfl
set_option maxRecDepth 20000 in
theorem mw_245 : (Cond.laysFinal "GrazeBook" "GrazeBook" "grazing" "LGrazeBook$Grazing;") ∈ WS := ws_t1 (List.mem_of_getElem? (i := 188) rfl) rfl
set_option maxRecDepth 20000 in
theorem mw_247 : (Cond.laysFinal "GrazeBook" "GrazeBook" "turns" "LGrazeBook$Turns;") ∈ WS := ws_t1 (List.mem_of_getElem? (i := 190) rfl) rfl
set_option maxRecDepth 20000 in
theorem mw_249 : (Cond.laysFinal "GrazeBook" "GrazeBook" "refusals" "[I") ∈ WS := ws_t1 (List.mem_of_getElem? (i := 192) rfl) rfl
set_option maxRecDepth 20000 in
theorem mw_251 : (Cond.lays "GrazeBook" "GrazeBook" "pieceCount" "I") ∈ WS := ws_t1 (List.mem_of_getElem? (i := 194) rfl) rfl
set_option maxRecDepth 20000 in
theorem mw_253 : (Cond.lays "GrazeBook" "GrazeBook" "ownerCount" "I") ∈ WS := ws_t1 (List.mem_of_getElem? (i := 196) rfl) rfl
set_option maxRecDepth 20000 in
theorem mw_255 : (Cond.lays "GrazeBook" "GrazeBook" "houseCount" "I") ∈ WS := ws_t1 (List.mem_of_getElem? (i := 198) rfl) rfl
set_option maxRecDepth 20000 in
theorem mw_257 : (Cond.lays "GrazeBook" "GrazeBook" "rightCount" "I") ∈ WS := ws_t1 (List.mem_of_getElem? (i := 200) rfl) rfl
set_option maxRecDepth 20000 in
theorem mw_259 : (Cond.lays "GrazeBook" "GrazeBook" "herdCount" "I") ∈ WS := ws_t1 (List.mem_of_getElem? (i := 202) rfl) rfl
set_option maxRecDepth 20000 in
theorem mw_261 : (Cond.lays "GrazeBook" "GrazeBook" "day" "I") ∈ WS := ws_t1 (List.mem_of_getElem? (i := 204) rfl) rfl
set_option maxRecDepth 20000 in
theorem mw_263 : (Cond.lays "GrazeBook" "GrazeBook" "latestOrder" "I") ∈ WS := ws_t1 (List.mem_of_getElem? (i := 206) rfl) rfl
set_option maxRecDepth 20000 in
theorem mw_265 : (Cond.lays "GrazeBook" "GrazeBook" "lapses" "I") ∈ WS := ws_t1 (List.mem_of_getElem? (i := 208) rfl) rfl
set_option maxRecDepth 20000 in
theorem mw_269 : (Cond.instanceMethod yX8_piece) ∈ WS := ws_t1 (List.mem_of_getElem? (i := 212) rfl) rfl
set_option maxRecDepth 20000 in
theorem mw_270 : (Cond.selects RX8 yX8_piece yX8_piece) ∈ WS := ws_t1 (List.mem_of_getElem? (i := 213) rfl) rfl
set_option maxRecDepth 20000 in
theorem mw_271 : (Cond.code yX8_piece cX8_piece 5 (some .int)) ∈ WS := ws_t1 (List.mem_of_getElem? (i := 214) rfl) rfl
set_option maxRecDepth 20000 in
theorem mw_272 : (Cond.methodLink RX8 100 yX8_refuse) ∈ WS := ws_t1 (List.mem_of_getElem? (i := 215) rfl) rfl
set_option maxRecDepth 20000 in
theorem mw_274 : (Cond.instanceMethod yX8_refuse) ∈ WS := ws_t1 (List.mem_of_getElem? (i := 217) rfl) rfl
set_option maxRecDepth 20000 in
theorem mw_275 : (Cond.code yX8_refuse cX8_refuse 2 (some .int)) ∈ WS := ws_t1 (List.mem_of_getElem? (i := 218) rfl) rfl
set_option maxRecDepth 20000 in
theorem mw_276 : (Cond.constant RX8 104 (100000)) ∈ WS := ws_t1 (List.mem_of_getElem? (i := 219) rfl) rfl
set_option maxRecDepth 20000 in
theorem mw_277 : (Cond.instantiable RX4 6) ∈ WS := ws_t1 (List.mem_of_getElem? (i := 220) rfl) rfl
set_option maxRecDepth 20000 in
theorem mw_278 : (Cond.methodLink RX8 105 yX4_init) ∈ WS := ws_t1 (List.mem_of_getElem? (i := 221) rfl) rfl
set_option maxRecDepth 20000 in
theorem mw_279 : (Cond.instanceMethod yX4_init) ∈ WS := ws_t1 (List.mem_of_getElem? (i := 222) rfl) rfl
set_option maxRecDepth 20000 in
theorem mw_280 : (Cond.code yX4_init cX4_init 5 none) ∈ WS := ws_t1 (List.mem_of_getElem? (i := 223) rfl) rfl
set_option maxRecDepth 20000 in
theorem mw_281 : (Cond.methodLink RX4 1 objectInit) ∈ WS := ws_t1 (List.mem_of_getElem? (i := 224) rfl) rfl
set_option maxRecDepth 20000 in
theorem mw_282 : (Cond.fieldLink RX4 19 "GrazeBook$Ground" "full" "I") ∈ WS := ws_t1 (List.mem_of_getElem? (i := 225) rfl) rfl
set_option maxRecDepth 20000 in
theorem mw_283 : (Cond.fieldLink RX3 38 "GrazeBook$Ground" "full" "I") ∈ WS := ws_t1 (List.mem_of_getElem? (i := 226) rfl) rfl
set_option maxRecDepth 20000 in
theorem mw_284 : (Cond.fieldLink RX8 247 "GrazeBook$Ground" "full" "I") ∈ WS := ws_t1 (List.mem_of_getElem? (i := 227) rfl) rfl
set_option maxRecDepth 20000 in
theorem mw_285 : (Cond.fieldLink RX4 22 "GrazeBook$Ground" "bears" "I") ∈ WS := ws_t1 (List.mem_of_getElem? (i := 228) rfl) rfl
set_option maxRecDepth 20000 in
theorem mw_286 : (Cond.fieldLink RX8 189 "GrazeBook$Ground" "bears" "I") ∈ WS := ws_t1 (List.mem_of_getElem? (i := 229) rfl) rfl
set_option maxRecDepth 20000 in
theorem mw_287 : (Cond.fieldLink RX4 25 "GrazeBook$Ground" "water" "Z") ∈ WS := ws_t1 (List.mem_of_getElem? (i := 230) rfl) rfl
set_option maxRecDepth 20000 in
theorem mw_288 : (Cond.fieldLink RX3 56 "GrazeBook$Ground" "water" "Z") ∈ WS := ws_t1 (List.mem_of_getElem? (i := 231) rfl) rfl
set_option maxRecDepth 20000 in
theorem mw_289 : (Cond.fieldLink RX4 16 "GrazeBook$Ground" "grass" "I") ∈ WS := ws_t1 (List.mem_of_getElem? (i := 232) rfl) rfl
set_option maxRecDepth 20000 in
theorem mw_290 : (Cond.fieldLink RX8 210 "GrazeBook$Ground" "grass" "I") ∈ WS := ws_t1 (List.mem_of_getElem? (i := 233) rfl) rfl
set_option maxRecDepth 20000 in
theorem mw_291 : (Cond.fieldLink RX4 7 "GrazeBook$Ground" "rest" "I") ∈ WS := ws_t1 (List.mem_of_getElem? (i := 234) rfl) rfl
set_option maxRecDepth 20000 in
theorem mw_292 : (Cond.fieldLink RX8 204 "GrazeBook$Ground" "rest" "I") ∈ WS := ws_t1 (List.mem_of_getElem? (i := 235) rfl) rfl
set_option maxRecDepth 20000 in
theorem mw_293 : (Cond.fieldLink RX4 13 "GrazeBook$Ground" "eaten" "I") ∈ WS := ws_t1 (List.mem_of_getElem? (i := 236) rfl) rfl
set_option maxRecDepth 20000 in
theorem mw_294 : (Cond.fieldLink RX8 250 "GrazeBook$Ground" "eaten" "I") ∈ WS := ws_t1 (List.mem_of_getElem? (i := 237) rfl) rfl
set_option maxRecDepth 20000 in
theorem mw_295 : (Cond.laysFinal "GrazeBook$Ground" "GrazeBook$Ground" "full" "I") ∈ WS := ws_t1 (List.mem_of_getElem? (i := 238) rfl) rfl
set_option maxRecDepth 20000 in
theorem mw_297 : (Cond.laysFinal "GrazeBook$Ground" "GrazeBook$Ground" "bears" "I") ∈ WS := ws_t2 (List.mem_of_getElem? (i := 0) rfl) rfl
set_option maxRecDepth 20000 in
theorem mw_299 : (Cond.laysFinal "GrazeBook$Ground" "GrazeBook$Ground" "water" "Z") ∈ WS := ws_t2 (List.mem_of_getElem? (i := 2) rfl) rfl
set_option maxRecDepth 20000 in
theorem mw_301 : (Cond.lays "GrazeBook$Ground" "GrazeBook$Ground" "grass" "I") ∈ WS := ws_t2 (List.mem_of_getElem? (i := 4) rfl) rfl
set_option maxRecDepth 20000 in
theorem mw_303 : (Cond.lays "GrazeBook$Ground" "GrazeBook$Ground" "rest" "I") ∈ WS := ws_t2 (List.mem_of_getElem? (i := 6) rfl) rfl
set_option maxRecDepth 20000 in
theorem mw_305 : (Cond.lays "GrazeBook$Ground" "GrazeBook$Ground" "eaten" "I") ∈ WS := ws_t2 (List.mem_of_getElem? (i := 8) rfl) rfl
set_option maxRecDepth 20000 in
theorem mw_309 : (Cond.instanceMethod yX8_owner) ∈ WS := ws_t2 (List.mem_of_getElem? (i := 12) rfl) rfl
set_option maxRecDepth 20000 in
theorem mw_310 : (Cond.selects RX8 yX8_owner yX8_owner) ∈ WS := ws_t2 (List.mem_of_getElem? (i := 13) rfl) rfl
set_option maxRecDepth 20000 in
theorem mw_311 : (Cond.code yX8_owner cX8_owner 2 (some .int)) ∈ WS := ws_t2 (List.mem_of_getElem? (i := 14) rfl) rfl
set_option maxRecDepth 20000 in
theorem mw_313 : (Cond.instanceMethod yX8_house) ∈ WS := ws_t2 (List.mem_of_getElem? (i := 16) rfl) rfl
set_option maxRecDepth 20000 in
theorem mw_314 : (Cond.selects RX8 yX8_house yX8_house) ∈ WS := ws_t2 (List.mem_of_getElem? (i := 17) rfl) rfl
set_option maxRecDepth 20000 in
theorem mw_315 : (Cond.code yX8_house cX8_house 2 (some .int)) ∈ WS := ws_t2 (List.mem_of_getElem? (i := 18) rfl) rfl
set_option maxRecDepth 20000 in
theorem mw_316 : (Cond.methodLink RX8 108 yX8_isOwner) ∈ WS := ws_t2 (List.mem_of_getElem? (i := 19) rfl) rfl
set_option maxRecDepth 20000 in
theorem mw_318 : (Cond.instanceMethod yX8_isOwner) ∈ WS := ws_t2 (List.mem_of_getElem? (i := 21) rfl) rfl
set_option maxRecDepth 20000 in
theorem mw_319 : (Cond.code yX8_isOwner cX8_isOwner 2 (some .boolean)) ∈ WS := ws_t2 (List.mem_of_getElem? (i := 22) rfl) rfl
set_option maxRecDepth 20000 in
theorem mw_321 : (Cond.instanceMethod yX8_rate) ∈ WS := ws_t2 (List.mem_of_getElem? (i := 24) rfl) rfl
set_option maxRecDepth 20000 in
theorem mw_322 : (Cond.selects RX8 yX8_rate yX8_rate) ∈ WS := ws_t2 (List.mem_of_getElem? (i := 25) rfl) rfl
set_option maxRecDepth 20000 in
theorem mw_323 : (Cond.code yX8_rate cX8_rate 4 (some .int)) ∈ WS := ws_t2 (List.mem_of_getElem? (i := 26) rfl) rfl
set_option maxRecDepth 20000 in
theorem mw_324 : (Cond.methodLink RX8 112 yX7_isWeather) ∈ WS := ws_t2 (List.mem_of_getElem? (i := 27) rfl) rfl
set_option maxRecDepth 20000 in
theorem mw_325 : (Cond.static yX7_isWeather) ∈ WS := ws_t2 (List.mem_of_getElem? (i := 28) rfl) rfl
set_option maxRecDepth 20000 in
theorem mw_326 : (Cond.code yX7_isWeather cX7_isWeather 2 (some .boolean)) ∈ WS := ws_t2 (List.mem_of_getElem? (i := 29) rfl) rfl
set_option maxRecDepth 20000 in
theorem mw_327 : (Cond.methodLink RX8 116 yX7_changeRate) ∈ WS := ws_t2 (List.mem_of_getElem? (i := 30) rfl) rfl
set_option maxRecDepth 20000 in
theorem mw_328 : (Cond.instanceMethod yX7_changeRate) ∈ WS := ws_t2 (List.mem_of_getElem? (i := 31) rfl) rfl
set_option maxRecDepth 20000 in
theorem mw_329 : (Cond.selects RX7 yX7_changeRate yX7_changeRate) ∈ WS := ws_t2 (List.mem_of_getElem? (i := 32) rfl) rfl
set_option maxRecDepth 20000 in
theorem mw_330 : (Cond.code yX7_changeRate cX7_changeRate 5 (some .int)) ∈ WS := ws_t2 (List.mem_of_getElem? (i := 33) rfl) rfl
set_option maxRecDepth 20000 in
theorem mw_331 : (Cond.methodLink RX7 18 yX7_isWeather) ∈ WS := ws_t2 (List.mem_of_getElem? (i := 34) rfl) rfl
set_option maxRecDepth 20000 in
theorem mw_333 : (Cond.instanceMethod yX8_weather) ∈ WS := ws_t2 (List.mem_of_getElem? (i := 36) rfl) rfl
set_option maxRecDepth 20000 in
theorem mw_334 : (Cond.selects RX8 yX8_weather yX8_weather) ∈ WS := ws_t2 (List.mem_of_getElem? (i := 37) rfl) rfl
set_option maxRecDepth 20000 in
theorem mw_335 : (Cond.code yX8_weather cX8_weather 4 (some .int)) ∈ WS := ws_t2 (List.mem_of_getElem? (i := 38) rfl) rfl
set_option maxRecDepth 20000 in
theorem mw_336 : (Cond.methodLink RX8 120 yX7_changeWeather) ∈ WS := ws_t2 (List.mem_of_getElem? (i := 39) rfl) rfl
set_option maxRecDepth 20000 in
theorem mw_337 : (Cond.instanceMethod yX7_changeWeather) ∈ WS := ws_t2 (List.mem_of_getElem? (i := 40) rfl) rfl
set_option maxRecDepth 20000 in
theorem mw_338 : (Cond.selects RX7 yX7_changeWeather yX7_changeWeather) ∈ WS := ws_t2 (List.mem_of_getElem? (i := 41) rfl) rfl
set_option maxRecDepth 20000 in
theorem mw_339 : (Cond.code yX7_changeWeather cX7_changeWeather 4 none) ∈ WS := ws_t2 (List.mem_of_getElem? (i := 42) rfl) rfl
set_option maxRecDepth 20000 in
theorem mw_341 : (Cond.instanceMethod yX8_right) ∈ WS := ws_t2 (List.mem_of_getElem? (i := 44) rfl) rfl
set_option maxRecDepth 20000 in
theorem mw_342 : (Cond.selects RX8 yX8_right yX8_right) ∈ WS := ws_t2 (List.mem_of_getElem? (i := 45) rfl) rfl
set_option maxRecDepth 20000 in
theorem mw_343 : (Cond.code yX8_right cX8_right 6 (some .int)) ∈ WS := ws_t2 (List.mem_of_getElem? (i := 46) rfl) rfl
set_option maxRecDepth 20000 in
theorem mw_344 : (Cond.methodLink RX8 124 yX8_isHouse) ∈ WS := ws_t2 (List.mem_of_getElem? (i := 47) rfl) rfl
set_option maxRecDepth 20000 in
theorem mw_346 : (Cond.instanceMethod yX8_isHouse) ∈ WS := ws_t2 (List.mem_of_getElem? (i := 49) rfl) rfl
set_option maxRecDepth 20000 in
theorem mw_347 : (Cond.code yX8_isHouse cX8_isHouse 2 (some .boolean)) ∈ WS := ws_t2 (List.mem_of_getElem? (i := 50) rfl) rfl
set_option maxRecDepth 20000 in
theorem mw_348 : (Cond.methodLink RX8 127 yX8_isPiece) ∈ WS := ws_t2 (List.mem_of_getElem? (i := 51) rfl) rfl
set_option maxRecDepth 20000 in
theorem mw_350 : (Cond.instanceMethod yX8_isPiece) ∈ WS := ws_t2 (List.mem_of_getElem? (i := 53) rfl) rfl
set_option maxRecDepth 20000 in
theorem mw_351 : (Cond.code yX8_isPiece cX8_isPiece 2 (some .boolean)) ∈ WS := ws_t2 (List.mem_of_getElem? (i := 54) rfl) rfl
set_option maxRecDepth 20000 in
theorem mw_352 : (Cond.instantiable RX0 9) ∈ WS := ws_t2 (List.mem_of_getElem? (i := 55) rfl) rfl
set_option maxRecDepth 20000 in
theorem mw_353 : (Cond.methodLink RX8 130 yX0_init) ∈ WS := ws_t2 (List.mem_of_getElem? (i := 56) rfl) rfl
set_option maxRecDepth 20000 in
theorem mw_354 : (Cond.instanceMethod yX0_init) ∈ WS := ws_t2 (List.mem_of_getElem? (i := 57) rfl) rfl
set_option maxRecDepth 20000 in
theorem mw_355 : (Cond.code yX0_init cX0_init 8 none) ∈ WS := ws_t2 (List.mem_of_getElem? (i := 58) rfl) rfl
set_option maxRecDepth 20000 in
theorem mw_356 : (Cond.methodLink RX0 3 objectInit) ∈ WS := ws_t2 (List.mem_of_getElem? (i := 59) rfl) rfl
set_option maxRecDepth 20000 in
theorem mw_357 : (Cond.fieldLink RX0 19 "GrazeBook$Claim" "kind" "I") ∈ WS := ws_t2 (List.mem_of_getElem? (i := 60) rfl) rfl
set_option maxRecDepth 20000 in
theorem mw_358 : (Cond.fieldLink RX1 40 "GrazeBook$Claim" "kind" "I") ∈ WS := ws_t2 (List.mem_of_getElem? (i := 61) rfl) rfl
set_option maxRecDepth 20000 in
theorem mw_359 : (Cond.fieldLink RX8 140 "GrazeBook$Claim" "kind" "I") ∈ WS := ws_t2 (List.mem_of_getElem? (i := 62) rfl) rfl
set_option maxRecDepth 20000 in
theorem mw_360 : (Cond.fieldLink RX0 25 "GrazeBook$Claim" "parts" "I") ∈ WS := ws_t2 (List.mem_of_getElem? (i := 63) rfl) rfl
set_option maxRecDepth 20000 in
theorem mw_361 : (Cond.fieldLink RX8 309 "GrazeBook$Claim" "parts" "I") ∈ WS := ws_t2 (List.mem_of_getElem? (i := 64) rfl) rfl
set_option maxRecDepth 20000 in
theorem mw_362 : (Cond.fieldLink RX0 28 "GrazeBook$Claim" "first" "I") ∈ WS := ws_t2 (List.mem_of_getElem? (i := 65) rfl) rfl
set_option maxRecDepth 20000 in
theorem mw_363 : (Cond.fieldLink RX8 259 "GrazeBook$Claim" "first" "I") ∈ WS := ws_t2 (List.mem_of_getElem? (i := 66) rfl) rfl
set_option maxRecDepth 20000 in
theorem mw_364 : (Cond.fieldLink RX0 31 "GrazeBook$Claim" "last" "I") ∈ WS := ws_t2 (List.mem_of_getElem? (i := 67) rfl) rfl
set_option maxRecDepth 20000 in
theorem mw_365 : (Cond.fieldLink RX8 149 "GrazeBook$Claim" "last" "I") ∈ WS := ws_t2 (List.mem_of_getElem? (i := 68) rfl) rfl
set_option maxRecDepth 20000 in
theorem mw_366 : (Cond.fieldLink RX0 34 "GrazeBook$Claim" "piece" "I") ∈ WS := ws_t2 (List.mem_of_getElem? (i := 69) rfl) rfl
set_option maxRecDepth 20000 in
theorem mw_367 : (Cond.fieldLink RX1 45 "GrazeBook$Claim" "piece" "I") ∈ WS := ws_t2 (List.mem_of_getElem? (i := 70) rfl) rfl
set_option maxRecDepth 20000 in
theorem mw_368 : (Cond.fieldLink RX0 37 "GrazeBook$Claim" "source" "I") ∈ WS := ws_t2 (List.mem_of_getElem? (i := 71) rfl) rfl
set_option maxRecDepth 20000 in
theorem mw_369 : (Cond.fieldLink RX8 266 "GrazeBook$Claim" "source" "I") ∈ WS := ws_t2 (List.mem_of_getElem? (i := 72) rfl) rfl
set_option maxRecDepth 20000 in
theorem mw_370 : (Cond.fieldLink RX0 22 "GrazeBook$Claim" "who" "I") ∈ WS := ws_t2 (List.mem_of_getElem? (i := 73) rfl) rfl
set_option maxRecDepth 20000 in
theorem mw_371 : (Cond.fieldLink RX8 152 "GrazeBook$Claim" "who" "I") ∈ WS := ws_t2 (List.mem_of_getElem? (i := 74) rfl) rfl
set_option maxRecDepth 20000 in
theorem mw_372 : (Cond.fieldLink RX0 9 "GrazeBook$Claim" "usedOn" "I") ∈ WS := ws_t2 (List.mem_of_getElem? (i := 75) rfl) rfl
set_option maxRecDepth 20000 in
theorem mw_373 : (Cond.fieldLink RX8 269 "GrazeBook$Claim" "usedOn" "I") ∈ WS := ws_t2 (List.mem_of_getElem? (i := 76) rfl) rfl
set_option maxRecDepth 20000 in
theorem mw_374 : (Cond.fieldLink RX0 15 "GrazeBook$Claim" "gone" "Z") ∈ WS := ws_t2 (List.mem_of_getElem? (i := 77) rfl) rfl
set_option maxRecDepth 20000 in
theorem mw_375 : (Cond.fieldLink RX8 262 "GrazeBook$Claim" "gone" "Z") ∈ WS := ws_t2 (List.mem_of_getElem? (i := 78) rfl) rfl
set_option maxRecDepth 20000 in
theorem mw_376 : (Cond.laysFinal "GrazeBook$Claim" "GrazeBook$Claim" "kind" "I") ∈ WS := ws_t2 (List.mem_of_getElem? (i := 79) rfl) rfl
set_option maxRecDepth 20000 in
theorem mw_378 : (Cond.laysFinal "GrazeBook$Claim" "GrazeBook$Claim" "parts" "I") ∈ WS := ws_t2 (List.mem_of_getElem? (i := 81) rfl) rfl
set_option maxRecDepth 20000 in
theorem mw_380 : (Cond.laysFinal "GrazeBook$Claim" "GrazeBook$Claim" "first" "I") ∈ WS := ws_t2 (List.mem_of_getElem? (i := 83) rfl) rfl
set_option maxRecDepth 20000 in
theorem mw_382 : (Cond.laysFinal "GrazeBook$Claim" "GrazeBook$Claim" "last" "I") ∈ WS := ws_t2 (List.mem_of_getElem? (i := 85) rfl) rfl
set_option maxRecDepth 20000 in
theorem mw_384 : (Cond.laysFinal "GrazeBook$Claim" "GrazeBook$Claim" "piece" "I") ∈ WS := ws_t2 (List.mem_of_getElem? (i := 87) rfl) rfl
set_option maxRecDepth 20000 in
theorem mw_386 : (Cond.laysFinal "GrazeBook$Claim" "GrazeBook$Claim" "source" "I") ∈ WS := ws_t2 (List.mem_of_getElem? (i := 89) rfl) rfl
set_option maxRecDepth 20000 in
theorem mw_388 : (Cond.lays "GrazeBook$Claim" "GrazeBook$Claim" "who" "I") ∈ WS := ws_t2 (List.mem_of_getElem? (i := 91) rfl) rfl
set_option maxRecDepth 20000 in
theorem mw_390 : (Cond.lays "GrazeBook$Claim" "GrazeBook$Claim" "usedOn" "I") ∈ WS := ws_t2 (List.mem_of_getElem? (i := 93) rfl) rfl
set_option maxRecDepth 20000 in
theorem mw_392 : (Cond.lays "GrazeBook$Claim" "GrazeBook$Claim" "gone" "Z") ∈ WS := ws_t2 (List.mem_of_getElem? (i := 95) rfl) rfl
set_option maxRecDepth 20000 in
theorem mw_395 : (Cond.methodLink RX8 133 yX8_addRight) ∈ WS := ws_t2 (List.mem_of_getElem? (i := 98) rfl) rfl
set_option maxRecDepth 20000 in
theorem mw_397 : (Cond.instanceMethod yX8_addRight) ∈ WS := ws_t2 (List.mem_of_getElem? (i := 100) rfl) rfl
set_option maxRecDepth 20000 in
theorem mw_398 : (Cond.code yX8_addRight cX8_addRight 2 (some .int)) ∈ WS := ws_t2 (List.mem_of_getElem? (i := 101) rfl) rfl
set_option maxRecDepth 20000 in
theorem mw_400 : (Cond.instanceMethod yX8_lend) ∈ WS := ws_t2 (List.mem_of_getElem? (i := 103) rfl) rfl
set_option maxRecDepth 20000 in
theorem mw_401 : (Cond.selects RX8 yX8_lend yX8_lend) ∈ WS := ws_t2 (List.mem_of_getElem? (i := 104) rfl) rfl
set_option maxRecDepth 20000 in
theorem mw_402 : (Cond.code yX8_lend cX8_lend 5 (some .int)) ∈ WS := ws_t2 (List.mem_of_getElem? (i := 105) rfl) rfl
set_option maxRecDepth 20000 in
theorem mw_403 : (Cond.methodLink RX8 137 yX8_canPass) ∈ WS := ws_t2 (List.mem_of_getElem? (i := 106) rfl) rfl
set_option maxRecDepth 20000 in
theorem mw_405 : (Cond.instanceMethod yX8_canPass) ∈ WS := ws_t2 (List.mem_of_getElem? (i := 108) rfl) rfl
set_option maxRecDepth 20000 in
theorem mw_406 : (Cond.code yX8_canPass cX8_canPass 3 (some .boolean)) ∈ WS := ws_t2 (List.mem_of_getElem? (i := 109) rfl) rfl
set_option maxRecDepth 20000 in
theorem mw_407 : (Cond.methodLink RX8 253 yX8_isRight) ∈ WS := ws_t2 (List.mem_of_getElem? (i := 110) rfl) rfl
set_option maxRecDepth 20000 in
theorem mw_409 : (Cond.instanceMethod yX8_isRight) ∈ WS := ws_t2 (List.mem_of_getElem? (i := 112) rfl) rfl
set_option maxRecDepth 20000 in
theorem mw_410 : (Cond.code yX8_isRight cX8_isRight 2 (some .boolean)) ∈ WS := ws_t2 (List.mem_of_getElem? (i := 113) rfl) rfl
set_option maxRecDepth 20000 in
theorem mw_411 : (Cond.methodLink RX8 256 yX8_holder) ∈ WS := ws_t2 (List.mem_of_getElem? (i := 114) rfl) rfl
set_option maxRecDepth 20000 in
theorem mw_413 : (Cond.instanceMethod yX8_holder) ∈ WS := ws_t2 (List.mem_of_getElem? (i := 116) rfl) rfl
set_option maxRecDepth 20000 in
theorem mw_414 : (Cond.code yX8_holder cX8_holder 2 (some .int)) ∈ WS := ws_t2 (List.mem_of_getElem? (i := 117) rfl) rfl
set_option maxRecDepth 20000 in
theorem mw_415 : (Cond.methodLink RX8 143 yX0_isInForce) ∈ WS := ws_t2 (List.mem_of_getElem? (i := 118) rfl) rfl
set_option maxRecDepth 20000 in
theorem mw_416 : (Cond.instanceMethod yX0_isInForce) ∈ WS := ws_t2 (List.mem_of_getElem? (i := 119) rfl) rfl
set_option maxRecDepth 20000 in
theorem mw_417 : (Cond.selects RX0 yX0_isInForce yX0_isInForce) ∈ WS := ws_t2 (List.mem_of_getElem? (i := 120) rfl) rfl
set_option maxRecDepth 20000 in
theorem mw_418 : (Cond.code yX0_isInForce cX0_isInForce 2 (some .boolean)) ∈ WS := ws_t2 (List.mem_of_getElem? (i := 121) rfl) rfl
set_option maxRecDepth 20000 in
theorem mw_419 : (Cond.methodLink RX8 146 yX8_countingParts) ∈ WS := ws_t2 (List.mem_of_getElem? (i := 122) rfl) rfl
set_option maxRecDepth 20000 in
theorem mw_421 : (Cond.instanceMethod yX8_countingParts) ∈ WS := ws_t2 (List.mem_of_getElem? (i := 124) rfl) rfl
set_option maxRecDepth 20000 in
theorem mw_422 : (Cond.code yX8_countingParts cX8_countingParts 4 (some .int)) ∈ WS := ws_t2 (List.mem_of_getElem? (i := 125) rfl) rfl
set_option maxRecDepth 20000 in
theorem mw_424 : (Cond.instanceMethod yX8_sell) ∈ WS := ws_t2 (List.mem_of_getElem? (i := 127) rfl) rfl
set_option maxRecDepth 20000 in
theorem mw_425 : (Cond.selects RX8 yX8_sell yX8_sell) ∈ WS := ws_t2 (List.mem_of_getElem? (i := 128) rfl) rfl
set_option maxRecDepth 20000 in
theorem mw_426 : (Cond.code yX8_sell cX8_sell 3 (some .int)) ∈ WS := ws_t2 (List.mem_of_getElem? (i := 129) rfl) rfl
set_option maxRecDepth 20000 in
theorem mw_428 : (Cond.instanceMethod yX8_move) ∈ WS := ws_t2 (List.mem_of_getElem? (i := 131) rfl) rfl
set_option maxRecDepth 20000 in
theorem mw_429 : (Cond.selects RX8 yX8_move yX8_move) ∈ WS := ws_t2 (List.mem_of_getElem? (i := 132) rfl) rfl
set_option maxRecDepth 20000 in
theorem mw_430 : (Cond.code yX8_move cX8_move 3 (some .int)) ∈ WS := ws_t2 (List.mem_of_getElem? (i := 133) rfl) rfl
set_option maxRecDepth 20000 in
theorem mw_432 : (Cond.instanceMethod yX8_herd) ∈ WS := ws_t2 (List.mem_of_getElem? (i := 135) rfl) rfl
set_option maxRecDepth 20000 in
theorem mw_433 : (Cond.selects RX8 yX8_herd yX8_herd) ∈ WS := ws_t2 (List.mem_of_getElem? (i := 136) rfl) rfl
set_option maxRecDepth 20000 in
theorem mw_434 : (Cond.code yX8_herd cX8_herd 4 (some .int)) ∈ WS := ws_t2 (List.mem_of_getElem? (i := 137) rfl) rfl
set_option maxRecDepth 20000 in
theorem mw_435 : (Cond.instantiable RX2 8) ∈ WS := ws_t2 (List.mem_of_getElem? (i := 138) rfl) rfl
set_option maxRecDepth 20000 in
theorem mw_436 : (Cond.methodLink RX8 155 yX2_init) ∈ WS := ws_t2 (List.mem_of_getElem? (i := 139) rfl) rfl
set_option maxRecDepth 20000 in
theorem mw_437 : (Cond.instanceMethod yX2_init) ∈ WS := ws_t2 (List.mem_of_getElem? (i := 140) rfl) rfl
set_option maxRecDepth 20000 in
theorem mw_438 : (Cond.code yX2_init cX2_init 4 none) ∈ WS := ws_t2 (List.mem_of_getElem? (i := 141) rfl) rfl
set_option maxRecDepth 20000 in
theorem mw_439 : (Cond.methodLink RX2 3 objectInit) ∈ WS := ws_t2 (List.mem_of_getElem? (i := 142) rfl) rfl
set_option maxRecDepth 20000 in
theorem mw_440 : (Cond.fieldLink RX2 27 "GrazeBook$Drove" "owner" "I") ∈ WS := ws_t2 (List.mem_of_getElem? (i := 143) rfl) rfl
set_option maxRecDepth 20000 in
theorem mw_441 : (Cond.fieldLink RX8 169 "GrazeBook$Drove" "owner" "I") ∈ WS := ws_t2 (List.mem_of_getElem? (i := 144) rfl) rfl
set_option maxRecDepth 20000 in
theorem mw_442 : (Cond.fieldLink RX2 30 "GrazeBook$Drove" "sort" "I") ∈ WS := ws_t2 (List.mem_of_getElem? (i := 145) rfl) rfl
set_option maxRecDepth 20000 in
theorem mw_443 : (Cond.fieldLink RX1 33 "GrazeBook$Drove" "sort" "I") ∈ WS := ws_t2 (List.mem_of_getElem? (i := 146) rfl) rfl
set_option maxRecDepth 20000 in
theorem mw_444 : (Cond.fieldLink RX0 43 "GrazeBook$Drove" "sort" "I") ∈ WS := ws_t2 (List.mem_of_getElem? (i := 147) rfl) rfl
set_option maxRecDepth 20000 in
theorem mw_445 : (Cond.fieldLink RX8 272 "GrazeBook$Drove" "sort" "I") ∈ WS := ws_t2 (List.mem_of_getElem? (i := 148) rfl) rfl
set_option maxRecDepth 20000 in
theorem mw_446 : (Cond.fieldLink RX2 33 "GrazeBook$Drove" "beasts" "I") ∈ WS := ws_t2 (List.mem_of_getElem? (i := 149) rfl) rfl
set_option maxRecDepth 20000 in
theorem mw_447 : (Cond.fieldLink RX8 275 "GrazeBook$Drove" "beasts" "I") ∈ WS := ws_t2 (List.mem_of_getElem? (i := 150) rfl) rfl
set_option maxRecDepth 20000 in
theorem mw_448 : (Cond.fieldLink RX2 9 "GrazeBook$Drove" "piece" "I") ∈ WS := ws_t2 (List.mem_of_getElem? (i := 151) rfl) rfl
set_option maxRecDepth 20000 in
theorem mw_449 : (Cond.fieldLink RX1 28 "GrazeBook$Drove" "piece" "I") ∈ WS := ws_t2 (List.mem_of_getElem? (i := 152) rfl) rfl
set_option maxRecDepth 20000 in
theorem mw_450 : (Cond.fieldLink RX0 40 "GrazeBook$Drove" "piece" "I") ∈ WS := ws_t2 (List.mem_of_getElem? (i := 153) rfl) rfl
set_option maxRecDepth 20000 in
theorem mw_451 : (Cond.fieldLink RX8 163 "GrazeBook$Drove" "piece" "I") ∈ WS := ws_t2 (List.mem_of_getElem? (i := 154) rfl) rfl
set_option maxRecDepth 20000 in
theorem mw_452 : (Cond.fieldLink RX2 15 "GrazeBook$Drove" "order" "I") ∈ WS := ws_t2 (List.mem_of_getElem? (i := 155) rfl) rfl
set_option maxRecDepth 20000 in
theorem mw_453 : (Cond.fieldLink RX8 175 "GrazeBook$Drove" "order" "I") ∈ WS := ws_t2 (List.mem_of_getElem? (i := 156) rfl) rfl
set_option maxRecDepth 20000 in
theorem mw_454 : (Cond.fieldLink RX2 18 "GrazeBook$Drove" "hunger" "I") ∈ WS := ws_t2 (List.mem_of_getElem? (i := 157) rfl) rfl
set_option maxRecDepth 20000 in
theorem mw_455 : (Cond.fieldLink RX8 278 "GrazeBook$Drove" "hunger" "I") ∈ WS := ws_t2 (List.mem_of_getElem? (i := 158) rfl) rfl
set_option maxRecDepth 20000 in
theorem mw_456 : (Cond.fieldLink RX2 21 "GrazeBook$Drove" "state" "I") ∈ WS := ws_t2 (List.mem_of_getElem? (i := 159) rfl) rfl
set_option maxRecDepth 20000 in
theorem mw_457 : (Cond.fieldLink RX8 160 "GrazeBook$Drove" "state" "I") ∈ WS := ws_t2 (List.mem_of_getElem? (i := 160) rfl) rfl
set_option maxRecDepth 20000 in
theorem mw_458 : (Cond.fieldLink RX2 24 "GrazeBook$Drove" "poundedOn" "I") ∈ WS := ws_t2 (List.mem_of_getElem? (i := 161) rfl) rfl
set_option maxRecDepth 20000 in
theorem mw_459 : (Cond.fieldLink RX8 222 "GrazeBook$Drove" "poundedOn" "I") ∈ WS := ws_t2 (List.mem_of_getElem? (i := 162) rfl) rfl
set_option maxRecDepth 20000 in
theorem mw_460 : (Cond.laysFinal "GrazeBook$Drove" "GrazeBook$Drove" "owner" "I") ∈ WS := ws_t2 (List.mem_of_getElem? (i := 163) rfl) rfl
set_option maxRecDepth 20000 in
theorem mw_462 : (Cond.laysFinal "GrazeBook$Drove" "GrazeBook$Drove" "sort" "I") ∈ WS := ws_t2 (List.mem_of_getElem? (i := 165) rfl) rfl
set_option maxRecDepth 20000 in
theorem mw_464 : (Cond.laysFinal "GrazeBook$Drove" "GrazeBook$Drove" "beasts" "I") ∈ WS := ws_t2 (List.mem_of_getElem? (i := 167) rfl) rfl
set_option maxRecDepth 20000 in
theorem mw_466 : (Cond.lays "GrazeBook$Drove" "GrazeBook$Drove" "piece" "I") ∈ WS := ws_t2 (List.mem_of_getElem? (i := 169) rfl) rfl
set_option maxRecDepth 20000 in
theorem mw_468 : (Cond.lays "GrazeBook$Drove" "GrazeBook$Drove" "order" "I") ∈ WS := ws_t2 (List.mem_of_getElem? (i := 171) rfl) rfl
set_option maxRecDepth 20000 in
theorem mw_470 : (Cond.lays "GrazeBook$Drove" "GrazeBook$Drove" "hunger" "I") ∈ WS := ws_t2 (List.mem_of_getElem? (i := 173) rfl) rfl
set_option maxRecDepth 20000 in
theorem mw_472 : (Cond.lays "GrazeBook$Drove" "GrazeBook$Drove" "state" "I") ∈ WS := ws_t2 (List.mem_of_getElem? (i := 175) rfl) rfl
set_option maxRecDepth 20000 in
theorem mw_474 : (Cond.lays "GrazeBook$Drove" "GrazeBook$Drove" "poundedOn" "I") ∈ WS := ws_t2 (List.mem_of_getElem? (i := 177) rfl) rfl
set_option maxRecDepth 20000 in
theorem mw_478 : (Cond.instanceMethod yX8_put) ∈ WS := ws_t2 (List.mem_of_getElem? (i := 181) rfl) rfl
set_option maxRecDepth 20000 in
theorem mw_479 : (Cond.selects RX8 yX8_put yX8_put) ∈ WS := ws_t2 (List.mem_of_getElem? (i := 182) rfl) rfl
set_option maxRecDepth 20000 in
theorem mw_480 : (Cond.code yX8_put cX8_put 4 (some .int)) ∈ WS := ws_t2 (List.mem_of_getElem? (i := 183) rfl) rfl
set_option maxRecDepth 20000 in
theorem mw_481 : (Cond.methodLink RX8 157 yX8_isHerd) ∈ WS := ws_t2 (List.mem_of_getElem? (i := 184) rfl) rfl
set_option maxRecDepth 20000 in
theorem mw_483 : (Cond.instanceMethod yX8_isHerd) ∈ WS := ws_t2 (List.mem_of_getElem? (i := 186) rfl) rfl
set_option maxRecDepth 20000 in
theorem mw_484 : (Cond.code yX8_isHerd cX8_isHerd 2 (some .boolean)) ∈ WS := ws_t2 (List.mem_of_getElem? (i := 187) rfl) rfl
set_option maxRecDepth 20000 in
theorem mw_485 : (Cond.methodLink RX8 166 yX4_restsOn) ∈ WS := ws_t2 (List.mem_of_getElem? (i := 188) rfl) rfl
set_option maxRecDepth 20000 in
theorem mw_486 : (Cond.instanceMethod yX4_restsOn) ∈ WS := ws_t2 (List.mem_of_getElem? (i := 189) rfl) rfl
set_option maxRecDepth 20000 in
theorem mw_487 : (Cond.selects RX4 yX4_restsOn yX4_restsOn) ∈ WS := ws_t2 (List.mem_of_getElem? (i := 190) rfl) rfl
set_option maxRecDepth 20000 in
theorem mw_488 : (Cond.code yX4_restsOn cX4_restsOn 2 (some .boolean)) ∈ WS := ws_t2 (List.mem_of_getElem? (i := 191) rfl) rfl
set_option maxRecDepth 20000 in
theorem mw_489 : (Cond.methodLink RX8 172 yX8_lackOf) ∈ WS := ws_t2 (List.mem_of_getElem? (i := 192) rfl) rfl
set_option maxRecDepth 20000 in
theorem mw_491 : (Cond.instanceMethod yX8_lackOf) ∈ WS := ws_t2 (List.mem_of_getElem? (i := 194) rfl) rfl
set_option maxRecDepth 20000 in
theorem mw_492 : (Cond.code yX8_lackOf cX8_lackOf 2 (some .int)) ∈ WS := ws_t2 (List.mem_of_getElem? (i := 195) rfl) rfl
set_option maxRecDepth 20000 in
theorem mw_493 : (Cond.methodLink RX8 284 yX8_coverOf) ∈ WS := ws_t2 (List.mem_of_getElem? (i := 196) rfl) rfl
set_option maxRecDepth 20000 in
theorem mw_495 : (Cond.instanceMethod yX8_coverOf) ∈ WS := ws_t2 (List.mem_of_getElem? (i := 198) rfl) rfl
set_option maxRecDepth 20000 in
theorem mw_496 : (Cond.code yX8_coverOf cX8_coverOf 3 (some (.object "GrazeBook$Cover"))) ∈ WS := ws_t2 (List.mem_of_getElem? (i := 199) rfl) rfl
set_option maxRecDepth 20000 in
theorem mw_497 : (Cond.methodLink RX8 311 yX1_clear) ∈ WS := ws_t2 (List.mem_of_getElem? (i := 200) rfl) rfl
set_option maxRecDepth 20000 in
theorem mw_498 : (Cond.instanceMethod yX1_clear) ∈ WS := ws_t2 (List.mem_of_getElem? (i := 201) rfl) rfl
set_option maxRecDepth 20000 in
theorem mw_499 : (Cond.selects RX1 yX1_clear yX1_clear) ∈ WS := ws_t2 (List.mem_of_getElem? (i := 202) rfl) rfl
set_option maxRecDepth 20000 in
theorem mw_500 : (Cond.code yX1_clear cX1_clear 2 none) ∈ WS := ws_t2 (List.mem_of_getElem? (i := 203) rfl) rfl
set_option maxRecDepth 20000 in
theorem mw_501 : (Cond.methodLink RX8 314 yX1_addHerd) ∈ WS := ws_t2 (List.mem_of_getElem? (i := 204) rfl) rfl
set_option maxRecDepth 20000 in
theorem mw_502 : (Cond.instanceMethod yX1_addHerd) ∈ WS := ws_t2 (List.mem_of_getElem? (i := 205) rfl) rfl
set_option maxRecDepth 20000 in
theorem mw_503 : (Cond.selects RX1 yX1_addHerd yX1_addHerd) ∈ WS := ws_t2 (List.mem_of_getElem? (i := 206) rfl) rfl
set_option maxRecDepth 20000 in
theorem mw_504 : (Cond.code yX1_addHerd cX1_addHerd 2 none) ∈ WS := ws_t2 (List.mem_of_getElem? (i := 207) rfl) rfl
set_option maxRecDepth 20000 in
theorem mw_505 : (Cond.methodLink RX1 36 yX2_parts) ∈ WS := ws_t2 (List.mem_of_getElem? (i := 208) rfl) rfl
set_option maxRecDepth 20000 in
theorem mw_506 : (Cond.instanceMethod yX2_parts) ∈ WS := ws_t2 (List.mem_of_getElem? (i := 209) rfl) rfl
set_option maxRecDepth 20000 in
theorem mw_507 : (Cond.selects RX2 yX2_parts yX2_parts) ∈ WS := ws_t2 (List.mem_of_getElem? (i := 210) rfl) rfl
set_option maxRecDepth 20000 in
theorem mw_508 : (Cond.code yX2_parts cX2_parts 1 (some .int)) ∈ WS := ws_t2 (List.mem_of_getElem? (i := 211) rfl) rfl
set_option maxRecDepth 20000 in
theorem mw_511 : (Cond.methodLink RX8 318 yX1_addRight) ∈ WS := ws_t2 (List.mem_of_getElem? (i := 214) rfl) rfl
set_option maxRecDepth 20000 in
theorem mw_512 : (Cond.instanceMethod yX1_addRight) ∈ WS := ws_t2 (List.mem_of_getElem? (i := 215) rfl) rfl
set_option maxRecDepth 20000 in
theorem mw_513 : (Cond.selects RX1 yX1_addRight yX1_addRight) ∈ WS := ws_t2 (List.mem_of_getElem? (i := 216) rfl) rfl
set_option maxRecDepth 20000 in
theorem mw_514 : (Cond.code yX1_addRight cX1_addRight 3 none) ∈ WS := ws_t2 (List.mem_of_getElem? (i := 217) rfl) rfl
set_option maxRecDepth 20000 in
theorem mw_515 : (Cond.methodLink RX8 321 yX1_lack) ∈ WS := ws_t2 (List.mem_of_getElem? (i := 218) rfl) rfl
set_option maxRecDepth 20000 in
theorem mw_516 : (Cond.instanceMethod yX1_lack) ∈ WS := ws_t2 (List.mem_of_getElem? (i := 219) rfl) rfl
set_option maxRecDepth 20000 in
theorem mw_517 : (Cond.selects RX1 yX1_lack yX1_lack) ∈ WS := ws_t2 (List.mem_of_getElem? (i := 220) rfl) rfl
set_option maxRecDepth 20000 in
theorem mw_518 : (Cond.code yX1_lack cX1_lack 5 (some .int)) ∈ WS := ws_t2 (List.mem_of_getElem? (i := 221) rfl) rfl
set_option maxRecDepth 20000 in
theorem mw_519 : (Cond.methodLink RX1 46 Lib.Math.max.name) ∈ WS := ws_t2 (List.mem_of_getElem? (i := 222) rfl) rfl
set_option maxRecDepth 20000 in
theorem mw_520 : (Cond.static Lib.Math.max.name) ∈ WS := ws_t2 (List.mem_of_getElem? (i := 223) rfl) rfl
set_option maxRecDepth 20000 in
theorem mw_521 : (Cond.code Lib.Math.max.name Lib.Math.max.code 2 (some .int)) ∈ WS := ws_t2 (List.mem_of_getElem? (i := 224) rfl) rfl
set_option maxRecDepth 20000 in
theorem mw_523 : (Cond.instanceMethod yX8_drive) ∈ WS := ws_t2 (List.mem_of_getElem? (i := 226) rfl) rfl
set_option maxRecDepth 20000 in
theorem mw_524 : (Cond.selects RX8 yX8_drive yX8_drive) ∈ WS := ws_t2 (List.mem_of_getElem? (i := 227) rfl) rfl
set_option maxRecDepth 20000 in
theorem mw_525 : (Cond.code yX8_drive cX8_drive 5 (some .int)) ∈ WS := ws_t2 (List.mem_of_getElem? (i := 228) rfl) rfl
set_option maxRecDepth 20000 in
theorem mw_527 : (Cond.instanceMethod yX8_covered) ∈ WS := ws_t2 (List.mem_of_getElem? (i := 230) rfl) rfl
set_option maxRecDepth 20000 in
theorem mw_528 : (Cond.selects RX8 yX8_covered yX8_covered) ∈ WS := ws_t2 (List.mem_of_getElem? (i := 231) rfl) rfl
set_option maxRecDepth 20000 in
theorem mw_529 : (Cond.code yX8_covered cX8_covered 2 (some .int)) ∈ WS := ws_t2 (List.mem_of_getElem? (i := 232) rfl) rfl
set_option maxRecDepth 20000 in
theorem mw_531 : (Cond.instanceMethod yX8_lacks) ∈ WS := ws_t2 (List.mem_of_getElem? (i := 234) rfl) rfl
set_option maxRecDepth 20000 in
theorem mw_532 : (Cond.selects RX8 yX8_lacks yX8_lacks) ∈ WS := ws_t2 (List.mem_of_getElem? (i := 235) rfl) rfl
set_option maxRecDepth 20000 in
theorem mw_533 : (Cond.code yX8_lacks cX8_lacks 2 (some .int)) ∈ WS := ws_t2 (List.mem_of_getElem? (i := 236) rfl) rfl
set_option maxRecDepth 20000 in
theorem mw_535 : (Cond.instanceMethod yX8_over) ∈ WS := ws_t2 (List.mem_of_getElem? (i := 238) rfl) rfl
set_option maxRecDepth 20000 in
theorem mw_536 : (Cond.selects RX8 yX8_over yX8_over) ∈ WS := ws_t2 (List.mem_of_getElem? (i := 239) rfl) rfl
set_option maxRecDepth 20000 in
theorem mw_537 : (Cond.code yX8_over cX8_over 6 (some .int)) ∈ WS := ws_t3 (List.mem_of_getElem? (i := 0) rfl) rfl
set_option maxRecDepth 20000 in
theorem mw_538 : (Cond.methodLink RX8 178 yX8_partsOn) ∈ WS := ws_t3 (List.mem_of_getElem? (i := 1) rfl) rfl
set_option maxRecDepth 20000 in
theorem mw_540 : (Cond.instanceMethod yX8_partsOn) ∈ WS := ws_t3 (List.mem_of_getElem? (i := 3) rfl) rfl
set_option maxRecDepth 20000 in
theorem mw_541 : (Cond.code yX8_partsOn cX8_partsOn 4 (some .int)) ∈ WS := ws_t3 (List.mem_of_getElem? (i := 4) rfl) rfl
set_option maxRecDepth 20000 in
theorem mw_542 : (Cond.methodLink RX8 185 yX2_parts) ∈ WS := ws_t3 (List.mem_of_getElem? (i := 5) rfl) rfl
set_option maxRecDepth 20000 in
theorem mw_543 : (Cond.methodLink RX8 181 yX8_latestOn) ∈ WS := ws_t3 (List.mem_of_getElem? (i := 6) rfl) rfl
set_option maxRecDepth 20000 in
theorem mw_545 : (Cond.instanceMethod yX8_latestOn) ∈ WS := ws_t3 (List.mem_of_getElem? (i := 8) rfl) rfl
set_option maxRecDepth 20000 in
theorem mw_546 : (Cond.code yX8_latestOn cX8_latestOn 6 (some .int)) ∈ WS := ws_t3 (List.mem_of_getElem? (i := 9) rfl) rfl
set_option maxRecDepth 20000 in
theorem mw_548 : (Cond.instanceMethod yX8_pass) ∈ WS := ws_t3 (List.mem_of_getElem? (i := 11) rfl) rfl
set_option maxRecDepth 20000 in
theorem mw_549 : (Cond.selects RX8 yX8_pass yX8_pass) ∈ WS := ws_t3 (List.mem_of_getElem? (i := 12) rfl) rfl
set_option maxRecDepth 20000 in
theorem mw_550 : (Cond.code yX8_pass cX8_pass 4 (some .int)) ∈ WS := ws_t3 (List.mem_of_getElem? (i := 13) rfl) rfl
set_option maxRecDepth 20000 in
theorem mw_551 : (Cond.methodLink RX8 192 yX8_grazeAll) ∈ WS := ws_t3 (List.mem_of_getElem? (i := 14) rfl) rfl
set_option maxRecDepth 20000 in
theorem mw_553 : (Cond.instanceMethod yX8_grazeAll) ∈ WS := ws_t3 (List.mem_of_getElem? (i := 16) rfl) rfl
set_option maxRecDepth 20000 in
theorem mw_554 : (Cond.code yX8_grazeAll cX8_grazeAll 3 (some .int)) ∈ WS := ws_t3 (List.mem_of_getElem? (i := 17) rfl) rfl
set_option maxRecDepth 20000 in
theorem mw_555 : (Cond.methodLink RX8 324 yX8_graze) ∈ WS := ws_t3 (List.mem_of_getElem? (i := 18) rfl) rfl
set_option maxRecDepth 20000 in
theorem mw_557 : (Cond.instanceMethod yX8_graze) ∈ WS := ws_t3 (List.mem_of_getElem? (i := 20) rfl) rfl
set_option maxRecDepth 20000 in
theorem mw_558 : (Cond.code yX8_graze cX8_graze 6 (some .int)) ∈ WS := ws_t3 (List.mem_of_getElem? (i := 21) rfl) rfl
set_option maxRecDepth 20000 in
theorem mw_559 : (Cond.methodLink RX8 327 yX3_clear) ∈ WS := ws_t3 (List.mem_of_getElem? (i := 22) rfl) rfl
set_option maxRecDepth 20000 in
theorem mw_560 : (Cond.instanceMethod yX3_clear) ∈ WS := ws_t3 (List.mem_of_getElem? (i := 23) rfl) rfl
set_option maxRecDepth 20000 in
theorem mw_561 : (Cond.selects RX3 yX3_clear yX3_clear) ∈ WS := ws_t3 (List.mem_of_getElem? (i := 24) rfl) rfl
set_option maxRecDepth 20000 in
theorem mw_562 : (Cond.code yX3_clear cX3_clear 1 none) ∈ WS := ws_t3 (List.mem_of_getElem? (i := 25) rfl) rfl
set_option maxRecDepth 20000 in
theorem mw_563 : (Cond.methodLink RX8 328 yX3_add) ∈ WS := ws_t3 (List.mem_of_getElem? (i := 26) rfl) rfl
set_option maxRecDepth 20000 in
theorem mw_564 : (Cond.instanceMethod yX3_add) ∈ WS := ws_t3 (List.mem_of_getElem? (i := 27) rfl) rfl
set_option maxRecDepth 20000 in
theorem mw_565 : (Cond.selects RX3 yX3_add yX3_add) ∈ WS := ws_t3 (List.mem_of_getElem? (i := 28) rfl) rfl
set_option maxRecDepth 20000 in
theorem mw_566 : (Cond.code yX3_add cX3_add 3 none) ∈ WS := ws_t3 (List.mem_of_getElem? (i := 29) rfl) rfl
set_option maxRecDepth 20000 in
theorem mw_567 : (Cond.methodLink RX8 331 yX7_rainOn) ∈ WS := ws_t3 (List.mem_of_getElem? (i := 30) rfl) rfl
set_option maxRecDepth 20000 in
theorem mw_568 : (Cond.instanceMethod yX7_rainOn) ∈ WS := ws_t3 (List.mem_of_getElem? (i := 31) rfl) rfl
set_option maxRecDepth 20000 in
theorem mw_569 : (Cond.selects RX7 yX7_rainOn yX7_rainOn) ∈ WS := ws_t3 (List.mem_of_getElem? (i := 32) rfl) rfl
set_option maxRecDepth 20000 in
theorem mw_570 : (Cond.code yX7_rainOn cX7_rainOn 2 (some .int)) ∈ WS := ws_t3 (List.mem_of_getElem? (i := 33) rfl) rfl
set_option maxRecDepth 20000 in
theorem mw_571 : (Cond.methodLink RX8 334 yX7_rateOn) ∈ WS := ws_t3 (List.mem_of_getElem? (i := 34) rfl) rfl
set_option maxRecDepth 20000 in
theorem mw_572 : (Cond.instanceMethod yX7_rateOn) ∈ WS := ws_t3 (List.mem_of_getElem? (i := 35) rfl) rfl
set_option maxRecDepth 20000 in
theorem mw_573 : (Cond.selects RX7 yX7_rateOn yX7_rateOn) ∈ WS := ws_t3 (List.mem_of_getElem? (i := 36) rfl) rfl
set_option maxRecDepth 20000 in
theorem mw_574 : (Cond.code yX7_rateOn cX7_rateOn 2 (some .int)) ∈ WS := ws_t3 (List.mem_of_getElem? (i := 37) rfl) rfl
set_option maxRecDepth 20000 in
theorem mw_575 : (Cond.methodLink RX8 337 yX3_passDay) ∈ WS := ws_t3 (List.mem_of_getElem? (i := 38) rfl) rfl
set_option maxRecDepth 20000 in
theorem mw_576 : (Cond.instanceMethod yX3_passDay) ∈ WS := ws_t3 (List.mem_of_getElem? (i := 39) rfl) rfl
set_option maxRecDepth 20000 in
theorem mw_577 : (Cond.selects RX3 yX3_passDay yX3_passDay) ∈ WS := ws_t3 (List.mem_of_getElem? (i := 40) rfl) rfl
set_option maxRecDepth 20000 in
theorem mw_578 : (Cond.code yX3_passDay cX3_passDay 7 (some .int)) ∈ WS := ws_t3 (List.mem_of_getElem? (i := 41) rfl) rfl
set_option maxRecDepth 20000 in
theorem mw_579 : (Cond.methodLink RX3 34 yX3_tread) ∈ WS := ws_t3 (List.mem_of_getElem? (i := 42) rfl) rfl
set_option maxRecDepth 20000 in
theorem mw_581 : (Cond.instanceMethod yX3_tread) ∈ WS := ws_t3 (List.mem_of_getElem? (i := 44) rfl) rfl
set_option maxRecDepth 20000 in
theorem mw_582 : (Cond.code yX3_tread cX3_tread 3 (some .int)) ∈ WS := ws_t3 (List.mem_of_getElem? (i := 45) rfl) rfl
set_option maxRecDepth 20000 in
theorem mw_583 : (Cond.methodLink RX3 60 Lib.Math.max.name) ∈ WS := ws_t3 (List.mem_of_getElem? (i := 46) rfl) rfl
set_option maxRecDepth 20000 in
theorem mw_584 : (Cond.methodLink RX3 43 yX3_grow) ∈ WS := ws_t3 (List.mem_of_getElem? (i := 47) rfl) rfl
set_option maxRecDepth 20000 in
theorem mw_585 : (Cond.static yX3_grow) ∈ WS := ws_t3 (List.mem_of_getElem? (i := 48) rfl) rfl
set_option maxRecDepth 20000 in
theorem mw_586 : (Cond.code yX3_grow cX3_grow 3 (some .int)) ∈ WS := ws_t3 (List.mem_of_getElem? (i := 49) rfl) rfl
set_option maxRecDepth 20000 in
theorem mw_587 : (Cond.methodLink RX3 47 Lib.Math.min.name) ∈ WS := ws_t3 (List.mem_of_getElem? (i := 50) rfl) rfl
set_option maxRecDepth 20000 in
theorem mw_588 : (Cond.static Lib.Math.min.name) ∈ WS := ws_t3 (List.mem_of_getElem? (i := 51) rfl) rfl
set_option maxRecDepth 20000 in
theorem mw_589 : (Cond.code Lib.Math.min.name Lib.Math.min.code 2 (some .int)) ∈ WS := ws_t3 (List.mem_of_getElem? (i := 52) rfl) rfl
set_option maxRecDepth 20000 in
theorem mw_590 : (Cond.methodLink RX3 52 yX3_shareHunger) ∈ WS := ws_t3 (List.mem_of_getElem? (i := 53) rfl) rfl
set_option maxRecDepth 20000 in
theorem mw_592 : (Cond.instanceMethod yX3_shareHunger) ∈ WS := ws_t3 (List.mem_of_getElem? (i := 55) rfl) rfl
set_option maxRecDepth 20000 in
theorem mw_593 : (Cond.code yX3_shareHunger cX3_shareHunger 5 none) ∈ WS := ws_t3 (List.mem_of_getElem? (i := 56) rfl) rfl
set_option maxRecDepth 20000 in
theorem mw_594 : (Cond.methodLink RX3 63 yX3_greatestRemainder) ∈ WS := ws_t3 (List.mem_of_getElem? (i := 57) rfl) rfl
set_option maxRecDepth 20000 in
theorem mw_596 : (Cond.instanceMethod yX3_greatestRemainder) ∈ WS := ws_t3 (List.mem_of_getElem? (i := 59) rfl) rfl
set_option maxRecDepth 20000 in
theorem mw_597 : (Cond.code yX3_greatestRemainder cX3_greatestRemainder 3 (some .int)) ∈ WS := ws_t3 (List.mem_of_getElem? (i := 60) rfl) rfl
set_option maxRecDepth 20000 in
theorem mw_598 : (Cond.methodLink RX8 342 yX3_hungerOf) ∈ WS := ws_t3 (List.mem_of_getElem? (i := 61) rfl) rfl
set_option maxRecDepth 20000 in
theorem mw_599 : (Cond.instanceMethod yX3_hungerOf) ∈ WS := ws_t3 (List.mem_of_getElem? (i := 62) rfl) rfl
set_option maxRecDepth 20000 in
theorem mw_600 : (Cond.selects RX3 yX3_hungerOf yX3_hungerOf) ∈ WS := ws_t3 (List.mem_of_getElem? (i := 63) rfl) rfl
set_option maxRecDepth 20000 in
theorem mw_601 : (Cond.code yX3_hungerOf cX3_hungerOf 3 (some .int)) ∈ WS := ws_t3 (List.mem_of_getElem? (i := 64) rfl) rfl
set_option maxRecDepth 20000 in
theorem mw_602 : (Cond.methodLink RX8 195 yX8_sellFromPound) ∈ WS := ws_t3 (List.mem_of_getElem? (i := 65) rfl) rfl
set_option maxRecDepth 20000 in
theorem mw_604 : (Cond.instanceMethod yX8_sellFromPound) ∈ WS := ws_t3 (List.mem_of_getElem? (i := 67) rfl) rfl
set_option maxRecDepth 20000 in
theorem mw_605 : (Cond.code yX8_sellFromPound cX8_sellFromPound 5 none) ∈ WS := ws_t3 (List.mem_of_getElem? (i := 68) rfl) rfl
set_option maxRecDepth 20000 in
theorem mw_606 : (Cond.methodLink RX8 345 yX2_daysInPound) ∈ WS := ws_t3 (List.mem_of_getElem? (i := 69) rfl) rfl
set_option maxRecDepth 20000 in
theorem mw_607 : (Cond.instanceMethod yX2_daysInPound) ∈ WS := ws_t3 (List.mem_of_getElem? (i := 70) rfl) rfl
set_option maxRecDepth 20000 in
theorem mw_608 : (Cond.selects RX2 yX2_daysInPound yX2_daysInPound) ∈ WS := ws_t3 (List.mem_of_getElem? (i := 71) rfl) rfl
set_option maxRecDepth 20000 in
theorem mw_609 : (Cond.code yX2_daysInPound cX2_daysInPound 2 (some .int)) ∈ WS := ws_t3 (List.mem_of_getElem? (i := 72) rfl) rfl
set_option maxRecDepth 20000 in
theorem mw_610 : (Cond.methodLink RX8 225 yX2_fee) ∈ WS := ws_t3 (List.mem_of_getElem? (i := 73) rfl) rfl
set_option maxRecDepth 20000 in
theorem mw_611 : (Cond.instanceMethod yX2_fee) ∈ WS := ws_t3 (List.mem_of_getElem? (i := 74) rfl) rfl
set_option maxRecDepth 20000 in
theorem mw_612 : (Cond.selects RX2 yX2_fee yX2_fee) ∈ WS := ws_t3 (List.mem_of_getElem? (i := 75) rfl) rfl
set_option maxRecDepth 20000 in
theorem mw_613 : (Cond.code yX2_fee cX2_fee 2 (some .int)) ∈ WS := ws_t3 (List.mem_of_getElem? (i := 76) rfl) rfl
set_option maxRecDepth 20000 in
theorem mw_614 : (Cond.methodLink RX2 40 yX2_daysInPound) ∈ WS := ws_t3 (List.mem_of_getElem? (i := 77) rfl) rfl
set_option maxRecDepth 20000 in
theorem mw_615 : (Cond.methodLink RX8 348 Lib.Math.min.name) ∈ WS := ws_t3 (List.mem_of_getElem? (i := 78) rfl) rfl
set_option maxRecDepth 20000 in
theorem mw_616 : (Cond.methodLink RX8 198 yX8_findUsed) ∈ WS := ws_t3 (List.mem_of_getElem? (i := 79) rfl) rfl
set_option maxRecDepth 20000 in
theorem mw_618 : (Cond.instanceMethod yX8_findUsed) ∈ WS := ws_t3 (List.mem_of_getElem? (i := 81) rfl) rfl
set_option maxRecDepth 20000 in
theorem mw_619 : (Cond.code yX8_findUsed cX8_findUsed 3 none) ∈ WS := ws_t3 (List.mem_of_getElem? (i := 82) rfl) rfl
set_option maxRecDepth 20000 in
theorem mw_620 : (Cond.methodLink RX8 351 yX8_hasHerdFor) ∈ WS := ws_t3 (List.mem_of_getElem? (i := 83) rfl) rfl
set_option maxRecDepth 20000 in
theorem mw_622 : (Cond.instanceMethod yX8_hasHerdFor) ∈ WS := ws_t3 (List.mem_of_getElem? (i := 85) rfl) rfl
set_option maxRecDepth 20000 in
theorem mw_623 : (Cond.code yX8_hasHerdFor cX8_hasHerdFor 4 (some .boolean)) ∈ WS := ws_t3 (List.mem_of_getElem? (i := 86) rfl) rfl
set_option maxRecDepth 20000 in
theorem mw_624 : (Cond.methodLink RX8 355 yX0_fits) ∈ WS := ws_t3 (List.mem_of_getElem? (i := 87) rfl) rfl
set_option maxRecDepth 20000 in
theorem mw_625 : (Cond.instanceMethod yX0_fits) ∈ WS := ws_t3 (List.mem_of_getElem? (i := 88) rfl) rfl
set_option maxRecDepth 20000 in
theorem mw_626 : (Cond.selects RX0 yX0_fits yX0_fits) ∈ WS := ws_t3 (List.mem_of_getElem? (i := 89) rfl) rfl
set_option maxRecDepth 20000 in
theorem mw_627 : (Cond.code yX0_fits cX0_fits 2 (some .boolean)) ∈ WS := ws_t3 (List.mem_of_getElem? (i := 90) rfl) rfl
set_option maxRecDepth 20000 in
theorem mw_628 : (Cond.methodLink RX8 201 yX8_lapse) ∈ WS := ws_t3 (List.mem_of_getElem? (i := 91) rfl) rfl
set_option maxRecDepth 20000 in
theorem mw_630 : (Cond.instanceMethod yX8_lapse) ∈ WS := ws_t3 (List.mem_of_getElem? (i := 93) rfl) rfl
