set_option maxRecDepth 20000 in
theorem mw_631 : (Cond.code yX8_lapse cX8_lapse 4 none) ∈ WS := ws_t3 (List.mem_of_getElem? (i := 94) rfl) rfl
set_option maxRecDepth 20000 in
theorem mw_633 : (Cond.instanceMethod yX8_rest) ∈ WS := ws_t3 (List.mem_of_getElem? (i := 96) rfl) rfl
set_option maxRecDepth 20000 in
theorem mw_634 : (Cond.selects RX8 yX8_rest yX8_rest) ∈ WS := ws_t3 (List.mem_of_getElem? (i := 97) rfl) rfl
set_option maxRecDepth 20000 in
theorem mw_635 : (Cond.code yX8_rest cX8_rest 4 (some .int)) ∈ WS := ws_t3 (List.mem_of_getElem? (i := 98) rfl) rfl
set_option maxRecDepth 20000 in
theorem mw_637 : (Cond.instanceMethod yX8_cut) ∈ WS := ws_t3 (List.mem_of_getElem? (i := 100) rfl) rfl
set_option maxRecDepth 20000 in
theorem mw_638 : (Cond.selects RX8 yX8_cut yX8_cut) ∈ WS := ws_t3 (List.mem_of_getElem? (i := 101) rfl) rfl
set_option maxRecDepth 20000 in
theorem mw_639 : (Cond.code yX8_cut cX8_cut 4 (some .int)) ∈ WS := ws_t3 (List.mem_of_getElem? (i := 102) rfl) rfl
set_option maxRecDepth 20000 in
theorem mw_640 : (Cond.methodLink RX8 207 yX8_herdsOn) ∈ WS := ws_t3 (List.mem_of_getElem? (i := 103) rfl) rfl
set_option maxRecDepth 20000 in
theorem mw_642 : (Cond.instanceMethod yX8_herdsOn) ∈ WS := ws_t3 (List.mem_of_getElem? (i := 105) rfl) rfl
set_option maxRecDepth 20000 in
theorem mw_643 : (Cond.code yX8_herdsOn cX8_herdsOn 4 (some .int)) ∈ WS := ws_t3 (List.mem_of_getElem? (i := 106) rfl) rfl
set_option maxRecDepth 20000 in
theorem mw_644 : (Cond.methodLink RX8 213 Lib.Math.max.name) ∈ WS := ws_t3 (List.mem_of_getElem? (i := 107) rfl) rfl
set_option maxRecDepth 20000 in
theorem mw_645 : (Cond.methodLink RX8 218 yX8_shareHay) ∈ WS := ws_t3 (List.mem_of_getElem? (i := 108) rfl) rfl
set_option maxRecDepth 20000 in
theorem mw_647 : (Cond.instanceMethod yX8_shareHay) ∈ WS := ws_t3 (List.mem_of_getElem? (i := 110) rfl) rfl
set_option maxRecDepth 20000 in
theorem mw_648 : (Cond.code yX8_shareHay cX8_shareHay 7 none) ∈ WS := ws_t3 (List.mem_of_getElem? (i := 111) rfl) rfl
set_option maxRecDepth 20000 in
theorem mw_649 : (Cond.methodLink RX8 359 yX1_partsForHay) ∈ WS := ws_t3 (List.mem_of_getElem? (i := 112) rfl) rfl
set_option maxRecDepth 20000 in
theorem mw_650 : (Cond.instanceMethod yX1_partsForHay) ∈ WS := ws_t3 (List.mem_of_getElem? (i := 113) rfl) rfl
set_option maxRecDepth 20000 in
theorem mw_651 : (Cond.selects RX1 yX1_partsForHay yX1_partsForHay) ∈ WS := ws_t3 (List.mem_of_getElem? (i := 114) rfl) rfl
set_option maxRecDepth 20000 in
theorem mw_652 : (Cond.code yX1_partsForHay cX1_partsForHay 2 (some .int)) ∈ WS := ws_t3 (List.mem_of_getElem? (i := 115) rfl) rfl
set_option maxRecDepth 20000 in
theorem mw_654 : (Cond.instanceMethod yX8_pound) ∈ WS := ws_t3 (List.mem_of_getElem? (i := 117) rfl) rfl
set_option maxRecDepth 20000 in
theorem mw_655 : (Cond.selects RX8 yX8_pound yX8_pound) ∈ WS := ws_t3 (List.mem_of_getElem? (i := 118) rfl) rfl
set_option maxRecDepth 20000 in
theorem mw_656 : (Cond.code yX8_pound cX8_pound 3 (some .int)) ∈ WS := ws_t3 (List.mem_of_getElem? (i := 119) rfl) rfl
set_option maxRecDepth 20000 in
theorem mw_658 : (Cond.instanceMethod yX8_free) ∈ WS := ws_t3 (List.mem_of_getElem? (i := 121) rfl) rfl
set_option maxRecDepth 20000 in
theorem mw_659 : (Cond.selects RX8 yX8_free yX8_free) ∈ WS := ws_t3 (List.mem_of_getElem? (i := 122) rfl) rfl
set_option maxRecDepth 20000 in
theorem mw_660 : (Cond.code yX8_free cX8_free 5 (some .int)) ∈ WS := ws_t3 (List.mem_of_getElem? (i := 123) rfl) rfl
set_option maxRecDepth 20000 in
theorem mw_662 : (Cond.instanceMethod yX8_plan) ∈ WS := ws_t3 (List.mem_of_getElem? (i := 125) rfl) rfl
set_option maxRecDepth 20000 in
theorem mw_663 : (Cond.selects RX8 yX8_plan yX8_plan) ∈ WS := ws_t3 (List.mem_of_getElem? (i := 126) rfl) rfl
set_option maxRecDepth 20000 in
theorem mw_664 : (Cond.code yX8_plan cX8_plan 7 (some .int)) ∈ WS := ws_t3 (List.mem_of_getElem? (i := 127) rfl) rfl
set_option maxRecDepth 20000 in
theorem mw_665 : (Cond.methodLink RX8 231 yX8_openPieces) ∈ WS := ws_t3 (List.mem_of_getElem? (i := 128) rfl) rfl
set_option maxRecDepth 20000 in
theorem mw_667 : (Cond.instanceMethod yX8_openPieces) ∈ WS := ws_t3 (List.mem_of_getElem? (i := 130) rfl) rfl
set_option maxRecDepth 20000 in
theorem mw_668 : (Cond.code yX8_openPieces cX8_openPieces 4 (some .int)) ∈ WS := ws_t3 (List.mem_of_getElem? (i := 131) rfl) rfl
set_option maxRecDepth 20000 in
theorem mw_669 : (Cond.methodLink RX8 234 yX6_begin) ∈ WS := ws_t3 (List.mem_of_getElem? (i := 132) rfl) rfl
set_option maxRecDepth 20000 in
theorem mw_670 : (Cond.instanceMethod yX6_begin) ∈ WS := ws_t3 (List.mem_of_getElem? (i := 133) rfl) rfl
set_option maxRecDepth 20000 in
theorem mw_671 : (Cond.selects RX6 yX6_begin yX6_begin) ∈ WS := ws_t3 (List.mem_of_getElem? (i := 134) rfl) rfl
set_option maxRecDepth 20000 in
theorem mw_672 : (Cond.code yX6_begin cX6_begin 5 none) ∈ WS := ws_t3 (List.mem_of_getElem? (i := 135) rfl) rfl
set_option maxRecDepth 20000 in
theorem mw_673 : (Cond.methodLink RX8 238 yX8_reckonTurns) ∈ WS := ws_t3 (List.mem_of_getElem? (i := 136) rfl) rfl
set_option maxRecDepth 20000 in
theorem mw_675 : (Cond.instanceMethod yX8_reckonTurns) ∈ WS := ws_t3 (List.mem_of_getElem? (i := 138) rfl) rfl
set_option maxRecDepth 20000 in
theorem mw_676 : (Cond.code yX8_reckonTurns cX8_reckonTurns 3 none) ∈ WS := ws_t3 (List.mem_of_getElem? (i := 139) rfl) rfl
set_option maxRecDepth 20000 in
theorem mw_677 : (Cond.methodLink RX8 371 yX6_waysToVisit) ∈ WS := ws_t3 (List.mem_of_getElem? (i := 140) rfl) rfl
set_option maxRecDepth 20000 in
theorem mw_678 : (Cond.instanceMethod yX6_waysToVisit) ∈ WS := ws_t3 (List.mem_of_getElem? (i := 141) rfl) rfl
set_option maxRecDepth 20000 in
theorem mw_679 : (Cond.selects RX6 yX6_waysToVisit yX6_waysToVisit) ∈ WS := ws_t3 (List.mem_of_getElem? (i := 142) rfl) rfl
set_option maxRecDepth 20000 in
theorem mw_680 : (Cond.code yX6_waysToVisit cX6_waysToVisit 1 (some .int)) ∈ WS := ws_t3 (List.mem_of_getElem? (i := 143) rfl) rfl
set_option maxRecDepth 20000 in
theorem mw_681 : (Cond.methodLink RX6 51 yX6_slots) ∈ WS := ws_t3 (List.mem_of_getElem? (i := 144) rfl) rfl
set_option maxRecDepth 20000 in
theorem mw_682 : (Cond.instanceMethod yX6_slots) ∈ WS := ws_t3 (List.mem_of_getElem? (i := 145) rfl) rfl
set_option maxRecDepth 20000 in
theorem mw_683 : (Cond.selects RX6 yX6_slots yX6_slots) ∈ WS := ws_t3 (List.mem_of_getElem? (i := 146) rfl) rfl
set_option maxRecDepth 20000 in
theorem mw_684 : (Cond.code yX6_slots cX6_slots 1 (some .int)) ∈ WS := ws_t3 (List.mem_of_getElem? (i := 147) rfl) rfl
set_option maxRecDepth 20000 in
theorem mw_685 : (Cond.methodLink RX6 45 Lib.Math.min.name) ∈ WS := ws_t3 (List.mem_of_getElem? (i := 148) rfl) rfl
set_option maxRecDepth 20000 in
theorem mw_686 : (Cond.methodLink RX8 377 yX8_hungerOfVisits) ∈ WS := ws_t3 (List.mem_of_getElem? (i := 149) rfl) rfl
set_option maxRecDepth 20000 in
theorem mw_688 : (Cond.instanceMethod yX8_hungerOfVisits) ∈ WS := ws_t3 (List.mem_of_getElem? (i := 151) rfl) rfl
set_option maxRecDepth 20000 in
theorem mw_689 : (Cond.code yX8_hungerOfVisits cX8_hungerOfVisits 9 (some .int)) ∈ WS := ws_t3 (List.mem_of_getElem? (i := 152) rfl) rfl
set_option maxRecDepth 20000 in
theorem mw_690 : (Cond.methodLink RX8 380 yX8_gatherForStep) ∈ WS := ws_t3 (List.mem_of_getElem? (i := 153) rfl) rfl
set_option maxRecDepth 20000 in
theorem mw_692 : (Cond.instanceMethod yX8_gatherForStep) ∈ WS := ws_t3 (List.mem_of_getElem? (i := 155) rfl) rfl
set_option maxRecDepth 20000 in
theorem mw_693 : (Cond.code yX8_gatherForStep cX8_gatherForStep 6 none) ∈ WS := ws_t3 (List.mem_of_getElem? (i := 156) rfl) rfl
set_option maxRecDepth 20000 in
theorem mw_694 : (Cond.methodLink RX8 389 yX6_isTurning) ∈ WS := ws_t3 (List.mem_of_getElem? (i := 157) rfl) rfl
set_option maxRecDepth 20000 in
theorem mw_695 : (Cond.instanceMethod yX6_isTurning) ∈ WS := ws_t3 (List.mem_of_getElem? (i := 158) rfl) rfl
set_option maxRecDepth 20000 in
theorem mw_696 : (Cond.selects RX6 yX6_isTurning yX6_isTurning) ∈ WS := ws_t3 (List.mem_of_getElem? (i := 159) rfl) rfl
set_option maxRecDepth 20000 in
theorem mw_697 : (Cond.code yX6_isTurning cX6_isTurning 2 (some .boolean)) ∈ WS := ws_t3 (List.mem_of_getElem? (i := 160) rfl) rfl
set_option maxRecDepth 20000 in
theorem mw_698 : (Cond.methodLink RX8 392 yX6_visitsIn) ∈ WS := ws_t3 (List.mem_of_getElem? (i := 161) rfl) rfl
set_option maxRecDepth 20000 in
theorem mw_699 : (Cond.instanceMethod yX6_visitsIn) ∈ WS := ws_t3 (List.mem_of_getElem? (i := 162) rfl) rfl
set_option maxRecDepth 20000 in
theorem mw_700 : (Cond.selects RX6 yX6_visitsIn yX6_visitsIn) ∈ WS := ws_t3 (List.mem_of_getElem? (i := 163) rfl) rfl
set_option maxRecDepth 20000 in
theorem mw_701 : (Cond.code yX6_visitsIn cX6_visitsIn 5 (some .boolean)) ∈ WS := ws_t3 (List.mem_of_getElem? (i := 164) rfl) rfl
set_option maxRecDepth 20000 in
theorem mw_702 : (Cond.methodLink RX8 241 yX6_choose) ∈ WS := ws_t3 (List.mem_of_getElem? (i := 165) rfl) rfl
set_option maxRecDepth 20000 in
theorem mw_703 : (Cond.instanceMethod yX6_choose) ∈ WS := ws_t3 (List.mem_of_getElem? (i := 166) rfl) rfl
set_option maxRecDepth 20000 in
theorem mw_704 : (Cond.selects RX6 yX6_choose yX6_choose) ∈ WS := ws_t3 (List.mem_of_getElem? (i := 167) rfl) rfl
set_option maxRecDepth 20000 in
theorem mw_705 : (Cond.code yX6_choose cX6_choose 6 (some .int)) ∈ WS := ws_t3 (List.mem_of_getElem? (i := 168) rfl) rfl
set_option maxRecDepth 20000 in
theorem mw_706 : (Cond.methodLink RX6 55 yX6_isOpen) ∈ WS := ws_t3 (List.mem_of_getElem? (i := 169) rfl) rfl
set_option maxRecDepth 20000 in
theorem mw_708 : (Cond.instanceMethod yX6_isOpen) ∈ WS := ws_t3 (List.mem_of_getElem? (i := 171) rfl) rfl
set_option maxRecDepth 20000 in
theorem mw_709 : (Cond.code yX6_isOpen cX6_isOpen 3 (some .boolean)) ∈ WS := ws_t3 (List.mem_of_getElem? (i := 172) rfl) rfl
set_option maxRecDepth 20000 in
theorem mw_710 : (Cond.methodLink RX6 59 yX6_hungerOfTrial) ∈ WS := ws_t3 (List.mem_of_getElem? (i := 173) rfl) rfl
set_option maxRecDepth 20000 in
theorem mw_712 : (Cond.instanceMethod yX6_hungerOfTrial) ∈ WS := ws_t3 (List.mem_of_getElem? (i := 175) rfl) rfl
set_option maxRecDepth 20000 in
theorem mw_713 : (Cond.code yX6_hungerOfTrial cX6_hungerOfTrial 3 (some .int)) ∈ WS := ws_t3 (List.mem_of_getElem? (i := 176) rfl) rfl
set_option maxRecDepth 20000 in
theorem mw_714 : (Cond.methodLink RX6 62 arraycopyName) ∈ WS := ws_t3 (List.mem_of_getElem? (i := 177) rfl) rfl
set_option maxRecDepth 20000 in
theorem mw_715 : (Cond.static arraycopyName) ∈ WS := ws_t3 (List.mem_of_getElem? (i := 178) rfl) rfl
set_option maxRecDepth 20000 in
theorem mw_716 : (Cond.native arraycopyName) ∈ WS := ws_t3 (List.mem_of_getElem? (i := 179) rfl) rfl
set_option maxRecDepth 20000 in
theorem mw_717 : (Cond.methodLink RX6 68 yX6_nextTrial) ∈ WS := ws_t3 (List.mem_of_getElem? (i := 180) rfl) rfl
set_option maxRecDepth 20000 in
theorem mw_719 : (Cond.instanceMethod yX6_nextTrial) ∈ WS := ws_t3 (List.mem_of_getElem? (i := 182) rfl) rfl
set_option maxRecDepth 20000 in
theorem mw_720 : (Cond.code yX6_nextTrial cX6_nextTrial 3 none) ∈ WS := ws_t3 (List.mem_of_getElem? (i := 183) rfl) rfl
set_option maxRecDepth 20000 in
theorem mw_722 : (Cond.instanceMethod yX8_planned) ∈ WS := ws_t3 (List.mem_of_getElem? (i := 185) rfl) rfl
set_option maxRecDepth 20000 in
theorem mw_723 : (Cond.selects RX8 yX8_planned yX8_planned) ∈ WS := ws_t3 (List.mem_of_getElem? (i := 186) rfl) rfl
set_option maxRecDepth 20000 in
theorem mw_724 : (Cond.code yX8_planned cX8_planned 3 (some .int)) ∈ WS := ws_t3 (List.mem_of_getElem? (i := 187) rfl) rfl
set_option maxRecDepth 20000 in
theorem mw_725 : (Cond.methodLink RX8 244 yX6_pieceOfStep) ∈ WS := ws_t3 (List.mem_of_getElem? (i := 188) rfl) rfl
set_option maxRecDepth 20000 in
theorem mw_726 : (Cond.instanceMethod yX6_pieceOfStep) ∈ WS := ws_t3 (List.mem_of_getElem? (i := 189) rfl) rfl
set_option maxRecDepth 20000 in
theorem mw_727 : (Cond.selects RX6 yX6_pieceOfStep yX6_pieceOfStep) ∈ WS := ws_t3 (List.mem_of_getElem? (i := 190) rfl) rfl
set_option maxRecDepth 20000 in
theorem mw_728 : (Cond.code yX6_pieceOfStep cX6_pieceOfStep 3 (some .int)) ∈ WS := ws_t3 (List.mem_of_getElem? (i := 191) rfl) rfl
set_option maxRecDepth 20000 in
theorem mw_730 : (Cond.instanceMethod yX8_pieceOf) ∈ WS := ws_t3 (List.mem_of_getElem? (i := 193) rfl) rfl
set_option maxRecDepth 20000 in
theorem mw_731 : (Cond.selects RX8 yX8_pieceOf yX8_pieceOf) ∈ WS := ws_t3 (List.mem_of_getElem? (i := 194) rfl) rfl
set_option maxRecDepth 20000 in
theorem mw_732 : (Cond.code yX8_pieceOf cX8_pieceOf 4 (some .int)) ∈ WS := ws_t3 (List.mem_of_getElem? (i := 195) rfl) rfl
set_option maxRecDepth 20000 in
theorem mw_734 : (Cond.instanceMethod yX8_rightOf) ∈ WS := ws_t3 (List.mem_of_getElem? (i := 197) rfl) rfl
set_option maxRecDepth 20000 in
theorem mw_735 : (Cond.selects RX8 yX8_rightOf yX8_rightOf) ∈ WS := ws_t3 (List.mem_of_getElem? (i := 198) rfl) rfl
set_option maxRecDepth 20000 in
theorem mw_736 : (Cond.code yX8_rightOf cX8_rightOf 4 (some .int)) ∈ WS := ws_t3 (List.mem_of_getElem? (i := 199) rfl) rfl
set_option maxRecDepth 20000 in
theorem mw_738 : (Cond.instanceMethod yX8_herdOf) ∈ WS := ws_t3 (List.mem_of_getElem? (i := 201) rfl) rfl
set_option maxRecDepth 20000 in
theorem mw_739 : (Cond.selects RX8 yX8_herdOf yX8_herdOf) ∈ WS := ws_t3 (List.mem_of_getElem? (i := 202) rfl) rfl
set_option maxRecDepth 20000 in
theorem mw_740 : (Cond.code yX8_herdOf cX8_herdOf 4 (some .int)) ∈ WS := ws_t3 (List.mem_of_getElem? (i := 203) rfl) rfl
set_option maxRecDepth 20000 in
theorem mw_742 : (Cond.instanceMethod yX8_ownerOf) ∈ WS := ws_t3 (List.mem_of_getElem? (i := 205) rfl) rfl
set_option maxRecDepth 20000 in
theorem mw_743 : (Cond.selects RX8 yX8_ownerOf yX8_ownerOf) ∈ WS := ws_t3 (List.mem_of_getElem? (i := 206) rfl) rfl
set_option maxRecDepth 20000 in
theorem mw_744 : (Cond.code yX8_ownerOf cX8_ownerOf 5 (some .int)) ∈ WS := ws_t3 (List.mem_of_getElem? (i := 207) rfl) rfl
set_option maxRecDepth 20000 in
theorem mw_745 : (Cond.methodLink RX8 288 yX1_partsOut) ∈ WS := ws_t3 (List.mem_of_getElem? (i := 208) rfl) rfl
set_option maxRecDepth 20000 in
theorem mw_746 : (Cond.instanceMethod yX1_partsOut) ∈ WS := ws_t3 (List.mem_of_getElem? (i := 209) rfl) rfl
set_option maxRecDepth 20000 in
theorem mw_747 : (Cond.selects RX1 yX1_partsOut yX1_partsOut) ∈ WS := ws_t3 (List.mem_of_getElem? (i := 210) rfl) rfl
set_option maxRecDepth 20000 in
theorem mw_748 : (Cond.code yX1_partsOut cX1_partsOut 3 (some .int)) ∈ WS := ws_t3 (List.mem_of_getElem? (i := 211) rfl) rfl
set_option maxRecDepth 20000 in
theorem mw_749 : (Cond.methodLink RX8 291 yX1_partsHeld) ∈ WS := ws_t3 (List.mem_of_getElem? (i := 212) rfl) rfl
set_option maxRecDepth 20000 in
theorem mw_750 : (Cond.instanceMethod yX1_partsHeld) ∈ WS := ws_t3 (List.mem_of_getElem? (i := 213) rfl) rfl
set_option maxRecDepth 20000 in
theorem mw_751 : (Cond.selects RX1 yX1_partsHeld yX1_partsHeld) ∈ WS := ws_t3 (List.mem_of_getElem? (i := 214) rfl) rfl
set_option maxRecDepth 20000 in
theorem mw_752 : (Cond.code yX1_partsHeld cX1_partsHeld 3 (some .int)) ∈ WS := ws_t3 (List.mem_of_getElem? (i := 215) rfl) rfl
set_option maxRecDepth 20000 in
theorem mw_754 : (Cond.instanceMethod yX8_count) ∈ WS := ws_t3 (List.mem_of_getElem? (i := 217) rfl) rfl
set_option maxRecDepth 20000 in
theorem mw_755 : (Cond.selects RX8 yX8_count yX8_count) ∈ WS := ws_t3 (List.mem_of_getElem? (i := 218) rfl) rfl
set_option maxRecDepth 20000 in
theorem mw_756 : (Cond.code yX8_count cX8_count 2 (some .int)) ∈ WS := ws_t3 (List.mem_of_getElem? (i := 219) rfl) rfl
set_option maxRecDepth 20000 in
theorem mw_757 : (Cond.methodLink RX8 294 yX8_rightsInForce) ∈ WS := ws_t3 (List.mem_of_getElem? (i := 220) rfl) rfl
set_option maxRecDepth 20000 in
theorem mw_759 : (Cond.instanceMethod yX8_rightsInForce) ∈ WS := ws_t3 (List.mem_of_getElem? (i := 222) rfl) rfl
set_option maxRecDepth 20000 in
theorem mw_760 : (Cond.code yX8_rightsInForce cX8_rightsInForce 3 (some .int)) ∈ WS := ws_t3 (List.mem_of_getElem? (i := 223) rfl) rfl
set_option maxRecDepth 20000 in
theorem mw_761 : (Cond.methodLink RX8 297 yX8_herdsNotLost) ∈ WS := ws_t3 (List.mem_of_getElem? (i := 224) rfl) rfl
set_option maxRecDepth 20000 in
theorem mw_763 : (Cond.instanceMethod yX8_herdsNotLost) ∈ WS := ws_t3 (List.mem_of_getElem? (i := 226) rfl) rfl
set_option maxRecDepth 20000 in
theorem mw_764 : (Cond.code yX8_herdsNotLost cX8_herdsNotLost 3 (some .int)) ∈ WS := ws_t3 (List.mem_of_getElem? (i := 227) rfl) rfl
set_option maxRecDepth 20000 in
theorem mw_765 : (Cond.methodLink RX8 300 yX8_allGrass) ∈ WS := ws_t3 (List.mem_of_getElem? (i := 228) rfl) rfl
set_option maxRecDepth 20000 in
theorem mw_767 : (Cond.instanceMethod yX8_allGrass) ∈ WS := ws_t3 (List.mem_of_getElem? (i := 230) rfl) rfl
set_option maxRecDepth 20000 in
theorem mw_768 : (Cond.code yX8_allGrass cX8_allGrass 3 (some .int)) ∈ WS := ws_t3 (List.mem_of_getElem? (i := 231) rfl) rfl
set_option maxRecDepth 20000 in
theorem mw_769 : (Cond.methodLink RX8 303 yX8_allHunger) ∈ WS := ws_t3 (List.mem_of_getElem? (i := 232) rfl) rfl
set_option maxRecDepth 20000 in
theorem mw_771 : (Cond.instanceMethod yX8_allHunger) ∈ WS := ws_t3 (List.mem_of_getElem? (i := 234) rfl) rfl
set_option maxRecDepth 20000 in
theorem mw_772 : (Cond.code yX8_allHunger cX8_allHunger 3 (some .int)) ∈ WS := ws_t3 (List.mem_of_getElem? (i := 235) rfl) rfl
set_option maxRecDepth 20000 in
theorem mw_773 : (Cond.methodLink RX8 306 yX8_allEaten) ∈ WS := ws_t3 (List.mem_of_getElem? (i := 236) rfl) rfl
set_option maxRecDepth 20000 in
theorem mw_775 : (Cond.instanceMethod yX8_allEaten) ∈ WS := ws_t3 (List.mem_of_getElem? (i := 238) rfl) rfl
set_option maxRecDepth 20000 in
theorem mw_776 : (Cond.code yX8_allEaten cX8_allEaten 3 (some .int)) ∈ WS := ws_t3 (List.mem_of_getElem? (i := 239) rfl) rfl
set_option maxRecDepth 20000 in
theorem mw_778 : (Cond.instantiable RX9 51) ∈ WS := ws_t4 (List.mem_of_getElem? (i := 1) rfl) rfl
set_option maxRecDepth 20000 in
theorem mw_780 : (Cond.instanceMethod yX9_init) ∈ WS := ws_t4 (List.mem_of_getElem? (i := 3) rfl) rfl
set_option maxRecDepth 20000 in
theorem mw_781 : (Cond.code yX9_init cX9_init 1 none) ∈ WS := ws_t4 (List.mem_of_getElem? (i := 4) rfl) rfl
set_option maxRecDepth 20000 in
theorem mw_782 : (Cond.methodLink RX9 1 objectInit) ∈ WS := ws_t4 (List.mem_of_getElem? (i := 5) rfl) rfl
set_option maxRecDepth 20000 in
theorem mw_783 : (Cond.fieldLink RX9 7 "GrazeBookModel" "refusals" "[I") ∈ WS := ws_t4 (List.mem_of_getElem? (i := 6) rfl) rfl
set_option maxRecDepth 20000 in
theorem mw_784 : (Cond.fieldLink RX9 141 "GrazeBookModel" "day" "I") ∈ WS := ws_t4 (List.mem_of_getElem? (i := 7) rfl) rfl
set_option maxRecDepth 20000 in
theorem mw_785 : (Cond.fieldLink RX9 127 "GrazeBookModel" "pieces" "I") ∈ WS := ws_t4 (List.mem_of_getElem? (i := 8) rfl) rfl
set_option maxRecDepth 20000 in
theorem mw_786 : (Cond.fieldLink RX9 131 "GrazeBookModel" "owners" "I") ∈ WS := ws_t4 (List.mem_of_getElem? (i := 9) rfl) rfl
set_option maxRecDepth 20000 in
theorem mw_787 : (Cond.fieldLink RX9 138 "GrazeBookModel" "houses" "I") ∈ WS := ws_t4 (List.mem_of_getElem? (i := 10) rfl) rfl
set_option maxRecDepth 20000 in
theorem mw_788 : (Cond.fieldLink RX9 148 "GrazeBookModel" "rights" "I") ∈ WS := ws_t4 (List.mem_of_getElem? (i := 11) rfl) rfl
set_option maxRecDepth 20000 in
theorem mw_789 : (Cond.fieldLink RX9 164 "GrazeBookModel" "herds" "I") ∈ WS := ws_t4 (List.mem_of_getElem? (i := 12) rfl) rfl
set_option maxRecDepth 20000 in
theorem mw_790 : (Cond.fieldLink RX9 188 "GrazeBookModel" "orders" "I") ∈ WS := ws_t4 (List.mem_of_getElem? (i := 13) rfl) rfl
set_option maxRecDepth 20000 in
theorem mw_791 : (Cond.fieldLink RX9 205 "GrazeBookModel" "reeveCoins" "I") ∈ WS := ws_t4 (List.mem_of_getElem? (i := 14) rfl) rfl
set_option maxRecDepth 20000 in
theorem mw_792 : (Cond.fieldLink RX9 236 "GrazeBookModel" "reeveHay" "I") ∈ WS := ws_t4 (List.mem_of_getElem? (i := 15) rfl) rfl
set_option maxRecDepth 20000 in
theorem mw_793 : (Cond.fieldLink RX9 230 "GrazeBookModel" "hungers" "I") ∈ WS := ws_t4 (List.mem_of_getElem? (i := 16) rfl) rfl
set_option maxRecDepth 20000 in
theorem mw_794 : (Cond.fieldLink RX9 221 "GrazeBookModel" "eats" "I") ∈ WS := ws_t4 (List.mem_of_getElem? (i := 17) rfl) rfl
set_option maxRecDepth 20000 in
theorem mw_795 : (Cond.fieldLink RX9 211 "GrazeBookModel" "lapsed" "I") ∈ WS := ws_t4 (List.mem_of_getElem? (i := 18) rfl) rfl
set_option maxRecDepth 20000 in
theorem mw_796 : (Cond.fieldLink RX9 13 "GrazeBookModel" "grass" "[I") ∈ WS := ws_t4 (List.mem_of_getElem? (i := 19) rfl) rfl
set_option maxRecDepth 20000 in
theorem mw_797 : (Cond.fieldLink RX9 16 "GrazeBookModel" "full" "[I") ∈ WS := ws_t4 (List.mem_of_getElem? (i := 20) rfl) rfl
set_option maxRecDepth 20000 in
theorem mw_798 : (Cond.fieldLink RX9 19 "GrazeBookModel" "bears" "[I") ∈ WS := ws_t4 (List.mem_of_getElem? (i := 21) rfl) rfl
set_option maxRecDepth 20000 in
theorem mw_799 : (Cond.fieldLink RX9 22 "GrazeBookModel" "rest" "[I") ∈ WS := ws_t4 (List.mem_of_getElem? (i := 22) rfl) rfl
set_option maxRecDepth 20000 in
theorem mw_800 : (Cond.fieldLink RX9 25 "GrazeBookModel" "eaten" "[I") ∈ WS := ws_t4 (List.mem_of_getElem? (i := 23) rfl) rfl
set_option maxRecDepth 20000 in
theorem mw_801 : (Cond.fieldLink RX9 28 "GrazeBookModel" "water" "[Z") ∈ WS := ws_t4 (List.mem_of_getElem? (i := 24) rfl) rfl
set_option maxRecDepth 20000 in
theorem mw_802 : (Cond.fieldLink RX9 32 "GrazeBookModel" "coins" "[I") ∈ WS := ws_t4 (List.mem_of_getElem? (i := 25) rfl) rfl
set_option maxRecDepth 20000 in
theorem mw_803 : (Cond.fieldLink RX9 35 "GrazeBookModel" "hay" "[I") ∈ WS := ws_t4 (List.mem_of_getElem? (i := 26) rfl) rfl
set_option maxRecDepth 20000 in
theorem mw_804 : (Cond.fieldLink RX9 38 "GrazeBookModel" "houseOf" "[I") ∈ WS := ws_t4 (List.mem_of_getElem? (i := 27) rfl) rfl
set_option maxRecDepth 20000 in
theorem mw_805 : (Cond.fieldLink RX9 41 "GrazeBookModel" "rates" "[I") ∈ WS := ws_t4 (List.mem_of_getElem? (i := 28) rfl) rfl
set_option maxRecDepth 20000 in
theorem mw_806 : (Cond.fieldLink RX9 44 "GrazeBookModel" "rains" "[I") ∈ WS := ws_t4 (List.mem_of_getElem? (i := 29) rfl) rfl
set_option maxRecDepth 20000 in
theorem mw_807 : (Cond.fieldLink RX9 47 "GrazeBookModel" "warmths" "[I") ∈ WS := ws_t4 (List.mem_of_getElem? (i := 30) rfl) rfl
set_option maxRecDepth 20000 in
theorem mw_808 : (Cond.fieldLink RX9 50 "GrazeBookModel" "rKind" "[I") ∈ WS := ws_t4 (List.mem_of_getElem? (i := 31) rfl) rfl
set_option maxRecDepth 20000 in
theorem mw_809 : (Cond.fieldLink RX9 53 "GrazeBookModel" "rWho" "[I") ∈ WS := ws_t4 (List.mem_of_getElem? (i := 32) rfl) rfl
set_option maxRecDepth 20000 in
theorem mw_810 : (Cond.fieldLink RX9 56 "GrazeBookModel" "rParts" "[I") ∈ WS := ws_t4 (List.mem_of_getElem? (i := 33) rfl) rfl
set_option maxRecDepth 20000 in
theorem mw_811 : (Cond.fieldLink RX9 59 "GrazeBookModel" "rFrom" "[I") ∈ WS := ws_t4 (List.mem_of_getElem? (i := 34) rfl) rfl
set_option maxRecDepth 20000 in
theorem mw_812 : (Cond.fieldLink RX9 62 "GrazeBookModel" "rTo" "[I") ∈ WS := ws_t4 (List.mem_of_getElem? (i := 35) rfl) rfl
set_option maxRecDepth 20000 in
theorem mw_813 : (Cond.fieldLink RX9 65 "GrazeBookModel" "rPiece" "[I") ∈ WS := ws_t4 (List.mem_of_getElem? (i := 36) rfl) rfl
set_option maxRecDepth 20000 in
theorem mw_814 : (Cond.fieldLink RX9 68 "GrazeBookModel" "rOf" "[I") ∈ WS := ws_t4 (List.mem_of_getElem? (i := 37) rfl) rfl
set_option maxRecDepth 20000 in
theorem mw_815 : (Cond.fieldLink RX9 71 "GrazeBookModel" "rUsed" "[I") ∈ WS := ws_t4 (List.mem_of_getElem? (i := 38) rfl) rfl
set_option maxRecDepth 20000 in
theorem mw_816 : (Cond.fieldLink RX9 74 "GrazeBookModel" "rGone" "[Z") ∈ WS := ws_t4 (List.mem_of_getElem? (i := 39) rfl) rfl
set_option maxRecDepth 20000 in
theorem mw_817 : (Cond.fieldLink RX9 77 "GrazeBookModel" "uses" "[Z") ∈ WS := ws_t4 (List.mem_of_getElem? (i := 40) rfl) rfl
set_option maxRecDepth 20000 in
theorem mw_818 : (Cond.fieldLink RX9 80 "GrazeBookModel" "hOwner" "[I") ∈ WS := ws_t4 (List.mem_of_getElem? (i := 41) rfl) rfl
set_option maxRecDepth 20000 in
theorem mw_819 : (Cond.fieldLink RX9 83 "GrazeBookModel" "hSort" "[I") ∈ WS := ws_t4 (List.mem_of_getElem? (i := 42) rfl) rfl
set_option maxRecDepth 20000 in
theorem mw_820 : (Cond.fieldLink RX9 86 "GrazeBookModel" "hMany" "[I") ∈ WS := ws_t4 (List.mem_of_getElem? (i := 43) rfl) rfl
set_option maxRecDepth 20000 in
theorem mw_821 : (Cond.fieldLink RX9 89 "GrazeBookModel" "hPiece" "[I") ∈ WS := ws_t4 (List.mem_of_getElem? (i := 44) rfl) rfl
set_option maxRecDepth 20000 in
theorem mw_822 : (Cond.fieldLink RX9 92 "GrazeBookModel" "hOrder" "[I") ∈ WS := ws_t4 (List.mem_of_getElem? (i := 45) rfl) rfl
set_option maxRecDepth 20000 in
theorem mw_823 : (Cond.fieldLink RX9 95 "GrazeBookModel" "hHunger" "[I") ∈ WS := ws_t4 (List.mem_of_getElem? (i := 46) rfl) rfl
set_option maxRecDepth 20000 in
theorem mw_824 : (Cond.fieldLink RX9 98 "GrazeBookModel" "hState" "[I") ∈ WS := ws_t4 (List.mem_of_getElem? (i := 47) rfl) rfl
set_option maxRecDepth 20000 in
theorem mw_825 : (Cond.fieldLink RX9 101 "GrazeBookModel" "hSince" "[I") ∈ WS := ws_t4 (List.mem_of_getElem? (i := 48) rfl) rfl
set_option maxRecDepth 20000 in
theorem mw_826 : (Cond.fieldLink RX9 104 "GrazeBookModel" "hunger" "[I") ∈ WS := ws_t4 (List.mem_of_getElem? (i := 49) rfl) rfl
set_option maxRecDepth 20000 in
theorem mw_827 : (Cond.fieldLink RX9 107 "GrazeBookModel" "tryGrass" "[I") ∈ WS := ws_t4 (List.mem_of_getElem? (i := 50) rfl) rfl
set_option maxRecDepth 20000 in
theorem mw_828 : (Cond.fieldLink RX9 110 "GrazeBookModel" "tryPiece" "[I") ∈ WS := ws_t4 (List.mem_of_getElem? (i := 51) rfl) rfl
set_option maxRecDepth 20000 in
theorem mw_829 : (Cond.fieldLink RX9 113 "GrazeBookModel" "eatenNow" "[I") ∈ WS := ws_t4 (List.mem_of_getElem? (i := 52) rfl) rfl
set_option maxRecDepth 20000 in
theorem mw_830 : (Cond.fieldLink RX9 116 "GrazeBookModel" "trial" "[I") ∈ WS := ws_t4 (List.mem_of_getElem? (i := 53) rfl) rfl
set_option maxRecDepth 20000 in
theorem mw_831 : (Cond.fieldLink RX9 119 "GrazeBookModel" "best" "[I") ∈ WS := ws_t4 (List.mem_of_getElem? (i := 54) rfl) rfl
set_option maxRecDepth 20000 in
theorem mw_832 : (Cond.fieldLink RX9 250 "GrazeBookModel" "planSteps" "I") ∈ WS := ws_t4 (List.mem_of_getElem? (i := 55) rfl) rfl
set_option maxRecDepth 20000 in
theorem mw_833 : (Cond.fieldLink RX9 253 "GrazeBookModel" "planHerds" "I") ∈ WS := ws_t4 (List.mem_of_getElem? (i := 56) rfl) rfl
set_option maxRecDepth 20000 in
theorem mw_834 : (Cond.laysFinal "GrazeBookModel" "GrazeBookModel" "refusals" "[I") ∈ WS := ws_t4 (List.mem_of_getElem? (i := 57) rfl) rfl
set_option maxRecDepth 20000 in
theorem mw_836 : (Cond.lays "GrazeBookModel" "GrazeBookModel" "day" "I") ∈ WS := ws_t4 (List.mem_of_getElem? (i := 59) rfl) rfl
set_option maxRecDepth 20000 in
theorem mw_838 : (Cond.lays "GrazeBookModel" "GrazeBookModel" "pieces" "I") ∈ WS := ws_t4 (List.mem_of_getElem? (i := 61) rfl) rfl
set_option maxRecDepth 20000 in
theorem mw_840 : (Cond.lays "GrazeBookModel" "GrazeBookModel" "owners" "I") ∈ WS := ws_t4 (List.mem_of_getElem? (i := 63) rfl) rfl
set_option maxRecDepth 20000 in
theorem mw_842 : (Cond.lays "GrazeBookModel" "GrazeBookModel" "houses" "I") ∈ WS := ws_t4 (List.mem_of_getElem? (i := 65) rfl) rfl
set_option maxRecDepth 20000 in
theorem mw_844 : (Cond.lays "GrazeBookModel" "GrazeBookModel" "rights" "I") ∈ WS := ws_t4 (List.mem_of_getElem? (i := 67) rfl) rfl
set_option maxRecDepth 20000 in
theorem mw_846 : (Cond.lays "GrazeBookModel" "GrazeBookModel" "herds" "I") ∈ WS := ws_t4 (List.mem_of_getElem? (i := 69) rfl) rfl
set_option maxRecDepth 20000 in
theorem mw_848 : (Cond.lays "GrazeBookModel" "GrazeBookModel" "orders" "I") ∈ WS := ws_t4 (List.mem_of_getElem? (i := 71) rfl) rfl
set_option maxRecDepth 20000 in
theorem mw_850 : (Cond.lays "GrazeBookModel" "GrazeBookModel" "reeveCoins" "I") ∈ WS := ws_t4 (List.mem_of_getElem? (i := 73) rfl) rfl
set_option maxRecDepth 20000 in
theorem mw_852 : (Cond.lays "GrazeBookModel" "GrazeBookModel" "reeveHay" "I") ∈ WS := ws_t4 (List.mem_of_getElem? (i := 75) rfl) rfl
set_option maxRecDepth 20000 in
theorem mw_854 : (Cond.lays "GrazeBookModel" "GrazeBookModel" "hungers" "I") ∈ WS := ws_t4 (List.mem_of_getElem? (i := 77) rfl) rfl
set_option maxRecDepth 20000 in
theorem mw_856 : (Cond.lays "GrazeBookModel" "GrazeBookModel" "eats" "I") ∈ WS := ws_t4 (List.mem_of_getElem? (i := 79) rfl) rfl
set_option maxRecDepth 20000 in
theorem mw_858 : (Cond.lays "GrazeBookModel" "GrazeBookModel" "lapsed" "I") ∈ WS := ws_t4 (List.mem_of_getElem? (i := 81) rfl) rfl
set_option maxRecDepth 20000 in
theorem mw_860 : (Cond.laysFinal "GrazeBookModel" "GrazeBookModel" "grass" "[I") ∈ WS := ws_t4 (List.mem_of_getElem? (i := 83) rfl) rfl
set_option maxRecDepth 20000 in
theorem mw_862 : (Cond.laysFinal "GrazeBookModel" "GrazeBookModel" "full" "[I") ∈ WS := ws_t4 (List.mem_of_getElem? (i := 85) rfl) rfl
set_option maxRecDepth 20000 in
theorem mw_864 : (Cond.laysFinal "GrazeBookModel" "GrazeBookModel" "bears" "[I") ∈ WS := ws_t4 (List.mem_of_getElem? (i := 87) rfl) rfl
set_option maxRecDepth 20000 in
theorem mw_866 : (Cond.laysFinal "GrazeBookModel" "GrazeBookModel" "rest" "[I") ∈ WS := ws_t4 (List.mem_of_getElem? (i := 89) rfl) rfl
set_option maxRecDepth 20000 in
theorem mw_868 : (Cond.laysFinal "GrazeBookModel" "GrazeBookModel" "eaten" "[I") ∈ WS := ws_t4 (List.mem_of_getElem? (i := 91) rfl) rfl
set_option maxRecDepth 20000 in
theorem mw_870 : (Cond.laysFinal "GrazeBookModel" "GrazeBookModel" "water" "[Z") ∈ WS := ws_t4 (List.mem_of_getElem? (i := 93) rfl) rfl
set_option maxRecDepth 20000 in
theorem mw_872 : (Cond.laysFinal "GrazeBookModel" "GrazeBookModel" "coins" "[I") ∈ WS := ws_t4 (List.mem_of_getElem? (i := 95) rfl) rfl
set_option maxRecDepth 20000 in
theorem mw_874 : (Cond.laysFinal "GrazeBookModel" "GrazeBookModel" "hay" "[I") ∈ WS := ws_t4 (List.mem_of_getElem? (i := 97) rfl) rfl
set_option maxRecDepth 20000 in
theorem mw_876 : (Cond.laysFinal "GrazeBookModel" "GrazeBookModel" "houseOf" "[I") ∈ WS := ws_t4 (List.mem_of_getElem? (i := 99) rfl) rfl
set_option maxRecDepth 20000 in
theorem mw_878 : (Cond.laysFinal "GrazeBookModel" "GrazeBookModel" "rates" "[I") ∈ WS := ws_t4 (List.mem_of_getElem? (i := 101) rfl) rfl
set_option maxRecDepth 20000 in
theorem mw_880 : (Cond.laysFinal "GrazeBookModel" "GrazeBookModel" "rains" "[I") ∈ WS := ws_t4 (List.mem_of_getElem? (i := 103) rfl) rfl
set_option maxRecDepth 20000 in
theorem mw_882 : (Cond.laysFinal "GrazeBookModel" "GrazeBookModel" "warmths" "[I") ∈ WS := ws_t4 (List.mem_of_getElem? (i := 105) rfl) rfl
set_option maxRecDepth 20000 in
theorem mw_884 : (Cond.laysFinal "GrazeBookModel" "GrazeBookModel" "rKind" "[I") ∈ WS := ws_t4 (List.mem_of_getElem? (i := 107) rfl) rfl
set_option maxRecDepth 20000 in
theorem mw_886 : (Cond.laysFinal "GrazeBookModel" "GrazeBookModel" "rWho" "[I") ∈ WS := ws_t4 (List.mem_of_getElem? (i := 109) rfl) rfl
set_option maxRecDepth 20000 in
theorem mw_888 : (Cond.laysFinal "GrazeBookModel" "GrazeBookModel" "rParts" "[I") ∈ WS := ws_t4 (List.mem_of_getElem? (i := 111) rfl) rfl
set_option maxRecDepth 20000 in
theorem mw_890 : (Cond.laysFinal "GrazeBookModel" "GrazeBookModel" "rFrom" "[I") ∈ WS := ws_t4 (List.mem_of_getElem? (i := 113) rfl) rfl
set_option maxRecDepth 20000 in
theorem mw_892 : (Cond.laysFinal "GrazeBookModel" "GrazeBookModel" "rTo" "[I") ∈ WS := ws_t4 (List.mem_of_getElem? (i := 115) rfl) rfl
set_option maxRecDepth 20000 in
theorem mw_894 : (Cond.laysFinal "GrazeBookModel" "GrazeBookModel" "rPiece" "[I") ∈ WS := ws_t4 (List.mem_of_getElem? (i := 117) rfl) rfl
set_option maxRecDepth 20000 in
theorem mw_896 : (Cond.laysFinal "GrazeBookModel" "GrazeBookModel" "rOf" "[I") ∈ WS := ws_t4 (List.mem_of_getElem? (i := 119) rfl) rfl
set_option maxRecDepth 20000 in
theorem mw_898 : (Cond.laysFinal "GrazeBookModel" "GrazeBookModel" "rUsed" "[I") ∈ WS := ws_t4 (List.mem_of_getElem? (i := 121) rfl) rfl
set_option maxRecDepth 20000 in
theorem mw_900 : (Cond.laysFinal "GrazeBookModel" "GrazeBookModel" "rGone" "[Z") ∈ WS := ws_t4 (List.mem_of_getElem? (i := 123) rfl) rfl
set_option maxRecDepth 20000 in
theorem mw_902 : (Cond.laysFinal "GrazeBookModel" "GrazeBookModel" "uses" "[Z") ∈ WS := ws_t4 (List.mem_of_getElem? (i := 125) rfl) rfl
set_option maxRecDepth 20000 in
theorem mw_904 : (Cond.laysFinal "GrazeBookModel" "GrazeBookModel" "hOwner" "[I") ∈ WS := ws_t4 (List.mem_of_getElem? (i := 127) rfl) rfl
set_option maxRecDepth 20000 in
theorem mw_906 : (Cond.laysFinal "GrazeBookModel" "GrazeBookModel" "hSort" "[I") ∈ WS := ws_t4 (List.mem_of_getElem? (i := 129) rfl) rfl
set_option maxRecDepth 20000 in
theorem mw_908 : (Cond.laysFinal "GrazeBookModel" "GrazeBookModel" "hMany" "[I") ∈ WS := ws_t4 (List.mem_of_getElem? (i := 131) rfl) rfl
set_option maxRecDepth 20000 in
theorem mw_910 : (Cond.laysFinal "GrazeBookModel" "GrazeBookModel" "hPiece" "[I") ∈ WS := ws_t4 (List.mem_of_getElem? (i := 133) rfl) rfl
set_option maxRecDepth 20000 in
theorem mw_912 : (Cond.laysFinal "GrazeBookModel" "GrazeBookModel" "hOrder" "[I") ∈ WS := ws_t4 (List.mem_of_getElem? (i := 135) rfl) rfl
set_option maxRecDepth 20000 in
theorem mw_914 : (Cond.laysFinal "GrazeBookModel" "GrazeBookModel" "hHunger" "[I") ∈ WS := ws_t4 (List.mem_of_getElem? (i := 137) rfl) rfl
set_option maxRecDepth 20000 in
theorem mw_916 : (Cond.laysFinal "GrazeBookModel" "GrazeBookModel" "hState" "[I") ∈ WS := ws_t4 (List.mem_of_getElem? (i := 139) rfl) rfl
set_option maxRecDepth 20000 in
theorem mw_918 : (Cond.laysFinal "GrazeBookModel" "GrazeBookModel" "hSince" "[I") ∈ WS := ws_t4 (List.mem_of_getElem? (i := 141) rfl) rfl
set_option maxRecDepth 20000 in
theorem mw_920 : (Cond.laysFinal "GrazeBookModel" "GrazeBookModel" "hunger" "[I") ∈ WS := ws_t4 (List.mem_of_getElem? (i := 143) rfl) rfl
set_option maxRecDepth 20000 in
theorem mw_922 : (Cond.laysFinal "GrazeBookModel" "GrazeBookModel" "tryGrass" "[I") ∈ WS := ws_t4 (List.mem_of_getElem? (i := 145) rfl) rfl
set_option maxRecDepth 20000 in
theorem mw_924 : (Cond.laysFinal "GrazeBookModel" "GrazeBookModel" "tryPiece" "[I") ∈ WS := ws_t4 (List.mem_of_getElem? (i := 147) rfl) rfl
set_option maxRecDepth 20000 in
theorem mw_926 : (Cond.laysFinal "GrazeBookModel" "GrazeBookModel" "eatenNow" "[I") ∈ WS := ws_t4 (List.mem_of_getElem? (i := 149) rfl) rfl
set_option maxRecDepth 20000 in
theorem mw_928 : (Cond.laysFinal "GrazeBookModel" "GrazeBookModel" "trial" "[I") ∈ WS := ws_t4 (List.mem_of_getElem? (i := 151) rfl) rfl
set_option maxRecDepth 20000 in
theorem mw_930 : (Cond.laysFinal "GrazeBookModel" "GrazeBookModel" "best" "[I") ∈ WS := ws_t4 (List.mem_of_getElem? (i := 153) rfl) rfl
set_option maxRecDepth 20000 in
theorem mw_932 : (Cond.lays "GrazeBookModel" "GrazeBookModel" "planSteps" "I") ∈ WS := ws_t4 (List.mem_of_getElem? (i := 155) rfl) rfl
set_option maxRecDepth 20000 in
theorem mw_934 : (Cond.lays "GrazeBookModel" "GrazeBookModel" "planHerds" "I") ∈ WS := ws_t4 (List.mem_of_getElem? (i := 157) rfl) rfl
set_option maxRecDepth 20000 in
theorem mw_937 : (Cond.arrayClass .boolean) ∈ WS := ws_t4 (List.mem_of_getElem? (i := 160) rfl) rfl
set_option maxRecDepth 20000 in
theorem mw_939 : (Cond.instanceMethod yX9_piece) ∈ WS := ws_t4 (List.mem_of_getElem? (i := 162) rfl) rfl
set_option maxRecDepth 20000 in
theorem mw_940 : (Cond.selects RX9 yX9_piece yX9_piece) ∈ WS := ws_t4 (List.mem_of_getElem? (i := 163) rfl) rfl
set_option maxRecDepth 20000 in
theorem mw_941 : (Cond.code yX9_piece cX9_piece 5 (some .int)) ∈ WS := ws_t4 (List.mem_of_getElem? (i := 164) rfl) rfl
set_option maxRecDepth 20000 in
theorem mw_942 : (Cond.methodLink RX9 122 yX9_refuse) ∈ WS := ws_t4 (List.mem_of_getElem? (i := 165) rfl) rfl
set_option maxRecDepth 20000 in
theorem mw_944 : (Cond.instanceMethod yX9_refuse) ∈ WS := ws_t4 (List.mem_of_getElem? (i := 167) rfl) rfl
set_option maxRecDepth 20000 in
theorem mw_945 : (Cond.code yX9_refuse cX9_refuse 2 (some .int)) ∈ WS := ws_t4 (List.mem_of_getElem? (i := 168) rfl) rfl
set_option maxRecDepth 20000 in
theorem mw_946 : (Cond.constant RX9 126 (100000)) ∈ WS := ws_t4 (List.mem_of_getElem? (i := 169) rfl) rfl
set_option maxRecDepth 20000 in
theorem mw_948 : (Cond.instanceMethod yX9_owner) ∈ WS := ws_t4 (List.mem_of_getElem? (i := 171) rfl) rfl
set_option maxRecDepth 20000 in
theorem mw_949 : (Cond.selects RX9 yX9_owner yX9_owner) ∈ WS := ws_t4 (List.mem_of_getElem? (i := 172) rfl) rfl
set_option maxRecDepth 20000 in
theorem mw_950 : (Cond.code yX9_owner cX9_owner 2 (some .int)) ∈ WS := ws_t4 (List.mem_of_getElem? (i := 173) rfl) rfl
set_option maxRecDepth 20000 in
theorem mw_952 : (Cond.instanceMethod yX9_house) ∈ WS := ws_t4 (List.mem_of_getElem? (i := 175) rfl) rfl
set_option maxRecDepth 20000 in
theorem mw_953 : (Cond.selects RX9 yX9_house yX9_house) ∈ WS := ws_t4 (List.mem_of_getElem? (i := 176) rfl) rfl
set_option maxRecDepth 20000 in
theorem mw_954 : (Cond.code yX9_house cX9_house 2 (some .int)) ∈ WS := ws_t4 (List.mem_of_getElem? (i := 177) rfl) rfl
set_option maxRecDepth 20000 in
theorem mw_955 : (Cond.methodLink RX9 134 yX9_isIn) ∈ WS := ws_t4 (List.mem_of_getElem? (i := 178) rfl) rfl
set_option maxRecDepth 20000 in
theorem mw_956 : (Cond.static yX9_isIn) ∈ WS := ws_t4 (List.mem_of_getElem? (i := 179) rfl) rfl
set_option maxRecDepth 20000 in
theorem mw_957 : (Cond.code yX9_isIn cX9_isIn 2 (some .boolean)) ∈ WS := ws_t4 (List.mem_of_getElem? (i := 180) rfl) rfl
set_option maxRecDepth 20000 in
theorem mw_959 : (Cond.instanceMethod yX9_rate) ∈ WS := ws_t4 (List.mem_of_getElem? (i := 182) rfl) rfl
set_option maxRecDepth 20000 in
theorem mw_960 : (Cond.selects RX9 yX9_rate yX9_rate) ∈ WS := ws_t4 (List.mem_of_getElem? (i := 183) rfl) rfl
set_option maxRecDepth 20000 in
theorem mw_961 : (Cond.code yX9_rate cX9_rate 5 (some .int)) ∈ WS := ws_t4 (List.mem_of_getElem? (i := 184) rfl) rfl
set_option maxRecDepth 20000 in
theorem mw_963 : (Cond.instanceMethod yX9_weather) ∈ WS := ws_t4 (List.mem_of_getElem? (i := 186) rfl) rfl
set_option maxRecDepth 20000 in
theorem mw_964 : (Cond.selects RX9 yX9_weather yX9_weather) ∈ WS := ws_t4 (List.mem_of_getElem? (i := 187) rfl) rfl
set_option maxRecDepth 20000 in
theorem mw_965 : (Cond.code yX9_weather cX9_weather 4 (some .int)) ∈ WS := ws_t4 (List.mem_of_getElem? (i := 188) rfl) rfl
set_option maxRecDepth 20000 in
theorem mw_967 : (Cond.instanceMethod yX9_right) ∈ WS := ws_t4 (List.mem_of_getElem? (i := 190) rfl) rfl
set_option maxRecDepth 20000 in
theorem mw_968 : (Cond.selects RX9 yX9_right yX9_right) ∈ WS := ws_t4 (List.mem_of_getElem? (i := 191) rfl) rfl
set_option maxRecDepth 20000 in
theorem mw_969 : (Cond.code yX9_right cX9_right 6 (some .int)) ∈ WS := ws_t4 (List.mem_of_getElem? (i := 192) rfl) rfl
set_option maxRecDepth 20000 in
theorem mw_970 : (Cond.methodLink RX9 151 yX9_adds) ∈ WS := ws_t4 (List.mem_of_getElem? (i := 193) rfl) rfl
set_option maxRecDepth 20000 in
theorem mw_972 : (Cond.instanceMethod yX9_adds) ∈ WS := ws_t4 (List.mem_of_getElem? (i := 195) rfl) rfl
set_option maxRecDepth 20000 in
theorem mw_973 : (Cond.code yX9_adds cX9_adds 7 (some .int)) ∈ WS := ws_t4 (List.mem_of_getElem? (i := 196) rfl) rfl
set_option maxRecDepth 20000 in
theorem mw_975 : (Cond.instanceMethod yX9_lend) ∈ WS := ws_t4 (List.mem_of_getElem? (i := 198) rfl) rfl
set_option maxRecDepth 20000 in
theorem mw_976 : (Cond.selects RX9 yX9_lend yX9_lend) ∈ WS := ws_t4 (List.mem_of_getElem? (i := 199) rfl) rfl
set_option maxRecDepth 20000 in
theorem mw_977 : (Cond.code yX9_lend cX9_lend 5 (some .int)) ∈ WS := ws_t4 (List.mem_of_getElem? (i := 200) rfl) rfl
set_option maxRecDepth 20000 in
theorem mw_978 : (Cond.methodLink RX9 155 yX9_ownerOfRight) ∈ WS := ws_t4 (List.mem_of_getElem? (i := 201) rfl) rfl
set_option maxRecDepth 20000 in
theorem mw_980 : (Cond.instanceMethod yX9_ownerOfRight) ∈ WS := ws_t4 (List.mem_of_getElem? (i := 203) rfl) rfl
set_option maxRecDepth 20000 in
theorem mw_981 : (Cond.code yX9_ownerOfRight cX9_ownerOfRight 2 (some .int)) ∈ WS := ws_t4 (List.mem_of_getElem? (i := 204) rfl) rfl
set_option maxRecDepth 20000 in
theorem mw_982 : (Cond.methodLink RX9 144 yX9_isInForce) ∈ WS := ws_t4 (List.mem_of_getElem? (i := 205) rfl) rfl
set_option maxRecDepth 20000 in
theorem mw_984 : (Cond.instanceMethod yX9_isInForce) ∈ WS := ws_t4 (List.mem_of_getElem? (i := 207) rfl) rfl
set_option maxRecDepth 20000 in
theorem mw_985 : (Cond.code yX9_isInForce cX9_isInForce 2 (some .boolean)) ∈ WS := ws_t4 (List.mem_of_getElem? (i := 208) rfl) rfl
set_option maxRecDepth 20000 in
theorem mw_986 : (Cond.methodLink RX9 158 yX9_partsOf) ∈ WS := ws_t4 (List.mem_of_getElem? (i := 209) rfl) rfl
set_option maxRecDepth 20000 in
theorem mw_988 : (Cond.instanceMethod yX9_partsOf) ∈ WS := ws_t4 (List.mem_of_getElem? (i := 211) rfl) rfl
set_option maxRecDepth 20000 in
theorem mw_989 : (Cond.code yX9_partsOf cX9_partsOf 4 (some .int)) ∈ WS := ws_t4 (List.mem_of_getElem? (i := 212) rfl) rfl
set_option maxRecDepth 20000 in
theorem mw_991 : (Cond.instanceMethod yX9_sell) ∈ WS := ws_t4 (List.mem_of_getElem? (i := 214) rfl) rfl
set_option maxRecDepth 20000 in
theorem mw_992 : (Cond.selects RX9 yX9_sell yX9_sell) ∈ WS := ws_t4 (List.mem_of_getElem? (i := 215) rfl) rfl
set_option maxRecDepth 20000 in
theorem mw_993 : (Cond.code yX9_sell cX9_sell 3 (some .int)) ∈ WS := ws_t4 (List.mem_of_getElem? (i := 216) rfl) rfl
set_option maxRecDepth 20000 in
theorem mw_995 : (Cond.instanceMethod yX9_move) ∈ WS := ws_t4 (List.mem_of_getElem? (i := 218) rfl) rfl
set_option maxRecDepth 20000 in
theorem mw_996 : (Cond.selects RX9 yX9_move yX9_move) ∈ WS := ws_t4 (List.mem_of_getElem? (i := 219) rfl) rfl
set_option maxRecDepth 20000 in
theorem mw_997 : (Cond.code yX9_move cX9_move 3 (some .int)) ∈ WS := ws_t4 (List.mem_of_getElem? (i := 220) rfl) rfl
set_option maxRecDepth 20000 in
theorem mw_999 : (Cond.instanceMethod yX9_herd) ∈ WS := ws_t4 (List.mem_of_getElem? (i := 222) rfl) rfl
set_option maxRecDepth 20000 in
theorem mw_1000 : (Cond.selects RX9 yX9_herd yX9_herd) ∈ WS := ws_t4 (List.mem_of_getElem? (i := 223) rfl) rfl
set_option maxRecDepth 20000 in
theorem mw_1001 : (Cond.code yX9_herd cX9_herd 4 (some .int)) ∈ WS := ws_t4 (List.mem_of_getElem? (i := 224) rfl) rfl
set_option maxRecDepth 20000 in
theorem mw_1003 : (Cond.instanceMethod yX9_put) ∈ WS := ws_t4 (List.mem_of_getElem? (i := 226) rfl) rfl
set_option maxRecDepth 20000 in
theorem mw_1004 : (Cond.selects RX9 yX9_put yX9_put) ∈ WS := ws_t4 (List.mem_of_getElem? (i := 227) rfl) rfl
set_option maxRecDepth 20000 in
theorem mw_1005 : (Cond.code yX9_put cX9_put 3 (some .int)) ∈ WS := ws_t4 (List.mem_of_getElem? (i := 228) rfl) rfl
set_option maxRecDepth 20000 in
theorem mw_1006 : (Cond.methodLink RX9 182 yX9_rests) ∈ WS := ws_t4 (List.mem_of_getElem? (i := 229) rfl) rfl
set_option maxRecDepth 20000 in
theorem mw_1008 : (Cond.instanceMethod yX9_rests) ∈ WS := ws_t4 (List.mem_of_getElem? (i := 231) rfl) rfl
set_option maxRecDepth 20000 in
theorem mw_1009 : (Cond.code yX9_rests cX9_rests 2 (some .boolean)) ∈ WS := ws_t4 (List.mem_of_getElem? (i := 232) rfl) rfl
set_option maxRecDepth 20000 in
theorem mw_1010 : (Cond.methodLink RX9 185 yX9_lacksOf) ∈ WS := ws_t4 (List.mem_of_getElem? (i := 233) rfl) rfl
set_option maxRecDepth 20000 in
theorem mw_1012 : (Cond.instanceMethod yX9_lacksOf) ∈ WS := ws_t4 (List.mem_of_getElem? (i := 235) rfl) rfl
set_option maxRecDepth 20000 in
theorem mw_1013 : (Cond.code yX9_lacksOf cX9_lacksOf 11 (some .int)) ∈ WS := ws_t4 (List.mem_of_getElem? (i := 236) rfl) rfl
set_option maxRecDepth 20000 in
theorem mw_1014 : (Cond.methodLink RX9 167 yX9_isOut) ∈ WS := ws_t4 (List.mem_of_getElem? (i := 237) rfl) rfl
set_option maxRecDepth 20000 in
theorem mw_1016 : (Cond.instanceMethod yX9_isOut) ∈ WS := ws_t4 (List.mem_of_getElem? (i := 239) rfl) rfl
set_option maxRecDepth 20000 in
theorem mw_1017 : (Cond.code yX9_isOut cX9_isOut 2 (some .boolean)) ∈ WS := ws_t5 (List.mem_of_getElem? (i := 0) rfl) rfl
set_option maxRecDepth 20000 in
theorem mw_1018 : (Cond.methodLink RX9 170 yX9_partsOfHerd) ∈ WS := ws_t5 (List.mem_of_getElem? (i := 1) rfl) rfl
set_option maxRecDepth 20000 in
theorem mw_1020 : (Cond.instanceMethod yX9_partsOfHerd) ∈ WS := ws_t5 (List.mem_of_getElem? (i := 3) rfl) rfl
set_option maxRecDepth 20000 in
theorem mw_1021 : (Cond.code yX9_partsOfHerd cX9_partsOfHerd 2 (some .int)) ∈ WS := ws_t5 (List.mem_of_getElem? (i := 4) rfl) rfl
set_option maxRecDepth 20000 in
theorem mw_1022 : (Cond.methodLink RX9 161 yX9_partsOfSort) ∈ WS := ws_t5 (List.mem_of_getElem? (i := 5) rfl) rfl
set_option maxRecDepth 20000 in
theorem mw_1023 : (Cond.static yX9_partsOfSort) ∈ WS := ws_t5 (List.mem_of_getElem? (i := 6) rfl) rfl
set_option maxRecDepth 20000 in
theorem mw_1024 : (Cond.code yX9_partsOfSort cX9_partsOfSort 1 (some .int)) ∈ WS := ws_t5 (List.mem_of_getElem? (i := 7) rfl) rfl
set_option maxRecDepth 20000 in
theorem mw_1025 : (Cond.methodLink RX9 173 Lib.Math.min.name) ∈ WS := ws_t5 (List.mem_of_getElem? (i := 8) rfl) rfl
set_option maxRecDepth 20000 in
theorem mw_1026 : (Cond.methodLink RX9 179 Lib.Math.max.name) ∈ WS := ws_t5 (List.mem_of_getElem? (i := 9) rfl) rfl
set_option maxRecDepth 20000 in
theorem mw_1028 : (Cond.instanceMethod yX9_drive) ∈ WS := ws_t5 (List.mem_of_getElem? (i := 11) rfl) rfl
set_option maxRecDepth 20000 in
theorem mw_1029 : (Cond.selects RX9 yX9_drive yX9_drive) ∈ WS := ws_t5 (List.mem_of_getElem? (i := 12) rfl) rfl
set_option maxRecDepth 20000 in
theorem mw_1030 : (Cond.code yX9_drive cX9_drive 4 (some .int)) ∈ WS := ws_t5 (List.mem_of_getElem? (i := 13) rfl) rfl
set_option maxRecDepth 20000 in
theorem mw_1032 : (Cond.instanceMethod yX9_covered) ∈ WS := ws_t5 (List.mem_of_getElem? (i := 15) rfl) rfl
set_option maxRecDepth 20000 in
theorem mw_1033 : (Cond.selects RX9 yX9_covered yX9_covered) ∈ WS := ws_t5 (List.mem_of_getElem? (i := 16) rfl) rfl
set_option maxRecDepth 20000 in
theorem mw_1034 : (Cond.code yX9_covered cX9_covered 2 (some .int)) ∈ WS := ws_t5 (List.mem_of_getElem? (i := 17) rfl) rfl
set_option maxRecDepth 20000 in
theorem mw_1036 : (Cond.instanceMethod yX9_lacks) ∈ WS := ws_t5 (List.mem_of_getElem? (i := 19) rfl) rfl
set_option maxRecDepth 20000 in
theorem mw_1037 : (Cond.selects RX9 yX9_lacks yX9_lacks) ∈ WS := ws_t5 (List.mem_of_getElem? (i := 20) rfl) rfl
set_option maxRecDepth 20000 in
theorem mw_1038 : (Cond.code yX9_lacks cX9_lacks 2 (some .int)) ∈ WS := ws_t5 (List.mem_of_getElem? (i := 21) rfl) rfl
set_option maxRecDepth 20000 in
theorem mw_1040 : (Cond.instanceMethod yX9_over) ∈ WS := ws_t5 (List.mem_of_getElem? (i := 23) rfl) rfl
set_option maxRecDepth 20000 in
theorem mw_1041 : (Cond.selects RX9 yX9_over yX9_over) ∈ WS := ws_t5 (List.mem_of_getElem? (i := 24) rfl) rfl
set_option maxRecDepth 20000 in
theorem mw_1042 : (Cond.code yX9_over cX9_over 8 (some .int)) ∈ WS := ws_t5 (List.mem_of_getElem? (i := 25) rfl) rfl
set_option maxRecDepth 20000 in
theorem mw_1043 : (Cond.methodLink RX9 191 yX9_partsOn) ∈ WS := ws_t5 (List.mem_of_getElem? (i := 26) rfl) rfl
set_option maxRecDepth 20000 in
theorem mw_1045 : (Cond.instanceMethod yX9_partsOn) ∈ WS := ws_t5 (List.mem_of_getElem? (i := 28) rfl) rfl
set_option maxRecDepth 20000 in
theorem mw_1046 : (Cond.code yX9_partsOn cX9_partsOn 4 (some .int)) ∈ WS := ws_t5 (List.mem_of_getElem? (i := 29) rfl) rfl
set_option maxRecDepth 20000 in
theorem mw_1048 : (Cond.instanceMethod yX9_pass) ∈ WS := ws_t5 (List.mem_of_getElem? (i := 31) rfl) rfl
set_option maxRecDepth 20000 in
theorem mw_1049 : (Cond.selects RX9 yX9_pass yX9_pass) ∈ WS := ws_t5 (List.mem_of_getElem? (i := 32) rfl) rfl
set_option maxRecDepth 20000 in
theorem mw_1050 : (Cond.code yX9_pass cX9_pass 5 (some .int)) ∈ WS := ws_t5 (List.mem_of_getElem? (i := 33) rfl) rfl
set_option maxRecDepth 20000 in
theorem mw_1051 : (Cond.methodLink RX9 214 yX9_places) ∈ WS := ws_t5 (List.mem_of_getElem? (i := 34) rfl) rfl
set_option maxRecDepth 20000 in
theorem mw_1053 : (Cond.instanceMethod yX9_places) ∈ WS := ws_t5 (List.mem_of_getElem? (i := 36) rfl) rfl
set_option maxRecDepth 20000 in
theorem mw_1054 : (Cond.code yX9_places cX9_places 2 none) ∈ WS := ws_t5 (List.mem_of_getElem? (i := 37) rfl) rfl
set_option maxRecDepth 20000 in
theorem mw_1055 : (Cond.methodLink RX9 217 yX9_goes) ∈ WS := ws_t5 (List.mem_of_getElem? (i := 38) rfl) rfl
set_option maxRecDepth 20000 in
theorem mw_1057 : (Cond.instanceMethod yX9_goes) ∈ WS := ws_t5 (List.mem_of_getElem? (i := 40) rfl) rfl
set_option maxRecDepth 20000 in
theorem mw_1058 : (Cond.code yX9_goes cX9_goes 11 none) ∈ WS := ws_t5 (List.mem_of_getElem? (i := 41) rfl) rfl
set_option maxRecDepth 20000 in
theorem mw_1059 : (Cond.constantLong RX9 194 (1000)) ∈ WS := ws_t5 (List.mem_of_getElem? (i := 42) rfl) rfl
set_option maxRecDepth 20000 in
theorem mw_1060 : (Cond.methodLink RX9 196 Lib.MathLoose.max_long.x) ∈ WS := ws_t5 (List.mem_of_getElem? (i := 43) rfl) rfl
set_option maxRecDepth 20000 in
theorem mw_1061 : (Cond.static Lib.MathLoose.max_long.x) ∈ WS := ws_t5 (List.mem_of_getElem? (i := 44) rfl) rfl
set_option maxRecDepth 20000 in
theorem mw_1062 : (Cond.code Lib.MathLoose.max_long.x Lib.MathLoose.max_long.code 4 (some .long)) ∈ WS := ws_t5 (List.mem_of_getElem? (i := 45) rfl) rfl
set_option maxRecDepth 20000 in
theorem mw_1063 : (Cond.methodLink RX9 199 Lib.MathLoose.min_long.x) ∈ WS := ws_t5 (List.mem_of_getElem? (i := 46) rfl) rfl
set_option maxRecDepth 20000 in
theorem mw_1064 : (Cond.static Lib.MathLoose.min_long.x) ∈ WS := ws_t5 (List.mem_of_getElem? (i := 47) rfl) rfl
set_option maxRecDepth 20000 in
theorem mw_1065 : (Cond.code Lib.MathLoose.min_long.x Lib.MathLoose.min_long.code 4 (some .long)) ∈ WS := ws_t5 (List.mem_of_getElem? (i := 48) rfl) rfl
set_option maxRecDepth 20000 in
theorem mw_1066 : (Cond.methodLink RX9 201 yX9_shares) ∈ WS := ws_t5 (List.mem_of_getElem? (i := 49) rfl) rfl
set_option maxRecDepth 20000 in
theorem mw_1068 : (Cond.instanceMethod yX9_shares) ∈ WS := ws_t5 (List.mem_of_getElem? (i := 51) rfl) rfl
set_option maxRecDepth 20000 in
theorem mw_1069 : (Cond.code yX9_shares cX9_shares 13 none) ∈ WS := ws_t5 (List.mem_of_getElem? (i := 52) rfl) rfl
set_option maxRecDepth 20000 in
theorem mw_1070 : (Cond.methodLink RX9 224 yX9_sells) ∈ WS := ws_t5 (List.mem_of_getElem? (i := 53) rfl) rfl
set_option maxRecDepth 20000 in
theorem mw_1072 : (Cond.instanceMethod yX9_sells) ∈ WS := ws_t5 (List.mem_of_getElem? (i := 55) rfl) rfl
set_option maxRecDepth 20000 in
theorem mw_1073 : (Cond.code yX9_sells cX9_sells 4 none) ∈ WS := ws_t5 (List.mem_of_getElem? (i := 56) rfl) rfl
set_option maxRecDepth 20000 in
theorem mw_1074 : (Cond.methodLink RX9 227 yX9_lapses) ∈ WS := ws_t5 (List.mem_of_getElem? (i := 57) rfl) rfl
set_option maxRecDepth 20000 in
theorem mw_1076 : (Cond.instanceMethod yX9_lapses) ∈ WS := ws_t5 (List.mem_of_getElem? (i := 59) rfl) rfl
set_option maxRecDepth 20000 in
theorem mw_1077 : (Cond.code yX9_lapses cX9_lapses 3 none) ∈ WS := ws_t5 (List.mem_of_getElem? (i := 60) rfl) rfl
set_option maxRecDepth 20000 in
theorem mw_1078 : (Cond.methodLink RX9 208 yX9_isAsked) ∈ WS := ws_t5 (List.mem_of_getElem? (i := 61) rfl) rfl
set_option maxRecDepth 20000 in
theorem mw_1080 : (Cond.instanceMethod yX9_isAsked) ∈ WS := ws_t5 (List.mem_of_getElem? (i := 63) rfl) rfl
set_option maxRecDepth 20000 in
theorem mw_1081 : (Cond.code yX9_isAsked cX9_isAsked 5 (some .boolean)) ∈ WS := ws_t5 (List.mem_of_getElem? (i := 64) rfl) rfl
set_option maxRecDepth 20000 in
theorem mw_1083 : (Cond.instanceMethod yX9_rest) ∈ WS := ws_t5 (List.mem_of_getElem? (i := 66) rfl) rfl
set_option maxRecDepth 20000 in
theorem mw_1084 : (Cond.selects RX9 yX9_rest yX9_rest) ∈ WS := ws_t5 (List.mem_of_getElem? (i := 67) rfl) rfl
set_option maxRecDepth 20000 in
theorem mw_1085 : (Cond.code yX9_rest cX9_rest 4 (some .int)) ∈ WS := ws_t5 (List.mem_of_getElem? (i := 68) rfl) rfl
set_option maxRecDepth 20000 in
theorem mw_1087 : (Cond.instanceMethod yX9_cut) ∈ WS := ws_t5 (List.mem_of_getElem? (i := 70) rfl) rfl
set_option maxRecDepth 20000 in
theorem mw_1088 : (Cond.selects RX9 yX9_cut yX9_cut) ∈ WS := ws_t5 (List.mem_of_getElem? (i := 71) rfl) rfl
set_option maxRecDepth 20000 in
theorem mw_1089 : (Cond.code yX9_cut cX9_cut 11 (some .int)) ∈ WS := ws_t5 (List.mem_of_getElem? (i := 72) rfl) rfl
set_option maxRecDepth 20000 in
theorem mw_1090 : (Cond.methodLink RX9 233 yX9_counts) ∈ WS := ws_t5 (List.mem_of_getElem? (i := 73) rfl) rfl
set_option maxRecDepth 20000 in
theorem mw_1092 : (Cond.instanceMethod yX9_counts) ∈ WS := ws_t5 (List.mem_of_getElem? (i := 75) rfl) rfl
set_option maxRecDepth 20000 in
theorem mw_1093 : (Cond.code yX9_counts cX9_counts 3 (some .int)) ∈ WS := ws_t5 (List.mem_of_getElem? (i := 76) rfl) rfl
set_option maxRecDepth 20000 in
theorem mw_1095 : (Cond.instanceMethod yX9_pound) ∈ WS := ws_t5 (List.mem_of_getElem? (i := 78) rfl) rfl
set_option maxRecDepth 20000 in
theorem mw_1096 : (Cond.selects RX9 yX9_pound yX9_pound) ∈ WS := ws_t5 (List.mem_of_getElem? (i := 79) rfl) rfl
set_option maxRecDepth 20000 in
theorem mw_1097 : (Cond.code yX9_pound cX9_pound 2 (some .int)) ∈ WS := ws_t5 (List.mem_of_getElem? (i := 80) rfl) rfl
set_option maxRecDepth 20000 in
theorem mw_1099 : (Cond.instanceMethod yX9_free) ∈ WS := ws_t5 (List.mem_of_getElem? (i := 82) rfl) rfl
set_option maxRecDepth 20000 in
theorem mw_1100 : (Cond.selects RX9 yX9_free yX9_free) ∈ WS := ws_t5 (List.mem_of_getElem? (i := 83) rfl) rfl
set_option maxRecDepth 20000 in
theorem mw_1101 : (Cond.code yX9_free cX9_free 3 (some .int)) ∈ WS := ws_t5 (List.mem_of_getElem? (i := 84) rfl) rfl
set_option maxRecDepth 20000 in
theorem mw_1102 : (Cond.methodLink RX9 239 yX9_feeOf) ∈ WS := ws_t5 (List.mem_of_getElem? (i := 85) rfl) rfl
set_option maxRecDepth 20000 in
theorem mw_1104 : (Cond.instanceMethod yX9_feeOf) ∈ WS := ws_t5 (List.mem_of_getElem? (i := 87) rfl) rfl
set_option maxRecDepth 20000 in
theorem mw_1105 : (Cond.code yX9_feeOf cX9_feeOf 2 (some .int)) ∈ WS := ws_t5 (List.mem_of_getElem? (i := 88) rfl) rfl
set_option maxRecDepth 20000 in
theorem mw_1107 : (Cond.instanceMethod yX9_plan) ∈ WS := ws_t5 (List.mem_of_getElem? (i := 90) rfl) rfl
set_option maxRecDepth 20000 in
theorem mw_1108 : (Cond.selects RX9 yX9_plan yX9_plan) ∈ WS := ws_t5 (List.mem_of_getElem? (i := 91) rfl) rfl
set_option maxRecDepth 20000 in
theorem mw_1109 : (Cond.code yX9_plan cX9_plan 13 (some .int)) ∈ WS := ws_t5 (List.mem_of_getElem? (i := 92) rfl) rfl
set_option maxRecDepth 20000 in
theorem mw_1110 : (Cond.methodLink RX9 242 yX9_mayTake) ∈ WS := ws_t5 (List.mem_of_getElem? (i := 93) rfl) rfl
set_option maxRecDepth 20000 in
theorem mw_1112 : (Cond.instanceMethod yX9_mayTake) ∈ WS := ws_t5 (List.mem_of_getElem? (i := 95) rfl) rfl
set_option maxRecDepth 20000 in
theorem mw_1113 : (Cond.code yX9_mayTake cX9_mayTake 4 (some .boolean)) ∈ WS := ws_t5 (List.mem_of_getElem? (i := 96) rfl) rfl
set_option maxRecDepth 20000 in
theorem mw_1114 : (Cond.methodLink RX9 246 yX9_tries) ∈ WS := ws_t5 (List.mem_of_getElem? (i := 97) rfl) rfl
set_option maxRecDepth 20000 in
theorem mw_1116 : (Cond.instanceMethod yX9_tries) ∈ WS := ws_t5 (List.mem_of_getElem? (i := 99) rfl) rfl
set_option maxRecDepth 20000 in
theorem mw_1117 : (Cond.code yX9_tries cX9_tries 9 (some .int)) ∈ WS := ws_t5 (List.mem_of_getElem? (i := 100) rfl) rfl
set_option maxRecDepth 20000 in
theorem mw_1119 : (Cond.instanceMethod yX9_planned) ∈ WS := ws_t5 (List.mem_of_getElem? (i := 102) rfl) rfl
set_option maxRecDepth 20000 in
theorem mw_1120 : (Cond.selects RX9 yX9_planned yX9_planned) ∈ WS := ws_t5 (List.mem_of_getElem? (i := 103) rfl) rfl
set_option maxRecDepth 20000 in
theorem mw_1121 : (Cond.code yX9_planned cX9_planned 3 (some .int)) ∈ WS := ws_t5 (List.mem_of_getElem? (i := 104) rfl) rfl
set_option maxRecDepth 20000 in
theorem mw_1123 : (Cond.instanceMethod yX9_pieceOf) ∈ WS := ws_t5 (List.mem_of_getElem? (i := 106) rfl) rfl
set_option maxRecDepth 20000 in
theorem mw_1124 : (Cond.selects RX9 yX9_pieceOf yX9_pieceOf) ∈ WS := ws_t5 (List.mem_of_getElem? (i := 107) rfl) rfl
set_option maxRecDepth 20000 in
theorem mw_1125 : (Cond.code yX9_pieceOf cX9_pieceOf 5 (some .int)) ∈ WS := ws_t5 (List.mem_of_getElem? (i := 108) rfl) rfl
set_option maxRecDepth 20000 in
theorem mw_1127 : (Cond.instanceMethod yX9_rightOf) ∈ WS := ws_t5 (List.mem_of_getElem? (i := 110) rfl) rfl
set_option maxRecDepth 20000 in
theorem mw_1128 : (Cond.selects RX9 yX9_rightOf yX9_rightOf) ∈ WS := ws_t5 (List.mem_of_getElem? (i := 111) rfl) rfl
set_option maxRecDepth 20000 in
theorem mw_1129 : (Cond.code yX9_rightOf cX9_rightOf 3 (some .int)) ∈ WS := ws_t5 (List.mem_of_getElem? (i := 112) rfl) rfl
set_option maxRecDepth 20000 in
theorem mw_1131 : (Cond.instanceMethod yX9_herdOf) ∈ WS := ws_t5 (List.mem_of_getElem? (i := 114) rfl) rfl
set_option maxRecDepth 20000 in
theorem mw_1132 : (Cond.selects RX9 yX9_herdOf yX9_herdOf) ∈ WS := ws_t5 (List.mem_of_getElem? (i := 115) rfl) rfl
set_option maxRecDepth 20000 in
theorem mw_1133 : (Cond.code yX9_herdOf cX9_herdOf 3 (some .int)) ∈ WS := ws_t5 (List.mem_of_getElem? (i := 116) rfl) rfl
set_option maxRecDepth 20000 in
theorem mw_1135 : (Cond.instanceMethod yX9_ownerOf) ∈ WS := ws_t5 (List.mem_of_getElem? (i := 118) rfl) rfl
set_option maxRecDepth 20000 in
theorem mw_1136 : (Cond.selects RX9 yX9_ownerOf yX9_ownerOf) ∈ WS := ws_t5 (List.mem_of_getElem? (i := 119) rfl) rfl
set_option maxRecDepth 20000 in
theorem mw_1137 : (Cond.code yX9_ownerOf cX9_ownerOf 5 (some .int)) ∈ WS := ws_t5 (List.mem_of_getElem? (i := 120) rfl) rfl
set_option maxRecDepth 20000 in
theorem mw_1139 : (Cond.instanceMethod yX9_count) ∈ WS := ws_t5 (List.mem_of_getElem? (i := 122) rfl) rfl
set_option maxRecDepth 20000 in
theorem mw_1140 : (Cond.selects RX9 yX9_count yX9_count) ∈ WS := ws_t5 (List.mem_of_getElem? (i := 123) rfl) rfl
set_option maxRecDepth 20000 in
theorem mw_1141 : (Cond.code yX9_count cX9_count 4 (some .int)) ∈ WS := ws_t5 (List.mem_of_getElem? (i := 124) rfl) rfl
