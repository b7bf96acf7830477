def RL : String := "GrazeBookLaw"
abbrev cL_law : ByteArray := code
def yL_law : MethodName := ⟨RL, "law", "([I)Z"⟩
abbrev wsL_law : List Cond := WS
theorem wsL_law_in : ∀ w ∈ wsL_law, w ∈ lw_tbl := fun w h => ws_tb h
theorem inlX0 : ∀ w ∈ u_ws RX0 TX0 9, w ∈ wsL_law := uw0
theorem inlX1 : ∀ w ∈ u_ws RX1 TX1 5, w ∈ wsL_law := uw1
theorem inlX2 : ∀ w ∈ u_ws RX2 TX2 8, w ∈ wsL_law := uw2
theorem inlX3 : ∀ w ∈ u_ws RX3 TX3 7, w ∈ wsL_law := uw3
theorem inlX4 : ∀ w ∈ u_ws RX4 TX4 6, w ∈ wsL_law := uw4
theorem inlX5 : ∀ w ∈ u_ws RX5 TX5 2, w ∈ wsL_law := uw5
theorem inlX6 : ∀ w ∈ u_ws RX6 TX6 10, w ∈ wsL_law := uw6
theorem inlX7 : ∀ w ∈ u_ws RX7 TX7 2, w ∈ wsL_law := uw7
theorem inlX8 : ∀ w ∈ u_ws RX8 TX8 19, w ∈ wsL_law := uw8
theorem inlX9 : ∀ w ∈ u_ws RX9 TX9 51, w ∈ wsL_law := uw9
set_option maxRecDepth 20000 in
theorem mw_70 : (Cond.classLink RL 7 RX8) ∈ WS := ws_t1 (List.mem_of_getElem? (i := 13) rfl) rfl
set_option maxRecDepth 20000 in
theorem mw_72 : (Cond.methodLink RL 9 yX8_init) ∈ WS := ws_t1 (List.mem_of_getElem? (i := 15) rfl) rfl
set_option maxRecDepth 20000 in
theorem mw_268 : (Cond.methodLink RL 13 yX8_piece) ∈ WS := ws_t1 (List.mem_of_getElem? (i := 211) rfl) rfl
set_option maxRecDepth 20000 in
theorem mw_308 : (Cond.methodLink RL 18 yX8_owner) ∈ WS := ws_t2 (List.mem_of_getElem? (i := 11) rfl) rfl
set_option maxRecDepth 20000 in
theorem mw_312 : (Cond.methodLink RL 23 yX8_house) ∈ WS := ws_t2 (List.mem_of_getElem? (i := 15) rfl) rfl
set_option maxRecDepth 20000 in
theorem mw_320 : (Cond.methodLink RL 27 yX8_rate) ∈ WS := ws_t2 (List.mem_of_getElem? (i := 23) rfl) rfl
set_option maxRecDepth 20000 in
theorem mw_332 : (Cond.methodLink RL 32 yX8_weather) ∈ WS := ws_t2 (List.mem_of_getElem? (i := 35) rfl) rfl
set_option maxRecDepth 20000 in
theorem mw_340 : (Cond.methodLink RL 36 yX8_right) ∈ WS := ws_t2 (List.mem_of_getElem? (i := 43) rfl) rfl
set_option maxRecDepth 20000 in
theorem mw_399 : (Cond.methodLink RL 41 yX8_lend) ∈ WS := ws_t2 (List.mem_of_getElem? (i := 102) rfl) rfl
set_option maxRecDepth 20000 in
theorem mw_423 : (Cond.methodLink RL 46 yX8_sell) ∈ WS := ws_t2 (List.mem_of_getElem? (i := 126) rfl) rfl
set_option maxRecDepth 20000 in
theorem mw_427 : (Cond.methodLink RL 51 yX8_move) ∈ WS := ws_t2 (List.mem_of_getElem? (i := 130) rfl) rfl
set_option maxRecDepth 20000 in
theorem mw_431 : (Cond.methodLink RL 55 yX8_herd) ∈ WS := ws_t2 (List.mem_of_getElem? (i := 134) rfl) rfl
set_option maxRecDepth 20000 in
theorem mw_477 : (Cond.methodLink RL 59 yX8_put) ∈ WS := ws_t2 (List.mem_of_getElem? (i := 180) rfl) rfl
set_option maxRecDepth 20000 in
theorem mw_522 : (Cond.methodLink RL 63 yX8_drive) ∈ WS := ws_t2 (List.mem_of_getElem? (i := 225) rfl) rfl
set_option maxRecDepth 20000 in
theorem mw_526 : (Cond.methodLink RL 67 yX8_covered) ∈ WS := ws_t2 (List.mem_of_getElem? (i := 229) rfl) rfl
set_option maxRecDepth 20000 in
theorem mw_530 : (Cond.methodLink RL 71 yX8_lacks) ∈ WS := ws_t2 (List.mem_of_getElem? (i := 233) rfl) rfl
set_option maxRecDepth 20000 in
theorem mw_534 : (Cond.methodLink RL 75 yX8_over) ∈ WS := ws_t2 (List.mem_of_getElem? (i := 237) rfl) rfl
set_option maxRecDepth 20000 in
theorem mw_547 : (Cond.methodLink RL 79 yX8_pass) ∈ WS := ws_t3 (List.mem_of_getElem? (i := 10) rfl) rfl
set_option maxRecDepth 20000 in
theorem mw_632 : (Cond.methodLink RL 83 yX8_rest) ∈ WS := ws_t3 (List.mem_of_getElem? (i := 95) rfl) rfl
set_option maxRecDepth 20000 in
theorem mw_636 : (Cond.methodLink RL 87 yX8_cut) ∈ WS := ws_t3 (List.mem_of_getElem? (i := 99) rfl) rfl
set_option maxRecDepth 20000 in
theorem mw_653 : (Cond.methodLink RL 91 yX8_pound) ∈ WS := ws_t3 (List.mem_of_getElem? (i := 116) rfl) rfl
set_option maxRecDepth 20000 in
theorem mw_657 : (Cond.methodLink RL 95 yX8_free) ∈ WS := ws_t3 (List.mem_of_getElem? (i := 120) rfl) rfl
set_option maxRecDepth 20000 in
theorem mw_661 : (Cond.methodLink RL 99 yX8_plan) ∈ WS := ws_t3 (List.mem_of_getElem? (i := 124) rfl) rfl
set_option maxRecDepth 20000 in
theorem mw_721 : (Cond.methodLink RL 103 yX8_planned) ∈ WS := ws_t3 (List.mem_of_getElem? (i := 184) rfl) rfl
set_option maxRecDepth 20000 in
theorem mw_729 : (Cond.methodLink RL 107 yX8_pieceOf) ∈ WS := ws_t3 (List.mem_of_getElem? (i := 192) rfl) rfl
set_option maxRecDepth 20000 in
theorem mw_733 : (Cond.methodLink RL 111 yX8_rightOf) ∈ WS := ws_t3 (List.mem_of_getElem? (i := 196) rfl) rfl
set_option maxRecDepth 20000 in
theorem mw_737 : (Cond.methodLink RL 115 yX8_herdOf) ∈ WS := ws_t3 (List.mem_of_getElem? (i := 200) rfl) rfl
set_option maxRecDepth 20000 in
theorem mw_741 : (Cond.methodLink RL 119 yX8_ownerOf) ∈ WS := ws_t3 (List.mem_of_getElem? (i := 204) rfl) rfl
set_option maxRecDepth 20000 in
theorem mw_753 : (Cond.methodLink RL 123 yX8_count) ∈ WS := ws_t3 (List.mem_of_getElem? (i := 216) rfl) rfl
set_option maxRecDepth 20000 in
theorem mw_777 : (Cond.classLink RL 10 RX9) ∈ WS := ws_t4 (List.mem_of_getElem? (i := 0) rfl) rfl
set_option maxRecDepth 20000 in
theorem mw_779 : (Cond.methodLink RL 12 yX9_init) ∈ WS := ws_t4 (List.mem_of_getElem? (i := 2) rfl) rfl
set_option maxRecDepth 20000 in
theorem mw_938 : (Cond.methodLink RL 17 yX9_piece) ∈ WS := ws_t4 (List.mem_of_getElem? (i := 161) rfl) rfl
set_option maxRecDepth 20000 in
theorem mw_947 : (Cond.methodLink RL 22 yX9_owner) ∈ WS := ws_t4 (List.mem_of_getElem? (i := 170) rfl) rfl
set_option maxRecDepth 20000 in
theorem mw_951 : (Cond.methodLink RL 26 yX9_house) ∈ WS := ws_t4 (List.mem_of_getElem? (i := 174) rfl) rfl
set_option maxRecDepth 20000 in
theorem mw_958 : (Cond.methodLink RL 31 yX9_rate) ∈ WS := ws_t4 (List.mem_of_getElem? (i := 181) rfl) rfl
set_option maxRecDepth 20000 in
theorem mw_962 : (Cond.methodLink RL 35 yX9_weather) ∈ WS := ws_t4 (List.mem_of_getElem? (i := 185) rfl) rfl
set_option maxRecDepth 20000 in
theorem mw_966 : (Cond.methodLink RL 40 yX9_right) ∈ WS := ws_t4 (List.mem_of_getElem? (i := 189) rfl) rfl
set_option maxRecDepth 20000 in
theorem mw_974 : (Cond.methodLink RL 45 yX9_lend) ∈ WS := ws_t4 (List.mem_of_getElem? (i := 197) rfl) rfl
set_option maxRecDepth 20000 in
theorem mw_990 : (Cond.methodLink RL 50 yX9_sell) ∈ WS := ws_t4 (List.mem_of_getElem? (i := 213) rfl) rfl
set_option maxRecDepth 20000 in
theorem mw_994 : (Cond.methodLink RL 54 yX9_move) ∈ WS := ws_t4 (List.mem_of_getElem? (i := 217) rfl) rfl
set_option maxRecDepth 20000 in
theorem mw_998 : (Cond.methodLink RL 58 yX9_herd) ∈ WS := ws_t4 (List.mem_of_getElem? (i := 221) rfl) rfl
set_option maxRecDepth 20000 in
theorem mw_1002 : (Cond.methodLink RL 62 yX9_put) ∈ WS := ws_t4 (List.mem_of_getElem? (i := 225) rfl) rfl
set_option maxRecDepth 20000 in
theorem mw_1027 : (Cond.methodLink RL 66 yX9_drive) ∈ WS := ws_t5 (List.mem_of_getElem? (i := 10) rfl) rfl
set_option maxRecDepth 20000 in
theorem mw_1031 : (Cond.methodLink RL 70 yX9_covered) ∈ WS := ws_t5 (List.mem_of_getElem? (i := 14) rfl) rfl
set_option maxRecDepth 20000 in
theorem mw_1035 : (Cond.methodLink RL 74 yX9_lacks) ∈ WS := ws_t5 (List.mem_of_getElem? (i := 18) rfl) rfl
set_option maxRecDepth 20000 in
theorem mw_1039 : (Cond.methodLink RL 78 yX9_over) ∈ WS := ws_t5 (List.mem_of_getElem? (i := 22) rfl) rfl
set_option maxRecDepth 20000 in
theorem mw_1047 : (Cond.methodLink RL 82 yX9_pass) ∈ WS := ws_t5 (List.mem_of_getElem? (i := 30) rfl) rfl
set_option maxRecDepth 20000 in
theorem mw_1082 : (Cond.methodLink RL 86 yX9_rest) ∈ WS := ws_t5 (List.mem_of_getElem? (i := 65) rfl) rfl
set_option maxRecDepth 20000 in
theorem mw_1086 : (Cond.methodLink RL 90 yX9_cut) ∈ WS := ws_t5 (List.mem_of_getElem? (i := 69) rfl) rfl
set_option maxRecDepth 20000 in
theorem mw_1094 : (Cond.methodLink RL 94 yX9_pound) ∈ WS := ws_t5 (List.mem_of_getElem? (i := 77) rfl) rfl
set_option maxRecDepth 20000 in
theorem mw_1098 : (Cond.methodLink RL 98 yX9_free) ∈ WS := ws_t5 (List.mem_of_getElem? (i := 81) rfl) rfl
set_option maxRecDepth 20000 in
theorem mw_1106 : (Cond.methodLink RL 102 yX9_plan) ∈ WS := ws_t5 (List.mem_of_getElem? (i := 89) rfl) rfl
set_option maxRecDepth 20000 in
theorem mw_1118 : (Cond.methodLink RL 106 yX9_planned) ∈ WS := ws_t5 (List.mem_of_getElem? (i := 101) rfl) rfl
set_option maxRecDepth 20000 in
theorem mw_1122 : (Cond.methodLink RL 110 yX9_pieceOf) ∈ WS := ws_t5 (List.mem_of_getElem? (i := 105) rfl) rfl
set_option maxRecDepth 20000 in
theorem mw_1126 : (Cond.methodLink RL 114 yX9_rightOf) ∈ WS := ws_t5 (List.mem_of_getElem? (i := 109) rfl) rfl
set_option maxRecDepth 20000 in
theorem mw_1130 : (Cond.methodLink RL 118 yX9_herdOf) ∈ WS := ws_t5 (List.mem_of_getElem? (i := 113) rfl) rfl
set_option maxRecDepth 20000 in
theorem mw_1134 : (Cond.methodLink RL 122 yX9_ownerOf) ∈ WS := ws_t5 (List.mem_of_getElem? (i := 117) rfl) rfl
set_option maxRecDepth 20000 in
theorem mw_1138 : (Cond.methodLink RL 126 yX9_count) ∈ WS := ws_t5 (List.mem_of_getElem? (i := 121) rfl) rfl
