set_option maxRecDepth 20000 in
theorem sp_wsX9_pass_r4 : GoodIn wsL_law wsX9_pass_r4 := goodIn_r _ [596, 597, 598, 255, 120, 117, 118, 114, 119, 599, 301, 302, 303, 304, 113, 297, 298, 299, 300, 115, 600, 601, 602, 603] (by decide +kernel) (by decide +kernel)
set_option maxRecDepth 20000 in
theorem sp_wsX9_pass_r5 : GoodIn wsL_law wsX9_pass_r5 := goodIn_r _ [111, 116, 293, 294, 295, 296, 107, 112] (by decide +kernel) (by decide +kernel)
theorem spX9_pass_x9 : GoodIn wsL_law wsX90 := goodIn_sub inlX9 (by decide +kernel)
set_option maxRecDepth 20000 in
theorem ggL_law_X9_pass : GoodIn wsL_law wsX9_pass := fun w h => (List.mem_cons.mp h).elim (fun e => spX9_pass_0 w (List.mem_cons.mpr (Or.inl e))) (fun h => (goodIn_app (goodIn_app sp_wsX9_pass_r1 (goodIn_app sp_wsX9_pass_r2 (goodIn_app sp_wsX9_pass_r3 (goodIn_app sp_wsX9_pass_r4 (sp_wsX9_pass_r5))))) spX9_pass_x9) w h)
