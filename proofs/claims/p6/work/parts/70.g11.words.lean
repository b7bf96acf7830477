theorem spX8_pass_x5 : GoodIn wsL_law wsX50 := goodIn_sub inlX5 (by decide +kernel)
theorem spX8_pass_x0 : GoodIn wsL_law wsX00 := goodIn_sub inlX0 (by decide +kernel)
set_option maxRecDepth 20000 in
theorem ggL_law_X8_pass : GoodIn wsL_law wsX8_pass := fun w h => (List.mem_cons.mp h).elim (fun e => spX8_pass_0 w (List.mem_cons.mpr (Or.inl e))) (fun h => (goodIn_app (goodIn_app (goodIn_app (goodIn_app (goodIn_app (goodIn_app (goodIn_app (goodIn_app sp_wsX8_pass_r1 (goodIn_app sp_wsX8_pass_r2 (goodIn_app sp_wsX8_pass_r3 (goodIn_app sp_wsX8_pass_r4 (goodIn_app sp_wsX8_pass_r5 (goodIn_app sp_wsX8_pass_r6 (goodIn_app sp_wsX8_pass_r7 (sp_wsX8_pass_r8)))))))) spX8_pass_x8) spX8_pass_x2) spX8_pass_x4) spX8_pass_x3) spX8_pass_x7) spX8_pass_x5) spX8_pass_x0) w h)
