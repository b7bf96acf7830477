set_option maxRecDepth 20000 in
theorem sp_wsX9_plan_r4 : GoodIn wsL_law wsX9_plan_r4 := goodIn_r _ [586, 587, 588, 589] (by decide +kernel) (by decide +kernel)
theorem spX9_plan_x9 : GoodIn wsL_law wsX90 := goodIn_sub inlX9 (by decide +kernel)
set_option maxRecDepth 20000 in
theorem ggL_law_X9_plan : GoodIn wsL_law wsX9_plan := fun w h => (List.mem_cons.mp h).elim (fun e => spX9_plan_0 w (List.mem_cons.mpr (Or.inl e))) (fun h => (goodIn_app (goodIn_app sp_wsX9_plan_r1 (goodIn_app sp_wsX9_plan_r2 (goodIn_app sp_wsX9_plan_r3 (sp_wsX9_plan_r4)))) spX9_plan_x9) w h)
