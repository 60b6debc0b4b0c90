set_option maxRecDepth 100000 in
theorem gL_law_X11_goBack : GoodIn wsL_law (wsV RL 155 RX11 yX11_goBack wsX11_goBack) := goodIn_app (goodIn_sub (sub_c (sL_wsL_law_r48 _ (nq_m (n := 9) rfl)) (sub_c (sL_wsL_law_r48 _ (nq_m (n := 10) rfl)) (sub_c (sL_wsL_law_r48 _ (nq_m (n := 11) rfl)) (sub_c (sL_wsL_law_r1 _ (nq_m (n := 5) rfl)) sub_n)))) (by decide +kernel)) ggL_law_X11_goBack
