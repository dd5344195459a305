theorem ggL_law_X5_day : GoodIn wsL_law wsX5_day := goodIn_ca (goodIn_ca zGG5a (goodIn_app zGG5b zGG5c)) zGG5d
set_option maxRecDepth 20000 in
theorem gL_law_X5_day : GoodIn wsL_law (wsV RL 28 RX5 yX5_day wsX5_day) := goodIn_app (goodIn_of _ (by decide +kernel)) ggL_law_X5_day
