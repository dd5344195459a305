set_option maxRecDepth 20000 in
theorem zGG5c : GoodIn wsL_law (wsX5_day_r3) := goodIn_r _ [365, 366, 367, 368, 76, 369, 370, 371, 372] (by decide +kernel) (by decide +kernel)
