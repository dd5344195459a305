set_option maxRecDepth 20000 in
theorem zGG5b : GoodIn wsL_law (wsX5_day_r2) := goodIn_r _ [345, 67, 100, 101, 102, 346, 347, 348, 349, 350, 351, 352, 353, 354, 355, 356, 357, 358, 359, 360, 361, 362, 363, 364] (by decide +kernel) (by decide +kernel)
