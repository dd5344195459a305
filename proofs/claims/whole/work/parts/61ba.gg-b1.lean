set_option maxRecDepth 20000 in
theorem zGG5a : GoodIn wsL_law (Cond.code yX5_day cX5_day 3 (some .int) :: wsX5_day_r1) := goodIn_r _ [331, 332, 333, 334, 68, 69, 72, 74, 335, 70, 71, 73, 75, 78, 98, 336, 337, 338, 5, 339, 340, 341, 342, 343, 344] (by decide +kernel) (by decide +kernel)
