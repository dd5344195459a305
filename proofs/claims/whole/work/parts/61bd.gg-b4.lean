set_option maxRecDepth 20000 in
theorem zGG5d : GoodIn wsL_law (wsX50) := goodIn_r _ [821, 822, 823, 824, 825, 826, 827, 828, 829, 830, 831, 832, 833, 834, 835, 836, 837, 838, 839, 840, 841, 842, 843] (by decide +kernel) (by decide +kernel)
