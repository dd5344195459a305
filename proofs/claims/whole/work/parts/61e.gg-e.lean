set_option maxRecDepth 20000 in
theorem ggL_law_X4_person : GoodIn wsL_law wsX4_person := goodIn_r _ [480, 20, 25, 481, 238, 239, 19, 240, 133, 45, 482, 483, 484, 24, 485, 54, 486, 487, 488, 489, 55, 490, 491, 492, 493, 56, 807, 808, 809, 810, 811, 812, 813, 814, 815, 816, 817, 818, 819, 820, 851, 852, 853, 854, 855, 856, 857, 858, 859, 860, 861, 862, 863, 864] (by decide +kernel) (by decide +kernel)
set_option maxRecDepth 20000 in
theorem gL_law_X4_person : GoodIn wsL_law (wsV RL 60 RX4 yX4_person wsX4_person) := goodIn_app (goodIn_of _ (by decide +kernel)) ggL_law_X4_person
set_option maxRecDepth 20000 in
theorem ggL_law_X5_person : GoodIn wsL_law wsX5_person := goodIn_r _ [497, 76, 383, 384, 385, 5, 386, 69, 100, 101, 102, 821, 822, 823, 824, 825, 826, 827, 828, 829, 830, 831, 832, 833, 834, 835, 836, 837, 838, 839, 840, 841, 842, 843] (by decide +kernel) (by decide +kernel)
set_option maxRecDepth 20000 in
theorem gL_law_X5_person : GoodIn wsL_law (wsV RL 63 RX5 yX5_person wsX5_person) := goodIn_app (goodIn_of _ (by decide +kernel)) ggL_law_X5_person
set_option maxRecDepth 20000 in
theorem ggL_law_X4_anew : GoodIn wsL_law wsX4_anew := goodIn_r _ [501, 25, 276, 277, 278, 24, 279, 280, 281, 282, 54, 55, 56, 807, 808, 809, 810, 811, 812, 813, 814, 815, 816, 817, 818, 819, 820, 859, 860, 861, 862, 863, 864] (by decide +kernel) (by decide +kernel)
set_option maxRecDepth 20000 in
theorem gL_law_X4_anew : GoodIn wsL_law (wsV RL 64 RX4 yX4_anew wsX4_anew) := goodIn_app (goodIn_of _ (by decide +kernel)) ggL_law_X4_anew
set_option maxRecDepth 20000 in
theorem ggL_law_X5_anew : GoodIn wsL_law wsX5_anew := goodIn_r _ [368, 76, 369, 370, 371, 5, 372, 821, 822, 823, 824, 825, 826, 827, 828, 829, 830, 831, 832, 833, 834, 835, 836, 837, 838, 839, 840, 841, 842, 843] (by decide +kernel) (by decide +kernel)
set_option maxRecDepth 20000 in
theorem gL_law_X5_anew : GoodIn wsL_law (wsV RL 67 RX5 yX5_anew wsX5_anew) := goodIn_app (goodIn_of _ (by decide +kernel)) ggL_law_X5_anew
set_option maxRecDepth 20000 in
theorem ggL_law_X4_comes : GoodIn wsL_law wsX4_comes := goodIn_r _ [506, 507, 508, 2, 509, 86, 87, 88, 510, 511, 512, 513, 26, 20, 440, 441, 442, 443, 276, 277, 278, 24, 279, 280, 281, 282, 54, 55, 56, 460, 293, 294, 19, 295, 49, 288, 289, 290, 291, 292, 296, 297, 298, 299, 134, 300, 301, 302, 303, 47, 304, 305, 306, 307, 308, 309, 310, 311, 312, 313, 314, 315, 316, 317, 318, 319, 133, 45, 320, 321, 322, 323, 46, 807, 808, 809, 810, 811, 812, 813, 814, 815, 816, 817, 818, 819, 820, 859, 860, 861, 862, 863, 864, 851, 852, 853, 854, 855, 856, 857, 858] (by decide +kernel) (by decide +kernel)
set_option maxRecDepth 20000 in
theorem gL_law_X4_comes : GoodIn wsL_law (wsV RL 68 RX4 yX4_comes wsX4_comes) := goodIn_app (goodIn_of _ (by decide +kernel)) ggL_law_X4_comes
set_option maxRecDepth 20000 in
theorem ggL_law_X5_comes : GoodIn wsL_law wsX5_comes := goodIn_r _ [517, 100, 101, 5, 102, 448, 449, 450, 451, 69, 518, 519, 520, 521, 76, 79, 369, 370, 371, 372, 420, 421, 422, 423, 72, 73, 424, 425, 426, 427, 68, 428, 429, 430, 431, 70, 71, 432, 433, 434, 435, 522, 523, 524, 525, 821, 822, 823, 824, 825, 826, 827, 828, 829, 830, 831, 832, 833, 834, 835, 836, 837, 838, 839, 840, 841, 842, 843] (by decide +kernel) (by decide +kernel)
set_option maxRecDepth 20000 in
theorem gL_law_X5_comes : GoodIn wsL_law (wsV RL 71 RX5 yX5_comes wsX5_comes) := goodIn_app (goodIn_of _ (by decide +kernel)) ggL_law_X5_comes
set_option maxRecDepth 20000 in
theorem ggL_law_X4_steps : GoodIn wsL_law wsX4_steps := goodIn_r _ [529, 530, 531, 2, 532, 86, 87, 88, 533, 534, 535, 536, 34, 807, 808, 809, 810, 811, 812, 813, 814, 815, 816, 817, 818, 819, 820] (by decide +kernel) (by decide +kernel)
set_option maxRecDepth 20000 in
theorem gL_law_X4_steps : GoodIn wsL_law (wsV RL 72 RX4 yX4_steps wsX4_steps) := goodIn_app (goodIn_of _ (by decide +kernel)) ggL_law_X4_steps
set_option maxRecDepth 20000 in
theorem ggL_law_X5_steps : GoodIn wsL_law wsX5_steps := goodIn_r _ [540, 79, 100, 101, 5, 102, 518, 519, 520, 521, 76, 369, 370, 371, 372, 420, 421, 422, 423, 69, 72, 73, 424, 425, 426, 427, 68, 428, 429, 430, 431, 70, 71, 432, 433, 434, 435, 821, 822, 823, 824, 825, 826, 827, 828, 829, 830, 831, 832, 833, 834, 835, 836, 837, 838, 839, 840, 841, 842, 843] (by decide +kernel) (by decide +kernel)
set_option maxRecDepth 20000 in
theorem gL_law_X5_steps : GoodIn wsL_law (wsV RL 75 RX5 yX5_steps wsX5_steps) := goodIn_app (goodIn_of _ (by decide +kernel)) ggL_law_X5_steps
set_option maxRecDepth 20000 in
theorem ggL_law_X4_hangs : GoodIn wsL_law wsX4_hangs := goodIn_r _ [544, 287, 545, 546, 547, 2, 548, 533, 534, 535, 536, 34, 807, 808, 809, 810, 811, 812, 813, 814, 815, 816, 817, 818, 819, 820] (by decide +kernel) (by decide +kernel)
set_option maxRecDepth 20000 in
theorem gL_law_X4_hangs : GoodIn wsL_law (wsV RL 76 RX4 yX4_hangs wsX4_hangs) := goodIn_app (goodIn_of _ (by decide +kernel)) ggL_law_X4_hangs
set_option maxRecDepth 20000 in
theorem ggL_law_X5_hangs : GoodIn wsL_law wsX5_hangs := goodIn_r _ [552, 79, 69, 76, 70, 71, 100, 101, 5, 102, 518, 519, 520, 521, 369, 370, 371, 372, 420, 421, 422, 423, 72, 73, 424, 425, 426, 427, 68, 428, 429, 430, 431, 432, 433, 434, 435, 821, 822, 823, 824, 825, 826, 827, 828, 829, 830, 831, 832, 833, 834, 835, 836, 837, 838, 839, 840, 841, 842, 843] (by decide +kernel) (by decide +kernel)
set_option maxRecDepth 20000 in
theorem gL_law_X5_hangs : GoodIn wsL_law (wsV RL 79 RX5 yX5_hangs wsX5_hangs) := goodIn_app (goodIn_of _ (by decide +kernel)) ggL_law_X5_hangs
