set_option maxRecDepth 20000 in
theorem ggL_law_X4_work : GoodIn wsL_law wsX4_work := goodIn_r _ [399, 20, 400, 401, 402, 2, 403, 86, 87, 88, 404, 405, 406, 19, 407, 48, 807, 808, 809, 810, 811, 812, 813, 814, 815, 816, 817, 818, 819, 820, 851, 852, 853, 854, 855, 856, 857, 858] (by decide +kernel) (by decide +kernel)
set_option maxRecDepth 20000 in
theorem gL_law_X4_work : GoodIn wsL_law (wsV RL 39 RX4 yX4_work wsX4_work) := goodIn_app (goodIn_of _ (by decide +kernel)) ggL_law_X4_work
set_option maxRecDepth 20000 in
theorem ggL_law_X5_work : GoodIn wsL_law wsX5_work := goodIn_r _ [411, 74, 75, 100, 101, 5, 102, 821, 822, 823, 824, 825, 826, 827, 828, 829, 830, 831, 832, 833, 834, 835, 836, 837, 838, 839, 840, 841, 842, 843] (by decide +kernel) (by decide +kernel)
set_option maxRecDepth 20000 in
theorem gL_law_X5_work : GoodIn wsL_law (wsV RL 42 RX5 yX5_work wsX5_work) := goodIn_app (goodIn_of _ (by decide +kernel)) ggL_law_X5_work
set_option maxRecDepth 20000 in
theorem ggL_law_X4_go : GoodIn wsL_law wsX4_go := goodIn_r _ [415, 25, 20, 86, 87, 2, 88, 288, 289, 290, 24, 291, 281, 280, 282, 292, 293, 294, 19, 295, 49, 296, 297, 298, 299, 134, 300, 301, 302, 303, 47, 304, 305, 306, 307, 55, 54, 308, 309, 310, 311, 56, 312, 313, 314, 315, 316, 317, 318, 319, 133, 45, 320, 321, 322, 323, 46, 807, 808, 809, 810, 811, 812, 813, 814, 815, 816, 817, 818, 819, 820, 859, 860, 861, 862, 863, 864, 851, 852, 853, 854, 855, 856, 857, 858] (by decide +kernel) (by decide +kernel)
set_option maxRecDepth 20000 in
theorem gL_law_X4_go : GoodIn wsL_law (wsV RL 43 RX4 yX4_go wsX4_go) := goodIn_app (goodIn_of _ (by decide +kernel)) ggL_law_X4_go
set_option maxRecDepth 20000 in
theorem ggL_law_X5_go : GoodIn wsL_law wsX5_go := goodIn_r _ [419, 76, 100, 101, 5, 102, 420, 421, 422, 423, 69, 72, 73, 424, 425, 426, 427, 68, 428, 429, 430, 431, 70, 71, 432, 433, 434, 435, 821, 822, 823, 824, 825, 826, 827, 828, 829, 830, 831, 832, 833, 834, 835, 836, 837, 838, 839, 840, 841, 842, 843] (by decide +kernel) (by decide +kernel)
set_option maxRecDepth 20000 in
theorem gL_law_X5_go : GoodIn wsL_law (wsV RL 47 RX5 yX5_go wsX5_go) := goodIn_app (goodIn_of _ (by decide +kernel)) ggL_law_X5_go
set_option maxRecDepth 20000 in
theorem ggL_law_X4_sits : GoodIn wsL_law wsX4_sits := goodIn_r _ [439, 25, 440, 441, 442, 2, 443, 20, 807, 808, 809, 810, 811, 812, 813, 814, 815, 816, 817, 818, 819, 820, 859, 860, 861, 862, 863, 864, 851, 852, 853, 854, 855, 856, 857, 858] (by decide +kernel) (by decide +kernel)
set_option maxRecDepth 20000 in
theorem gL_law_X4_sits : GoodIn wsL_law (wsV RL 48 RX4 yX4_sits wsX4_sits) := goodIn_app (goodIn_of _ (by decide +kernel)) ggL_law_X4_sits
set_option maxRecDepth 20000 in
theorem ggL_law_X5_sits : GoodIn wsL_law wsX5_sits := goodIn_r _ [447, 76, 448, 449, 450, 5, 451, 69, 821, 822, 823, 824, 825, 826, 827, 828, 829, 830, 831, 832, 833, 834, 835, 836, 837, 838, 839, 840, 841, 842, 843] (by decide +kernel) (by decide +kernel)
set_option maxRecDepth 20000 in
theorem gL_law_X5_sits : GoodIn wsL_law (wsV RL 51 RX5 yX5_sits wsX5_sits) := goodIn_app (goodIn_of _ (by decide +kernel)) ggL_law_X5_sits
set_option maxRecDepth 20000 in
theorem ggL_law_X4_one : GoodIn wsL_law wsX4_one := goodIn_r _ [455, 25, 86, 87, 2, 88, 456, 457, 458, 459, 20, 460, 293, 294, 19, 295, 49, 807, 808, 809, 810, 811, 812, 813, 814, 815, 816, 817, 818, 819, 820, 859, 860, 861, 862, 863, 864, 851, 852, 853, 854, 855, 856, 857, 858] (by decide +kernel) (by decide +kernel)
set_option maxRecDepth 20000 in
theorem gL_law_X4_one : GoodIn wsL_law (wsV RL 52 RX4 yX4_one wsX4_one) := goodIn_app (goodIn_of _ (by decide +kernel)) ggL_law_X4_one
set_option maxRecDepth 20000 in
theorem ggL_law_X5_one : GoodIn wsL_law wsX5_one := goodIn_r _ [464, 76, 100, 101, 5, 102, 424, 425, 426, 427, 68, 821, 822, 823, 824, 825, 826, 827, 828, 829, 830, 831, 832, 833, 834, 835, 836, 837, 838, 839, 840, 841, 842, 843] (by decide +kernel) (by decide +kernel)
set_option maxRecDepth 20000 in
theorem gL_law_X5_one : GoodIn wsL_law (wsV RL 55 RX5 yX5_one wsX5_one) := goodIn_app (goodIn_of _ (by decide +kernel)) ggL_law_X5_one
set_option maxRecDepth 20000 in
theorem ggL_law_X4_now : GoodIn wsL_law wsX4_now := goodIn_r _ [468, 25, 456, 457, 458, 2, 459, 20, 460, 293, 294, 19, 295, 49, 469, 470, 471, 24, 472, 55, 807, 808, 809, 810, 811, 812, 813, 814, 815, 816, 817, 818, 819, 820, 859, 860, 861, 862, 863, 864, 851, 852, 853, 854, 855, 856, 857, 858] (by decide +kernel) (by decide +kernel)
set_option maxRecDepth 20000 in
theorem gL_law_X4_now : GoodIn wsL_law (wsV RL 56 RX4 yX4_now wsX4_now) := goodIn_app (goodIn_of _ (by decide +kernel)) ggL_law_X4_now
set_option maxRecDepth 20000 in
theorem ggL_law_X5_now : GoodIn wsL_law wsX5_now := goodIn_r _ [476, 69, 76, 424, 425, 426, 5, 427, 68, 821, 822, 823, 824, 825, 826, 827, 828, 829, 830, 831, 832, 833, 834, 835, 836, 837, 838, 839, 840, 841, 842, 843] (by decide +kernel) (by decide +kernel)
set_option maxRecDepth 20000 in
theorem gL_law_X5_now : GoodIn wsL_law (wsV RL 59 RX5 yX5_now wsX5_now) := goodIn_app (goodIn_of _ (by decide +kernel)) ggL_law_X5_now
