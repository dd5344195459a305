set_option maxRecDepth 20000 in
theorem ggL_law_X4_least : GoodIn wsL_law wsX4_least := goodIn_r _ [556, 20, 557, 558, 310, 559, 507, 508, 2, 509, 86, 87, 88, 533, 534, 535, 536, 34, 460, 293, 294, 19, 295, 49, 807, 808, 809, 810, 811, 812, 813, 814, 815, 816, 817, 818, 819, 820, 851, 852, 853, 854, 855, 856, 857, 858] (by decide +kernel) (by decide +kernel)
set_option maxRecDepth 20000 in
theorem gL_law_X4_least : GoodIn wsL_law (wsV RL 80 RX4 yX4_least wsX4_least) := goodIn_app (goodIn_of _ (by decide +kernel)) ggL_law_X4_least
set_option maxRecDepth 20000 in
theorem ggL_law_X5_least : GoodIn wsL_law wsX5_least := goodIn_r _ [563, 79, 68, 100, 101, 5, 102, 518, 519, 520, 521, 76, 369, 370, 371, 372, 420, 421, 422, 423, 69, 72, 73, 424, 425, 426, 427, 428, 429, 430, 431, 70, 71, 432, 433, 434, 435, 821, 822, 823, 824, 825, 826, 827, 828, 829, 830, 831, 832, 833, 834, 835, 836, 837, 838, 839, 840, 841, 842, 843] (by decide +kernel) (by decide +kernel)
set_option maxRecDepth 20000 in
theorem gL_law_X5_least : GoodIn wsL_law (wsV RL 83 RX5 yX5_least wsX5_least) := goodIn_app (goodIn_of _ (by decide +kernel)) ggL_law_X5_least
set_option maxRecDepth 20000 in
theorem ggL_law_X4_ends : GoodIn wsL_law wsX4_ends := goodIn_r _ [567, 400, 401, 402, 2, 403, 20, 86, 87, 88, 530, 531, 532, 568, 569, 570, 571, 404, 405, 406, 19, 407, 48, 533, 534, 535, 536, 34, 807, 808, 809, 810, 811, 812, 813, 814, 815, 816, 817, 818, 819, 820, 851, 852, 853, 854, 855, 856, 857, 858] (by decide +kernel) (by decide +kernel)
set_option maxRecDepth 20000 in
theorem gL_law_X4_ends : GoodIn wsL_law (wsV RL 84 RX4 yX4_ends wsX4_ends) := goodIn_app (goodIn_of _ (by decide +kernel)) ggL_law_X4_ends
set_option maxRecDepth 20000 in
theorem ggL_law_X5_ends : GoodIn wsL_law wsX5_ends := goodIn_r _ [575, 74, 100, 101, 5, 102, 518, 519, 520, 521, 76, 79, 369, 370, 371, 372, 420, 421, 422, 423, 69, 72, 73, 424, 425, 426, 427, 68, 428, 429, 430, 431, 70, 71, 432, 433, 434, 435, 576, 577, 578, 579, 75, 821, 822, 823, 824, 825, 826, 827, 828, 829, 830, 831, 832, 833, 834, 835, 836, 837, 838, 839, 840, 841, 842, 843] (by decide +kernel) (by decide +kernel)
set_option maxRecDepth 20000 in
theorem gL_law_X5_ends : GoodIn wsL_law (wsV RL 87 RX5 yX5_ends wsX5_ends) := goodIn_app (goodIn_of _ (by decide +kernel)) ggL_law_X5_ends
set_option maxRecDepth 20000 in
theorem ggL_law_X4_oneDay : GoodIn wsL_law wsX4_oneDay := goodIn_r _ [583, 86, 87, 2, 88, 584, 585, 586, 587, 20, 35, 588, 309, 310, 311, 589, 590, 591, 592, 593, 594, 595, 596, 568, 569, 570, 571, 404, 405, 406, 19, 407, 48, 533, 534, 535, 536, 34, 597, 598, 599, 600, 601, 602, 603, 604, 807, 808, 809, 810, 811, 812, 813, 814, 815, 816, 817, 818, 819, 820, 851, 852, 853, 854, 855, 856, 857, 858] (by decide +kernel) (by decide +kernel)
set_option maxRecDepth 20000 in
theorem gL_law_X4_oneDay : GoodIn wsL_law (wsV RL 88 RX4 yX4_oneDay wsX4_oneDay) := goodIn_app (goodIn_of _ (by decide +kernel)) ggL_law_X4_oneDay
set_option maxRecDepth 20000 in
theorem ggL_law_X5_oneDay : GoodIn wsL_law wsX5_oneDay := goodIn_r _ [608, 74, 80, 75, 100, 101, 5, 102, 518, 519, 520, 521, 76, 79, 369, 370, 371, 372, 420, 421, 422, 423, 69, 72, 73, 424, 425, 426, 427, 68, 428, 429, 430, 431, 70, 71, 432, 433, 434, 435, 576, 577, 578, 579, 821, 822, 823, 824, 825, 826, 827, 828, 829, 830, 831, 832, 833, 834, 835, 836, 837, 838, 839, 840, 841, 842, 843] (by decide +kernel) (by decide +kernel)
set_option maxRecDepth 20000 in
theorem gL_law_X5_oneDay : GoodIn wsL_law (wsV RL 91 RX5 yX5_oneDay wsX5_oneDay) := goodIn_app (goodIn_of _ (by decide +kernel)) ggL_law_X5_oneDay
set_option maxRecDepth 20000 in
theorem ggL_law_X4_wages : GoodIn wsL_law wsX4_wages := goodIn_r _ [612, 86, 87, 2, 88, 613, 614, 615, 616, 617, 618, 619, 620, 20, 460, 293, 294, 19, 295, 49, 621, 622, 623, 624, 807, 808, 809, 810, 811, 812, 813, 814, 815, 816, 817, 818, 819, 820, 851, 852, 853, 854, 855, 856, 857, 858] (by decide +kernel) (by decide +kernel)
set_option maxRecDepth 20000 in
theorem gL_law_X4_wages : GoodIn wsL_law (wsV RL 92 RX4 yX4_wages wsX4_wages) := goodIn_app (goodIn_of _ (by decide +kernel)) ggL_law_X4_wages
set_option maxRecDepth 20000 in
theorem ggL_law_X5_wages : GoodIn wsL_law wsX5_wages := goodIn_r _ [628, 68, 629, 100, 101, 5, 102, 630, 631, 632, 821, 822, 823, 824, 825, 826, 827, 828, 829, 830, 831, 832, 833, 834, 835, 836, 837, 838, 839, 840, 841, 842, 843] (by decide +kernel) (by decide +kernel)
set_option maxRecDepth 20000 in
theorem gL_law_X5_wages : GoodIn wsL_law (wsV RL 96 RX5 yX5_wages wsX5_wages) := goodIn_app (goodIn_of _ (by decide +kernel)) ggL_law_X5_wages
set_option maxRecDepth 20000 in
theorem ggL_law_X4_even : GoodIn wsL_law wsX4_even := goodIn_r _ [636, 20, 530, 531, 2, 532, 86, 87, 88, 533, 534, 535, 536, 34, 460, 293, 294, 19, 295, 49, 637, 638, 639, 640, 641, 642, 643, 644, 645, 646, 647, 648, 807, 808, 809, 810, 811, 812, 813, 814, 815, 816, 817, 818, 819, 820, 851, 852, 853, 854, 855, 856, 857, 858] (by decide +kernel) (by decide +kernel)
set_option maxRecDepth 20000 in
theorem gL_law_X4_even : GoodIn wsL_law (wsV RL 97 RX4 yX4_even wsX4_even) := goodIn_app (goodIn_of _ (by decide +kernel)) ggL_law_X4_even
set_option maxRecDepth 20000 in
theorem ggL_law_X5_even : GoodIn wsL_law wsX5_even := goodIn_r _ [652, 79, 68, 100, 101, 5, 102, 518, 519, 520, 521, 76, 369, 370, 371, 372, 420, 421, 422, 423, 69, 72, 73, 424, 425, 426, 427, 428, 429, 430, 431, 70, 71, 432, 433, 434, 435, 821, 822, 823, 824, 825, 826, 827, 828, 829, 830, 831, 832, 833, 834, 835, 836, 837, 838, 839, 840, 841, 842, 843] (by decide +kernel) (by decide +kernel)
set_option maxRecDepth 20000 in
theorem gL_law_X5_even : GoodIn wsL_law (wsV RL 100 RX5 yX5_even wsX5_even) := goodIn_app (goodIn_of _ (by decide +kernel)) ggL_law_X5_even
