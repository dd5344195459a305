set_option maxRecDepth 20000 in
theorem ggL_law_X4_strike : GoodIn wsL_law wsX4_strike := goodIn_r _ [656, 507, 508, 2, 509, 86, 87, 88, 657, 658, 659, 660, 20, 440, 441, 442, 443, 510, 511, 512, 513, 26, 276, 277, 278, 24, 279, 280, 281, 282, 54, 55, 56, 460, 293, 294, 19, 295, 49, 288, 289, 290, 291, 292, 296, 297, 298, 299, 134, 300, 301, 302, 303, 47, 304, 305, 306, 307, 308, 309, 310, 311, 312, 313, 314, 315, 316, 317, 318, 319, 133, 45, 320, 321, 322, 323, 46, 661, 662, 663, 664, 665, 666, 667, 807, 808, 809, 810, 811, 812, 813, 814, 815, 816, 817, 818, 819, 820, 851, 852, 853, 854, 855, 856, 857, 858, 859, 860, 861, 862, 863, 864] (by decide +kernel) (by decide +kernel)
set_option maxRecDepth 20000 in
theorem gL_law_X4_strike : GoodIn wsL_law (wsV RL 101 RX4 yX4_strike wsX4_strike) := goodIn_app (goodIn_of _ (by decide +kernel)) ggL_law_X4_strike
set_option maxRecDepth 20000 in
theorem ggL_law_X5_strike : GoodIn wsL_law wsX5_strike := goodIn_r _ [671, 69, 100, 101, 5, 102, 672, 673, 674, 518, 519, 520, 521, 76, 79, 369, 370, 371, 372, 420, 421, 422, 423, 72, 73, 424, 425, 426, 427, 68, 428, 429, 430, 431, 70, 71, 432, 433, 434, 435, 675, 676, 677, 678, 522, 523, 524, 525, 821, 822, 823, 824, 825, 826, 827, 828, 829, 830, 831, 832, 833, 834, 835, 836, 837, 838, 839, 840, 841, 842, 843] (by decide +kernel) (by decide +kernel)
set_option maxRecDepth 20000 in
theorem gL_law_X5_strike : GoodIn wsL_law (wsV RL 104 RX5 yX5_strike wsX5_strike) := goodIn_app (goodIn_of _ (by decide +kernel)) ggL_law_X5_strike
set_option maxRecDepth 20000 in
theorem ggL_law_X4_undone : GoodIn wsL_law wsX4_undone := goodIn_r _ [682, 507, 508, 2, 509, 86, 87, 88, 510, 511, 512, 513, 26, 20, 440, 441, 442, 443, 276, 277, 278, 24, 279, 280, 281, 282, 54, 55, 56, 460, 293, 294, 19, 295, 49, 288, 289, 290, 291, 292, 296, 297, 298, 299, 134, 300, 301, 302, 303, 47, 304, 305, 306, 307, 308, 309, 310, 311, 312, 313, 314, 315, 316, 317, 318, 319, 133, 45, 320, 321, 322, 323, 46, 807, 808, 809, 810, 811, 812, 813, 814, 815, 816, 817, 818, 819, 820, 859, 860, 861, 862, 863, 864, 851, 852, 853, 854, 855, 856, 857, 858] (by decide +kernel) (by decide +kernel)
set_option maxRecDepth 20000 in
theorem gL_law_X4_undone : GoodIn wsL_law (wsV RL 105 RX4 yX4_undone wsX4_undone) := goodIn_app (goodIn_of _ (by decide +kernel)) ggL_law_X4_undone
set_option maxRecDepth 20000 in
theorem ggL_law_X5_undone : GoodIn wsL_law wsX5_undone := goodIn_r _ [686, 100, 101, 5, 102, 448, 449, 450, 451, 69, 518, 519, 520, 521, 76, 79, 369, 370, 371, 372, 420, 421, 422, 423, 72, 73, 424, 425, 426, 427, 68, 428, 429, 430, 431, 70, 71, 432, 433, 434, 435, 675, 676, 677, 678, 522, 523, 524, 525, 821, 822, 823, 824, 825, 826, 827, 828, 829, 830, 831, 832, 833, 834, 835, 836, 837, 838, 839, 840, 841, 842, 843] (by decide +kernel) (by decide +kernel)
set_option maxRecDepth 20000 in
theorem gL_law_X5_undone : GoodIn wsL_law (wsV RL 108 RX5 yX5_undone wsX5_undone) := goodIn_app (goodIn_of _ (by decide +kernel)) ggL_law_X5_undone
set_option maxRecDepth 20000 in
theorem ggL_law_X4_stair : GoodIn wsL_law wsX4_stair := goodIn_r _ [690, 32, 86, 87, 2, 88, 691, 692, 693, 31, 694, 695, 61, 807, 808, 809, 810, 811, 812, 813, 814, 815, 816, 817, 818, 819, 820, 865, 866, 867, 868, 869] (by decide +kernel) (by decide +kernel)
set_option maxRecDepth 20000 in
theorem gL_law_X4_stair : GoodIn wsL_law (wsV RL 109 RX4 yX4_stair wsX4_stair) := goodIn_app (goodIn_of _ (by decide +kernel)) ggL_law_X4_stair
set_option maxRecDepth 20000 in
theorem ggL_law_X5_stair : GoodIn wsL_law wsX5_stair := goodIn_r _ [699, 700, 81, 100, 101, 5, 102, 821, 822, 823, 824, 825, 826, 827, 828, 829, 830, 831, 832, 833, 834, 835, 836, 837, 838, 839, 840, 841, 842, 843] (by decide +kernel) (by decide +kernel)
set_option maxRecDepth 20000 in
theorem gL_law_X5_stair : GoodIn wsL_law (wsV RL 112 RX5 yX5_stair wsX5_stair) := goodIn_app (goodIn_of _ (by decide +kernel)) ggL_law_X5_stair
set_option maxRecDepth 20000 in
theorem ggL_law_X4_worn : GoodIn wsL_law wsX4_worn := goodIn_r _ [704, 705, 32, 86, 87, 2, 88, 706, 707, 708, 31, 709, 710, 711, 712, 695, 61, 713, 714, 715, 716, 807, 808, 809, 810, 811, 812, 813, 814, 815, 816, 817, 818, 819, 820, 865, 866, 867, 868, 869] (by decide +kernel) (by decide +kernel)
set_option maxRecDepth 20000 in
theorem gL_law_X4_worn : GoodIn wsL_law (wsV RL 113 RX4 yX4_worn wsX4_worn) := goodIn_app (goodIn_of _ (by decide +kernel)) ggL_law_X4_worn
set_option maxRecDepth 20000 in
theorem ggL_law_X5_worn : GoodIn wsL_law wsX5_worn := goodIn_r _ [720, 721, 700, 81, 100, 101, 5, 102, 821, 822, 823, 824, 825, 826, 827, 828, 829, 830, 831, 832, 833, 834, 835, 836, 837, 838, 839, 840, 841, 842, 843] (by decide +kernel) (by decide +kernel)
set_option maxRecDepth 20000 in
theorem gL_law_X5_worn : GoodIn wsL_law (wsV RL 116 RX5 yX5_worn wsX5_worn) := goodIn_app (goodIn_of _ (by decide +kernel)) ggL_law_X5_worn
set_option maxRecDepth 20000 in
theorem ggL_law_X4_mark : GoodIn wsL_law wsX4_mark := goodIn_r _ [725, 20, 726, 481, 238, 239, 19, 240, 133, 45, 727, 728, 729, 2, 730, 731, 25, 490, 491, 492, 24, 493, 56, 732, 733, 734, 735, 736, 486, 487, 488, 489, 55, 737, 738, 739, 740, 741, 456, 457, 458, 459, 460, 293, 294, 295, 49, 742, 743, 744, 745, 746, 747, 748, 749, 750, 751, 752, 753, 754, 755, 756, 807, 808, 809, 810, 811, 812, 813, 814, 815, 816, 817, 818, 819, 820, 851, 852, 853, 854, 855, 856, 857, 858, 859, 860, 861, 862, 863, 864] (by decide +kernel) (by decide +kernel)
set_option maxRecDepth 20000 in
theorem gL_law_X4_mark : GoodIn wsL_law (wsV RL 117 RX4 yX4_mark wsX4_mark) := goodIn_app (goodIn_of _ (by decide +kernel)) ggL_law_X4_mark
set_option maxRecDepth 20000 in
theorem ggL_law_X5_mark : GoodIn wsL_law wsX5_mark := goodIn_r _ [760, 629, 76, 761, 762, 763, 764, 765, 766, 100, 101, 5, 102, 383, 384, 385, 386, 69, 424, 425, 426, 427, 68, 821, 822, 823, 824, 825, 826, 827, 828, 829, 830, 831, 832, 833, 834, 835, 836, 837, 838, 839, 840, 841, 842, 843] (by decide +kernel) (by decide +kernel)
set_option maxRecDepth 20000 in
theorem gL_law_X5_mark : GoodIn wsL_law (wsV RL 120 RX5 yX5_mark wsX5_mark) := goodIn_app (goodIn_of _ (by decide +kernel)) ggL_law_X5_mark
