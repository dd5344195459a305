set_option maxRecDepth 20000 in
theorem zIn_wsL_law_r28 : ∀ w ∈ wsL_law_r28, w ∈ lw_tbl := zMem_r _ [642, 966, 967, 968, 969, 643, 644, 645, 646, 647, 649, 31, 650, 651, 652, 69, 653, 654, 655, 656, 970, 971, 972, 973] (by decide +kernel)
set_option maxRecDepth 20000 in
theorem zIn_wsL_law_r29 : ∀ w ∈ wsL_law_r29, w ∈ lw_tbl := zMem_r _ [974, 975, 976, 977, 979, 55, 980, 657, 658, 659, 660, 981, 982, 983, 984, 661, 662, 663, 664, 665, 666, 667, 668, 180] (by decide +kernel)
set_option maxRecDepth 20000 in
theorem zIn_wsL_law_r30 : ∀ w ∈ wsL_law_r30, w ∈ lw_tbl := zMem_r _ [985, 986, 987, 988, 764, 669, 670, 671, 672, 673, 674, 675, 676, 677, 182, 184, 186, 678, 680, 32, 681, 989, 990, 991] (by decide +kernel)
set_option maxRecDepth 20000 in
theorem zIn_wsL_law_r31 : ∀ w ∈ wsL_law_r31, w ∈ lw_tbl := zMem_r _ [992, 993, 682, 683, 684, 685, 686, 687, 689, 33, 690, 212, 691, 693, 34, 694, 695, 696, 698, 35, 699, 700, 701, 703] (by decide +kernel)
set_option maxRecDepth 20000 in
theorem zIn_wsL_law_r32 : ∀ w ∈ wsL_law_r32, w ∈ lw_tbl := zMem_r _ [36, 704, 705, 706, 708, 37, 709, 710, 711, 713, 38, 714, 715, 994, 995, 996, 997, 743, 998, 999, 1000, 1001, 1002, 716] (by decide +kernel)
set_option maxRecDepth 20000 in
theorem zIn_wsL_law_r33 : ∀ w ∈ wsL_law_r33, w ∈ lw_tbl := zMem_r _ [717, 718, 719, 720, 721, 722, 723, 1003, 1004, 1005, 1006, 1007, 1009, 56, 1010, 725, 726, 727, 728, 1011, 1012, 1013, 1014, 729] (by decide +kernel)
set_option maxRecDepth 20000 in
theorem zIn_wsL_law_r34 : ∀ w ∈ wsL_law_r34, w ∈ lw_tbl := zMem_r _ [730, 731, 732, 1015, 1016, 1017, 1018, 733, 734, 735, 736, 1019, 1020, 1021, 1022] (by decide +kernel)
