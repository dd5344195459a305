set_option maxRecDepth 20000 in
theorem zIn_wsL_law_r10 : ∀ w ∈ wsL_law_r10, w ∈ lw_tbl := zMem_r _ [353, 355, 6, 356, 357, 358, 359, 360, 361, 362, 363, 364, 365, 367, 369, 7, 370, 371, 372, 373, 374, 375, 376, 377] (by decide +kernel)
set_option maxRecDepth 20000 in
theorem zIn_wsL_law_r11 : ∀ w ∈ wsL_law_r11, w ∈ lw_tbl := zMem_r _ [378, 379, 380, 381, 382, 383, 386, 388, 8, 389, 390, 391, 392, 393, 394, 395, 396, 397, 399, 401, 9, 402, 403, 404] (by decide +kernel)
set_option maxRecDepth 20000 in
theorem zIn_wsL_law_r12 : ∀ w ∈ wsL_law_r12, w ∈ lw_tbl := zMem_r _ [405, 406, 409, 410, 411, 412, 413, 414, 415, 416, 418, 419, 420, 421, 422, 423, 154, 156, 158, 424, 426, 10, 427, 209] (by decide +kernel)
set_option maxRecDepth 20000 in
theorem zIn_wsL_law_r13 : ∀ w ∈ wsL_law_r13, w ∈ lw_tbl := zMem_r _ [428, 429, 430, 431, 432, 433, 434, 435, 436, 437, 438, 439, 440, 441, 442, 443, 444, 446, 11, 447, 460, 461, 68, 462] (by decide +kernel)
set_option maxRecDepth 20000 in
theorem zIn_wsL_law_r14 : ∀ w ∈ wsL_law_r14, w ∈ lw_tbl := zMem_r _ [448, 450, 12, 451, 452, 453, 454, 455, 456, 457, 458, 459, 463, 464, 465, 466, 826, 827, 828, 829, 754, 758, 759, 756] (by decide +kernel)
set_option maxRecDepth 20000 in
theorem zIn_wsL_law_r15 : ∀ w ∈ wsL_law_r15, w ∈ lw_tbl := zMem_r _ [830, 832, 39, 833, 755, 757, 834, 836, 40, 837, 838, 839, 840, 841, 843, 41, 844, 845, 847, 42, 848, 849, 851, 43] (by decide +kernel)
set_option maxRecDepth 20000 in
theorem zIn_wsL_law_r16 : ∀ w ∈ wsL_law_r16, w ∈ lw_tbl := zMem_r _ [852, 853, 855, 44, 856, 857, 858, 859, 860, 861, 863, 45, 864, 468, 469, 470, 471, 472, 473, 865, 866, 867, 868, 869] (by decide +kernel)
set_option maxRecDepth 20000 in
theorem zIn_wsL_law_r17 : ∀ w ∈ wsL_law_r17, w ∈ lw_tbl := zMem_r _ [871, 46, 872, 474, 475, 476, 477, 478, 873, 874, 875, 876, 479, 480, 481, 482, 483, 485, 13, 486, 487, 488, 489, 490] (by decide +kernel)
set_option maxRecDepth 20000 in
theorem zIn_wsL_law_r18 : ∀ w ∈ wsL_law_r18, w ∈ lw_tbl := zMem_r _ [877, 878, 879, 880, 491, 492, 493, 494, 881, 882, 883, 884, 885, 887, 47, 888, 889, 891, 48, 892, 893, 895, 49, 896] (by decide +kernel)
