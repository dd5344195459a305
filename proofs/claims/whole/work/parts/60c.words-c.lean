set_option maxRecDepth 20000 in
theorem zIn_wsL_law_r19 : ∀ w ∈ wsL_law_r19, w ∈ lw_tbl := zMem_r _ [897, 899, 50, 900, 495, 496, 497, 498, 499, 501, 14, 502, 901, 902, 903, 904, 905, 907, 51, 908, 503, 504, 505, 506] (by decide +kernel)
set_option maxRecDepth 20000 in
theorem zIn_wsL_law_r20 : ∀ w ∈ wsL_law_r20, w ∈ lw_tbl := zMem_r _ [507, 509, 15, 510, 511, 909, 910, 911, 912, 512, 513, 514, 515, 516, 517, 518, 519, 913, 914, 915, 916, 520, 521, 522] (by decide +kernel)
set_option maxRecDepth 20000 in
theorem zIn_wsL_law_r21 : ∀ w ∈ wsL_law_r21, w ∈ lw_tbl := zMem_r _ [523, 524, 525, 526, 527, 528, 529, 530, 531, 532, 533, 534, 535, 536, 917, 918, 919, 920, 537, 538, 539, 540, 921, 541] (by decide +kernel)
set_option maxRecDepth 20000 in
theorem zIn_wsL_law_r22 : ∀ w ∈ wsL_law_r22, w ∈ lw_tbl := zMem_r _ [542, 543, 544, 545, 546, 547, 548, 550, 16, 551, 922, 923, 924, 925, 926, 928, 52, 929, 930, 932, 53, 933, 552, 553] (by decide +kernel)
set_option maxRecDepth 20000 in
theorem zIn_wsL_law_r23 : ∀ w ∈ wsL_law_r23, w ∈ lw_tbl := zMem_r _ [554, 555, 556, 557, 558, 559, 561, 17, 562, 934, 935, 936, 937, 563, 564, 565, 566, 567, 569, 18, 570, 938, 939, 940] (by decide +kernel)
set_option maxRecDepth 20000 in
theorem zIn_wsL_law_r24 : ∀ w ∈ wsL_law_r24, w ∈ lw_tbl := zMem_r _ [941, 571, 572, 573, 574, 575, 576, 577, 942, 943, 944, 945, 578, 579, 580, 581, 582, 584, 19, 585, 946, 947, 948, 949] (by decide +kernel)
set_option maxRecDepth 20000 in
theorem zIn_wsL_law_r25 : ∀ w ∈ wsL_law_r25, w ∈ lw_tbl := zMem_r _ [950, 952, 54, 953, 586, 587, 588, 589, 590, 592, 20, 593, 594, 595, 597, 21, 598, 599, 601, 22, 602, 603, 605, 23] (by decide +kernel)
set_option maxRecDepth 20000 in
theorem zIn_wsL_law_r26 : ∀ w ∈ wsL_law_r26, w ∈ lw_tbl := zMem_r _ [606, 607, 609, 24, 610, 954, 955, 956, 957, 611, 612, 613, 614, 615, 617, 25, 618, 619, 621, 26, 622, 623, 625, 27] (by decide +kernel)
set_option maxRecDepth 20000 in
theorem zIn_wsL_law_r27 : ∀ w ∈ wsL_law_r27, w ∈ lw_tbl := zMem_r _ [626, 958, 959, 960, 961, 962, 963, 964, 965, 627, 628, 629, 630, 631, 633, 28, 634, 635, 637, 29, 638, 639, 641, 30] (by decide +kernel)
