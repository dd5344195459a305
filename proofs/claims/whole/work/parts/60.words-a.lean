/-! the law's words in the tables, by their places -/
theorem zMem_r {big : List Cond} (ws : List Cond) (ps : List Nat) (hp : ws = ps.filterMap (fun i => big[i]?)) : ∀ w ∈ ws, w ∈ big := by
  intro w hw
  rw [hp] at hw
  obtain ⟨i, -, hi⟩ := List.mem_filterMap.mp hw
  first | exact List.mem_of_getElem? hi | exact List.getElem?_mem hi
theorem zApp {big a b : List Cond} (ha : ∀ w ∈ a, w ∈ big) (hb : ∀ w ∈ b, w ∈ big) : ∀ w ∈ a ++ b, w ∈ big := fun w h => (List.mem_append.mp h).elim (ha w) (hb w)
set_option maxRecDepth 20000 in
theorem zIn_wsL_law_r1 : ∀ w ∈ wsL_law_r1, w ∈ lw_tbl := zMem_r _ [70, 71, 58, 737, 738, 63, 1023, 72, 73, 74, 75, 76, 77, 78, 79, 59, 199, 108, 109, 60, 200, 201, 145, 146] (by decide +kernel)
set_option maxRecDepth 20000 in
theorem zIn_wsL_law_r2 : ∀ w ∈ wsL_law_r2, w ∈ lw_tbl := zMem_r _ [61, 202, 203, 204, 205, 173, 174, 62, 206, 107, 207, 208, 80, 81, 82, 83, 84, 110, 111, 112, 113, 114, 115, 116] (by decide +kernel)
set_option maxRecDepth 20000 in
theorem zIn_wsL_law_r3 : ∀ w ∈ wsL_law_r3, w ∈ lw_tbl := zMem_r _ [117, 118, 147, 148, 149, 150, 151, 152, 153, 175, 176, 177, 178, 179, 739, 740, 741, 742, 467, 744, 746, 747, 748, 749] (by decide +kernel)
set_option maxRecDepth 20000 in
theorem zIn_wsL_law_r4 : ∀ w ∈ wsL_law_r4, w ∈ lw_tbl := zMem_r _ [750, 751, 752, 753, 760, 813, 761, 762, 763, 765, 242, 243, 244, 245, 246, 247, 248, 249, 250, 251, 252, 85, 814, 815] (by decide +kernel)
set_option maxRecDepth 20000 in
theorem zIn_wsL_law_r5 : ∀ w ∈ wsL_law_r5, w ∈ lw_tbl := zMem_r _ [816, 817, 745, 821, 818, 819, 820, 253, 254, 255, 256, 257, 258, 259, 260, 822, 823, 824, 825, 261, 262, 263, 264, 210] (by decide +kernel)
set_option maxRecDepth 20000 in
theorem zIn_wsL_law_r6 : ∀ w ∈ wsL_law_r6, w ∈ lw_tbl := zMem_r _ [211, 265, 266, 267, 268, 87, 91, 88, 90, 269, 270, 271, 272, 121, 124, 126, 273, 275, 0, 276, 89, 277, 279, 1] (by decide +kernel)
set_option maxRecDepth 20000 in
theorem zIn_wsL_law_r7 : ∀ w ∈ wsL_law_r7, w ∈ lw_tbl := zMem_r _ [280, 281, 282, 283, 284, 285, 286, 287, 289, 2, 290, 292, 294, 3, 295, 296, 297, 298, 64, 299, 1024, 300, 301, 302] (by decide +kernel)
set_option maxRecDepth 20000 in
theorem zIn_wsL_law_r8 : ∀ w ∈ wsL_law_r8, w ∈ lw_tbl := zMem_r _ [303, 304, 1025, 306, 307, 308, 309, 310, 311, 312, 313, 314, 315, 65, 316, 317, 318, 319, 320, 322, 323, 66, 324, 325] (by decide +kernel)
set_option maxRecDepth 20000 in
theorem zIn_wsL_law_r9 : ∀ w ∈ wsL_law_r9, w ∈ lw_tbl := zMem_r _ [326, 67, 327, 328, 329, 330, 331, 332, 333, 334, 335, 336, 337, 338, 340, 342, 344, 346, 4, 347, 348, 350, 5, 351] (by decide +kernel)
