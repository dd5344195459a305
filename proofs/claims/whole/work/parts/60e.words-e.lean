set_option maxRecDepth 20000 in
theorem zIn_wsX00 : ∀ w ∈ wsX00, w ∈ lw_tbl := by decide +kernel
set_option maxRecDepth 20000 in
theorem zIn_wsX10 : ∀ w ∈ wsX10, w ∈ lw_tbl := by decide +kernel
set_option maxRecDepth 20000 in
theorem zIn_wsX20 : ∀ w ∈ wsX20, w ∈ lw_tbl := by decide +kernel
set_option maxRecDepth 20000 in
theorem zIn_wsX30 : ∀ w ∈ wsX30, w ∈ lw_tbl := by decide +kernel
set_option maxRecDepth 20000 in
theorem zIn_wsX40 : ∀ w ∈ wsX40, w ∈ lw_tbl := by decide +kernel
set_option maxRecDepth 20000 in
theorem zIn_wsX50 : ∀ w ∈ wsX50, w ∈ lw_tbl := by decide +kernel
set_option maxRecDepth 20000 in
theorem wsL_law_in : ∀ w ∈ wsL_law, w ∈ lw_tbl := zApp (zApp (zApp (zApp (zApp (zApp (zApp (zApp zIn_wsL_law_r1 (zApp zIn_wsL_law_r2 (zApp zIn_wsL_law_r3 (zApp zIn_wsL_law_r4 (zApp zIn_wsL_law_r5 (zApp zIn_wsL_law_r6 (zApp zIn_wsL_law_r7 (zApp zIn_wsL_law_r8 (zApp zIn_wsL_law_r9 (zApp zIn_wsL_law_r10 (zApp zIn_wsL_law_r11 (zApp zIn_wsL_law_r12 (zApp zIn_wsL_law_r13 (zApp zIn_wsL_law_r14 (zApp zIn_wsL_law_r15 (zApp zIn_wsL_law_r16 (zApp zIn_wsL_law_r17 (zApp zIn_wsL_law_r18 (zApp zIn_wsL_law_r19 (zApp zIn_wsL_law_r20 (zApp zIn_wsL_law_r21 (zApp zIn_wsL_law_r22 (zApp zIn_wsL_law_r23 (zApp zIn_wsL_law_r24 (zApp zIn_wsL_law_r25 (zApp zIn_wsL_law_r26 (zApp zIn_wsL_law_r27 (zApp zIn_wsL_law_r28 (zApp zIn_wsL_law_r29 (zApp zIn_wsL_law_r30 (zApp zIn_wsL_law_r31 (zApp zIn_wsL_law_r32 (zApp zIn_wsL_law_r33 zIn_wsL_law_r34))))))))))))))))))))))))))))))))) zIn_wsX40) zIn_wsX50) zIn_wsX30) zIn_wsX10) zIn_wsX00) zIn_wsX20) (fun _ h => absurd h List.not_mem_nil)
