set_option maxRecDepth 100000 in
set_option maxHeartbeats 8000000 in
theorem ck_wsL_law_r28 : ∀ w ∈ wsL_law_r28, k2_isCode w = true ∨ w ∈ lw_tbl6 := chunk_of (by decide +kernel)
set_option maxRecDepth 100000 in
set_option maxHeartbeats 8000000 in
theorem ck_wsL_law_r29 : ∀ w ∈ wsL_law_r29, k2_isCode w = true ∨ w ∈ lw_tbl6 := chunk_of (by decide +kernel)
set_option maxRecDepth 100000 in
set_option maxHeartbeats 8000000 in
theorem ck_wsL_law_r30 : ∀ w ∈ wsL_law_r30, k2_isCode w = true ∨ w ∈ lw_tbl6 := chunk_of (by decide +kernel)
set_option maxRecDepth 100000 in
set_option maxHeartbeats 8000000 in
theorem ck_wsL_law_r31 : ∀ w ∈ wsL_law_r31, k2_isCode w = true ∨ w ∈ lw_tbl6 := chunk_of (by decide +kernel)
set_option maxRecDepth 100000 in
set_option maxHeartbeats 8000000 in
theorem ck_wsL_law_r32 : ∀ w ∈ wsL_law_r32, k2_isCode w = true ∨ w ∈ lw_tbl6 := chunk_of (by decide +kernel)
set_option maxRecDepth 100000 in
set_option maxHeartbeats 8000000 in
theorem ck_wsL_law_r33 : ∀ w ∈ wsL_law_r33, k2_isCode w = true ∨ w ∈ lw_tbl6 := chunk_of (by decide +kernel)
set_option maxRecDepth 100000 in
set_option maxHeartbeats 8000000 in
theorem ck_wsL_law_r34 : ∀ w ∈ wsL_law_r34, k2_isCode w = true ∨ w ∈ lw_tbl6 := chunk_of (by decide +kernel)
set_option maxRecDepth 100000 in
set_option maxHeartbeats 8000000 in
theorem ck_wsL_law_r35 : ∀ w ∈ wsL_law_r35, k2_isCode w = true ∨ w ∈ lw_tbl6 := chunk_of (by decide +kernel)
set_option maxRecDepth 100000 in
set_option maxHeartbeats 8000000 in
theorem ck_wsL_law_r36 : ∀ w ∈ wsL_law_r36, k2_isCode w = true ∨ w ∈ lw_tbl6 := chunk_of (by decide +kernel)
set_option maxRecDepth 100000 in
set_option maxHeartbeats 8000000 in
theorem ck_wsL_law_r37 : ∀ w ∈ wsL_law_r37, k2_isCode w = true ∨ w ∈ lw_tbl6 := chunk_of (by decide +kernel)
set_option maxRecDepth 100000 in
set_option maxHeartbeats 8000000 in
theorem ck_wsL_law_r38 : ∀ w ∈ wsL_law_r38, k2_isCode w = true ∨ w ∈ lw_tbl6 := chunk_of (by decide +kernel)
set_option maxRecDepth 100000 in
set_option maxHeartbeats 8000000 in
theorem ck_wsL_law_r39 : ∀ w ∈ wsL_law_r39, k2_isCode w = true ∨ w ∈ lw_tbl6 := chunk_of (by decide +kernel)
set_option maxRecDepth 100000 in
set_option maxHeartbeats 8000000 in
theorem ck_wsL_law_r40 : ∀ w ∈ wsL_law_r40, k2_isCode w = true ∨ w ∈ lw_tbl6 := chunk_of (by decide +kernel)
set_option maxRecDepth 100000 in
set_option maxHeartbeats 8000000 in
theorem ck_wsX110 : ∀ w ∈ wsX110, k2_isCode w = true ∨ w ∈ lw_tbl6 := chunk_of (by decide +kernel)
set_option maxRecDepth 100000 in
set_option maxHeartbeats 8000000 in
theorem ck_wsJ40 : ∀ w ∈ wsJ40, k2_isCode w = true ∨ w ∈ lw_tbl6 := chunk_of (by decide +kernel)
set_option maxRecDepth 100000 in
set_option maxHeartbeats 8000000 in
theorem ck_wsX80 : ∀ w ∈ wsX80, k2_isCode w = true ∨ w ∈ lw_tbl6 := chunk_of (by decide +kernel)
set_option maxRecDepth 100000 in
set_option maxHeartbeats 8000000 in
theorem ck_wsX60 : ∀ w ∈ wsX60, k2_isCode w = true ∨ w ∈ lw_tbl6 := chunk_of (by decide +kernel)
set_option maxRecDepth 100000 in
set_option maxHeartbeats 8000000 in
theorem ck_wsX100 : ∀ w ∈ wsX100, k2_isCode w = true ∨ w ∈ lw_tbl6 := chunk_of (by decide +kernel)
set_option maxRecDepth 100000 in
set_option maxHeartbeats 8000000 in
theorem ck_wsX10 : ∀ w ∈ wsX10, k2_isCode w = true ∨ w ∈ lw_tbl6 := chunk_of (by decide +kernel)
set_option maxRecDepth 100000 in
set_option maxHeartbeats 8000000 in
theorem ck_wsX30 : ∀ w ∈ wsX30, k2_isCode w = true ∨ w ∈ lw_tbl6 := chunk_of (by decide +kernel)
set_option maxRecDepth 100000 in
set_option maxHeartbeats 8000000 in
theorem ck_wsX40 : ∀ w ∈ wsX40, k2_isCode w = true ∨ w ∈ lw_tbl6 := chunk_of (by decide +kernel)
set_option maxRecDepth 100000 in
set_option maxHeartbeats 8000000 in
theorem ck_wsX90 : ∀ w ∈ wsX90, k2_isCode w = true ∨ w ∈ lw_tbl6 := chunk_of (by decide +kernel)
set_option maxRecDepth 100000 in
set_option maxHeartbeats 8000000 in
theorem ck_wsX70 : ∀ w ∈ wsX70, k2_isCode w = true ∨ w ∈ lw_tbl6 := chunk_of (by decide +kernel)
set_option maxRecDepth 100000 in
set_option maxHeartbeats 8000000 in
theorem ck_wsX50 : ∀ w ∈ wsX50, k2_isCode w = true ∨ w ∈ lw_tbl6 := chunk_of (by decide +kernel)
set_option maxRecDepth 100000 in
set_option maxHeartbeats 8000000 in
theorem ck_wsX00 : ∀ w ∈ wsX00, k2_isCode w = true ∨ w ∈ lw_tbl6 := chunk_of (by decide +kernel)
set_option maxRecDepth 100000 in
set_option maxHeartbeats 8000000 in
theorem ck_wsX20 : ∀ w ∈ wsX20, k2_isCode w = true ∨ w ∈ lw_tbl6 := chunk_of (by decide +kernel)
set_option maxRecDepth 100000 in
set_option maxHeartbeats 8000000 in
theorem ck_wsJ00 : ∀ w ∈ wsJ00, k2_isCode w = true ∨ w ∈ lw_tbl6 := chunk_of (by decide +kernel)
