set_option maxRecDepth 100000 in
set_option maxHeartbeats 8000000 in
theorem ck_wsL_law_r14 : ∀ w ∈ wsL_law_r14, k2_isCode w = true ∨ w ∈ lw_tbl6 := chunk_of (by decide +kernel)
set_option maxRecDepth 100000 in
set_option maxHeartbeats 8000000 in
theorem ck_wsL_law_r15 : ∀ w ∈ wsL_law_r15, k2_isCode w = true ∨ w ∈ lw_tbl6 := chunk_of (by decide +kernel)
set_option maxRecDepth 100000 in
set_option maxHeartbeats 8000000 in
theorem ck_wsL_law_r16 : ∀ w ∈ wsL_law_r16, k2_isCode w = true ∨ w ∈ lw_tbl6 := chunk_of (by decide +kernel)
set_option maxRecDepth 100000 in
set_option maxHeartbeats 8000000 in
theorem ck_wsL_law_r17 : ∀ w ∈ wsL_law_r17, k2_isCode w = true ∨ w ∈ lw_tbl6 := chunk_of (by decide +kernel)
set_option maxRecDepth 100000 in
set_option maxHeartbeats 8000000 in
theorem ck_wsL_law_r18 : ∀ w ∈ wsL_law_r18, k2_isCode w = true ∨ w ∈ lw_tbl6 := chunk_of (by decide +kernel)
set_option maxRecDepth 100000 in
set_option maxHeartbeats 8000000 in
theorem ck_wsL_law_r19 : ∀ w ∈ wsL_law_r19, k2_isCode w = true ∨ w ∈ lw_tbl6 := chunk_of (by decide +kernel)
set_option maxRecDepth 100000 in
set_option maxHeartbeats 8000000 in
theorem ck_wsL_law_r20 : ∀ w ∈ wsL_law_r20, k2_isCode w = true ∨ w ∈ lw_tbl6 := chunk_of (by decide +kernel)
set_option maxRecDepth 100000 in
set_option maxHeartbeats 8000000 in
theorem ck_wsL_law_r21 : ∀ w ∈ wsL_law_r21, k2_isCode w = true ∨ w ∈ lw_tbl6 := chunk_of (by decide +kernel)
set_option maxRecDepth 100000 in
set_option maxHeartbeats 8000000 in
theorem ck_wsL_law_r22 : ∀ w ∈ wsL_law_r22, k2_isCode w = true ∨ w ∈ lw_tbl6 := chunk_of (by decide +kernel)
set_option maxRecDepth 100000 in
set_option maxHeartbeats 8000000 in
theorem ck_wsL_law_r23 : ∀ w ∈ wsL_law_r23, k2_isCode w = true ∨ w ∈ lw_tbl6 := chunk_of (by decide +kernel)
set_option maxRecDepth 100000 in
set_option maxHeartbeats 8000000 in
theorem ck_wsL_law_r24 : ∀ w ∈ wsL_law_r24, k2_isCode w = true ∨ w ∈ lw_tbl6 := chunk_of (by decide +kernel)
set_option maxRecDepth 100000 in
set_option maxHeartbeats 8000000 in
theorem ck_wsL_law_r25 : ∀ w ∈ wsL_law_r25, k2_isCode w = true ∨ w ∈ lw_tbl6 := chunk_of (by decide +kernel)
set_option maxRecDepth 100000 in
set_option maxHeartbeats 8000000 in
theorem ck_wsL_law_r26 : ∀ w ∈ wsL_law_r26, k2_isCode w = true ∨ w ∈ lw_tbl6 := chunk_of (by decide +kernel)
set_option maxRecDepth 100000 in
set_option maxHeartbeats 8000000 in
theorem ck_wsL_law_r27 : ∀ w ∈ wsL_law_r27, k2_isCode w = true ∨ w ∈ lw_tbl6 := chunk_of (by decide +kernel)
