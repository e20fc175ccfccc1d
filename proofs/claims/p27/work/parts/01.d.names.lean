set_option maxRecDepth 20000 in
theorem in_wsL_law_r4 : ∀ w ∈ wsL_law_r4, w ∈ lw_tbl := fun w h => (goodIn_r wsL_law_r4 [409, 410, 411, 412, 413, 414, 415, 376, 377, 378, 379, 166, 167, 168, 169, 170, 171, 172, 173, 174, 175, 176, 177, 178] (by decide +kernel) (by decide +kernel) w h).1
set_option maxRecDepth 20000 in
theorem in_wsL_law_r5 : ∀ w ∈ wsL_law_r5, w ∈ lw_tbl := fun w h => (goodIn_r wsL_law_r5 [179, 181, 1, 182, 184, 185, 186, 187, 188, 189, 190, 191, 192, 193, 194, 195, 197, 2, 198, 199, 200, 201, 158, 159] (by decide +kernel) (by decide +kernel) w h).1
set_option maxRecDepth 20000 in
theorem in_wsL_law_r6 : ∀ w ∈ wsL_law_r6, w ∈ lw_tbl := fun w h => (goodIn_r wsL_law_r6 [160, 161, 162, 164, 0, 165, 202, 204, 3, 205, 206, 207, 208, 209, 107, 108, 210, 211, 212, 213, 218, 220, 219, 23] (by decide +kernel) (by decide +kernel) w h).1
