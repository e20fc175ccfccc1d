set_option maxRecDepth 20000 in
theorem in_wsL_law_r1 : ∀ w ∈ wsL_law_r1, w ∈ lw_tbl := fun w h => (goodIn_r wsL_law_r1 [25, 26, 17, 55, 27, 28, 29, 30, 31, 32, 33, 34, 18, 139, 140, 141, 97, 98, 20, 142, 116, 117, 21, 143] (by decide +kernel) (by decide +kernel) w h).1
set_option maxRecDepth 20000 in
theorem in_wsL_law_r2 : ∀ w ∈ wsL_law_r2, w ∈ lw_tbl := fun w h => (goodIn_r wsL_law_r2 [129, 130, 22, 144, 35, 36, 37, 38, 39, 40, 19, 56, 58, 60, 62, 64, 66, 41, 42, 43, 44, 45, 46, 47] (by decide +kernel) (by decide +kernel) w h).1
set_option maxRecDepth 20000 in
theorem in_wsL_law_r3 : ∀ w ∈ wsL_law_r3, w ∈ lw_tbl := fun w h => (goodIn_r wsL_law_r3 [99, 100, 101, 102, 103, 106, 105, 118, 119, 120, 121, 128, 122, 131, 132, 133, 134, 135, 404, 405, 16, 406, 407, 408] (by decide +kernel) (by decide +kernel) w h).1
