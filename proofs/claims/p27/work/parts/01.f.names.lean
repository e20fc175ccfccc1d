set_option maxRecDepth 20000 in
theorem in_wsL_law_r10 : ∀ w ∈ wsL_law_r10, w ∈ lw_tbl := fun w h => (goodIn_r wsL_law_r10 [285, 286, 287, 288, 289, 290, 291, 292, 293, 294, 295, 296, 297, 298, 299, 300, 301, 302, 328, 329, 330, 331, 332, 334] (by decide +kernel) (by decide +kernel) w h).1
set_option maxRecDepth 20000 in
theorem in_wsL_law_r11 : ∀ w ∈ wsL_law_r11, w ∈ lw_tbl := fun w h => (goodIn_r wsL_law_r11 [8, 335, 336, 337, 338, 339, 340, 341, 342, 343, 345, 9, 346, 347, 348, 349, 350, 352, 10, 353, 354, 355, 356, 357] (by decide +kernel) (by decide +kernel) w h).1
set_option maxRecDepth 20000 in
theorem in_wsL_law_r12 : ∀ w ∈ wsL_law_r12, w ∈ lw_tbl := fun w h => (goodIn_r wsL_law_r12 [358, 360, 11, 361, 422, 423, 424, 425, 426, 427, 416, 417, 418, 419, 420, 421, 303, 304, 305, 306, 307, 308, 309, 310] (by decide +kernel) (by decide +kernel) w h).1
