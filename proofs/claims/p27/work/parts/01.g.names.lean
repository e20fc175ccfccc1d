set_option maxRecDepth 20000 in
theorem in_wsL_law_r13 : ∀ w ∈ wsL_law_r13, w ∈ lw_tbl := fun w h => (goodIn_r wsL_law_r13 [311, 313, 5, 314, 315, 317, 6, 318, 319, 321, 7, 322, 323, 324, 325, 326, 327, 434, 435, 436, 437, 438, 439, 440] (by decide +kernel) (by decide +kernel) w h).1
set_option maxRecDepth 20000 in
theorem in_wsL_law_r14 : ∀ w ∈ wsL_law_r14, w ∈ lw_tbl := fun w h => (goodIn_r wsL_law_r14 [441, 442, 443, 444, 371, 372, 373, 374, 431, 432, 433, 446, 447, 448, 449, 450, 451, 452, 453, 454, 455, 456, 457, 458] (by decide +kernel) (by decide +kernel) w h).1
set_option maxRecDepth 20000 in
theorem in_wsL_law_r15 : ∀ w ∈ wsL_law_r15, w ∈ lw_tbl := fun w h => (goodIn_r wsL_law_r15 [459, 460, 461, 476, 462, 464, 13, 465, 466, 467, 469, 14, 470, 471, 473, 15, 474, 475, 368, 369, 370, 477, 478, 479] (by decide +kernel) (by decide +kernel) w h).1
