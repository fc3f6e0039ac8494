/-! the law's words stand in the tables: piece by piece -/
theorem wsL_in_r8 : ∀ w ∈ wsL_law0_r8, w ∈ lw_tbl := fun w h => (goodIn_p wsL_law0_r8 [370, 374, 379, 383, 387] (by decide +kernel) (by decide +kernel) w h).1
theorem wsL_in_r9 : ∀ w ∈ wsL_law0_r9, w ∈ lw_tbl := fun w h => (goodIn_p wsL_law0_r9 [391, 396, 416, 421] (by decide +kernel) (by decide +kernel) w h).1
theorem wsL_in_r10 : ∀ w ∈ wsL_law0_r10, w ∈ lw_tbl := fun w h => (goodIn_p wsL_law0_r10 [429, 434, 439, 407] (by decide +kernel) (by decide +kernel) w h).1
theorem wsL_in_r11 : ∀ w ∈ wsL_law0_r11, w ∈ lw_tbl := fun w h => (goodIn_p wsL_law0_r11 [831, 459, 463, 467, 471, 477] (by decide +kernel) (by decide +kernel) w h).1
theorem wsL_in_r12 : ∀ w ∈ wsL_law0_r12, w ∈ lw_tbl := fun w h => (goodIn_p wsL_law0_r12 [481, 517] (by decide +kernel) (by decide +kernel) w h).1
theorem wsL_in_r13 : ∀ w ∈ wsL_law0_r13, w ∈ lw_tbl := fun w h => (goodIn_p wsL_law0_r13 [446, 450, 454, 524, 528] (by decide +kernel) (by decide +kernel) w h).1
theorem wsL_in_r14 : ∀ w ∈ wsL_law0_r14, w ∈ lw_tbl := fun w h => (goodIn_p wsL_law0_r14 [536, 539, 547] (by decide +kernel) (by decide +kernel) w h).1
