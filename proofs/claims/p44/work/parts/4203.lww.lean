/-! the law's words stand in the tables: piece by piece -/
theorem wsL_in_r22 : ∀ w ∈ wsL_law0_r22, w ∈ lw_tbl := fun w h => (goodIn_p wsL_law0_r22 [680, 687, 694] (by decide +kernel) (by decide +kernel) w h).1
theorem wsL_in_r23 : ∀ w ∈ wsL_law0_r23, w ∈ lw_tbl := fun w h => (goodIn_p wsL_law0_r23 [701, 709, 713] (by decide +kernel) (by decide +kernel) w h).1
theorem wsL_in_r24 : ∀ w ∈ wsL_law0_r24, w ∈ lw_tbl := fun w h => (goodIn_p wsL_law0_r24 [720, 724, 729, 740] (by decide +kernel) (by decide +kernel) w h).1
theorem wsL_in_r25 : ∀ w ∈ wsL_law0_r25, w ∈ lw_tbl := fun w h => (goodIn_p wsL_law0_r25 [748, 752, 756, 772, 779] (by decide +kernel) (by decide +kernel) w h).1
theorem wsL_in_r26 : ∀ w ∈ wsL_law0_r26, w ∈ lw_tbl := fun w h => (goodIn_p wsL_law0_r26 [786, 794, 801] (by decide +kernel) (by decide +kernel) w h).1
theorem wsL_in_r27 : ∀ w ∈ wsL_law0_r27, w ∈ lw_tbl := fun w h => (goodIn_p wsL_law0_r27 [816, 824, 835, 861] (by decide +kernel) (by decide +kernel) w h).1
theorem wsL_in_r28 : ∀ w ∈ wsL_law0_r28, w ∈ lw_tbl := fun w h => (goodIn_p wsL_law0_r28 [865, 869, 872, 876] (by decide +kernel) (by decide +kernel) w h).1
