set_option maxRecDepth 20000 in
theorem wLr17 : ∀ w ∈ wsL_law_r17, w ∈ lw_tbl := fun w h => (goodIn_p wsL_law_r17 [519, 523, 529, 533, 537] (by decide +kernel) (by decide +kernel) w h).1
set_option maxRecDepth 20000 in
theorem wLr18 : ∀ w ∈ wsL_law_r18, w ∈ lw_tbl := fun w h => (goodIn_p wsL_law_r18 [541, 545, 549, 553, 557, 560] (by decide +kernel) (by decide +kernel) w h).1
set_option maxRecDepth 20000 in
theorem wLr19 : ∀ w ∈ wsL_law_r19, w ∈ lw_tbl := fun w h => (goodIn_p wsL_law_r19 [564, 568, 572, 575, 578, 582] (by decide +kernel) (by decide +kernel) w h).1
set_option maxRecDepth 20000 in
theorem wLr20 : ∀ w ∈ wsL_law_r20, w ∈ lw_tbl := fun w h => (goodIn_p wsL_law_r20 [586, 591, 595] (by decide +kernel) (by decide +kernel) w h).1
set_option maxRecDepth 20000 in
theorem wLr21 : ∀ w ∈ wsL_law_r21, w ∈ lw_tbl := fun w h => (goodIn_p wsL_law_r21 [599, 603, 607, 612] (by decide +kernel) (by decide +kernel) w h).1
set_option maxRecDepth 20000 in
theorem wLr22 : ∀ w ∈ wsL_law_r22, w ∈ lw_tbl := fun w h => (goodIn_p wsL_law_r22 [622] (by decide +kernel) (by decide +kernel) w h).1
theorem wLx6 : ∀ w ∈ wsX60, w ∈ lw_tbl := by decide +kernel
theorem wLx1 : ∀ w ∈ wsX10, w ∈ lw_tbl := by decide +kernel
theorem wLx0 : ∀ w ∈ wsX00, w ∈ lw_tbl := by decide +kernel
theorem wLx5 : ∀ w ∈ wsX50, w ∈ lw_tbl := by decide +kernel
