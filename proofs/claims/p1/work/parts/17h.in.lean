set_option maxRecDepth 20000 in
theorem tw_n_wsL_law0_r43 : ∀ w ∈ wsL_law0_r43, w ∈ lw_tbl := by decide +kernel
set_option maxRecDepth 20000 in
theorem tw_n_wsL_law0_r44 : ∀ w ∈ wsL_law0_r44, w ∈ lw_tbl := by decide +kernel
set_option maxRecDepth 20000 in
theorem tw_n_wsL_law0_r45 : ∀ w ∈ wsL_law0_r45, w ∈ lw_tbl := by decide +kernel
set_option maxRecDepth 20000 in
theorem tw_n_wsL_law0_r46 : ∀ w ∈ wsL_law0_r46, w ∈ lw_tbl := by decide +kernel
set_option maxRecDepth 20000 in
theorem tw_n_wsL_law0_r47 : ∀ w ∈ wsL_law0_r47, w ∈ lw_tbl := by decide +kernel
set_option maxRecDepth 20000 in
theorem tw_n_wsL_law0_r48 : ∀ w ∈ wsL_law0_r48, w ∈ lw_tbl := by decide +kernel
