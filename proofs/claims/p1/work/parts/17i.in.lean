set_option maxRecDepth 20000 in
theorem tw_n_wsL_law0_r49 : ∀ w ∈ wsL_law0_r49, w ∈ lw_tbl := by decide +kernel
set_option maxRecDepth 20000 in
theorem tw_n_wsX30 : ∀ w ∈ wsX30, w ∈ lw_tbl := by decide +kernel
set_option maxRecDepth 20000 in
theorem tw_n_wsX60 : ∀ w ∈ wsX60, w ∈ lw_tbl := by decide +kernel
set_option maxRecDepth 20000 in
theorem tw_n_wsJx4a65c0 : ∀ w ∈ wsJx4a65c0, w ∈ lw_tbl := by decide +kernel
set_option maxRecDepth 20000 in
theorem tw_n_wsX10 : ∀ w ∈ wsX10, w ∈ lw_tbl := by decide +kernel
set_option maxRecDepth 20000 in
theorem tw_n_wsX00 : ∀ w ∈ wsX00, w ∈ lw_tbl := by decide +kernel
