set_option maxRecDepth 20000 in
theorem tl_r45 : ∀ w ∈ wsL_law0_r45, w ∈ lw_tbl := by decide +kernel
set_option maxRecDepth 20000 in
theorem tl_r46 : ∀ w ∈ wsL_law0_r46, w ∈ lw_tbl := by decide +kernel
set_option maxRecDepth 20000 in
theorem tl_r47 : ∀ w ∈ wsL_law0_r47, w ∈ lw_tbl := by decide +kernel
set_option maxRecDepth 20000 in
theorem tl_r48 : ∀ w ∈ wsL_law0_r48, w ∈ lw_tbl := by decide +kernel
set_option maxRecDepth 20000 in
theorem tl_r49 : ∀ w ∈ wsL_law0_r49, w ∈ lw_tbl := by decide +kernel
set_option maxRecDepth 20000 in
theorem tl_r50 : ∀ w ∈ wsL_law0_r50, w ∈ lw_tbl := by decide +kernel
set_option maxRecDepth 20000 in
theorem tl_r51 : ∀ w ∈ wsL_law0_r51, w ∈ lw_tbl := by decide +kernel
set_option maxRecDepth 20000 in
theorem tl_r52 : ∀ w ∈ wsL_law0_r52, w ∈ lw_tbl := by decide +kernel
set_option maxRecDepth 20000 in
theorem tl_r53 : ∀ w ∈ wsL_law0_r53, w ∈ lw_tbl := by decide +kernel
set_option maxRecDepth 20000 in
theorem tl_r54 : ∀ w ∈ wsL_law0_r54, w ∈ lw_tbl := by decide +kernel
set_option maxRecDepth 20000 in
theorem tl_r55 : ∀ w ∈ wsL_law0_r55, w ∈ lw_tbl := by decide +kernel
set_option maxRecDepth 20000 in
theorem tl_r56 : ∀ w ∈ wsL_law0_r56, w ∈ lw_tbl := by decide +kernel
set_option maxRecDepth 20000 in
theorem tl_r57 : ∀ w ∈ wsL_law0_r57, w ∈ lw_tbl := by decide +kernel
set_option maxRecDepth 20000 in
theorem tl_r58 : ∀ w ∈ wsL_law0_r58, w ∈ lw_tbl := by decide +kernel
set_option maxRecDepth 20000 in
theorem tl_r59 : ∀ w ∈ wsL_law0_r59, w ∈ lw_tbl := by decide +kernel
