set_option maxRecDepth 20000 in
theorem in_wsL_law0_r9 : ∀ w ∈ wsL_law0_r9, w ∈ lw_tbl := mem_pq wsL_law0_r9 [562, 568, 571, 574, 334, 338] [565] (by decide +kernel) rfl (by decide +kernel)
set_option maxRecDepth 20000 in
theorem in_wsL_law0_r10 : ∀ w ∈ wsL_law0_r10, w ∈ lw_tbl := fun w h => (goodIn_p wsL_law0_r10 [345, 349, 353, 358, 363, 367] (by decide +kernel) (by decide +kernel) w h).1
