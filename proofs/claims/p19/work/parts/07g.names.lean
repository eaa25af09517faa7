set_option maxRecDepth 20000 in
theorem in_wsL_law0_r5 : ∀ w ∈ wsL_law0_r5, w ∈ lw_tbl := mem_pq wsL_law0_r5 [523, 241, 330, 593] [590] (by decide +kernel) rfl (by decide +kernel)
set_option maxRecDepth 20000 in
theorem in_wsL_law0_r6 : ∀ w ∈ wsL_law0_r6, w ∈ lw_tbl := fun w h => (goodIn_p wsL_law0_r6 [601, 604, 341, 390, 611, 614] (by decide +kernel) (by decide +kernel) w h).1
