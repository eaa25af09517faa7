theorem in_wsX00 : ∀ w ∈ wsX00, w ∈ lw_tbl := by decide +kernel
theorem wsL_law_in0 : ∀ w ∈ wsL_law0, w ∈ lw_tbl := by
  intro w h
  unfold wsL_law0 at h
  rcases List.mem_append.mp h with h | h
  · rcases List.mem_append.mp h with h | h
    · rcases List.mem_append.mp h with h | h
      · rcases List.mem_append.mp h with h | h
        · rcases List.mem_append.mp h with h | h
          · rcases List.mem_append.mp h with h | h
            · rcases List.mem_append.mp h with h | h
              · rcases List.mem_append.mp h with h | h
                · exact in_wsL_law0_r1 w h
                · rcases List.mem_append.mp h with h | h
                  · exact in_wsL_law0_r2 w h
                  · rcases List.mem_append.mp h with h | h
                    · exact in_wsL_law0_r3 w h
                    · rcases List.mem_append.mp h with h | h
                      · exact in_wsL_law0_r4 w h
                      · rcases List.mem_append.mp h with h | h
                        · exact in_wsL_law0_r5 w h
                        · rcases List.mem_append.mp h with h | h
                          · exact in_wsL_law0_r6 w h
                          · rcases List.mem_append.mp h with h | h
                            · exact in_wsL_law0_r7 w h
                            · rcases List.mem_append.mp h with h | h
                              · exact in_wsL_law0_r8 w h
                              · rcases List.mem_append.mp h with h | h
                                · exact in_wsL_law0_r9 w h
                                · rcases List.mem_append.mp h with h | h
                                  · exact in_wsL_law0_r10 w h
                                  · rcases List.mem_append.mp h with h | h
                                    · exact in_wsL_law0_r11 w h
                                    · rcases List.mem_append.mp h with h | h
                                      · exact in_wsL_law0_r12 w h
                                      · rcases List.mem_append.mp h with h | h
                                        · exact in_wsL_law0_r13 w h
                                        · rcases List.mem_append.mp h with h | h
                                          · exact in_wsL_law0_r14 w h
                                          · rcases List.mem_append.mp h with h | h
                                            · exact in_wsL_law0_r15 w h
                                            · rcases List.mem_append.mp h with h | h
                                              · exact in_wsL_law0_r16 w h
                                              · rcases List.mem_append.mp h with h | h
                                                · exact in_wsL_law0_r17 w h
                                                · rcases List.mem_append.mp h with h | h
                                                  · exact in_wsL_law0_r18 w h
                                                  · exact in_wsL_law0_r19 w h
              · exact in_wsX50 w h
            · exact in_wsX40 w h
          · exact in_wsX30 w h
        · exact in_wsX20 w h
      · exact in_wsX10 w h
    · exact in_wsX00 w h
  · cases h

