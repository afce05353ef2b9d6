theorem law_mem_at : ∀ w ∈ atM0, w ∈ lw_tbl2 := by decide +kernel
theorem wsL_law_x1 : ∀ w ∈ (vx_atS RX10 67 "java/lang/IllegalArgumentException" ["java/lang/RuntimeException", "java/lang/Exception"]).filter goodWord, w ∈ lw_tbl2 := by decide +kernel
theorem wsL_law_x2 : ∀ w ∈ (vx_atS RX10 289 "java/lang/IndexOutOfBoundsException" ["java/lang/RuntimeException", "java/lang/Exception"]).filter goodWord, w ∈ lw_tbl2 := by decide +kernel
theorem wsL_law_x3 : ∀ w ∈ (vx_atS RX10 92 "java/lang/IllegalStateException" ["java/lang/RuntimeException", "java/lang/Exception"]).filter goodWord, w ∈ lw_tbl2 := by decide +kernel
