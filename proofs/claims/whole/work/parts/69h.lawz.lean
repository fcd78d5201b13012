theorem in_nest0 : Cond.methodLinkNest RX0 90 yX1_isMember RX1 ∈ lw_tbl := List.mem_of_getElem? (i := 167) (by decide +kernel)
theorem in_nest1 : Cond.methodLinkNest RX1 9 yX0_init RX1 ∈ lw_tbl := List.mem_of_getElem? (i := 30) (by decide +kernel)
theorem in_over : Cond.arrayOver (.object RX0) ∈ lw_tbl := List.mem_of_getElem? (i := 91) (by decide +kernel)
theorem in_lays : Cond.laysStatic "CrowdReports" "ORDERS" "[I" ∈ lw_tbl := List.mem_of_getElem? (i := 398) (by decide +kernel)
theorem zL_law_iaX0 : Cond.instantiable RX0 14 ∈ wsL_law := by decide +kernel
theorem zL_law_inX0 : ∀ w ∈ u_ws RX0 TX0 14, w ∈ wsL_law := by decide +kernel
theorem zL_law_iX0 : Cond.initialized RX0 ∈ wsL_law := by decide +kernel
theorem zL_law_iaX1 : Cond.instantiable RX1 13 ∈ wsL_law := by decide +kernel
theorem zL_law_inX1 : ∀ w ∈ u_ws RX1 TX1 13, w ∈ wsL_law := by decide +kernel
theorem zL_law_iX1 : Cond.initialized RX1 ∈ wsL_law := by decide +kernel
theorem zL_law_iaX2 : Cond.instantiable RX2 15 ∈ wsL_law := by decide +kernel
theorem zL_law_inX2 : ∀ w ∈ u_ws RX2 TX2 15, w ∈ wsL_law := by decide +kernel
theorem zL_law_iX2 : Cond.initialized RX2 ∈ wsL_law := by decide +kernel
theorem zL_law_acint : Cond.arrayClass .int ∈ wsL_law := by decide +kernel
theorem zL_law_acboolean : Cond.arrayClass .boolean ∈ wsL_law := by decide +kernel
theorem zL_law_cl7 : Cond.classLink RL 7 RX1 ∈ wsL_law := by decide +kernel
theorem zL_law_cl10 : Cond.classLink RL 10 RX2 ∈ wsL_law := by decide +kernel
theorem zL_law_l9 : Cond.methodLink RL 9 yX1_init ∈ wsL_law := by decide +kernel
theorem zL_law_l12 : Cond.methodLink RL 12 yX2_init ∈ wsL_law := by decide +kernel
theorem zL_law_im1 : Cond.instanceMethod yX1_init ∈ wsL_law := by decide +kernel
theorem zL_law_im2 : Cond.instanceMethod yX2_init ∈ wsL_law := by decide +kernel
