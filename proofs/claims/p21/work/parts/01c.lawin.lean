set_option maxRecDepth 20000 in
theorem wsL_law_in0_r1 : GoodIn lw_tbl wsL_law0_r1 := goodIn_p _ [37, 40, 45] (by decide +kernel) (by decide +kernel)
set_option maxRecDepth 20000 in
theorem wsL_law_in0_r2 : GoodIn lw_tbl wsL_law0_r2 := goodIn_p _ [59, 62, 65, 100, 104] (by decide +kernel) (by decide +kernel)
set_option maxRecDepth 20000 in
theorem wsL_law_in0_r3 : GoodIn lw_tbl wsL_law0_r3 := goodIn_p _ [200, 204, 208, 212, 108] (by decide +kernel) (by decide +kernel)
set_option maxRecDepth 20000 in
theorem wsL_law_in0_r4 : GoodIn lw_tbl wsL_law0_r4 := goodIn_p _ [111, 114, 186, 191, 195, 215] (by decide +kernel) (by decide +kernel)
set_option maxRecDepth 20000 in
theorem wsL_law_in0_r5 : GoodIn lw_tbl wsL_law0_r5 := goodIn_p _ [221, 227, 253] (by decide +kernel) (by decide +kernel)
set_option maxRecDepth 20000 in
theorem wsL_law_in0_r6 : GoodIn lw_tbl wsL_law0_r6 := goodIn_p _ [284, 288, 292, 296] (by decide +kernel) (by decide +kernel)
set_option maxRecDepth 20000 in
theorem wsL_law_in0_r7 : GoodIn lw_tbl wsL_law0_r7 := goodIn_p _ [302, 299, 306, 309, 325] (by decide +kernel) (by decide +kernel)
set_option maxRecDepth 20000 in
theorem wsL_law_in0_r8 : GoodIn lw_tbl wsL_law0_r8 := goodIn_p _ [331, 340, 344, 364] (by decide +kernel) (by decide +kernel)
set_option maxRecDepth 20000 in
theorem wsL_law_in0_r9 : GoodIn lw_tbl wsL_law0_r9 := goodIn_p _ [367, 370, 374, 378, 382, 386] (by decide +kernel) (by decide +kernel)
set_option maxRecDepth 20000 in
theorem wsL_law_in0_r10 : GoodIn lw_tbl wsL_law0_r10 := goodIn_p _ [390, 393, 398, 401, 407] (by decide +kernel) (by decide +kernel)
set_option maxRecDepth 20000 in
theorem wsL_law_in0_r11 : GoodIn lw_tbl wsL_law0_r11 := goodIn_p _ [410, 419, 423, 427, 431, 435] (by decide +kernel) (by decide +kernel)
set_option maxRecDepth 20000 in
theorem wsL_law_in0_r12 : GoodIn lw_tbl wsL_law0_r12 := goodIn_p _ [442, 459, 463, 467] (by decide +kernel) (by decide +kernel)
set_option maxRecDepth 20000 in
theorem wsL_law_in0_r13 : GoodIn lw_tbl wsL_law0_r13 := goodIn_p _ [472, 476, 481, 509, 485, 489] (by decide +kernel) (by decide +kernel)
set_option maxRecDepth 20000 in
theorem wsL_law_in0_r14 : GoodIn lw_tbl wsL_law0_r14 := goodIn_p _ [492, 496, 500, 504, 513, 517] (by decide +kernel) (by decide +kernel)
set_option maxRecDepth 20000 in
theorem wsL_law_in0_r15 : GoodIn lw_tbl wsL_law0_r15 := goodIn_p _ [520, 526, 530, 537, 541] (by decide +kernel) (by decide +kernel)
set_option maxRecDepth 20000 in
theorem wsL_law_in0_r16 : GoodIn lw_tbl wsL_law0_r16 := goodIn_p _ [547, 551, 556, 560, 564] (by decide +kernel) (by decide +kernel)
set_option maxRecDepth 20000 in
theorem wsL_law_in0_r17 : GoodIn lw_tbl wsL_law0_r17 := goodIn_p _ [571, 579, 584, 587, 591] (by decide +kernel) (by decide +kernel)
set_option maxRecDepth 20000 in
theorem wsL_law_in0_r18 : GoodIn lw_tbl wsL_law0_r18 := goodIn_p _ [597, 601, 605] (by decide +kernel) (by decide +kernel)
set_option maxRecDepth 20000 in
theorem wsL_law_in0_wsX50 : GoodIn lw_tbl wsX50 := goodIn_of _ (by decide +kernel)
set_option maxRecDepth 20000 in
theorem wsL_law_in0_wsX30 : GoodIn lw_tbl wsX30 := goodIn_of _ (by decide +kernel)
set_option maxRecDepth 20000 in
theorem wsL_law_in0_wsJx4a65c0 : GoodIn lw_tbl wsJx4a65c0 := goodIn_of _ (by decide +kernel)
set_option maxRecDepth 20000 in
theorem wsL_law_in0_wsX00 : GoodIn lw_tbl wsX00 := goodIn_of _ (by decide +kernel)
set_option maxRecDepth 20000 in
theorem wsL_law_in0_wsX20 : GoodIn lw_tbl wsX20 := goodIn_of _ (by decide +kernel)
set_option maxRecDepth 20000 in
theorem wsL_law_in0_wsX40 : GoodIn lw_tbl wsX40 := goodIn_of _ (by decide +kernel)
theorem wsL_law_in0 : ∀ w ∈ wsL_law0, w ∈ lw_tbl := fun w h => ((goodIn_app (goodIn_app (goodIn_app (goodIn_app (goodIn_app (goodIn_app (goodIn_app (goodIn_app wsL_law_in0_r1 (goodIn_app wsL_law_in0_r2 (goodIn_app wsL_law_in0_r3 (goodIn_app wsL_law_in0_r4 (goodIn_app wsL_law_in0_r5 (goodIn_app wsL_law_in0_r6 (goodIn_app wsL_law_in0_r7 (goodIn_app wsL_law_in0_r8 (goodIn_app wsL_law_in0_r9 (goodIn_app wsL_law_in0_r10 (goodIn_app wsL_law_in0_r11 (goodIn_app wsL_law_in0_r12 (goodIn_app wsL_law_in0_r13 (goodIn_app wsL_law_in0_r14 (goodIn_app wsL_law_in0_r15 (goodIn_app wsL_law_in0_r16 (goodIn_app wsL_law_in0_r17 wsL_law_in0_r18))))))))))))))))) wsL_law_in0_wsX50) wsL_law_in0_wsX30) wsL_law_in0_wsJx4a65c0) wsL_law_in0_wsX00) wsL_law_in0_wsX20) wsL_law_in0_wsX40) (goodIn_of _ (by decide))) w h).1
theorem wsL_law_x0 : ∀ w ∈ (vx_atS RX5 34 "java/lang/IllegalArgumentException" ["java/lang/RuntimeException", "java/lang/Exception"]).filter goodWord, w ∈ lw_tbl := by decide +kernel
theorem wsL_law_x1 : ∀ w ∈ (vx_atS RX5 45 "java/lang/IllegalStateException" ["java/lang/RuntimeException", "java/lang/Exception"]).filter goodWord, w ∈ lw_tbl := by decide +kernel
theorem wsL_law_x2 : ∀ w ∈ (vx_atS RX5 187 "java/lang/IndexOutOfBoundsException" ["java/lang/RuntimeException", "java/lang/Exception"]).filter goodWord, w ∈ lw_tbl := by decide +kernel
theorem wsL_law_in : ∀ w ∈ wsL_law, w ∈ lw_tbl := fun w h => (List.mem_append.mp h).elim (fun h => (List.mem_append.mp h).elim (fun h => (List.mem_append.mp h).elim (fun h => wsL_law_in0 w h) (fun h => wsL_law_x0 w h)) (fun h => wsL_law_x1 w h)) (fun h => wsL_law_x2 w h)