set_option maxRecDepth 20000 in
theorem wsL_law_in0_r1 : GoodIn lw_tbl wsL_law0_r1 := goodIn_p _ [51, 54] (by decide +kernel) (by decide +kernel)
set_option maxRecDepth 20000 in
theorem wsL_law_in0_r2 : GoodIn lw_tbl wsL_law0_r2 := goodIn_p _ [59, 73, 76, 79, 643] (by decide +kernel) (by decide +kernel)
set_option maxRecDepth 20000 in
theorem wsL_law_in0_r3 : GoodIn lw_tbl wsL_law0_r3 := goodIn_p _ [147] (by decide +kernel) (by decide +kernel)
set_option maxRecDepth 20000 in
theorem wsL_law_in0_r4 : GoodIn lw_tbl wsL_law0_r4 := goodIn_p _ [150, 118, 239, 243] (by decide +kernel) (by decide +kernel)
set_option maxRecDepth 20000 in
theorem wsL_law_in0_r5 : GoodIn lw_tbl wsL_law0_r5 := goodIn_p _ [126, 247, 250, 253, 257, 264] (by decide +kernel) (by decide +kernel)
set_option maxRecDepth 20000 in
theorem wsL_law_in0_r6 : GoodIn lw_tbl wsL_law0_r6 := goodIn_p _ [268, 272, 276, 280, 283] (by decide +kernel) (by decide +kernel)
set_option maxRecDepth 20000 in
theorem wsL_law_in0_r7 : GoodIn lw_tbl wsL_law0_r7 := goodIn_p _ [286, 291, 296, 299] (by decide +kernel) (by decide +kernel)
set_option maxRecDepth 20000 in
theorem wsL_law_in0_r8 : GoodIn lw_tbl wsL_law0_r8 := goodIn_p _ [303, 308, 311, 315, 319, 324] (by decide +kernel) (by decide +kernel)
set_option maxRecDepth 20000 in
theorem wsL_law_in0_r9 : GoodIn lw_tbl wsL_law0_r9 := goodIn_p _ [328, 335, 342, 339] (by decide +kernel) (by decide +kernel)
set_option maxRecDepth 20000 in
theorem wsL_law_in0_r10 : GoodIn lw_tbl wsL_law0_r10 := goodIn_p _ [349, 354, 711, 714, 718, 722] (by decide +kernel) (by decide +kernel)
set_option maxRecDepth 20000 in
theorem wsL_law_in0_r11 : GoodIn lw_tbl wsL_law0_r11 := goodIn_p _ [726, 730, 734, 737, 742] (by decide +kernel) (by decide +kernel)
set_option maxRecDepth 20000 in
theorem wsL_law_in0_r12 : GoodIn lw_tbl wsL_law0_r12 := goodIn_p _ [747, 752, 755, 759, 766] (by decide +kernel) (by decide +kernel)
set_option maxRecDepth 20000 in
theorem wsL_law_in0_r13 : GoodIn lw_tbl wsL_law0_r13 := goodIn_p _ [770, 776, 707, 361] (by decide +kernel) (by decide +kernel)
set_option maxRecDepth 20000 in
theorem wsL_law_in0_r14 : GoodIn lw_tbl wsL_law0_r14 := goodIn_p _ [780, 114, 784, 371, 374] (by decide +kernel) (by decide +kernel)
set_option maxRecDepth 20000 in
theorem wsL_law_in0_r15 : GoodIn lw_tbl wsL_law0_r15 := goodIn_p _ [380, 788, 791, 389, 397] (by decide +kernel) (by decide +kernel)
set_option maxRecDepth 20000 in
theorem wsL_law_in0_r16 : GoodIn lw_tbl wsL_law0_r16 := goodIn_p _ [428, 432, 436, 440, 446, 443] (by decide +kernel) (by decide +kernel)
set_option maxRecDepth 20000 in
theorem wsL_law_in0_r17 : GoodIn lw_tbl wsL_law0_r17 := goodIn_p _ [450, 453, 470, 476] (by decide +kernel) (by decide +kernel)
set_option maxRecDepth 20000 in
theorem wsL_law_in0_r18 : GoodIn lw_tbl wsL_law0_r18 := goodIn_p _ [795, 489, 493, 512] (by decide +kernel) (by decide +kernel)
set_option maxRecDepth 20000 in
theorem wsL_law_in0_r19 : GoodIn lw_tbl wsL_law0_r19 := goodIn_p _ [518, 521, 530, 800, 804, 808] (by decide +kernel) (by decide +kernel)
set_option maxRecDepth 20000 in
theorem wsL_law_in0_r20 : GoodIn lw_tbl wsL_law0_r20 := goodIn_p _ [537, 544, 812, 565] (by decide +kernel) (by decide +kernel)
set_option maxRecDepth 20000 in
theorem wsL_law_in0_r21 : GoodIn lw_tbl wsL_law0_r21 := goodIn_p _ [569, 573, 816, 122] (by decide +kernel) (by decide +kernel)
set_option maxRecDepth 20000 in
theorem wsL_law_in0_r22 : GoodIn lw_tbl wsL_law0_r22 := goodIn_p _ [820, 130, 824, 585, 828] (by decide +kernel) (by decide +kernel)
set_option maxRecDepth 20000 in
theorem wsL_law_in0_r23 : GoodIn lw_tbl wsL_law0_r23 := goodIn_p _ [592, 596, 832, 603, 607] (by decide +kernel) (by decide +kernel)
set_option maxRecDepth 20000 in
theorem wsL_law_in0_r24 : GoodIn lw_tbl wsL_law0_r24 := goodIn_p _ [836, 614, 840, 622] (by decide +kernel) (by decide +kernel)
set_option maxRecDepth 20000 in
theorem wsL_law_in0_r25 : GoodIn lw_tbl wsL_law0_r25 := goodIn_p _ [626, 844, 633, 637, 848] (by decide +kernel) (by decide +kernel)
set_option maxRecDepth 20000 in
theorem wsL_law_in0_r26 : GoodIn lw_tbl wsL_law0_r26 := goodIn_p _ [134, 852, 138, 856] (by decide +kernel) (by decide +kernel)
set_option maxRecDepth 20000 in
theorem wsL_law_in0_wsX50 : GoodIn lw_tbl wsX50 := goodIn_of _ (by decide +kernel)
set_option maxRecDepth 20000 in
theorem wsL_law_in0_wsX60 : GoodIn lw_tbl wsX60 := goodIn_of _ (by decide +kernel)
set_option maxRecDepth 20000 in
theorem wsL_law_in0_wsX30 : GoodIn lw_tbl wsX30 := goodIn_of _ (by decide +kernel)
set_option maxRecDepth 20000 in
theorem wsL_law_in0_wsJx4a65c0 : GoodIn lw_tbl wsJx4a65c0 := goodIn_of _ (by decide +kernel)
set_option maxRecDepth 20000 in
theorem wsL_law_in0_wsX20 : GoodIn lw_tbl wsX20 := goodIn_of _ (by decide +kernel)
set_option maxRecDepth 20000 in
theorem wsL_law_in0_wsX00 : GoodIn lw_tbl wsX00 := goodIn_of _ (by decide +kernel)
set_option maxRecDepth 20000 in
theorem wsL_law_in0_wsX40 : GoodIn lw_tbl wsX40 := goodIn_of _ (by decide +kernel)
theorem wsL_law_in0 : ∀ w ∈ wsL_law0, w ∈ lw_tbl := fun w h => (goodIn_app (goodIn_app (goodIn_app (goodIn_app (goodIn_app (goodIn_app (goodIn_app (goodIn_app (goodIn_app wsL_law_in0_r1 (goodIn_app wsL_law_in0_r2 (goodIn_app wsL_law_in0_r3 (goodIn_app wsL_law_in0_r4 (goodIn_app wsL_law_in0_r5 (goodIn_app wsL_law_in0_r6 (goodIn_app wsL_law_in0_r7 (goodIn_app wsL_law_in0_r8 (goodIn_app wsL_law_in0_r9 (goodIn_app wsL_law_in0_r10 (goodIn_app wsL_law_in0_r11 (goodIn_app wsL_law_in0_r12 (goodIn_app wsL_law_in0_r13 (goodIn_app wsL_law_in0_r14 (goodIn_app wsL_law_in0_r15 (goodIn_app wsL_law_in0_r16 (goodIn_app wsL_law_in0_r17 (goodIn_app wsL_law_in0_r18 (goodIn_app wsL_law_in0_r19 (goodIn_app wsL_law_in0_r20 (goodIn_app wsL_law_in0_r21 (goodIn_app wsL_law_in0_r22 (goodIn_app wsL_law_in0_r23 (goodIn_app wsL_law_in0_r24 (goodIn_app wsL_law_in0_r25 (wsL_law_in0_r26)))))))))))))))))))))))))) wsL_law_in0_wsX50) wsL_law_in0_wsX60) wsL_law_in0_wsX30) wsL_law_in0_wsJx4a65c0) wsL_law_in0_wsX20) wsL_law_in0_wsX00) wsL_law_in0_wsX40) (goodIn_of _ (by decide)) w h).1
theorem wsL_law_x0 : ∀ w ∈ (vx_atS RX5 34 "java/lang/IllegalArgumentException" ["java/lang/RuntimeException", "java/lang/Exception"]).filter goodWord, w ∈ lw_tbl := by decide +kernel
theorem wsL_law_x1 : ∀ w ∈ (vx_atS RX5 45 "java/lang/IllegalStateException" ["java/lang/RuntimeException", "java/lang/Exception"]).filter goodWord, w ∈ lw_tbl := by decide +kernel
theorem wsL_law_x2 : ∀ w ∈ (vx_atS RX5 187 "java/lang/IndexOutOfBoundsException" ["java/lang/RuntimeException", "java/lang/Exception"]).filter goodWord, w ∈ lw_tbl := by decide +kernel
theorem wsL_law_in : ∀ w ∈ wsL_law, w ∈ lw_tbl := fun w h => (List.mem_append.mp h).elim (fun h => (List.mem_append.mp h).elim (fun h => (List.mem_append.mp h).elim (fun h => wsL_law_in0 w h) (fun h => wsL_law_x0 w h)) (fun h => wsL_law_x1 w h)) (fun h => wsL_law_x2 w h)