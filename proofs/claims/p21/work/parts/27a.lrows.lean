theorem dL_draw_0 : decode cL_draw 0 = .ok (.iload_n 1, 1) := by decide +kernel
theorem dL_draw_1 : decode cL_draw 1 = .ok (.aload_n 0, 1) := by decide +kernel
theorem dL_draw_2 : decode cL_draw 2 = .ok (.arraylength, 1) := by decide +kernel
theorem dL_draw_3 : decode cL_draw 3 = .ok (.if_icmp .ge 12, 3) := by decide +kernel
theorem dL_draw_6 : decode cL_draw 6 = .ok (.aload_n 0, 1) := by decide +kernel
theorem dL_draw_7 : decode cL_draw 7 = .ok (.iload_n 1, 1) := by decide +kernel
theorem dL_draw_8 : decode cL_draw 8 = .ok (.iaload, 1) := by decide +kernel
theorem dL_draw_9 : decode cL_draw 9 = .ok (.ldc 7, 2) := by decide +kernel
theorem dL_draw_11 : decode cL_draw 11 = .ok (.iand, 1) := by decide +kernel
theorem dL_draw_12 : decode cL_draw 12 = .ok (.goto 12, 3) := by decide +kernel
theorem dL_draw_15 : decode cL_draw 15 = .ok (.ldc 8, 2) := by decide +kernel
theorem dL_draw_17 : decode cL_draw 17 = .ok (.iload_n 1, 1) := by decide +kernel
theorem dL_draw_18 : decode cL_draw 18 = .ok (.iconst 2, 1) := by decide +kernel
theorem dL_draw_19 : decode cL_draw 19 = .ok (.iadd, 1) := by decide +kernel
theorem dL_draw_20 : decode cL_draw 20 = .ok (.imul, 1) := by decide +kernel
theorem dL_draw_21 : decode cL_draw 21 = .ok (.ldc 9, 2) := by decide +kernel
theorem dL_draw_23 : decode cL_draw 23 = .ok (.irem, 1) := by decide +kernel
theorem dL_draw_24 : decode cL_draw 24 = .ok (.ireturn, 1) := by decide +kernel
set_option maxRecDepth 20000 in
theorem ggL_step_X5_contracts : GoodIn wsL_step wsX5_contracts := goodIn_r _ [7, 8, 9, 10, 11, 12, 13, 14, 370, 371, 372, 373, 374, 375, 376, 377] (by decide +kernel) (by decide +kernel)
set_option maxRecDepth 20000 in
theorem gL_step_X5_contracts : GoodIn wsL_step (wsV RL 10 RX5 yX5_contracts wsX5_contracts) := goodIn_app (goodIn_of _ (by decide +kernel)) ggL_step_X5_contracts
set_option maxRecDepth 20000 in
theorem ggL_step_X5_make : GoodIn wsL_step wsX5_make := goodIn_ca (goodIn_ca (goodIn_r _ [18, 19, 20, 21, 22, 23, 24, 8, 25, 26, 27, 28, 29, 6, 30, 31, 32, 33, 9, 10, 11, 12, 13, 14, 34, 35, 36, 37, 38, 39, 40, 41, 42, 43, 44, 45, 46, 47, 48, 49, 50, 51, 52, 53, 54, 55, 56, 57, 58, 59, 60, 61, 62, 63, 64, 65, 66, 67, 68, 69, 70, 71, 72, 73, 74, 75, 76, 77, 78, 79, 80, 81, 82, 83, 84, 85, 86, 87, 88, 89, 90, 91, 92, 93, 94, 95, 96, 97, 98, 99, 100, 370, 371, 372, 373, 374, 378, 379, 380, 381, 382, 383, 384, 385, 375, 376, 377] (by decide +kernel) (by decide +kernel)) (goodIn_sub (fun _ h => List.mem_cons_of_mem _ (List.mem_append_left _ (List.mem_append_left _ (List.mem_append_right _ h)))) (by decide +kernel))) (goodIn_sub (fun _ h => List.mem_cons_of_mem _ (List.mem_append_left _ (List.mem_append_right _ h))) (by decide +kernel))
set_option maxRecDepth 20000 in
theorem gL_step_X5_make : GoodIn wsL_step (wsV RL 18 RX5 yX5_make wsX5_make) := goodIn_app (goodIn_of _ (by decide +kernel)) ggL_step_X5_make
set_option maxRecDepth 20000 in
theorem ggL_step_X5_isInForce : GoodIn wsL_step wsX5_isInForce := goodIn_ca (goodIn_r _ [104, 105, 106, 107, 6, 108, 109, 110, 8, 111, 9, 10, 11, 12, 13, 14, 112, 113, 114, 115, 116, 117, 118, 119, 120, 121, 122, 123, 124, 125, 126, 127, 53, 128, 129, 130, 27, 131, 42, 370, 371, 372, 373, 374, 375, 376, 377, 378, 379, 380, 381, 382, 383, 384, 385] (by decide +kernel) (by decide +kernel)) (goodIn_sub (fun _ h => List.mem_cons_of_mem _ (List.mem_append_right _ h)) (by decide +kernel))
set_option maxRecDepth 20000 in
theorem gL_step_X5_isInForce : GoodIn wsL_step (wsV RL 22 RX5 yX5_isInForce wsX5_isInForce) := goodIn_app (goodIn_of _ (by decide +kernel)) ggL_step_X5_isInForce
set_option maxRecDepth 20000 in
theorem ggL_step_X5_worth : GoodIn wsL_step wsX5_worth := goodIn_ca (goodIn_r _ [135, 136, 105, 106, 107, 6, 108, 109, 110, 8, 111, 9, 10, 11, 12, 13, 14, 112, 113, 114, 115, 116, 117, 118, 119, 120, 121, 122, 123, 124, 125, 126, 127, 53, 137, 138, 139, 27, 140, 141, 46, 41, 142, 143, 144, 145, 146, 147, 148, 149, 150, 151, 152, 32, 33, 153, 154, 155, 370, 371, 372, 373, 374, 375, 376, 377, 378, 379, 380, 381, 382, 383, 384, 385, 386, 387] (by decide +kernel) (by decide +kernel)) (goodIn_sub (fun _ h => List.mem_cons_of_mem _ (List.mem_append_right _ h)) (by decide +kernel))
set_option maxRecDepth 20000 in
theorem gL_step_X5_worth : GoodIn wsL_step (wsV RL 26 RX5 yX5_worth wsX5_worth) := goodIn_app (goodIn_of _ (by decide +kernel)) ggL_step_X5_worth
set_option maxRecDepth 20000 in
theorem ggL_step_X5_pay : GoodIn wsL_step wsX5_pay := goodIn_ca (goodIn_ca (goodIn_r _ [159, 160, 161, 162, 105, 106, 107, 6, 108, 109, 110, 8, 111, 9, 10, 11, 12, 13, 14, 112, 113, 114, 115, 116, 117, 118, 119, 120, 121, 122, 123, 124, 125, 126, 127, 53, 163, 164, 165, 21, 22, 128, 129, 130, 27, 131, 42, 166, 167, 168, 169, 170, 171, 172, 173, 174, 38, 39, 175, 176, 177, 178, 179, 47, 48, 49, 50, 51, 52, 54, 55, 56, 57, 58, 59, 60, 61, 62, 63, 64, 65, 66, 67, 68, 69, 70, 71, 72, 73, 74, 75, 76, 77, 78, 79, 80, 81, 82, 83, 84, 85, 86, 87, 88, 89, 90, 91, 92, 93, 94, 95, 96, 97, 98, 99, 100, 388, 370, 371, 372, 373, 374, 375, 376, 377, 378, 379, 380, 381, 382, 383, 384, 385] (by decide +kernel) (by decide +kernel)) (goodIn_sub (fun _ h => List.mem_cons_of_mem _ (List.mem_append_right _ h)) (by decide +kernel))) (goodIn_sub (fun _ h => List.mem_cons_of_mem _ (List.mem_append_left _ (List.mem_append_right _ h))) (by decide +kernel))
set_option maxRecDepth 20000 in
theorem gL_step_X5_pay : GoodIn wsL_step (wsV RL 30 RX5 yX5_pay wsX5_pay) := goodIn_app (goodIn_of _ (by decide +kernel)) ggL_step_X5_pay
set_option maxRecDepth 20000 in
theorem ggL_step_X5_waiting : GoodIn wsL_step wsX5_waiting := goodIn_r _ [183, 179, 9, 10, 11, 12, 13, 14, 370, 371, 372, 373, 374, 375, 376, 377] (by decide +kernel) (by decide +kernel)
set_option maxRecDepth 20000 in
theorem gL_step_X5_waiting : GoodIn wsL_step (wsV RL 34 RX5 yX5_waiting wsX5_waiting) := goodIn_app (goodIn_of _ (by decide +kernel)) ggL_step_X5_waiting
set_option maxRecDepth 20000 in
theorem ggL_step_X5_paid : GoodIn wsL_step wsX5_paid := goodIn_ca (goodIn_r _ [187, 105, 106, 107, 6, 108, 109, 110, 8, 111, 9, 10, 11, 12, 13, 14, 112, 113, 114, 115, 116, 117, 118, 119, 120, 121, 122, 123, 124, 125, 126, 127, 53, 188, 189, 190, 27, 191, 192, 370, 371, 372, 373, 374, 375, 376, 377, 378, 379, 380, 381, 382, 383, 384, 385] (by decide +kernel) (by decide +kernel)) (goodIn_sub (fun _ h => List.mem_cons_of_mem _ (List.mem_append_right _ h)) (by decide +kernel))
set_option maxRecDepth 20000 in
theorem gL_step_X5_paid : GoodIn wsL_step (wsV RL 37 RX5 yX5_paid wsX5_paid) := goodIn_app (goodIn_of _ (by decide +kernel)) ggL_step_X5_paid
set_option maxRecDepth 20000 in
theorem ggL_step_X5_change : GoodIn wsL_step wsX5_change := goodIn_ca (goodIn_ca (goodIn_ca (goodIn_r _ [196, 19, 20, 197, 198, 199, 105, 106, 107, 6, 108, 109, 110, 8, 111, 9, 10, 11, 12, 13, 14, 112, 113, 114, 115, 116, 117, 118, 119, 120, 121, 122, 123, 124, 125, 126, 127, 53, 28, 29, 30, 31, 32, 33, 163, 164, 165, 21, 22, 128, 129, 130, 27, 131, 42, 200, 201, 202, 203, 204, 205, 206, 207, 171, 172, 173, 174, 38, 39, 175, 176, 177, 178, 179, 47, 48, 49, 50, 51, 52, 54, 55, 56, 57, 58, 59, 60, 61, 62, 63, 64, 65, 66, 67, 68, 69, 70, 71, 72, 73, 74, 75, 76, 77, 78, 79, 80, 81, 82, 83, 84, 85, 86, 87, 88, 89, 90, 91, 92, 93, 94, 95, 96, 97, 98, 99, 100, 389, 390, 391, 392, 370, 371, 372, 373, 374, 375, 376, 377, 378, 379, 380, 381, 382, 383, 384, 385] (by decide +kernel) (by decide +kernel)) (goodIn_sub (fun _ h => List.mem_cons_of_mem _ (List.mem_append_left _ (List.mem_append_left _ (List.mem_append_right _ h)))) (by decide +kernel))) (goodIn_sub (fun _ h => List.mem_cons_of_mem _ (List.mem_append_right _ h)) (by decide +kernel))) (goodIn_sub (fun _ h => List.mem_cons_of_mem _ (List.mem_append_left _ (List.mem_append_right _ h))) (by decide +kernel))
set_option maxRecDepth 20000 in
theorem gL_step_X5_change : GoodIn wsL_step (wsV RL 40 RX5 yX5_change wsX5_change) := goodIn_app (goodIn_of _ (by decide +kernel)) ggL_step_X5_change
set_option maxRecDepth 20000 in
theorem ggL_step_L_backdates : GoodIn wsL_step wsL_backdates := goodIn_ca (goodIn_ca (goodIn_ca (goodIn_r _ [211, 212, 213, 214, 215, 216, 6, 217, 105, 106, 107, 108, 109, 110, 8, 111, 9, 10, 11, 12, 13, 14, 112, 113, 114, 115, 116, 117, 118, 119, 120, 121, 122, 123, 124, 125, 126, 127, 53, 28, 29, 30, 19, 20, 31, 32, 33, 218, 219, 220, 27, 221, 41, 222, 223, 224, 225, 226, 227, 228, 229, 230, 231, 232, 233, 234, 141, 235, 236, 237, 238, 136, 239, 240, 241, 242, 243, 244, 245, 145, 246, 147, 247, 248, 249, 250, 148, 149, 150, 151, 152, 251, 252, 253, 254, 255, 256, 69, 257, 163, 164, 165, 21, 22, 128, 129, 130, 131, 42, 258, 259, 260, 261, 46, 262, 263, 264, 265, 43, 266, 267, 268, 155, 269, 270, 271, 272, 273, 274, 275, 276, 277, 278, 279, 280, 281, 282, 153, 154, 184, 185, 186, 187, 188, 189, 190, 191, 192, 370, 371, 372, 373, 374, 375, 376, 377, 378, 379, 380, 381, 382, 383, 384, 385, 386, 387] (by decide +kernel) (by decide +kernel)) (goodIn_sub (fun _ h => List.mem_cons_of_mem _ (List.mem_append_right _ h)) (by decide +kernel))) (goodIn_sub (fun _ h => List.mem_cons_of_mem _ (List.mem_append_left _ (List.mem_append_left _ (List.mem_append_right _ h)))) (by decide +kernel))) (goodIn_sub (fun _ h => List.mem_cons_of_mem _ (List.mem_append_left _ (List.mem_append_right _ h))) (by decide +kernel))
set_option maxRecDepth 20000 in
theorem gL_step_L_backdates : GoodIn wsL_step (va_wsS RL 43 yL_backdates wsL_backdates) := goodIn_app (goodIn_of _ (by decide +kernel)) ggL_step_L_backdates
set_option maxRecDepth 20000 in
theorem ggL_step_L_tells : GoodIn wsL_step wsL_tells := goodIn_ca (goodIn_ca (goodIn_ca (goodIn_r _ [285, 286, 287, 288, 6, 289, 290, 101, 102, 103, 104, 105, 106, 107, 108, 109, 110, 8, 111, 9, 10, 11, 12, 13, 14, 112, 113, 114, 115, 116, 117, 118, 119, 120, 121, 122, 123, 124, 125, 126, 127, 53, 128, 129, 130, 27, 131, 42, 291, 292, 293, 294, 19, 20, 21, 22, 136, 295, 296, 297, 23, 243, 244, 245, 145, 246, 147, 298, 299, 300, 301, 179, 302, 303, 304, 305, 306, 152, 307, 308, 309, 310, 162, 311, 169, 312, 313, 314, 315, 43, 46, 192, 141, 316, 278, 279, 280, 281, 248, 249, 250, 148, 149, 150, 151, 32, 33, 267, 268, 155, 317, 270, 271, 272, 41, 273, 274, 275, 69, 276, 318, 319, 199, 320, 203, 204, 205, 206, 321, 322, 323, 324, 325, 142, 143, 144, 146, 153, 154, 326, 327, 328, 329, 51, 52, 330, 331, 332, 333, 334, 335, 336, 337, 338, 339, 340, 341, 342, 343, 344, 44, 345, 256, 257, 346, 45, 347, 348, 138, 139, 140, 349, 350, 351, 352, 353, 354, 355, 356, 357, 358, 359, 360, 361, 180, 181, 182, 183, 235, 236, 237, 238, 28, 29, 30, 31, 239, 240, 241, 242, 247, 370, 371, 372, 373, 374, 375, 376, 377, 378, 379, 380, 381, 382, 383, 384, 385, 386, 387, 388, 389, 390, 391, 392] (by decide +kernel) (by decide +kernel)) (goodIn_sub (fun _ h => List.mem_cons_of_mem _ (List.mem_append_right _ h)) (by decide +kernel))) (goodIn_sub (fun _ h => List.mem_cons_of_mem _ (List.mem_append_left _ (List.mem_append_left _ (List.mem_append_right _ h)))) (by decide +kernel))) (goodIn_sub (fun _ h => List.mem_cons_of_mem _ (List.mem_append_left _ (List.mem_append_right _ h))) (by decide +kernel))
set_option maxRecDepth 20000 in
theorem gL_step_L_tells : GoodIn wsL_step (va_wsS RL 49 yL_tells wsL_tells) := goodIn_app (goodIn_of _ (by decide +kernel)) ggL_step_L_tells
set_option maxRecDepth 20000 in
theorem ggL_step_L_passes : GoodIn wsL_step wsL_passes := goodIn_ca (goodIn_ca (goodIn_r _ [364, 286, 287, 288, 6, 289, 290, 222, 223, 224, 225, 226, 365, 366, 367, 368, 19, 20, 21, 22, 136, 243, 244, 245, 145, 246, 147, 369, 143, 144, 146, 148, 149, 150, 151, 152, 32, 33, 298, 299, 300, 301, 179, 302, 303, 304, 305, 306, 9, 10, 11, 12, 13, 14, 112, 113, 114, 115, 116, 117, 118, 119, 120, 121, 122, 123, 124, 125, 126, 127, 53, 307, 308, 309, 310, 162, 311, 169, 312, 313, 314, 27, 315, 43, 46, 192, 141, 316, 278, 279, 280, 281, 248, 249, 250, 267, 268, 155, 317, 270, 271, 272, 41, 273, 274, 275, 69, 276, 318, 319, 199, 320, 203, 204, 205, 206, 321, 322, 323, 324, 325, 142, 153, 154, 326, 327, 328, 329, 51, 52, 330, 331, 332, 333, 8, 111, 128, 129, 130, 131, 42, 334, 335, 336, 337, 338, 339, 340, 341, 342, 343, 344, 44, 345, 256, 257, 346, 45, 347, 348, 138, 139, 140, 349, 350, 351, 352, 353, 354, 355, 356, 357, 358, 359, 360, 361, 180, 181, 182, 183, 235, 236, 237, 238, 28, 29, 30, 31, 239, 240, 241, 242, 247, 370, 371, 372, 373, 374, 386, 387, 375, 376, 377, 388, 378, 379, 380, 381, 382, 383, 384, 385, 389, 390, 391, 392] (by decide +kernel) (by decide +kernel)) (goodIn_sub (fun _ h => List.mem_cons_of_mem _ (List.mem_append_left _ (List.mem_append_left _ (List.mem_append_right _ h)))) (by decide +kernel))) (goodIn_sub (fun _ h => List.mem_cons_of_mem _ (List.mem_append_left _ (List.mem_append_right _ h))) (by decide +kernel))
set_option maxRecDepth 20000 in
theorem gL_step_L_passes : GoodIn wsL_step (va_wsS RL 53 yL_passes wsL_passes) := goodIn_app (goodIn_of _ (by decide +kernel)) ggL_step_L_passes
theorem dL_step_0 : decode cL_step 0 = .ok (.aload_n 1, 1) := by decide +kernel
theorem dL_step_1 : decode cL_step 1 = .ok (.iconst 1, 1) := by decide +kernel
theorem dL_step_2 : decode cL_step 2 = .ok (.iaload, 1) := by decide +kernel
theorem dL_step_3 : decode cL_step 3 = .ok (.ifCond .ne 7, 3) := by decide +kernel
theorem dL_step_6 : decode cL_step 6 = .ok (.iconst 0, 1) := by decide +kernel
theorem dL_step_7 : decode cL_step 7 = .ok (.goto 8, 3) := by decide +kernel
theorem dL_step_10 : decode cL_step 10 = .ok (.iload_n 3, 1) := by decide +kernel
theorem dL_step_11 : decode cL_step 11 = .ok (.aload_n 1, 1) := by decide +kernel
theorem dL_step_12 : decode cL_step 12 = .ok (.iconst 1, 1) := by decide +kernel
theorem dL_step_13 : decode cL_step 13 = .ok (.iaload, 1) := by decide +kernel
theorem dL_step_14 : decode cL_step 14 = .ok (.irem, 1) := by decide +kernel
theorem dL_step_15 : decode cL_step 15 = .ok (.istore 5, 2) := by decide +kernel
theorem dL_step_17 : decode cL_step 17 = .ok (.iload_n 2, 1) := by decide +kernel
theorem dL_step_18 : decode cL_step 18 = .ok (.bipush 13, 2) := by decide +kernel
theorem dL_step_20 : decode cL_step 20 = .ok (.irem, 1) := by decide +kernel
theorem dL_step_21 : decode cL_step 21 = .ok (.tableswitch 482 0 9 #[55, 195, 195, 195, 295, 379, 379, 418, 418, 418], 55) := by decide +kernel
theorem dL_step_76 : decode cL_step 76 = .ok (.aload_n 1, 1) := by decide +kernel
theorem dL_step_77 : decode cL_step 77 = .ok (.iconst 1, 1) := by decide +kernel
theorem dL_step_78 : decode cL_step 78 = .ok (.iaload, 1) := by decide +kernel
theorem dL_step_79 : decode cL_step 79 = .ok (.bipush 6, 2) := by decide +kernel
theorem dL_step_81 : decode cL_step 81 = .ok (.if_icmp .ne 18, 3) := by decide +kernel
theorem dL_step_84 : decode cL_step 84 = .ok (.aload_n 0, 1) := by decide +kernel
theorem dL_step_85 : decode cL_step 85 = .ok (.invokevirtual 10, 3) := by decide +kernel
theorem dL_step_88 : decode cL_step 88 = .ok (.bipush 6, 2) := by decide +kernel
theorem dL_step_90 : decode cL_step 90 = .ok (.if_icmp .ne 7, 3) := by decide +kernel
theorem dL_step_93 : decode cL_step 93 = .ok (.iconst 1, 1) := by decide +kernel
theorem dL_step_94 : decode cL_step 94 = .ok (.goto 4, 3) := by decide +kernel
theorem dL_step_97 : decode cL_step 97 = .ok (.iconst 0, 1) := by decide +kernel
theorem dL_step_98 : decode cL_step 98 = .ok (.ireturn, 1) := by decide +kernel
theorem dL_step_99 : decode cL_step 99 = .ok (.aload_n 1, 1) := by decide +kernel
theorem dL_step_100 : decode cL_step 100 = .ok (.bipush 6, 2) := by decide +kernel
theorem dL_step_102 : decode cL_step 102 = .ok (.aload_n 1, 1) := by decide +kernel
theorem dL_step_103 : decode cL_step 103 = .ok (.iconst 1, 1) := by decide +kernel
theorem dL_step_104 : decode cL_step 104 = .ok (.iaload, 1) := by decide +kernel
theorem dL_step_105 : decode cL_step 105 = .ok (.iadd, 1) := by decide +kernel
theorem dL_step_106 : decode cL_step 106 = .ok (.bipush 100, 2) := by decide +kernel
theorem dL_step_108 : decode cL_step 108 = .ok (.iload_n 3, 1) := by decide +kernel
theorem dL_step_109 : decode cL_step 109 = .ok (.iload 4, 2) := by decide +kernel
theorem dL_step_111 : decode cL_step 111 = .ok (.iconst 3, 1) := by decide +kernel
theorem dL_step_112 : decode cL_step 112 = .ok (.irem, 1) := by decide +kernel
theorem dL_step_113 : decode cL_step 113 = .ok (.ifCond .ne 8, 3) := by decide +kernel
theorem dL_step_116 : decode cL_step 116 = .ok (.ldc 16, 2) := by decide +kernel
theorem dL_step_118 : decode cL_step 118 = .ok (.goto 6, 3) := by decide +kernel
theorem dL_step_121 : decode cL_step 121 = .ok (.sipush 5000, 3) := by decide +kernel
theorem dL_step_124 : decode cL_step 124 = .ok (.irem, 1) := by decide +kernel
theorem dL_step_125 : decode cL_step 125 = .ok (.iadd, 1) := by decide +kernel
theorem dL_step_126 : decode cL_step 126 = .ok (.iastore, 1) := by decide +kernel
theorem dL_step_127 : decode cL_step 127 = .ok (.aload_n 1, 1) := by decide +kernel
theorem dL_step_128 : decode cL_step 128 = .ok (.bipush 12, 2) := by decide +kernel
theorem dL_step_130 : decode cL_step 130 = .ok (.aload_n 1, 1) := by decide +kernel
theorem dL_step_131 : decode cL_step 131 = .ok (.iconst 1, 1) := by decide +kernel
theorem dL_step_132 : decode cL_step 132 = .ok (.iaload, 1) := by decide +kernel
theorem dL_step_133 : decode cL_step 133 = .ok (.iadd, 1) := by decide +kernel
theorem dL_step_134 : decode cL_step 134 = .ok (.iload 4, 2) := by decide +kernel
theorem dL_step_136 : decode cL_step 136 = .ok (.iconst 3, 1) := by decide +kernel
theorem dL_step_137 : decode cL_step 137 = .ok (.irem, 1) := by decide +kernel
theorem dL_step_138 : decode cL_step 138 = .ok (.iastore, 1) := by decide +kernel
theorem dL_step_139 : decode cL_step 139 = .ok (.aload_n 1, 1) := by decide +kernel
theorem dL_step_140 : decode cL_step 140 = .ok (.iconst 1, 1) := by decide +kernel
theorem dL_step_141 : decode cL_step 141 = .ok (.dup2, 1) := by decide +kernel
theorem dL_step_142 : decode cL_step 142 = .ok (.iaload, 1) := by decide +kernel
theorem dL_step_143 : decode cL_step 143 = .ok (.iconst 1, 1) := by decide +kernel
theorem dL_step_144 : decode cL_step 144 = .ok (.iadd, 1) := by decide +kernel
theorem dL_step_145 : decode cL_step 145 = .ok (.iastore, 1) := by decide +kernel
theorem dL_step_146 : decode cL_step 146 = .ok (.aload_n 0, 1) := by decide +kernel
theorem dL_step_147 : decode cL_step 147 = .ok (.aload_n 1, 1) := by decide +kernel
theorem dL_step_148 : decode cL_step 148 = .ok (.iconst 5, 1) := by decide +kernel
theorem dL_step_149 : decode cL_step 149 = .ok (.aload_n 1, 1) := by decide +kernel
theorem dL_step_150 : decode cL_step 150 = .ok (.iconst 1, 1) := by decide +kernel
theorem dL_step_151 : decode cL_step 151 = .ok (.iaload, 1) := by decide +kernel
theorem dL_step_152 : decode cL_step 152 = .ok (.iadd, 1) := by decide +kernel
theorem dL_step_153 : decode cL_step 153 = .ok (.iaload, 1) := by decide +kernel
theorem dL_step_154 : decode cL_step 154 = .ok (.iload_n 3, 1) := by decide +kernel
theorem dL_step_155 : decode cL_step 155 = .ok (.bipush 7, 2) := by decide +kernel
theorem dL_step_157 : decode cL_step 157 = .ok (.idiv, 1) := by decide +kernel
theorem dL_step_158 : decode cL_step 158 = .ok (.ldc 17, 2) := by decide +kernel
theorem dL_step_160 : decode cL_step 160 = .ok (.irem, 1) := by decide +kernel
theorem dL_step_161 : decode cL_step 161 = .ok (.iload 4, 2) := by decide +kernel
theorem dL_step_163 : decode cL_step 163 = .ok (.iconst 3, 1) := by decide +kernel
theorem dL_step_164 : decode cL_step 164 = .ok (.idiv, 1) := by decide +kernel
theorem dL_step_165 : decode cL_step 165 = .ok (.sipush 200, 3) := by decide +kernel
theorem dL_step_168 : decode cL_step 168 = .ok (.irem, 1) := by decide +kernel
theorem dL_step_169 : decode cL_step 169 = .ok (.iload 4, 2) := by decide +kernel
theorem dL_step_171 : decode cL_step 171 = .ok (.iconst 3, 1) := by decide +kernel
theorem dL_step_172 : decode cL_step 172 = .ok (.irem, 1) := by decide +kernel
theorem dL_step_173 : decode cL_step 173 = .ok (.invokevirtual 18, 3) := by decide +kernel
theorem dL_step_176 : decode cL_step 176 = .ok (.aload_n 1, 1) := by decide +kernel
theorem dL_step_177 : decode cL_step 177 = .ok (.iconst 1, 1) := by decide +kernel
theorem dL_step_178 : decode cL_step 178 = .ok (.iaload, 1) := by decide +kernel
theorem dL_step_179 : decode cL_step 179 = .ok (.iconst 1, 1) := by decide +kernel
theorem dL_step_180 : decode cL_step 180 = .ok (.isub, 1) := by decide +kernel
theorem dL_step_181 : decode cL_step 181 = .ok (.if_icmp .ne 33, 3) := by decide +kernel
theorem dL_step_184 : decode cL_step 184 = .ok (.aload_n 0, 1) := by decide +kernel
theorem dL_step_185 : decode cL_step 185 = .ok (.aload_n 1, 1) := by decide +kernel
theorem dL_step_186 : decode cL_step 186 = .ok (.iconst 1, 1) := by decide +kernel
theorem dL_step_187 : decode cL_step 187 = .ok (.iaload, 1) := by decide +kernel
theorem dL_step_188 : decode cL_step 188 = .ok (.iconst 1, 1) := by decide +kernel
theorem dL_step_189 : decode cL_step 189 = .ok (.isub, 1) := by decide +kernel
theorem dL_step_190 : decode cL_step 190 = .ok (.invokevirtual 22, 3) := by decide +kernel
theorem dL_step_193 : decode cL_step 193 = .ok (.ifCond .eq 21, 3) := by decide +kernel
theorem dL_step_196 : decode cL_step 196 = .ok (.aload_n 0, 1) := by decide +kernel
theorem dL_step_197 : decode cL_step 197 = .ok (.aload_n 1, 1) := by decide +kernel
theorem dL_step_198 : decode cL_step 198 = .ok (.iconst 1, 1) := by decide +kernel
theorem dL_step_199 : decode cL_step 199 = .ok (.iaload, 1) := by decide +kernel
theorem dL_step_200 : decode cL_step 200 = .ok (.iconst 1, 1) := by decide +kernel
theorem dL_step_201 : decode cL_step 201 = .ok (.isub, 1) := by decide +kernel
theorem dL_step_202 : decode cL_step 202 = .ok (.invokevirtual 26, 3) := by decide +kernel
theorem dL_step_205 : decode cL_step 205 = .ok (.lconst 0, 1) := by decide +kernel
theorem dL_step_206 : decode cL_step 206 = .ok (.lcmp, 1) := by decide +kernel
theorem dL_step_207 : decode cL_step 207 = .ok (.ifCond .ne 7, 3) := by decide +kernel
theorem dL_step_210 : decode cL_step 210 = .ok (.iconst 1, 1) := by decide +kernel
theorem dL_step_211 : decode cL_step 211 = .ok (.goto 4, 3) := by decide +kernel
theorem dL_step_214 : decode cL_step 214 = .ok (.iconst 0, 1) := by decide +kernel
theorem dL_step_215 : decode cL_step 215 = .ok (.ireturn, 1) := by decide +kernel
theorem dL_step_216 : decode cL_step 216 = .ok (.aload_n 1, 1) := by decide +kernel
theorem dL_step_217 : decode cL_step 217 = .ok (.iconst 1, 1) := by decide +kernel
theorem dL_step_218 : decode cL_step 218 = .ok (.iaload, 1) := by decide +kernel
theorem dL_step_219 : decode cL_step 219 = .ok (.ifCond .eq 12, 3) := by decide +kernel
theorem dL_step_222 : decode cL_step 222 = .ok (.aload_n 0, 1) := by decide +kernel
theorem dL_step_223 : decode cL_step 223 = .ok (.iload 5, 2) := by decide +kernel
theorem dL_step_225 : decode cL_step 225 = .ok (.invokevirtual 22, 3) := by decide +kernel
theorem dL_step_228 : decode cL_step 228 = .ok (.ifCond .ne 26, 3) := by decide +kernel
theorem dL_step_231 : decode cL_step 231 = .ok (.aload_n 1, 1) := by decide +kernel
theorem dL_step_232 : decode cL_step 232 = .ok (.iconst 1, 1) := by decide +kernel
theorem dL_step_233 : decode cL_step 233 = .ok (.iaload, 1) := by decide +kernel
theorem dL_step_234 : decode cL_step 234 = .ok (.ifCond .eq 14, 3) := by decide +kernel
theorem dL_step_237 : decode cL_step 237 = .ok (.aload_n 0, 1) := by decide +kernel
theorem dL_step_238 : decode cL_step 238 = .ok (.iload 5, 2) := by decide +kernel
theorem dL_step_240 : decode cL_step 240 = .ok (.invokevirtual 26, 3) := by decide +kernel
theorem dL_step_243 : decode cL_step 243 = .ok (.lconst 0, 1) := by decide +kernel
theorem dL_step_244 : decode cL_step 244 = .ok (.lcmp, 1) := by decide +kernel
theorem dL_step_245 : decode cL_step 245 = .ok (.ifCond .ne 7, 3) := by decide +kernel
theorem dL_step_248 : decode cL_step 248 = .ok (.iconst 1, 1) := by decide +kernel
theorem dL_step_249 : decode cL_step 249 = .ok (.goto 4, 3) := by decide +kernel
theorem dL_step_252 : decode cL_step 252 = .ok (.iconst 0, 1) := by decide +kernel
theorem dL_step_253 : decode cL_step 253 = .ok (.ireturn, 1) := by decide +kernel
theorem dL_step_254 : decode cL_step 254 = .ok (.aload_n 1, 1) := by decide +kernel
theorem dL_step_255 : decode cL_step 255 = .ok (.iconst 2, 1) := by decide +kernel
theorem dL_step_256 : decode cL_step 256 = .ok (.dup2, 1) := by decide +kernel
theorem dL_step_257 : decode cL_step 257 = .ok (.iaload, 1) := by decide +kernel
theorem dL_step_258 : decode cL_step 258 = .ok (.iconst 1, 1) := by decide +kernel
theorem dL_step_259 : decode cL_step 259 = .ok (.iadd, 1) := by decide +kernel
theorem dL_step_260 : decode cL_step 260 = .ok (.iastore, 1) := by decide +kernel
theorem dL_step_261 : decode cL_step 261 = .ok (.aload_n 1, 1) := by decide +kernel
theorem dL_step_262 : decode cL_step 262 = .ok (.bipush 24, 2) := by decide +kernel
theorem dL_step_264 : decode cL_step 264 = .ok (.iload 5, 2) := by decide +kernel
theorem dL_step_266 : decode cL_step 266 = .ok (.iadd, 1) := by decide +kernel
theorem dL_step_267 : decode cL_step 267 = .ok (.dup2, 1) := by decide +kernel
theorem dL_step_268 : decode cL_step 268 = .ok (.iaload, 1) := by decide +kernel
theorem dL_step_269 : decode cL_step 269 = .ok (.iconst 1, 1) := by decide +kernel
theorem dL_step_270 : decode cL_step 270 = .ok (.iadd, 1) := by decide +kernel
theorem dL_step_271 : decode cL_step 271 = .ok (.iastore, 1) := by decide +kernel
theorem dL_step_272 : decode cL_step 272 = .ok (.aload_n 0, 1) := by decide +kernel
theorem dL_step_273 : decode cL_step 273 = .ok (.iload 5, 2) := by decide +kernel
theorem dL_step_275 : decode cL_step 275 = .ok (.invokevirtual 30, 3) := by decide +kernel
theorem dL_step_278 : decode cL_step 278 = .ok (.aload_n 1, 1) := by decide +kernel
theorem dL_step_279 : decode cL_step 279 = .ok (.iconst 2, 1) := by decide +kernel
theorem dL_step_280 : decode cL_step 280 = .ok (.iaload, 1) := by decide +kernel
theorem dL_step_281 : decode cL_step 281 = .ok (.if_icmp .ne 33, 3) := by decide +kernel
theorem dL_step_284 : decode cL_step 284 = .ok (.aload_n 0, 1) := by decide +kernel
theorem dL_step_285 : decode cL_step 285 = .ok (.invokevirtual 34, 3) := by decide +kernel
theorem dL_step_288 : decode cL_step 288 = .ok (.aload_n 1, 1) := by decide +kernel
theorem dL_step_289 : decode cL_step 289 = .ok (.iconst 2, 1) := by decide +kernel
theorem dL_step_290 : decode cL_step 290 = .ok (.iaload, 1) := by decide +kernel
theorem dL_step_291 : decode cL_step 291 = .ok (.if_icmp .ne 23, 3) := by decide +kernel
theorem dL_step_294 : decode cL_step 294 = .ok (.aload_n 0, 1) := by decide +kernel
theorem dL_step_295 : decode cL_step 295 = .ok (.iload 5, 2) := by decide +kernel
theorem dL_step_297 : decode cL_step 297 = .ok (.invokevirtual 37, 3) := by decide +kernel
theorem dL_step_300 : decode cL_step 300 = .ok (.aload_n 1, 1) := by decide +kernel
theorem dL_step_301 : decode cL_step 301 = .ok (.bipush 18, 2) := by decide +kernel
theorem dL_step_303 : decode cL_step 303 = .ok (.iload 5, 2) := by decide +kernel
theorem dL_step_305 : decode cL_step 305 = .ok (.iadd, 1) := by decide +kernel
theorem dL_step_306 : decode cL_step 306 = .ok (.iaload, 1) := by decide +kernel
theorem dL_step_307 : decode cL_step 307 = .ok (.if_icmp .ne 7, 3) := by decide +kernel
theorem dL_step_310 : decode cL_step 310 = .ok (.iconst 1, 1) := by decide +kernel
theorem dL_step_311 : decode cL_step 311 = .ok (.goto 4, 3) := by decide +kernel
theorem dL_step_314 : decode cL_step 314 = .ok (.iconst 0, 1) := by decide +kernel
theorem dL_step_315 : decode cL_step 315 = .ok (.ireturn, 1) := by decide +kernel
theorem dL_step_316 : decode cL_step 316 = .ok (.aload_n 1, 1) := by decide +kernel
theorem dL_step_317 : decode cL_step 317 = .ok (.iconst 1, 1) := by decide +kernel
theorem dL_step_318 : decode cL_step 318 = .ok (.iaload, 1) := by decide +kernel
theorem dL_step_319 : decode cL_step 319 = .ok (.ifCond .eq 12, 3) := by decide +kernel
theorem dL_step_322 : decode cL_step 322 = .ok (.aload_n 0, 1) := by decide +kernel
theorem dL_step_323 : decode cL_step 323 = .ok (.iload 5, 2) := by decide +kernel
theorem dL_step_325 : decode cL_step 325 = .ok (.invokevirtual 22, 3) := by decide +kernel
theorem dL_step_328 : decode cL_step 328 = .ok (.ifCond .ne 19, 3) := by decide +kernel
theorem dL_step_331 : decode cL_step 331 = .ok (.aload_n 0, 1) := by decide +kernel
theorem dL_step_332 : decode cL_step 332 = .ok (.invokevirtual 34, 3) := by decide +kernel
theorem dL_step_335 : decode cL_step 335 = .ok (.aload_n 1, 1) := by decide +kernel
theorem dL_step_336 : decode cL_step 336 = .ok (.iconst 2, 1) := by decide +kernel
theorem dL_step_337 : decode cL_step 337 = .ok (.iaload, 1) := by decide +kernel
theorem dL_step_338 : decode cL_step 338 = .ok (.if_icmp .ne 7, 3) := by decide +kernel
theorem dL_step_341 : decode cL_step 341 = .ok (.iconst 1, 1) := by decide +kernel
theorem dL_step_342 : decode cL_step 342 = .ok (.goto 4, 3) := by decide +kernel
theorem dL_step_345 : decode cL_step 345 = .ok (.iconst 0, 1) := by decide +kernel
theorem dL_step_346 : decode cL_step 346 = .ok (.ireturn, 1) := by decide +kernel
theorem dL_step_347 : decode cL_step 347 = .ok (.aload_n 1, 1) := by decide +kernel
theorem dL_step_348 : decode cL_step 348 = .ok (.iconst 2, 1) := by decide +kernel
theorem dL_step_349 : decode cL_step 349 = .ok (.dup2, 1) := by decide +kernel
theorem dL_step_350 : decode cL_step 350 = .ok (.iaload, 1) := by decide +kernel
theorem dL_step_351 : decode cL_step 351 = .ok (.iconst 1, 1) := by decide +kernel
theorem dL_step_352 : decode cL_step 352 = .ok (.iadd, 1) := by decide +kernel
theorem dL_step_353 : decode cL_step 353 = .ok (.iastore, 1) := by decide +kernel
theorem dL_step_354 : decode cL_step 354 = .ok (.aload_n 0, 1) := by decide +kernel
theorem dL_step_355 : decode cL_step 355 = .ok (.iload 5, 2) := by decide +kernel
theorem dL_step_357 : decode cL_step 357 = .ok (.iload 4, 2) := by decide +kernel
theorem dL_step_359 : decode cL_step 359 = .ok (.iconst 3, 1) := by decide +kernel
theorem dL_step_360 : decode cL_step 360 = .ok (.irem, 1) := by decide +kernel
theorem dL_step_361 : decode cL_step 361 = .ok (.iload 4, 2) := by decide +kernel
theorem dL_step_363 : decode cL_step 363 = .ok (.iconst 3, 1) := by decide +kernel
theorem dL_step_364 : decode cL_step 364 = .ok (.irem, 1) := by decide +kernel
theorem dL_step_365 : decode cL_step 365 = .ok (.iconst 1, 1) := by decide +kernel
theorem dL_step_366 : decode cL_step 366 = .ok (.iadd, 1) := by decide +kernel
theorem dL_step_367 : decode cL_step 367 = .ok (.iload_n 3, 1) := by decide +kernel
theorem dL_step_368 : decode cL_step 368 = .ok (.bipush 9, 2) := by decide +kernel
theorem dL_step_370 : decode cL_step 370 = .ok (.idiv, 1) := by decide +kernel
theorem dL_step_371 : decode cL_step 371 = .ok (.iconst 2, 1) := by decide +kernel
theorem dL_step_372 : decode cL_step 372 = .ok (.irem, 1) := by decide +kernel
theorem dL_step_373 : decode cL_step 373 = .ok (.iadd, 1) := by decide +kernel
theorem dL_step_374 : decode cL_step 374 = .ok (.iconst 3, 1) := by decide +kernel
theorem dL_step_375 : decode cL_step 375 = .ok (.irem, 1) := by decide +kernel
theorem dL_step_376 : decode cL_step 376 = .ok (.iconst 1, 1) := by decide +kernel
theorem dL_step_377 : decode cL_step 377 = .ok (.iload 4, 2) := by decide +kernel
theorem dL_step_379 : decode cL_step 379 = .ok (.iconst 3, 1) := by decide +kernel
theorem dL_step_380 : decode cL_step 380 = .ok (.idiv, 1) := by decide +kernel
theorem dL_step_381 : decode cL_step 381 = .ok (.bipush 100, 2) := by decide +kernel
theorem dL_step_383 : decode cL_step 383 = .ok (.irem, 1) := by decide +kernel
theorem dL_step_384 : decode cL_step 384 = .ok (.iadd, 1) := by decide +kernel
theorem dL_step_385 : decode cL_step 385 = .ok (.invokevirtual 40, 3) := by decide +kernel
theorem dL_step_388 : decode cL_step 388 = .ok (.aload_n 1, 1) := by decide +kernel
theorem dL_step_389 : decode cL_step 389 = .ok (.iconst 2, 1) := by decide +kernel
theorem dL_step_390 : decode cL_step 390 = .ok (.iaload, 1) := by decide +kernel
theorem dL_step_391 : decode cL_step 391 = .ok (.if_icmp .ne 7, 3) := by decide +kernel
theorem dL_step_394 : decode cL_step 394 = .ok (.iconst 1, 1) := by decide +kernel
theorem dL_step_395 : decode cL_step 395 = .ok (.goto 4, 3) := by decide +kernel
theorem dL_step_398 : decode cL_step 398 = .ok (.iconst 0, 1) := by decide +kernel
theorem dL_step_399 : decode cL_step 399 = .ok (.ireturn, 1) := by decide +kernel
theorem dL_step_400 : decode cL_step 400 = .ok (.aload_n 1, 1) := by decide +kernel
theorem dL_step_401 : decode cL_step 401 = .ok (.iconst 1, 1) := by decide +kernel
theorem dL_step_402 : decode cL_step 402 = .ok (.iaload, 1) := by decide +kernel
theorem dL_step_403 : decode cL_step 403 = .ok (.ifCond .eq 30, 3) := by decide +kernel
theorem dL_step_406 : decode cL_step 406 = .ok (.aload_n 0, 1) := by decide +kernel
theorem dL_step_407 : decode cL_step 407 = .ok (.iload 5, 2) := by decide +kernel
theorem dL_step_409 : decode cL_step 409 = .ok (.invokevirtual 22, 3) := by decide +kernel
theorem dL_step_412 : decode cL_step 412 = .ok (.ifCond .eq 21, 3) := by decide +kernel
theorem dL_step_415 : decode cL_step 415 = .ok (.aload_n 0, 1) := by decide +kernel
theorem dL_step_416 : decode cL_step 416 = .ok (.aload_n 1, 1) := by decide +kernel
theorem dL_step_417 : decode cL_step 417 = .ok (.iload 5, 2) := by decide +kernel
theorem dL_step_419 : decode cL_step 419 = .ok (.iload 4, 2) := by decide +kernel
theorem dL_step_421 : decode cL_step 421 = .ok (.aload_n 1, 1) := by decide +kernel
theorem dL_step_422 : decode cL_step 422 = .ok (.iconst 0, 1) := by decide +kernel
theorem dL_step_423 : decode cL_step 423 = .ok (.iaload, 1) := by decide +kernel
theorem dL_step_424 : decode cL_step 424 = .ok (.iconst 1, 1) := by decide +kernel
theorem dL_step_425 : decode cL_step 425 = .ok (.iadd, 1) := by decide +kernel
theorem dL_step_426 : decode cL_step 426 = .ok (.irem, 1) := by decide +kernel
theorem dL_step_427 : decode cL_step 427 = .ok (.invokestatic 43, 3) := by decide +kernel
theorem dL_step_430 : decode cL_step 430 = .ok (.ifCond .eq 7, 3) := by decide +kernel
theorem dL_step_433 : decode cL_step 433 = .ok (.iconst 1, 1) := by decide +kernel
theorem dL_step_434 : decode cL_step 434 = .ok (.goto 4, 3) := by decide +kernel
theorem dL_step_437 : decode cL_step 437 = .ok (.iconst 0, 1) := by decide +kernel
theorem dL_step_438 : decode cL_step 438 = .ok (.ireturn, 1) := by decide +kernel
theorem dL_step_439 : decode cL_step 439 = .ok (.aload_n 1, 1) := by decide +kernel
theorem dL_step_440 : decode cL_step 440 = .ok (.iconst 0, 1) := by decide +kernel
theorem dL_step_441 : decode cL_step 441 = .ok (.iaload, 1) := by decide +kernel
theorem dL_step_442 : decode cL_step 442 = .ok (.sipush 2000, 3) := by decide +kernel
theorem dL_step_445 : decode cL_step 445 = .ok (.if_icmp .eq 52, 3) := by decide +kernel
theorem dL_step_448 : decode cL_step 448 = .ok (.aload_n 0, 1) := by decide +kernel
theorem dL_step_449 : decode cL_step 449 = .ok (.aload_n 1, 1) := by decide +kernel
theorem dL_step_450 : decode cL_step 450 = .ok (.iconst 1, 1) := by decide +kernel
theorem dL_step_451 : decode cL_step 451 = .ok (.iload_n 3, 1) := by decide +kernel
theorem dL_step_452 : decode cL_step 452 = .ok (.iload 4, 2) := by decide +kernel
theorem dL_step_454 : decode cL_step 454 = .ok (.iconst 4, 1) := by decide +kernel
theorem dL_step_455 : decode cL_step 455 = .ok (.irem, 1) := by decide +kernel
theorem dL_step_456 : decode cL_step 456 = .ok (.ifCond .ne 8, 3) := by decide +kernel
theorem dL_step_459 : decode cL_step 459 = .ok (.ldc 17, 2) := by decide +kernel
theorem dL_step_461 : decode cL_step 461 = .ok (.goto 6, 3) := by decide +kernel
theorem dL_step_464 : decode cL_step 464 = .ok (.sipush 3000, 3) := by decide +kernel
theorem dL_step_467 : decode cL_step 467 = .ok (.irem, 1) := by decide +kernel
theorem dL_step_468 : decode cL_step 468 = .ok (.iadd, 1) := by decide +kernel
theorem dL_step_469 : decode cL_step 469 = .ok (.iconst 1, 1) := by decide +kernel
theorem dL_step_470 : decode cL_step 470 = .ok (.iload 4, 2) := by decide +kernel
theorem dL_step_472 : decode cL_step 472 = .ok (.sipush 3000, 3) := by decide +kernel
theorem dL_step_475 : decode cL_step 475 = .ok (.irem, 1) := by decide +kernel
theorem dL_step_476 : decode cL_step 476 = .ok (.iadd, 1) := by decide +kernel
theorem dL_step_477 : decode cL_step 477 = .ok (.iconst 1, 1) := by decide +kernel
theorem dL_step_478 : decode cL_step 478 = .ok (.iload_n 3, 1) := by decide +kernel
theorem dL_step_479 : decode cL_step 479 = .ok (.iconst 2, 1) := by decide +kernel
theorem dL_step_480 : decode cL_step 480 = .ok (.idiv, 1) := by decide +kernel
theorem dL_step_481 : decode cL_step 481 = .ok (.iload 4, 2) := by decide +kernel
theorem dL_step_483 : decode cL_step 483 = .ok (.iconst 4, 1) := by decide +kernel
theorem dL_step_484 : decode cL_step 484 = .ok (.idiv, 1) := by decide +kernel
theorem dL_step_485 : decode cL_step 485 = .ok (.iadd, 1) := by decide +kernel
theorem dL_step_486 : decode cL_step 486 = .ok (.sipush 2000, 3) := by decide +kernel
theorem dL_step_489 : decode cL_step 489 = .ok (.irem, 1) := by decide +kernel
theorem dL_step_490 : decode cL_step 490 = .ok (.iadd, 1) := by decide +kernel
theorem dL_step_491 : decode cL_step 491 = .ok (.invokestatic 49, 3) := by decide +kernel
theorem dL_step_494 : decode cL_step 494 = .ok (.ifCond .eq 7, 3) := by decide +kernel
theorem dL_step_497 : decode cL_step 497 = .ok (.iconst 1, 1) := by decide +kernel
theorem dL_step_498 : decode cL_step 498 = .ok (.goto 4, 3) := by decide +kernel
theorem dL_step_501 : decode cL_step 501 = .ok (.iconst 0, 1) := by decide +kernel
theorem dL_step_502 : decode cL_step 502 = .ok (.ireturn, 1) := by decide +kernel
theorem dL_step_503 : decode cL_step 503 = .ok (.iconst 1, 1) := by decide +kernel
theorem dL_step_504 : decode cL_step 504 = .ok (.iload 4, 2) := by decide +kernel
theorem dL_step_506 : decode cL_step 506 = .ok (.iload_n 3, 1) := by decide +kernel
theorem dL_step_507 : decode cL_step 507 = .ok (.iconst 3, 1) := by decide +kernel
theorem dL_step_508 : decode cL_step 508 = .ok (.irem, 1) := by decide +kernel
theorem dL_step_509 : decode cL_step 509 = .ok (.ifCond .ne 8, 3) := by decide +kernel
theorem dL_step_512 : decode cL_step 512 = .ok (.bipush 60, 2) := by decide +kernel
theorem dL_step_514 : decode cL_step 514 = .ok (.goto 5, 3) := by decide +kernel
theorem dL_step_517 : decode cL_step 517 = .ok (.bipush 10, 2) := by decide +kernel
theorem dL_step_519 : decode cL_step 519 = .ok (.irem, 1) := by decide +kernel
theorem dL_step_520 : decode cL_step 520 = .ok (.iadd, 1) := by decide +kernel
theorem dL_step_521 : decode cL_step 521 = .ok (.istore 6, 2) := by decide +kernel
theorem dL_step_523 : decode cL_step 523 = .ok (.aload_n 1, 1) := by decide +kernel
theorem dL_step_524 : decode cL_step 524 = .ok (.iconst 0, 1) := by decide +kernel
theorem dL_step_525 : decode cL_step 525 = .ok (.iaload, 1) := by decide +kernel
theorem dL_step_526 : decode cL_step 526 = .ok (.iload 6, 2) := by decide +kernel
theorem dL_step_528 : decode cL_step 528 = .ok (.iadd, 1) := by decide +kernel
theorem dL_step_529 : decode cL_step 529 = .ok (.sipush 2000, 3) := by decide +kernel
theorem dL_step_532 : decode cL_step 532 = .ok (.if_icmp .gt 13, 3) := by decide +kernel
theorem dL_step_535 : decode cL_step 535 = .ok (.aload_n 0, 1) := by decide +kernel
theorem dL_step_536 : decode cL_step 536 = .ok (.aload_n 1, 1) := by decide +kernel
theorem dL_step_537 : decode cL_step 537 = .ok (.iload 6, 2) := by decide +kernel
theorem dL_step_539 : decode cL_step 539 = .ok (.invokestatic 53, 3) := by decide +kernel
theorem dL_step_542 : decode cL_step 542 = .ok (.ifCond .eq 7, 3) := by decide +kernel
theorem dL_step_545 : decode cL_step 545 = .ok (.iconst 1, 1) := by decide +kernel
theorem dL_step_546 : decode cL_step 546 = .ok (.goto 4, 3) := by decide +kernel
theorem dL_step_549 : decode cL_step 549 = .ok (.iconst 0, 1) := by decide +kernel
theorem dL_step_550 : decode cL_step 550 = .ok (.ireturn, 1) := by decide +kernel
