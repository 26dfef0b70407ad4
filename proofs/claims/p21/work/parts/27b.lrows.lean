set_option maxRecDepth 20000 in
theorem ggL_backdates_X5_units : GoodIn wsL_backdates wsX5_units := goodIn_ca (goodIn_ca (goodIn_r _ [7, 8, 9, 10, 6, 11, 12, 13, 14, 15, 16, 17, 18, 19, 20, 21, 22, 23, 24, 25, 26, 27, 28, 29, 30, 31, 32, 33, 34, 35, 36, 37, 38, 39, 40, 41, 42, 43, 44, 45, 46, 47, 48, 49, 50, 51, 52, 148, 149, 150, 151, 152, 153, 154, 155, 156, 157, 158, 159, 160, 161, 162, 163] (by decide +kernel) (by decide +kernel)) (goodIn_sub (fun _ h => List.mem_cons_of_mem _ (List.mem_append_left _ (List.mem_append_left _ (List.mem_append_right _ h)))) (by decide +kernel))) (goodIn_sub (fun _ h => List.mem_cons_of_mem _ (List.mem_append_left _ (List.mem_append_right _ h))) (by decide +kernel))
set_option maxRecDepth 20000 in
theorem gL_backdates_X5_units : GoodIn wsL_backdates (wsV RL 57 RX5 yX5_units wsX5_units) := goodIn_app (goodIn_of _ (by decide +kernel)) ggL_backdates_X5_units
set_option maxRecDepth 20000 in
theorem ggL_backdates_X5_madeGood : GoodIn wsL_backdates wsX5_madeGood := goodIn_r _ [56, 57, 148, 149, 150, 151, 152] (by decide +kernel) (by decide +kernel)
set_option maxRecDepth 20000 in
theorem gL_backdates_X5_madeGood : GoodIn wsL_backdates (wsV RL 61 RX5 yX5_madeGood wsX5_madeGood) := goodIn_app (goodIn_of _ (by decide +kernel)) ggL_backdates_X5_madeGood
set_option maxRecDepth 20000 in
theorem ggL_backdates_X5_initial : GoodIn wsL_backdates wsX5_initial := goodIn_ca (goodIn_r _ [61, 8, 9, 10, 6, 11, 12, 13, 14, 15, 16, 17, 18, 19, 20, 21, 22, 23, 24, 25, 26, 27, 28, 29, 30, 31, 32, 33, 34, 35, 36, 37, 38, 62, 63, 64, 50, 65, 66, 148, 149, 150, 151, 152, 153, 154, 155, 156, 157, 158, 159, 160, 161, 162, 163] (by decide +kernel) (by decide +kernel)) (goodIn_sub (fun _ h => List.mem_cons_of_mem _ (List.mem_append_left _ (List.mem_append_left _ (List.mem_append_right _ h)))) (by decide +kernel))
set_option maxRecDepth 20000 in
theorem gL_backdates_X5_initial : GoodIn wsL_backdates (wsV RL 65 RX5 yX5_initial wsX5_initial) := goodIn_app (goodIn_of _ (by decide +kernel)) ggL_backdates_X5_initial
set_option maxRecDepth 20000 in
theorem ggL_backdates_X5_offer : GoodIn wsL_backdates wsX5_offer := goodIn_ca (goodIn_r _ [70, 71, 39, 40, 6, 41, 42, 43, 44, 45, 46, 72, 73, 74, 75, 76, 77, 78, 79, 80, 81, 82, 83, 84, 85, 86, 87, 88, 89, 90, 148, 149, 150, 151, 152, 164, 165] (by decide +kernel) (by decide +kernel)) (goodIn_sub (fun _ h => List.mem_cons_of_mem _ (List.mem_append_left _ (List.mem_append_right _ h))) (by decide +kernel))
set_option maxRecDepth 20000 in
theorem gL_backdates_X5_offer : GoodIn wsL_backdates (wsV RL 70 RX5 yX5_offer wsX5_offer) := goodIn_app (goodIn_of _ (by decide +kernel)) ggL_backdates_X5_offer
set_option maxRecDepth 20000 in
theorem ggL_backdates_X5_backdate : GoodIn wsL_backdates wsX5_backdate := goodIn_ca (goodIn_ca (goodIn_ca (goodIn_r _ [94, 71, 57, 95, 96, 97, 98, 8, 9, 10, 6, 11, 12, 13, 14, 15, 16, 17, 18, 19, 20, 21, 22, 23, 24, 25, 26, 27, 28, 29, 30, 31, 32, 33, 34, 35, 36, 37, 38, 72, 73, 74, 75, 42, 43, 76, 77, 78, 79, 80, 81, 99, 100, 101, 102, 103, 104, 105, 106, 50, 107, 108, 109, 110, 111, 112, 113, 114, 115, 116, 117, 118, 82, 83, 84, 85, 86, 87, 88, 89, 90, 45, 46, 119, 120, 121, 122, 123, 124, 125, 126, 52, 127, 128, 129, 130, 131, 132, 133, 134, 135, 136, 137, 138, 148, 149, 150, 151, 152, 153, 154, 155, 164, 165, 156, 157, 158, 159, 160, 161, 162, 163] (by decide +kernel) (by decide +kernel)) (goodIn_sub (fun _ h => List.mem_cons_of_mem _ (List.mem_append_left _ (List.mem_append_left _ (List.mem_append_right _ h)))) (by decide +kernel))) (goodIn_sub (fun _ h => List.mem_cons_of_mem _ (List.mem_append_left _ (List.mem_append_right _ h))) (by decide +kernel))) (goodIn_sub (fun _ h => List.mem_cons_of_mem _ (List.mem_append_right _ h)) (by decide +kernel))
set_option maxRecDepth 20000 in
theorem gL_backdates_X5_backdate : GoodIn wsL_backdates (wsV RL 74 RX5 yX5_backdate wsX5_backdate) := goodIn_app (goodIn_of _ (by decide +kernel)) ggL_backdates_X5_backdate
set_option maxRecDepth 20000 in
theorem ggL_backdates_X5_paid : GoodIn wsL_backdates wsX5_paid := goodIn_ca (goodIn_r _ [142, 8, 9, 10, 6, 11, 12, 13, 14, 15, 16, 17, 18, 19, 20, 21, 22, 23, 24, 25, 26, 27, 28, 29, 30, 31, 32, 33, 34, 35, 36, 37, 38, 143, 144, 145, 50, 146, 147, 148, 149, 150, 151, 152, 153, 154, 155, 156, 157, 158, 159, 160, 161, 162, 163] (by decide +kernel) (by decide +kernel)) (goodIn_sub (fun _ h => List.mem_cons_of_mem _ (List.mem_append_left _ (List.mem_append_left _ (List.mem_append_right _ h)))) (by decide +kernel))
set_option maxRecDepth 20000 in
theorem gL_backdates_X5_paid : GoodIn wsL_backdates (wsV RL 37 RX5 yX5_paid wsX5_paid) := goodIn_app (goodIn_of _ (by decide +kernel)) ggL_backdates_X5_paid
theorem dL_backdates_0 : decode cL_backdates 0 = .ok (.aload_n 1, 1) := by decide +kernel
theorem dL_backdates_1 : decode cL_backdates 1 = .ok (.bipush 12, 2) := by decide +kernel
theorem dL_backdates_3 : decode cL_backdates 3 = .ok (.iload_n 2, 1) := by decide +kernel
theorem dL_backdates_4 : decode cL_backdates 4 = .ok (.iadd, 1) := by decide +kernel
theorem dL_backdates_5 : decode cL_backdates 5 = .ok (.iaload, 1) := by decide +kernel
theorem dL_backdates_6 : decode cL_backdates 6 = .ok (.istore 4, 2) := by decide +kernel
theorem dL_backdates_8 : decode cL_backdates 8 = .ok (.aload_n 0, 1) := by decide +kernel
theorem dL_backdates_9 : decode cL_backdates 9 = .ok (.iload_n 2, 1) := by decide +kernel
theorem dL_backdates_10 : decode cL_backdates 10 = .ok (.iload 4, 2) := by decide +kernel
theorem dL_backdates_12 : decode cL_backdates 12 = .ok (.invokevirtual 57, 3) := by decide +kernel
theorem dL_backdates_15 : decode cL_backdates 15 = .ok (.lstore 5, 2) := by decide +kernel
theorem dL_backdates_17 : decode cL_backdates 17 = .ok (.aload_n 0, 1) := by decide +kernel
theorem dL_backdates_18 : decode cL_backdates 18 = .ok (.invokevirtual 61, 3) := by decide +kernel
theorem dL_backdates_21 : decode cL_backdates 21 = .ok (.lstore 7, 2) := by decide +kernel
theorem dL_backdates_23 : decode cL_backdates 23 = .ok (.aload_n 0, 1) := by decide +kernel
theorem dL_backdates_24 : decode cL_backdates 24 = .ok (.iload_n 2, 1) := by decide +kernel
theorem dL_backdates_25 : decode cL_backdates 25 = .ok (.invokevirtual 65, 3) := by decide +kernel
theorem dL_backdates_28 : decode cL_backdates 28 = .ok (.lstore 9, 2) := by decide +kernel
theorem dL_backdates_30 : decode cL_backdates 30 = .ok (.ldc2_w 68, 3) := by decide +kernel
theorem dL_backdates_33 : decode cL_backdates 33 = .ok (.aload_n 1, 1) := by decide +kernel
theorem dL_backdates_34 : decode cL_backdates 34 = .ok (.bipush 6, 2) := by decide +kernel
theorem dL_backdates_36 : decode cL_backdates 36 = .ok (.iload_n 2, 1) := by decide +kernel
theorem dL_backdates_37 : decode cL_backdates 37 = .ok (.iadd, 1) := by decide +kernel
theorem dL_backdates_38 : decode cL_backdates 38 = .ok (.iaload, 1) := by decide +kernel
theorem dL_backdates_39 : decode cL_backdates 39 = .ok (.i2l, 1) := by decide +kernel
theorem dL_backdates_40 : decode cL_backdates 40 = .ok (.lmul, 1) := by decide +kernel
theorem dL_backdates_41 : decode cL_backdates 41 = .ok (.aload_n 0, 1) := by decide +kernel
theorem dL_backdates_42 : decode cL_backdates 42 = .ok (.iload 4, 2) := by decide +kernel
theorem dL_backdates_44 : decode cL_backdates 44 = .ok (.iload_n 3, 1) := by decide +kernel
theorem dL_backdates_45 : decode cL_backdates 45 = .ok (.invokevirtual 70, 3) := by decide +kernel
theorem dL_backdates_48 : decode cL_backdates 48 = .ok (.i2l, 1) := by decide +kernel
theorem dL_backdates_49 : decode cL_backdates 49 = .ok (.ldiv, 1) := by decide +kernel
theorem dL_backdates_50 : decode cL_backdates 50 = .ok (.lstore 11, 2) := by decide +kernel
theorem dL_backdates_52 : decode cL_backdates 52 = .ok (.lload 11, 2) := by decide +kernel
theorem dL_backdates_54 : decode cL_backdates 54 = .ok (.aload_n 0, 1) := by decide +kernel
theorem dL_backdates_55 : decode cL_backdates 55 = .ok (.iload 4, 2) := by decide +kernel
theorem dL_backdates_57 : decode cL_backdates 57 = .ok (.aload_n 1, 1) := by decide +kernel
theorem dL_backdates_58 : decode cL_backdates 58 = .ok (.iconst 0, 1) := by decide +kernel
theorem dL_backdates_59 : decode cL_backdates 59 = .ok (.iaload, 1) := by decide +kernel
theorem dL_backdates_60 : decode cL_backdates 60 = .ok (.invokevirtual 70, 3) := by decide +kernel
theorem dL_backdates_63 : decode cL_backdates 63 = .ok (.i2l, 1) := by decide +kernel
theorem dL_backdates_64 : decode cL_backdates 64 = .ok (.lmul, 1) := by decide +kernel
theorem dL_backdates_65 : decode cL_backdates 65 = .ok (.ldc2_w 68, 3) := by decide +kernel
theorem dL_backdates_68 : decode cL_backdates 68 = .ok (.ldiv, 1) := by decide +kernel
theorem dL_backdates_69 : decode cL_backdates 69 = .ok (.aload_n 1, 1) := by decide +kernel
theorem dL_backdates_70 : decode cL_backdates 70 = .ok (.bipush 6, 2) := by decide +kernel
theorem dL_backdates_72 : decode cL_backdates 72 = .ok (.iload_n 2, 1) := by decide +kernel
theorem dL_backdates_73 : decode cL_backdates 73 = .ok (.iadd, 1) := by decide +kernel
theorem dL_backdates_74 : decode cL_backdates 74 = .ok (.iaload, 1) := by decide +kernel
theorem dL_backdates_75 : decode cL_backdates 75 = .ok (.i2l, 1) := by decide +kernel
theorem dL_backdates_76 : decode cL_backdates 76 = .ok (.lsub, 1) := by decide +kernel
theorem dL_backdates_77 : decode cL_backdates 77 = .ok (.lstore 13, 2) := by decide +kernel
theorem dL_backdates_79 : decode cL_backdates 79 = .ok (.aload_n 0, 1) := by decide +kernel
theorem dL_backdates_80 : decode cL_backdates 80 = .ok (.iload_n 2, 1) := by decide +kernel
theorem dL_backdates_81 : decode cL_backdates 81 = .ok (.iload_n 3, 1) := by decide +kernel
theorem dL_backdates_82 : decode cL_backdates 82 = .ok (.invokevirtual 74, 3) := by decide +kernel
theorem dL_backdates_85 : decode cL_backdates 85 = .ok (.i2l, 1) := by decide +kernel
theorem dL_backdates_86 : decode cL_backdates 86 = .ok (.lload 11, 2) := by decide +kernel
theorem dL_backdates_88 : decode cL_backdates 88 = .ok (.lcmp, 1) := by decide +kernel
theorem dL_backdates_89 : decode cL_backdates 89 = .ok (.ifCond .ne 104, 3) := by decide +kernel
theorem dL_backdates_92 : decode cL_backdates 92 = .ok (.aload_n 0, 1) := by decide +kernel
theorem dL_backdates_93 : decode cL_backdates 93 = .ok (.iload_n 2, 1) := by decide +kernel
theorem dL_backdates_94 : decode cL_backdates 94 = .ok (.iload 4, 2) := by decide +kernel
theorem dL_backdates_96 : decode cL_backdates 96 = .ok (.invokevirtual 57, 3) := by decide +kernel
theorem dL_backdates_99 : decode cL_backdates 99 = .ok (.lload 5, 2) := by decide +kernel
theorem dL_backdates_101 : decode cL_backdates 101 = .ok (.lload 11, 2) := by decide +kernel
theorem dL_backdates_103 : decode cL_backdates 103 = .ok (.ladd, 1) := by decide +kernel
theorem dL_backdates_104 : decode cL_backdates 104 = .ok (.ldc2_w 77, 3) := by decide +kernel
theorem dL_backdates_107 : decode cL_backdates 107 = .ok (.lcmp, 1) := by decide +kernel
theorem dL_backdates_108 : decode cL_backdates 108 = .ok (.ifCond .ge 11, 3) := by decide +kernel
theorem dL_backdates_111 : decode cL_backdates 111 = .ok (.lload 5, 2) := by decide +kernel
theorem dL_backdates_113 : decode cL_backdates 113 = .ok (.lload 11, 2) := by decide +kernel
theorem dL_backdates_115 : decode cL_backdates 115 = .ok (.ladd, 1) := by decide +kernel
theorem dL_backdates_116 : decode cL_backdates 116 = .ok (.goto 6, 3) := by decide +kernel
theorem dL_backdates_119 : decode cL_backdates 119 = .ok (.ldc2_w 77, 3) := by decide +kernel
theorem dL_backdates_122 : decode cL_backdates 122 = .ok (.lcmp, 1) := by decide +kernel
theorem dL_backdates_123 : decode cL_backdates 123 = .ok (.ifCond .ne 70, 3) := by decide +kernel
theorem dL_backdates_126 : decode cL_backdates 126 = .ok (.aload_n 0, 1) := by decide +kernel
theorem dL_backdates_127 : decode cL_backdates 127 = .ok (.invokevirtual 61, 3) := by decide +kernel
theorem dL_backdates_130 : decode cL_backdates 130 = .ok (.lload 7, 2) := by decide +kernel
theorem dL_backdates_132 : decode cL_backdates 132 = .ok (.lload 13, 2) := by decide +kernel
theorem dL_backdates_134 : decode cL_backdates 134 = .ok (.lconst 0, 1) := by decide +kernel
theorem dL_backdates_135 : decode cL_backdates 135 = .ok (.lcmp, 1) := by decide +kernel
theorem dL_backdates_136 : decode cL_backdates 136 = .ok (.ifCond .le 8, 3) := by decide +kernel
theorem dL_backdates_139 : decode cL_backdates 139 = .ok (.lload 13, 2) := by decide +kernel
theorem dL_backdates_141 : decode cL_backdates 141 = .ok (.goto 4, 3) := by decide +kernel
theorem dL_backdates_144 : decode cL_backdates 144 = .ok (.lconst 0, 1) := by decide +kernel
theorem dL_backdates_145 : decode cL_backdates 145 = .ok (.ladd, 1) := by decide +kernel
theorem dL_backdates_146 : decode cL_backdates 146 = .ok (.lcmp, 1) := by decide +kernel
theorem dL_backdates_147 : decode cL_backdates 147 = .ok (.ifCond .ne 46, 3) := by decide +kernel
theorem dL_backdates_150 : decode cL_backdates 150 = .ok (.aload_n 0, 1) := by decide +kernel
theorem dL_backdates_151 : decode cL_backdates 151 = .ok (.iload_n 2, 1) := by decide +kernel
theorem dL_backdates_152 : decode cL_backdates 152 = .ok (.invokevirtual 65, 3) := by decide +kernel
theorem dL_backdates_155 : decode cL_backdates 155 = .ok (.lload 9, 2) := by decide +kernel
theorem dL_backdates_157 : decode cL_backdates 157 = .ok (.lcmp, 1) := by decide +kernel
theorem dL_backdates_158 : decode cL_backdates 158 = .ok (.ifCond .ne 35, 3) := by decide +kernel
theorem dL_backdates_161 : decode cL_backdates 161 = .ok (.aload_n 0, 1) := by decide +kernel
theorem dL_backdates_162 : decode cL_backdates 162 = .ok (.iload_n 2, 1) := by decide +kernel
theorem dL_backdates_163 : decode cL_backdates 163 = .ok (.invokevirtual 37, 3) := by decide +kernel
theorem dL_backdates_166 : decode cL_backdates 166 = .ok (.aload_n 1, 1) := by decide +kernel
theorem dL_backdates_167 : decode cL_backdates 167 = .ok (.bipush 18, 2) := by decide +kernel
theorem dL_backdates_169 : decode cL_backdates 169 = .ok (.iload_n 2, 1) := by decide +kernel
theorem dL_backdates_170 : decode cL_backdates 170 = .ok (.iadd, 1) := by decide +kernel
theorem dL_backdates_171 : decode cL_backdates 171 = .ok (.iaload, 1) := by decide +kernel
theorem dL_backdates_172 : decode cL_backdates 172 = .ok (.if_icmp .ne 21, 3) := by decide +kernel
theorem dL_backdates_175 : decode cL_backdates 175 = .ok (.iload_n 3, 1) := by decide +kernel
theorem dL_backdates_176 : decode cL_backdates 176 = .ok (.aload_n 1, 1) := by decide +kernel
theorem dL_backdates_177 : decode cL_backdates 177 = .ok (.iconst 0, 1) := by decide +kernel
theorem dL_backdates_178 : decode cL_backdates 178 = .ok (.iaload, 1) := by decide +kernel
theorem dL_backdates_179 : decode cL_backdates 179 = .ok (.if_icmp .lt 10, 3) := by decide +kernel
theorem dL_backdates_182 : decode cL_backdates 182 = .ok (.lload 13, 2) := by decide +kernel
theorem dL_backdates_184 : decode cL_backdates 184 = .ok (.lconst 0, 1) := by decide +kernel
theorem dL_backdates_185 : decode cL_backdates 185 = .ok (.lcmp, 1) := by decide +kernel
theorem dL_backdates_186 : decode cL_backdates 186 = .ok (.ifCond .gt 7, 3) := by decide +kernel
theorem dL_backdates_189 : decode cL_backdates 189 = .ok (.iconst 1, 1) := by decide +kernel
theorem dL_backdates_190 : decode cL_backdates 190 = .ok (.goto 4, 3) := by decide +kernel
theorem dL_backdates_193 : decode cL_backdates 193 = .ok (.iconst 0, 1) := by decide +kernel
theorem dL_backdates_194 : decode cL_backdates 194 = .ok (.ireturn, 1) := by decide +kernel
set_option maxRecDepth 20000 in
theorem ggL_tells_X5_charged : GoodIn wsL_tells wsX5_charged := goodIn_r _ [5, 6, 201, 202, 203, 204, 205] (by decide +kernel) (by decide +kernel)
set_option maxRecDepth 20000 in
theorem gL_tells_X5_charged : GoodIn wsL_tells (wsV RL 79 RX5 yX5_charged wsX5_charged) := goodIn_app (goodIn_of _ (by decide +kernel)) ggL_tells_X5_charged
set_option maxRecDepth 20000 in
theorem ggL_tells_X5_isInForce : GoodIn wsL_tells wsX5_isInForce := goodIn_ca (goodIn_r _ [10, 11, 12, 13, 4, 14, 15, 16, 17, 18, 19, 20, 21, 22, 23, 24, 25, 26, 27, 28, 29, 30, 31, 32, 33, 34, 35, 36, 37, 38, 39, 40, 41, 42, 43, 44, 45, 46, 47, 201, 202, 203, 204, 205, 206, 207, 208, 209, 210, 211, 212, 213, 214, 215, 216] (by decide +kernel) (by decide +kernel)) (goodIn_sub (fun _ h => List.mem_cons_of_mem _ (List.mem_append_left _ (List.mem_append_left _ (List.mem_append_right _ h)))) (by decide +kernel))
set_option maxRecDepth 20000 in
theorem gL_tells_X5_isInForce : GoodIn wsL_tells (wsV RL 22 RX5 yX5_isInForce wsX5_isInForce) := goodIn_app (goodIn_of _ (by decide +kernel)) ggL_tells_X5_isInForce
set_option maxRecDepth 20000 in
theorem ggL_tells_X5_tell : GoodIn wsL_tells wsX5_tell := goodIn_ca (goodIn_ca (goodIn_r _ [51, 52, 53, 54, 55, 56, 57, 58, 4, 59, 60, 61, 62, 63, 64, 65, 66, 67, 68, 69, 70, 71, 72, 73, 74, 75, 76, 77, 19, 20, 21, 22, 23, 24, 25, 26, 27, 28, 29, 30, 31, 32, 33, 34, 35, 36, 37, 38, 39, 40, 41, 78, 79, 80, 81, 82, 83, 84, 85, 86, 87, 45, 88, 89, 90, 91, 92, 93, 94, 95, 96, 97, 98, 99, 100, 101, 102, 103, 104, 105, 106, 107, 108, 109, 110, 111, 112, 113, 114, 115, 116, 117, 118, 119, 120, 121, 122, 123, 124, 125, 126, 127, 128, 129, 130, 131, 132, 133, 134, 135, 136, 137, 138, 139, 140, 141, 142, 143, 144, 145, 146, 147, 148, 17, 18, 6, 42, 43, 44, 46, 47, 149, 150, 151, 152, 153, 154, 155, 156, 157, 158, 159, 160, 161, 162, 163, 164, 165, 166, 167, 168, 169, 170, 171, 172, 173, 174, 175, 176, 177, 178, 179, 201, 202, 203, 204, 205, 217, 218, 206, 207, 208, 219, 209, 210, 211, 212, 213, 214, 215, 216, 220, 221, 222, 223] (by decide +kernel) (by decide +kernel)) (goodIn_sub (fun _ h => List.mem_cons_of_mem _ (List.mem_append_left _ (List.mem_append_right _ h))) (by decide +kernel))) (goodIn_sub (fun _ h => List.mem_cons_of_mem _ (List.mem_append_right _ h)) (by decide +kernel))
set_option maxRecDepth 20000 in
theorem gL_tells_X5_tell : GoodIn wsL_tells (wsV RL 82 RX5 yX5_tell wsX5_tell) := goodIn_app (goodIn_of _ (by decide +kernel)) ggL_tells_X5_tell
set_option maxRecDepth 20000 in
theorem ggL_tells_X5_today : GoodIn wsL_tells wsX5_today := goodIn_r _ [183, 56, 61, 62, 63, 64, 65, 66, 201, 202, 203, 204, 205, 217, 218] (by decide +kernel) (by decide +kernel)
set_option maxRecDepth 20000 in
theorem gL_tells_X5_today : GoodIn wsL_tells (wsV RL 86 RX5 yX5_today wsX5_today) := goodIn_app (goodIn_of _ (by decide +kernel)) ggL_tells_X5_today
set_option maxRecDepth 20000 in
theorem ggL_tells_X5_waiting : GoodIn wsL_tells wsX5_waiting := goodIn_r _ [187, 71, 19, 20, 21, 22, 23, 24, 201, 202, 203, 204, 205, 206, 207, 208] (by decide +kernel) (by decide +kernel)
set_option maxRecDepth 20000 in
theorem gL_tells_X5_waiting : GoodIn wsL_tells (wsV RL 34 RX5 yX5_waiting wsX5_waiting) := goodIn_app (goodIn_of _ (by decide +kernel)) ggL_tells_X5_waiting
set_option maxRecDepth 20000 in
theorem ggL_tells_X5_offer : GoodIn wsL_tells wsX5_offer := goodIn_ca (goodIn_r _ [191, 56, 192, 193, 4, 194, 52, 53, 195, 105, 106, 196, 197, 198, 199, 61, 62, 63, 64, 65, 66, 200, 98, 99, 100, 101, 102, 103, 104, 77, 201, 202, 203, 204, 205, 217, 218] (by decide +kernel) (by decide +kernel)) (goodIn_sub (fun _ h => List.mem_cons_of_mem _ (List.mem_append_left _ (List.mem_append_right _ h))) (by decide +kernel))
set_option maxRecDepth 20000 in
theorem gL_tells_X5_offer : GoodIn wsL_tells (wsV RL 70 RX5 yX5_offer wsX5_offer) := goodIn_app (goodIn_of _ (by decide +kernel)) ggL_tells_X5_offer
theorem dL_tells_0 : decode cL_tells 0 = .ok (.aload_n 0, 1) := by decide +kernel
theorem dL_tells_1 : decode cL_tells 1 = .ok (.invokevirtual 79, 3) := by decide +kernel
theorem dL_tells_4 : decode cL_tells 4 = .ok (.lstore 5, 2) := by decide +kernel
theorem dL_tells_6 : decode cL_tells 6 = .ok (.aload_n 1, 1) := by decide +kernel
theorem dL_tells_7 : decode cL_tells 7 = .ok (.iconst 0, 1) := by decide +kernel
theorem dL_tells_8 : decode cL_tells 8 = .ok (.iaload, 1) := by decide +kernel
theorem dL_tells_9 : decode cL_tells 9 = .ok (.iconst 1, 1) := by decide +kernel
theorem dL_tells_10 : decode cL_tells 10 = .ok (.iadd, 1) := by decide +kernel
theorem dL_tells_11 : decode cL_tells 11 = .ok (.istore 7, 2) := by decide +kernel
theorem dL_tells_13 : decode cL_tells 13 = .ok (.iconst 0, 1) := by decide +kernel
theorem dL_tells_14 : decode cL_tells 14 = .ok (.istore 8, 2) := by decide +kernel
theorem dL_tells_16 : decode cL_tells 16 = .ok (.iconst 0, 1) := by decide +kernel
theorem dL_tells_17 : decode cL_tells 17 = .ok (.istore 9, 2) := by decide +kernel
theorem dL_tells_19 : decode cL_tells 19 = .ok (.iload 9, 2) := by decide +kernel
theorem dL_tells_21 : decode cL_tells 21 = .ok (.aload_n 1, 1) := by decide +kernel
theorem dL_tells_22 : decode cL_tells 22 = .ok (.iconst 1, 1) := by decide +kernel
theorem dL_tells_23 : decode cL_tells 23 = .ok (.iaload, 1) := by decide +kernel
theorem dL_tells_24 : decode cL_tells 24 = .ok (.if_icmp .ge 28, 3) := by decide +kernel
theorem dL_tells_27 : decode cL_tells 27 = .ok (.iload 8, 2) := by decide +kernel
theorem dL_tells_29 : decode cL_tells 29 = .ok (.aload_n 0, 1) := by decide +kernel
theorem dL_tells_30 : decode cL_tells 30 = .ok (.iload 9, 2) := by decide +kernel
theorem dL_tells_32 : decode cL_tells 32 = .ok (.invokevirtual 22, 3) := by decide +kernel
theorem dL_tells_35 : decode cL_tells 35 = .ok (.ifCond .eq 7, 3) := by decide +kernel
theorem dL_tells_38 : decode cL_tells 38 = .ok (.iconst 1, 1) := by decide +kernel
theorem dL_tells_39 : decode cL_tells 39 = .ok (.goto 4, 3) := by decide +kernel
theorem dL_tells_42 : decode cL_tells 42 = .ok (.iconst 0, 1) := by decide +kernel
theorem dL_tells_43 : decode cL_tells 43 = .ok (.iadd, 1) := by decide +kernel
theorem dL_tells_44 : decode cL_tells 44 = .ok (.istore 8, 2) := by decide +kernel
theorem dL_tells_46 : decode cL_tells 46 = .ok (.iinc 9 1, 3) := by decide +kernel
theorem dL_tells_49 : decode cL_tells 49 = .ok (.goto (-30), 3) := by decide +kernel
theorem dL_tells_52 : decode cL_tells 52 = .ok (.aload_n 0, 1) := by decide +kernel
theorem dL_tells_53 : decode cL_tells 53 = .ok (.iload_n 2, 1) := by decide +kernel
theorem dL_tells_54 : decode cL_tells 54 = .ok (.iload_n 3, 1) := by decide +kernel
theorem dL_tells_55 : decode cL_tells 55 = .ok (.iload 4, 2) := by decide +kernel
theorem dL_tells_57 : decode cL_tells 57 = .ok (.invokevirtual 82, 3) := by decide +kernel
theorem dL_tells_60 : decode cL_tells 60 = .ok (.istore 9, 2) := by decide +kernel
theorem dL_tells_62 : decode cL_tells 62 = .ok (.aload_n 1, 1) := by decide +kernel
theorem dL_tells_63 : decode cL_tells 63 = .ok (.iconst 0, 1) := by decide +kernel
theorem dL_tells_64 : decode cL_tells 64 = .ok (.iload 7, 2) := by decide +kernel
theorem dL_tells_66 : decode cL_tells 66 = .ok (.iastore, 1) := by decide +kernel
theorem dL_tells_67 : decode cL_tells 67 = .ok (.aload_n 1, 1) := by decide +kernel
theorem dL_tells_68 : decode cL_tells 68 = .ok (.iconst 2, 1) := by decide +kernel
theorem dL_tells_69 : decode cL_tells 69 = .ok (.iconst 0, 1) := by decide +kernel
theorem dL_tells_70 : decode cL_tells 70 = .ok (.iastore, 1) := by decide +kernel
theorem dL_tells_71 : decode cL_tells 71 = .ok (.aload_n 1, 1) := by decide +kernel
theorem dL_tells_72 : decode cL_tells 72 = .ok (.iconst 3, 1) := by decide +kernel
theorem dL_tells_73 : decode cL_tells 73 = .ok (.iload_n 2, 1) := by decide +kernel
theorem dL_tells_74 : decode cL_tells 74 = .ok (.iastore, 1) := by decide +kernel
theorem dL_tells_75 : decode cL_tells 75 = .ok (.aload_n 1, 1) := by decide +kernel
theorem dL_tells_76 : decode cL_tells 76 = .ok (.iconst 4, 1) := by decide +kernel
theorem dL_tells_77 : decode cL_tells 77 = .ok (.iload_n 3, 1) := by decide +kernel
theorem dL_tells_78 : decode cL_tells 78 = .ok (.iastore, 1) := by decide +kernel
theorem dL_tells_79 : decode cL_tells 79 = .ok (.aload_n 1, 1) := by decide +kernel
theorem dL_tells_80 : decode cL_tells 80 = .ok (.iconst 5, 1) := by decide +kernel
theorem dL_tells_81 : decode cL_tells 81 = .ok (.iload 4, 2) := by decide +kernel
theorem dL_tells_83 : decode cL_tells 83 = .ok (.iastore, 1) := by decide +kernel
theorem dL_tells_84 : decode cL_tells 84 = .ok (.iconst 0, 1) := by decide +kernel
theorem dL_tells_85 : decode cL_tells 85 = .ok (.istore 10, 2) := by decide +kernel
theorem dL_tells_87 : decode cL_tells 87 = .ok (.iconst 0, 1) := by decide +kernel
theorem dL_tells_88 : decode cL_tells 88 = .ok (.istore 11, 2) := by decide +kernel
theorem dL_tells_90 : decode cL_tells 90 = .ok (.iload 11, 2) := by decide +kernel
theorem dL_tells_92 : decode cL_tells 92 = .ok (.aload_n 1, 1) := by decide +kernel
theorem dL_tells_93 : decode cL_tells 93 = .ok (.iconst 1, 1) := by decide +kernel
theorem dL_tells_94 : decode cL_tells 94 = .ok (.iaload, 1) := by decide +kernel
theorem dL_tells_95 : decode cL_tells 95 = .ok (.if_icmp .ge 53, 3) := by decide +kernel
theorem dL_tells_98 : decode cL_tells 98 = .ok (.iload 10, 2) := by decide +kernel
theorem dL_tells_100 : decode cL_tells 100 = .ok (.aload_n 0, 1) := by decide +kernel
theorem dL_tells_101 : decode cL_tells 101 = .ok (.iload 11, 2) := by decide +kernel
theorem dL_tells_103 : decode cL_tells 103 = .ok (.invokevirtual 22, 3) := by decide +kernel
theorem dL_tells_106 : decode cL_tells 106 = .ok (.ifCond .eq 7, 3) := by decide +kernel
theorem dL_tells_109 : decode cL_tells 109 = .ok (.iconst 1, 1) := by decide +kernel
theorem dL_tells_110 : decode cL_tells 110 = .ok (.goto 4, 3) := by decide +kernel
theorem dL_tells_113 : decode cL_tells 113 = .ok (.iconst 0, 1) := by decide +kernel
theorem dL_tells_114 : decode cL_tells 114 = .ok (.iadd, 1) := by decide +kernel
theorem dL_tells_115 : decode cL_tells 115 = .ok (.istore 10, 2) := by decide +kernel
theorem dL_tells_117 : decode cL_tells 117 = .ok (.aload_n 1, 1) := by decide +kernel
theorem dL_tells_118 : decode cL_tells 118 = .ok (.bipush 18, 2) := by decide +kernel
theorem dL_tells_120 : decode cL_tells 120 = .ok (.iload 11, 2) := by decide +kernel
theorem dL_tells_122 : decode cL_tells 122 = .ok (.iadd, 1) := by decide +kernel
theorem dL_tells_123 : decode cL_tells 123 = .ok (.dup2, 1) := by decide +kernel
theorem dL_tells_124 : decode cL_tells 124 = .ok (.iaload, 1) := by decide +kernel
theorem dL_tells_125 : decode cL_tells 125 = .ok (.aload_n 1, 1) := by decide +kernel
theorem dL_tells_126 : decode cL_tells 126 = .ok (.bipush 24, 2) := by decide +kernel
theorem dL_tells_128 : decode cL_tells 128 = .ok (.iload 11, 2) := by decide +kernel
theorem dL_tells_130 : decode cL_tells 130 = .ok (.iadd, 1) := by decide +kernel
theorem dL_tells_131 : decode cL_tells 131 = .ok (.iaload, 1) := by decide +kernel
theorem dL_tells_132 : decode cL_tells 132 = .ok (.iadd, 1) := by decide +kernel
theorem dL_tells_133 : decode cL_tells 133 = .ok (.iastore, 1) := by decide +kernel
theorem dL_tells_134 : decode cL_tells 134 = .ok (.aload_n 1, 1) := by decide +kernel
theorem dL_tells_135 : decode cL_tells 135 = .ok (.bipush 24, 2) := by decide +kernel
theorem dL_tells_137 : decode cL_tells 137 = .ok (.iload 11, 2) := by decide +kernel
theorem dL_tells_139 : decode cL_tells 139 = .ok (.iadd, 1) := by decide +kernel
theorem dL_tells_140 : decode cL_tells 140 = .ok (.iconst 0, 1) := by decide +kernel
theorem dL_tells_141 : decode cL_tells 141 = .ok (.iastore, 1) := by decide +kernel
theorem dL_tells_142 : decode cL_tells 142 = .ok (.iinc 11 1, 3) := by decide +kernel
theorem dL_tells_145 : decode cL_tells 145 = .ok (.goto (-55), 3) := by decide +kernel
theorem dL_tells_148 : decode cL_tells 148 = .ok (.aload_n 0, 1) := by decide +kernel
theorem dL_tells_149 : decode cL_tells 149 = .ok (.invokevirtual 86, 3) := by decide +kernel
theorem dL_tells_152 : decode cL_tells 152 = .ok (.iload 7, 2) := by decide +kernel
theorem dL_tells_154 : decode cL_tells 154 = .ok (.if_icmp .ne 60, 3) := by decide +kernel
theorem dL_tells_157 : decode cL_tells 157 = .ok (.aload_n 0, 1) := by decide +kernel
theorem dL_tells_158 : decode cL_tells 158 = .ok (.invokevirtual 34, 3) := by decide +kernel
theorem dL_tells_161 : decode cL_tells 161 = .ok (.ifCond .ne 53, 3) := by decide +kernel
theorem dL_tells_164 : decode cL_tells 164 = .ok (.iload 10, 2) := by decide +kernel
theorem dL_tells_166 : decode cL_tells 166 = .ok (.iload 8, 2) := by decide +kernel
theorem dL_tells_168 : decode cL_tells 168 = .ok (.iload 9, 2) := by decide +kernel
theorem dL_tells_170 : decode cL_tells 170 = .ok (.isub, 1) := by decide +kernel
theorem dL_tells_171 : decode cL_tells 171 = .ok (.if_icmp .ne 43, 3) := by decide +kernel
theorem dL_tells_174 : decode cL_tells 174 = .ok (.iload 7, 2) := by decide +kernel
theorem dL_tells_176 : decode cL_tells 176 = .ok (.bipush 30, 2) := by decide +kernel
theorem dL_tells_178 : decode cL_tells 178 = .ok (.irem, 1) := by decide +kernel
theorem dL_tells_179 : decode cL_tells 179 = .ok (.ifCond .ne 16, 3) := by decide +kernel
theorem dL_tells_182 : decode cL_tells 182 = .ok (.aload_n 0, 1) := by decide +kernel
theorem dL_tells_183 : decode cL_tells 183 = .ok (.invokevirtual 79, 3) := by decide +kernel
theorem dL_tells_186 : decode cL_tells 186 = .ok (.lload 5, 2) := by decide +kernel
theorem dL_tells_188 : decode cL_tells 188 = .ok (.lcmp, 1) := by decide +kernel
theorem dL_tells_189 : decode cL_tells 189 = .ok (.ifCond .lt 25, 3) := by decide +kernel
theorem dL_tells_192 : decode cL_tells 192 = .ok (.goto 18, 3) := by decide +kernel
theorem dL_tells_195 : decode cL_tells 195 = .ok (.iload 9, 2) := by decide +kernel
theorem dL_tells_197 : decode cL_tells 197 = .ok (.ifCond .ne 17, 3) := by decide +kernel
theorem dL_tells_200 : decode cL_tells 200 = .ok (.aload_n 0, 1) := by decide +kernel
theorem dL_tells_201 : decode cL_tells 201 = .ok (.invokevirtual 79, 3) := by decide +kernel
theorem dL_tells_204 : decode cL_tells 204 = .ok (.lload 5, 2) := by decide +kernel
theorem dL_tells_206 : decode cL_tells 206 = .ok (.lcmp, 1) := by decide +kernel
theorem dL_tells_207 : decode cL_tells 207 = .ok (.ifCond .ne 7, 3) := by decide +kernel
theorem dL_tells_210 : decode cL_tells 210 = .ok (.iconst 1, 1) := by decide +kernel
theorem dL_tells_211 : decode cL_tells 211 = .ok (.goto 4, 3) := by decide +kernel
theorem dL_tells_214 : decode cL_tells 214 = .ok (.iconst 0, 1) := by decide +kernel
theorem dL_tells_215 : decode cL_tells 215 = .ok (.istore 11, 2) := by decide +kernel
theorem dL_tells_217 : decode cL_tells 217 = .ok (.iload 11, 2) := by decide +kernel
theorem dL_tells_219 : decode cL_tells 219 = .ok (.ifCond .eq 59, 3) := by decide +kernel
theorem dL_tells_222 : decode cL_tells 222 = .ok (.aload_n 0, 1) := by decide +kernel
theorem dL_tells_223 : decode cL_tells 223 = .ok (.iconst 0, 1) := by decide +kernel
theorem dL_tells_224 : decode cL_tells 224 = .ok (.iload 7, 2) := by decide +kernel
theorem dL_tells_226 : decode cL_tells 226 = .ok (.invokevirtual 70, 3) := by decide +kernel
theorem dL_tells_229 : decode cL_tells 229 = .ok (.iload_n 2, 1) := by decide +kernel
theorem dL_tells_230 : decode cL_tells 230 = .ok (.bipush 105, 2) := by decide +kernel
theorem dL_tells_232 : decode cL_tells 232 = .ok (.imul, 1) := by decide +kernel
theorem dL_tells_233 : decode cL_tells 233 = .ok (.bipush 100, 2) := by decide +kernel
theorem dL_tells_235 : decode cL_tells 235 = .ok (.idiv, 1) := by decide +kernel
theorem dL_tells_236 : decode cL_tells 236 = .ok (.if_icmp .ne 42, 3) := by decide +kernel
theorem dL_tells_239 : decode cL_tells 239 = .ok (.aload_n 0, 1) := by decide +kernel
theorem dL_tells_240 : decode cL_tells 240 = .ok (.iconst 1, 1) := by decide +kernel
theorem dL_tells_241 : decode cL_tells 241 = .ok (.iload 7, 2) := by decide +kernel
theorem dL_tells_243 : decode cL_tells 243 = .ok (.invokevirtual 70, 3) := by decide +kernel
theorem dL_tells_246 : decode cL_tells 246 = .ok (.iload_n 3, 1) := by decide +kernel
theorem dL_tells_247 : decode cL_tells 247 = .ok (.bipush 105, 2) := by decide +kernel
theorem dL_tells_249 : decode cL_tells 249 = .ok (.imul, 1) := by decide +kernel
theorem dL_tells_250 : decode cL_tells 250 = .ok (.bipush 100, 2) := by decide +kernel
theorem dL_tells_252 : decode cL_tells 252 = .ok (.idiv, 1) := by decide +kernel
theorem dL_tells_253 : decode cL_tells 253 = .ok (.if_icmp .ne 25, 3) := by decide +kernel
theorem dL_tells_256 : decode cL_tells 256 = .ok (.aload_n 0, 1) := by decide +kernel
theorem dL_tells_257 : decode cL_tells 257 = .ok (.iconst 2, 1) := by decide +kernel
theorem dL_tells_258 : decode cL_tells 258 = .ok (.iload 7, 2) := by decide +kernel
theorem dL_tells_260 : decode cL_tells 260 = .ok (.invokevirtual 70, 3) := by decide +kernel
theorem dL_tells_263 : decode cL_tells 263 = .ok (.iload 4, 2) := by decide +kernel
theorem dL_tells_265 : decode cL_tells 265 = .ok (.bipush 105, 2) := by decide +kernel
theorem dL_tells_267 : decode cL_tells 267 = .ok (.imul, 1) := by decide +kernel
theorem dL_tells_268 : decode cL_tells 268 = .ok (.bipush 100, 2) := by decide +kernel
theorem dL_tells_270 : decode cL_tells 270 = .ok (.idiv, 1) := by decide +kernel
theorem dL_tells_271 : decode cL_tells 271 = .ok (.if_icmp .ne 7, 3) := by decide +kernel
theorem dL_tells_274 : decode cL_tells 274 = .ok (.iconst 1, 1) := by decide +kernel
theorem dL_tells_275 : decode cL_tells 275 = .ok (.goto 4, 3) := by decide +kernel
theorem dL_tells_278 : decode cL_tells 278 = .ok (.iconst 0, 1) := by decide +kernel
theorem dL_tells_279 : decode cL_tells 279 = .ok (.ireturn, 1) := by decide +kernel
set_option maxRecDepth 20000 in
theorem ggL_passes_X5_charged : GoodIn wsL_passes wsX5_charged := goodIn_r _ [5, 6, 193, 194, 195, 196, 197] (by decide +kernel) (by decide +kernel)
set_option maxRecDepth 20000 in
theorem gL_passes_X5_charged : GoodIn wsL_passes (wsV RL 79 RX5 yX5_charged wsX5_charged) := goodIn_app (goodIn_of _ (by decide +kernel)) ggL_passes_X5_charged
set_option maxRecDepth 20000 in
theorem ggL_passes_X5_madeGood : GoodIn wsL_passes wsX5_madeGood := goodIn_r _ [10, 11, 193, 194, 195, 196, 197] (by decide +kernel) (by decide +kernel)
set_option maxRecDepth 20000 in
theorem gL_passes_X5_madeGood : GoodIn wsL_passes (wsV RL 61 RX5 yX5_madeGood wsX5_madeGood) := goodIn_app (goodIn_of _ (by decide +kernel)) ggL_passes_X5_madeGood
set_option maxRecDepth 20000 in
theorem ggL_passes_X5_pass : GoodIn wsL_passes wsX5_pass := goodIn_ca (goodIn_ca (goodIn_r _ [15, 16, 17, 18, 19, 20, 21, 22, 23, 24, 25, 26, 27, 28, 29, 30, 31, 32, 33, 34, 35, 36, 4, 37, 38, 39, 40, 41, 42, 43, 44, 45, 46, 47, 48, 49, 50, 51, 52, 53, 54, 55, 56, 57, 58, 59, 60, 61, 62, 63, 64, 65, 66, 67, 68, 69, 70, 71, 72, 73, 74, 75, 76, 77, 78, 79, 80, 81, 82, 83, 84, 85, 86, 87, 88, 89, 90, 91, 92, 93, 94, 95, 96, 97, 98, 99, 100, 101, 102, 103, 104, 105, 106, 107, 108, 109, 110, 111, 112, 113, 114, 115, 116, 117, 118, 119, 120, 121, 122, 123, 124, 125, 126, 127, 128, 129, 130, 131, 132, 133, 134, 135, 6, 136, 137, 138, 139, 140, 141, 142, 143, 144, 145, 146, 147, 148, 149, 150, 151, 152, 153, 154, 155, 156, 157, 158, 159, 160, 161, 162, 163, 164, 165, 166, 167, 168, 169, 170, 171, 193, 194, 195, 196, 197, 198, 199, 200, 201, 202, 203, 204, 205, 206, 207, 208, 209, 210, 211, 212, 213, 214, 215] (by decide +kernel) (by decide +kernel)) (goodIn_sub (fun _ h => List.mem_cons_of_mem _ (List.mem_append_left _ (List.mem_append_right _ h))) (by decide +kernel))) (goodIn_sub (fun _ h => List.mem_cons_of_mem _ (List.mem_append_right _ h)) (by decide +kernel))
set_option maxRecDepth 20000 in
theorem gL_passes_X5_pass : GoodIn wsL_passes (wsV RL 89 RX5 yX5_pass wsX5_pass) := goodIn_app (goodIn_of _ (by decide +kernel)) ggL_passes_X5_pass
set_option maxRecDepth 20000 in
theorem ggL_passes_X5_today : GoodIn wsL_passes wsX5_today := goodIn_r _ [175, 20, 21, 22, 23, 24, 25, 26, 193, 194, 195, 196, 197, 198, 199] (by decide +kernel) (by decide +kernel)
set_option maxRecDepth 20000 in
theorem gL_passes_X5_today : GoodIn wsL_passes (wsV RL 86 RX5 yX5_today wsX5_today) := goodIn_app (goodIn_of _ (by decide +kernel)) ggL_passes_X5_today
set_option maxRecDepth 20000 in
theorem ggL_passes_X5_waiting : GoodIn wsL_passes wsX5_waiting := goodIn_r _ [179, 42, 48, 49, 50, 51, 52, 53, 193, 194, 195, 196, 197, 200, 201, 202] (by decide +kernel) (by decide +kernel)
set_option maxRecDepth 20000 in
theorem gL_passes_X5_waiting : GoodIn wsL_passes (wsV RL 34 RX5 yX5_waiting wsX5_waiting) := goodIn_app (goodIn_of _ (by decide +kernel)) ggL_passes_X5_waiting
set_option maxRecDepth 20000 in
theorem ggL_passes_X5_offer : GoodIn wsL_passes wsX5_offer := goodIn_ca (goodIn_r _ [183, 20, 184, 185, 4, 186, 16, 17, 187, 36, 37, 188, 189, 190, 191, 21, 22, 23, 24, 25, 26, 192, 92, 93, 94, 31, 32, 33, 34, 35, 193, 194, 195, 196, 197, 198, 199] (by decide +kernel) (by decide +kernel)) (goodIn_sub (fun _ h => List.mem_cons_of_mem _ (List.mem_append_left _ (List.mem_append_right _ h))) (by decide +kernel))
set_option maxRecDepth 20000 in
theorem gL_passes_X5_offer : GoodIn wsL_passes (wsV RL 70 RX5 yX5_offer wsX5_offer) := goodIn_app (goodIn_of _ (by decide +kernel)) ggL_passes_X5_offer
theorem dL_passes_0 : decode cL_passes 0 = .ok (.aload_n 0, 1) := by decide +kernel
theorem dL_passes_1 : decode cL_passes 1 = .ok (.invokevirtual 79, 3) := by decide +kernel
theorem dL_passes_4 : decode cL_passes 4 = .ok (.lstore_n 3, 1) := by decide +kernel
theorem dL_passes_5 : decode cL_passes 5 = .ok (.aload_n 0, 1) := by decide +kernel
theorem dL_passes_6 : decode cL_passes 6 = .ok (.invokevirtual 61, 3) := by decide +kernel
theorem dL_passes_9 : decode cL_passes 9 = .ok (.lstore 5, 2) := by decide +kernel
theorem dL_passes_11 : decode cL_passes 11 = .ok (.aload_n 1, 1) := by decide +kernel
theorem dL_passes_12 : decode cL_passes 12 = .ok (.iconst 0, 1) := by decide +kernel
theorem dL_passes_13 : decode cL_passes 13 = .ok (.iaload, 1) := by decide +kernel
theorem dL_passes_14 : decode cL_passes 14 = .ok (.iload_n 2, 1) := by decide +kernel
theorem dL_passes_15 : decode cL_passes 15 = .ok (.iadd, 1) := by decide +kernel
theorem dL_passes_16 : decode cL_passes 16 = .ok (.bipush 30, 2) := by decide +kernel
theorem dL_passes_18 : decode cL_passes 18 = .ok (.idiv, 1) := by decide +kernel
theorem dL_passes_19 : decode cL_passes 19 = .ok (.aload_n 1, 1) := by decide +kernel
theorem dL_passes_20 : decode cL_passes 20 = .ok (.iconst 0, 1) := by decide +kernel
theorem dL_passes_21 : decode cL_passes 21 = .ok (.iaload, 1) := by decide +kernel
theorem dL_passes_22 : decode cL_passes 22 = .ok (.bipush 30, 2) := by decide +kernel
theorem dL_passes_24 : decode cL_passes 24 = .ok (.idiv, 1) := by decide +kernel
theorem dL_passes_25 : decode cL_passes 25 = .ok (.isub, 1) := by decide +kernel
theorem dL_passes_26 : decode cL_passes 26 = .ok (.istore 7, 2) := by decide +kernel
theorem dL_passes_28 : decode cL_passes 28 = .ok (.aload_n 0, 1) := by decide +kernel
theorem dL_passes_29 : decode cL_passes 29 = .ok (.iload_n 2, 1) := by decide +kernel
theorem dL_passes_30 : decode cL_passes 30 = .ok (.invokevirtual 89, 3) := by decide +kernel
theorem dL_passes_33 : decode cL_passes 33 = .ok (.istore 8, 2) := by decide +kernel
theorem dL_passes_35 : decode cL_passes 35 = .ok (.aload_n 1, 1) := by decide +kernel
theorem dL_passes_36 : decode cL_passes 36 = .ok (.iconst 0, 1) := by decide +kernel
theorem dL_passes_37 : decode cL_passes 37 = .ok (.dup2, 1) := by decide +kernel
theorem dL_passes_38 : decode cL_passes 38 = .ok (.iaload, 1) := by decide +kernel
theorem dL_passes_39 : decode cL_passes 39 = .ok (.iload_n 2, 1) := by decide +kernel
theorem dL_passes_40 : decode cL_passes 40 = .ok (.iadd, 1) := by decide +kernel
theorem dL_passes_41 : decode cL_passes 41 = .ok (.iastore, 1) := by decide +kernel
theorem dL_passes_42 : decode cL_passes 42 = .ok (.aload_n 1, 1) := by decide +kernel
theorem dL_passes_43 : decode cL_passes 43 = .ok (.iconst 2, 1) := by decide +kernel
theorem dL_passes_44 : decode cL_passes 44 = .ok (.iconst 0, 1) := by decide +kernel
theorem dL_passes_45 : decode cL_passes 45 = .ok (.iastore, 1) := by decide +kernel
theorem dL_passes_46 : decode cL_passes 46 = .ok (.iconst 0, 1) := by decide +kernel
theorem dL_passes_47 : decode cL_passes 47 = .ok (.istore 9, 2) := by decide +kernel
theorem dL_passes_49 : decode cL_passes 49 = .ok (.iload 9, 2) := by decide +kernel
theorem dL_passes_51 : decode cL_passes 51 = .ok (.aload_n 1, 1) := by decide +kernel
theorem dL_passes_52 : decode cL_passes 52 = .ok (.iconst 1, 1) := by decide +kernel
theorem dL_passes_53 : decode cL_passes 53 = .ok (.iaload, 1) := by decide +kernel
theorem dL_passes_54 : decode cL_passes 54 = .ok (.if_icmp .ge 34, 3) := by decide +kernel
theorem dL_passes_57 : decode cL_passes 57 = .ok (.aload_n 1, 1) := by decide +kernel
theorem dL_passes_58 : decode cL_passes 58 = .ok (.bipush 18, 2) := by decide +kernel
theorem dL_passes_60 : decode cL_passes 60 = .ok (.iload 9, 2) := by decide +kernel
theorem dL_passes_62 : decode cL_passes 62 = .ok (.iadd, 1) := by decide +kernel
theorem dL_passes_63 : decode cL_passes 63 = .ok (.dup2, 1) := by decide +kernel
theorem dL_passes_64 : decode cL_passes 64 = .ok (.iaload, 1) := by decide +kernel
theorem dL_passes_65 : decode cL_passes 65 = .ok (.aload_n 1, 1) := by decide +kernel
theorem dL_passes_66 : decode cL_passes 66 = .ok (.bipush 24, 2) := by decide +kernel
theorem dL_passes_68 : decode cL_passes 68 = .ok (.iload 9, 2) := by decide +kernel
theorem dL_passes_70 : decode cL_passes 70 = .ok (.iadd, 1) := by decide +kernel
theorem dL_passes_71 : decode cL_passes 71 = .ok (.iaload, 1) := by decide +kernel
theorem dL_passes_72 : decode cL_passes 72 = .ok (.iadd, 1) := by decide +kernel
theorem dL_passes_73 : decode cL_passes 73 = .ok (.iastore, 1) := by decide +kernel
theorem dL_passes_74 : decode cL_passes 74 = .ok (.aload_n 1, 1) := by decide +kernel
theorem dL_passes_75 : decode cL_passes 75 = .ok (.bipush 24, 2) := by decide +kernel
theorem dL_passes_77 : decode cL_passes 77 = .ok (.iload 9, 2) := by decide +kernel
theorem dL_passes_79 : decode cL_passes 79 = .ok (.iadd, 1) := by decide +kernel
theorem dL_passes_80 : decode cL_passes 80 = .ok (.iconst 0, 1) := by decide +kernel
theorem dL_passes_81 : decode cL_passes 81 = .ok (.iastore, 1) := by decide +kernel
theorem dL_passes_82 : decode cL_passes 82 = .ok (.iinc 9 1, 3) := by decide +kernel
theorem dL_passes_85 : decode cL_passes 85 = .ok (.goto (-36), 3) := by decide +kernel
theorem dL_passes_88 : decode cL_passes 88 = .ok (.aload_n 0, 1) := by decide +kernel
theorem dL_passes_89 : decode cL_passes 89 = .ok (.invokevirtual 86, 3) := by decide +kernel
theorem dL_passes_92 : decode cL_passes 92 = .ok (.aload_n 1, 1) := by decide +kernel
theorem dL_passes_93 : decode cL_passes 93 = .ok (.iconst 0, 1) := by decide +kernel
theorem dL_passes_94 : decode cL_passes 94 = .ok (.iaload, 1) := by decide +kernel
theorem dL_passes_95 : decode cL_passes 95 = .ok (.if_icmp .ne 76, 3) := by decide +kernel
theorem dL_passes_98 : decode cL_passes 98 = .ok (.aload_n 0, 1) := by decide +kernel
theorem dL_passes_99 : decode cL_passes 99 = .ok (.invokevirtual 34, 3) := by decide +kernel
theorem dL_passes_102 : decode cL_passes 102 = .ok (.ifCond .ne 69, 3) := by decide +kernel
theorem dL_passes_105 : decode cL_passes 105 = .ok (.iload 8, 2) := by decide +kernel
theorem dL_passes_107 : decode cL_passes 107 = .ok (.ifCond .lt 64, 3) := by decide +kernel
theorem dL_passes_110 : decode cL_passes 110 = .ok (.iload 8, 2) := by decide +kernel
theorem dL_passes_112 : decode cL_passes 112 = .ok (.aload_n 1, 1) := by decide +kernel
theorem dL_passes_113 : decode cL_passes 113 = .ok (.iconst 1, 1) := by decide +kernel
theorem dL_passes_114 : decode cL_passes 114 = .ok (.iaload, 1) := by decide +kernel
theorem dL_passes_115 : decode cL_passes 115 = .ok (.if_icmp .gt 56, 3) := by decide +kernel
theorem dL_passes_118 : decode cL_passes 118 = .ok (.iload 7, 2) := by decide +kernel
theorem dL_passes_120 : decode cL_passes 120 = .ok (.ifCond .gt 17, 3) := by decide +kernel
theorem dL_passes_123 : decode cL_passes 123 = .ok (.iload 8, 2) := by decide +kernel
theorem dL_passes_125 : decode cL_passes 125 = .ok (.ifCond .ne 46, 3) := by decide +kernel
theorem dL_passes_128 : decode cL_passes 128 = .ok (.aload_n 0, 1) := by decide +kernel
theorem dL_passes_129 : decode cL_passes 129 = .ok (.invokevirtual 79, 3) := by decide +kernel
theorem dL_passes_132 : decode cL_passes 132 = .ok (.lload_n 3, 1) := by decide +kernel
theorem dL_passes_133 : decode cL_passes 133 = .ok (.lcmp, 1) := by decide +kernel
theorem dL_passes_134 : decode cL_passes 134 = .ok (.ifCond .ne 37, 3) := by decide +kernel
theorem dL_passes_137 : decode cL_passes 137 = .ok (.aload_n 0, 1) := by decide +kernel
theorem dL_passes_138 : decode cL_passes 138 = .ok (.invokevirtual 61, 3) := by decide +kernel
theorem dL_passes_141 : decode cL_passes 141 = .ok (.lload 5, 2) := by decide +kernel
theorem dL_passes_143 : decode cL_passes 143 = .ok (.lcmp, 1) := by decide +kernel
theorem dL_passes_144 : decode cL_passes 144 = .ok (.ifCond .ne 27, 3) := by decide +kernel
theorem dL_passes_147 : decode cL_passes 147 = .ok (.aload_n 0, 1) := by decide +kernel
theorem dL_passes_148 : decode cL_passes 148 = .ok (.iconst 1, 1) := by decide +kernel
theorem dL_passes_149 : decode cL_passes 149 = .ok (.aload_n 1, 1) := by decide +kernel
theorem dL_passes_150 : decode cL_passes 150 = .ok (.iconst 0, 1) := by decide +kernel
theorem dL_passes_151 : decode cL_passes 151 = .ok (.iaload, 1) := by decide +kernel
theorem dL_passes_152 : decode cL_passes 152 = .ok (.invokevirtual 70, 3) := by decide +kernel
theorem dL_passes_155 : decode cL_passes 155 = .ok (.aload_n 1, 1) := by decide +kernel
theorem dL_passes_156 : decode cL_passes 156 = .ok (.iconst 4, 1) := by decide +kernel
theorem dL_passes_157 : decode cL_passes 157 = .ok (.iaload, 1) := by decide +kernel
theorem dL_passes_158 : decode cL_passes 158 = .ok (.bipush 105, 2) := by decide +kernel
theorem dL_passes_160 : decode cL_passes 160 = .ok (.imul, 1) := by decide +kernel
theorem dL_passes_161 : decode cL_passes 161 = .ok (.bipush 100, 2) := by decide +kernel
theorem dL_passes_163 : decode cL_passes 163 = .ok (.idiv, 1) := by decide +kernel
theorem dL_passes_164 : decode cL_passes 164 = .ok (.if_icmp .ne 7, 3) := by decide +kernel
theorem dL_passes_167 : decode cL_passes 167 = .ok (.iconst 1, 1) := by decide +kernel
theorem dL_passes_168 : decode cL_passes 168 = .ok (.goto 4, 3) := by decide +kernel
theorem dL_passes_171 : decode cL_passes 171 = .ok (.iconst 0, 1) := by decide +kernel
theorem dL_passes_172 : decode cL_passes 172 = .ok (.ireturn, 1) := by decide +kernel
set_option maxRecDepth 20000 in
theorem ggL_areContracts_X5_contracts : GoodIn wsL_areContracts wsX5_contracts := goodIn_r _ [8, 9, 10, 11, 12, 13, 14, 15, 123, 124, 125, 126, 127, 128, 129, 130] (by decide +kernel) (by decide +kernel)
set_option maxRecDepth 20000 in
theorem gL_areContracts_X5_contracts : GoodIn wsL_areContracts (wsV RL 10 RX5 yX5_contracts wsX5_contracts) := goodIn_app (goodIn_of _ (by decide +kernel)) ggL_areContracts_X5_contracts
set_option maxRecDepth 20000 in
theorem ggL_areContracts_X5_waiting : GoodIn wsL_areContracts wsX5_waiting := goodIn_r _ [19, 20, 10, 11, 12, 13, 14, 15, 123, 124, 125, 126, 127, 128, 129, 130] (by decide +kernel) (by decide +kernel)
set_option maxRecDepth 20000 in
theorem gL_areContracts_X5_waiting : GoodIn wsL_areContracts (wsV RL 34 RX5 yX5_waiting wsX5_waiting) := goodIn_app (goodIn_of _ (by decide +kernel)) ggL_areContracts_X5_waiting
set_option maxRecDepth 20000 in
theorem ggL_areContracts_X5_initial : GoodIn wsL_areContracts wsX5_initial := goodIn_ca (goodIn_r _ [24, 25, 26, 27, 7, 28, 29, 30, 9, 31, 10, 11, 12, 13, 14, 15, 32, 33, 34, 35, 36, 37, 38, 39, 40, 41, 42, 43, 44, 45, 46, 47, 48, 49, 50, 51, 52, 53, 54, 123, 124, 125, 126, 127, 128, 129, 130, 131, 132, 133, 134, 135, 136, 137, 138] (by decide +kernel) (by decide +kernel)) (goodIn_sub (fun _ h => List.mem_cons_of_mem _ (List.mem_append_left _ (List.mem_append_right _ h))) (by decide +kernel))
set_option maxRecDepth 20000 in
theorem gL_areContracts_X5_initial : GoodIn wsL_areContracts (wsV RL 65 RX5 yX5_initial wsX5_initial) := goodIn_app (goodIn_of _ (by decide +kernel)) ggL_areContracts_X5_initial
set_option maxRecDepth 20000 in
theorem ggL_areContracts_X5_units : GoodIn wsL_areContracts wsX5_units := goodIn_ca (goodIn_ca (goodIn_r _ [58, 25, 26, 27, 7, 28, 29, 30, 9, 31, 10, 11, 12, 13, 14, 15, 32, 33, 34, 35, 36, 37, 38, 39, 40, 41, 42, 43, 44, 45, 46, 47, 48, 59, 60, 61, 62, 63, 64, 65, 66, 67, 68, 69, 52, 70, 71, 123, 124, 125, 126, 127, 128, 129, 130, 131, 132, 133, 134, 135, 136, 137, 138] (by decide +kernel) (by decide +kernel)) (goodIn_sub (fun _ h => List.mem_cons_of_mem _ (List.mem_append_left _ (List.mem_append_right _ h))) (by decide +kernel))) (goodIn_sub (fun _ h => List.mem_cons_of_mem _ (List.mem_append_right _ h)) (by decide +kernel))
set_option maxRecDepth 20000 in
theorem gL_areContracts_X5_units : GoodIn wsL_areContracts (wsV RL 57 RX5 yX5_units wsX5_units) := goodIn_app (goodIn_of _ (by decide +kernel)) ggL_areContracts_X5_units
set_option maxRecDepth 20000 in
theorem ggL_areContracts_X5_worth : GoodIn wsL_areContracts wsX5_worth := goodIn_ca (goodIn_r _ [75, 76, 25, 26, 27, 7, 28, 29, 30, 9, 31, 10, 11, 12, 13, 14, 15, 32, 33, 34, 35, 36, 37, 38, 39, 40, 41, 42, 43, 44, 45, 46, 47, 48, 77, 78, 79, 52, 80, 54, 81, 71, 82, 83, 84, 85, 86, 87, 88, 89, 90, 91, 92, 65, 66, 93, 94, 95, 123, 124, 125, 126, 127, 128, 129, 130, 131, 132, 133, 134, 135, 136, 137, 138, 139, 140] (by decide +kernel) (by decide +kernel)) (goodIn_sub (fun _ h => List.mem_cons_of_mem _ (List.mem_append_left _ (List.mem_append_right _ h))) (by decide +kernel))
set_option maxRecDepth 20000 in
theorem gL_areContracts_X5_worth : GoodIn wsL_areContracts (wsV RL 26 RX5 yX5_worth wsX5_worth) := goodIn_app (goodIn_of _ (by decide +kernel)) ggL_areContracts_X5_worth
set_option maxRecDepth 20000 in
theorem ggL_areContracts_X5_paid : GoodIn wsL_areContracts wsX5_paid := goodIn_ca (goodIn_r _ [99, 25, 26, 27, 7, 28, 29, 30, 9, 31, 10, 11, 12, 13, 14, 15, 32, 33, 34, 35, 36, 37, 38, 39, 40, 41, 42, 43, 44, 45, 46, 47, 48, 100, 101, 102, 52, 103, 104, 123, 124, 125, 126, 127, 128, 129, 130, 131, 132, 133, 134, 135, 136, 137, 138] (by decide +kernel) (by decide +kernel)) (goodIn_sub (fun _ h => List.mem_cons_of_mem _ (List.mem_append_left _ (List.mem_append_right _ h))) (by decide +kernel))
set_option maxRecDepth 20000 in
theorem gL_areContracts_X5_paid : GoodIn wsL_areContracts (wsV RL 37 RX5 yX5_paid wsX5_paid) := goodIn_app (goodIn_of _ (by decide +kernel)) ggL_areContracts_X5_paid
set_option maxRecDepth 20000 in
theorem ggL_areContracts_X5_isInForce : GoodIn wsL_areContracts wsX5_isInForce := goodIn_ca (goodIn_r _ [108, 25, 26, 27, 7, 28, 29, 30, 9, 31, 10, 11, 12, 13, 14, 15, 32, 33, 34, 35, 36, 37, 38, 39, 40, 41, 42, 43, 44, 45, 46, 47, 48, 109, 110, 111, 52, 112, 113, 123, 124, 125, 126, 127, 128, 129, 130, 131, 132, 133, 134, 135, 136, 137, 138] (by decide +kernel) (by decide +kernel)) (goodIn_sub (fun _ h => List.mem_cons_of_mem _ (List.mem_append_left _ (List.mem_append_right _ h))) (by decide +kernel))
set_option maxRecDepth 20000 in
theorem gL_areContracts_X5_isInForce : GoodIn wsL_areContracts (wsV RL 22 RX5 yX5_isInForce wsX5_isInForce) := goodIn_app (goodIn_of _ (by decide +kernel)) ggL_areContracts_X5_isInForce
set_option maxRecDepth 20000 in
theorem ggL_areContracts_X5_fundUnits : GoodIn wsL_areContracts wsX5_fundUnits := goodIn_ca (goodIn_r _ [117, 9, 31, 59, 60, 7, 61, 62, 63, 64, 65, 66, 10, 11, 12, 13, 14, 15, 32, 33, 34, 35, 36, 37, 38, 39, 40, 41, 42, 43, 44, 45, 46, 47, 48, 118, 119, 120, 52, 121, 81, 54, 122, 68, 69, 70, 71, 123, 124, 125, 126, 127, 128, 129, 130, 131, 132, 133, 134, 135, 136, 137, 138] (by decide +kernel) (by decide +kernel)) (goodIn_sub (fun _ h => List.mem_cons_of_mem _ (List.mem_append_right _ h)) (by decide +kernel))
set_option maxRecDepth 20000 in
theorem gL_areContracts_X5_fundUnits : GoodIn wsL_areContracts (wsV RL 92 RX5 yX5_fundUnits wsX5_fundUnits) := goodIn_app (goodIn_of _ (by decide +kernel)) ggL_areContracts_X5_fundUnits
theorem dL_areContracts_0 : decode cL_areContracts 0 = .ok (.aload_n 0, 1) := by decide +kernel
theorem dL_areContracts_1 : decode cL_areContracts 1 = .ok (.invokevirtual 10, 3) := by decide +kernel
theorem dL_areContracts_4 : decode cL_areContracts 4 = .ok (.aload_n 1, 1) := by decide +kernel
theorem dL_areContracts_5 : decode cL_areContracts 5 = .ok (.iconst 1, 1) := by decide +kernel
theorem dL_areContracts_6 : decode cL_areContracts 6 = .ok (.iaload, 1) := by decide +kernel
theorem dL_areContracts_7 : decode cL_areContracts 7 = .ok (.if_icmp .ne 17, 3) := by decide +kernel
theorem dL_areContracts_10 : decode cL_areContracts 10 = .ok (.aload_n 0, 1) := by decide +kernel
theorem dL_areContracts_11 : decode cL_areContracts 11 = .ok (.invokevirtual 34, 3) := by decide +kernel
theorem dL_areContracts_14 : decode cL_areContracts 14 = .ok (.aload_n 1, 1) := by decide +kernel
theorem dL_areContracts_15 : decode cL_areContracts 15 = .ok (.iconst 2, 1) := by decide +kernel
theorem dL_areContracts_16 : decode cL_areContracts 16 = .ok (.iaload, 1) := by decide +kernel
theorem dL_areContracts_17 : decode cL_areContracts 17 = .ok (.if_icmp .ne 7, 3) := by decide +kernel
theorem dL_areContracts_20 : decode cL_areContracts 20 = .ok (.iconst 1, 1) := by decide +kernel
theorem dL_areContracts_21 : decode cL_areContracts 21 = .ok (.goto 4, 3) := by decide +kernel
theorem dL_areContracts_24 : decode cL_areContracts 24 = .ok (.iconst 0, 1) := by decide +kernel
theorem dL_areContracts_25 : decode cL_areContracts 25 = .ok (.istore_n 2, 1) := by decide +kernel
theorem dL_areContracts_26 : decode cL_areContracts 26 = .ok (.iconst 3, 1) := by decide +kernel
theorem dL_areContracts_27 : decode cL_areContracts 27 = .ok (.newarray .long, 2) := by decide +kernel
theorem dL_areContracts_29 : decode cL_areContracts 29 = .ok (.astore_n 3, 1) := by decide +kernel
theorem dL_areContracts_30 : decode cL_areContracts 30 = .ok (.iconst 0, 1) := by decide +kernel
theorem dL_areContracts_31 : decode cL_areContracts 31 = .ok (.istore 4, 2) := by decide +kernel
theorem dL_areContracts_33 : decode cL_areContracts 33 = .ok (.iload 4, 2) := by decide +kernel
theorem dL_areContracts_35 : decode cL_areContracts 35 = .ok (.aload_n 1, 1) := by decide +kernel
theorem dL_areContracts_36 : decode cL_areContracts 36 = .ok (.iconst 1, 1) := by decide +kernel
theorem dL_areContracts_37 : decode cL_areContracts 37 = .ok (.iaload, 1) := by decide +kernel
theorem dL_areContracts_38 : decode cL_areContracts 38 = .ok (.if_icmp .ge 219, 3) := by decide +kernel
theorem dL_areContracts_41 : decode cL_areContracts 41 = .ok (.iload_n 2, 1) := by decide +kernel
theorem dL_areContracts_42 : decode cL_areContracts 42 = .ok (.ifCond .eq 215, 3) := by decide +kernel
theorem dL_areContracts_45 : decode cL_areContracts 45 = .ok (.aload_n 0, 1) := by decide +kernel
theorem dL_areContracts_46 : decode cL_areContracts 46 = .ok (.iload 4, 2) := by decide +kernel
theorem dL_areContracts_48 : decode cL_areContracts 48 = .ok (.invokevirtual 65, 3) := by decide +kernel
theorem dL_areContracts_51 : decode cL_areContracts 51 = .ok (.lstore 5, 2) := by decide +kernel
theorem dL_areContracts_53 : decode cL_areContracts 53 = .ok (.lload 5, 2) := by decide +kernel
theorem dL_areContracts_55 : decode cL_areContracts 55 = .ok (.aload_n 1, 1) := by decide +kernel
theorem dL_areContracts_56 : decode cL_areContracts 56 = .ok (.iconst 3, 1) := by decide +kernel
theorem dL_areContracts_57 : decode cL_areContracts 57 = .ok (.aload_n 1, 1) := by decide +kernel
theorem dL_areContracts_58 : decode cL_areContracts 58 = .ok (.bipush 12, 2) := by decide +kernel
theorem dL_areContracts_60 : decode cL_areContracts 60 = .ok (.iload 4, 2) := by decide +kernel
theorem dL_areContracts_62 : decode cL_areContracts 62 = .ok (.iadd, 1) := by decide +kernel
theorem dL_areContracts_63 : decode cL_areContracts 63 = .ok (.iaload, 1) := by decide +kernel
theorem dL_areContracts_64 : decode cL_areContracts 64 = .ok (.iadd, 1) := by decide +kernel
theorem dL_areContracts_65 : decode cL_areContracts 65 = .ok (.iaload, 1) := by decide +kernel
theorem dL_areContracts_66 : decode cL_areContracts 66 = .ok (.i2l, 1) := by decide +kernel
theorem dL_areContracts_67 : decode cL_areContracts 67 = .ok (.lmul, 1) := by decide +kernel
theorem dL_areContracts_68 : decode cL_areContracts 68 = .ok (.ldc2_w 68, 3) := by decide +kernel
theorem dL_areContracts_71 : decode cL_areContracts 71 = .ok (.ldiv, 1) := by decide +kernel
theorem dL_areContracts_72 : decode cL_areContracts 72 = .ok (.lstore 7, 2) := by decide +kernel
theorem dL_areContracts_74 : decode cL_areContracts 74 = .ok (.aload_n 3, 1) := by decide +kernel
theorem dL_areContracts_75 : decode cL_areContracts 75 = .ok (.aload_n 1, 1) := by decide +kernel
theorem dL_areContracts_76 : decode cL_areContracts 76 = .ok (.bipush 12, 2) := by decide +kernel
theorem dL_areContracts_78 : decode cL_areContracts 78 = .ok (.iload 4, 2) := by decide +kernel
theorem dL_areContracts_80 : decode cL_areContracts 80 = .ok (.iadd, 1) := by decide +kernel
theorem dL_areContracts_81 : decode cL_areContracts 81 = .ok (.iaload, 1) := by decide +kernel
theorem dL_areContracts_82 : decode cL_areContracts 82 = .ok (.dup2, 1) := by decide +kernel
theorem dL_areContracts_83 : decode cL_areContracts 83 = .ok (.laload, 1) := by decide +kernel
theorem dL_areContracts_84 : decode cL_areContracts 84 = .ok (.lload 5, 2) := by decide +kernel
theorem dL_areContracts_86 : decode cL_areContracts 86 = .ok (.ladd, 1) := by decide +kernel
theorem dL_areContracts_87 : decode cL_areContracts 87 = .ok (.lastore, 1) := by decide +kernel
theorem dL_areContracts_88 : decode cL_areContracts 88 = .ok (.iconst 0, 1) := by decide +kernel
theorem dL_areContracts_89 : decode cL_areContracts 89 = .ok (.istore 9, 2) := by decide +kernel
theorem dL_areContracts_91 : decode cL_areContracts 91 = .ok (.iload 9, 2) := by decide +kernel
theorem dL_areContracts_93 : decode cL_areContracts 93 = .ok (.iconst 3, 1) := by decide +kernel
theorem dL_areContracts_94 : decode cL_areContracts 94 = .ok (.if_icmp .ge 73, 3) := by decide +kernel
theorem dL_areContracts_97 : decode cL_areContracts 97 = .ok (.aload_n 0, 1) := by decide +kernel
theorem dL_areContracts_98 : decode cL_areContracts 98 = .ok (.iload 4, 2) := by decide +kernel
theorem dL_areContracts_100 : decode cL_areContracts 100 = .ok (.iload 9, 2) := by decide +kernel
theorem dL_areContracts_102 : decode cL_areContracts 102 = .ok (.invokevirtual 57, 3) := by decide +kernel
theorem dL_areContracts_105 : decode cL_areContracts 105 = .ok (.lstore 10, 2) := by decide +kernel
theorem dL_areContracts_107 : decode cL_areContracts 107 = .ok (.iload_n 2, 1) := by decide +kernel
theorem dL_areContracts_108 : decode cL_areContracts 108 = .ok (.ifCond .eq 23, 3) := by decide +kernel
theorem dL_areContracts_111 : decode cL_areContracts 111 = .ok (.lload 10, 2) := by decide +kernel
theorem dL_areContracts_113 : decode cL_areContracts 113 = .ok (.lconst 0, 1) := by decide +kernel
theorem dL_areContracts_114 : decode cL_areContracts 114 = .ok (.lcmp, 1) := by decide +kernel
theorem dL_areContracts_115 : decode cL_areContracts 115 = .ok (.ifCond .lt 16, 3) := by decide +kernel
theorem dL_areContracts_118 : decode cL_areContracts 118 = .ok (.lload 10, 2) := by decide +kernel
theorem dL_areContracts_120 : decode cL_areContracts 120 = .ok (.ldc2_w 77, 3) := by decide +kernel
theorem dL_areContracts_123 : decode cL_areContracts 123 = .ok (.lcmp, 1) := by decide +kernel
theorem dL_areContracts_124 : decode cL_areContracts 124 = .ok (.ifCond .gt 7, 3) := by decide +kernel
theorem dL_areContracts_127 : decode cL_areContracts 127 = .ok (.iconst 1, 1) := by decide +kernel
theorem dL_areContracts_128 : decode cL_areContracts 128 = .ok (.goto 4, 3) := by decide +kernel
theorem dL_areContracts_131 : decode cL_areContracts 131 = .ok (.iconst 0, 1) := by decide +kernel
theorem dL_areContracts_132 : decode cL_areContracts 132 = .ok (.istore_n 2, 1) := by decide +kernel
theorem dL_areContracts_133 : decode cL_areContracts 133 = .ok (.lload 7, 2) := by decide +kernel
theorem dL_areContracts_135 : decode cL_areContracts 135 = .ok (.lload 10, 2) := by decide +kernel
theorem dL_areContracts_137 : decode cL_areContracts 137 = .ok (.aload_n 1, 1) := by decide +kernel
theorem dL_areContracts_138 : decode cL_areContracts 138 = .ok (.iconst 3, 1) := by decide +kernel
theorem dL_areContracts_139 : decode cL_areContracts 139 = .ok (.iload 9, 2) := by decide +kernel
theorem dL_areContracts_141 : decode cL_areContracts 141 = .ok (.iadd, 1) := by decide +kernel
theorem dL_areContracts_142 : decode cL_areContracts 142 = .ok (.iaload, 1) := by decide +kernel
theorem dL_areContracts_143 : decode cL_areContracts 143 = .ok (.i2l, 1) := by decide +kernel
theorem dL_areContracts_144 : decode cL_areContracts 144 = .ok (.lmul, 1) := by decide +kernel
theorem dL_areContracts_145 : decode cL_areContracts 145 = .ok (.ldc2_w 68, 3) := by decide +kernel
theorem dL_areContracts_148 : decode cL_areContracts 148 = .ok (.ldiv, 1) := by decide +kernel
theorem dL_areContracts_149 : decode cL_areContracts 149 = .ok (.ladd, 1) := by decide +kernel
theorem dL_areContracts_150 : decode cL_areContracts 150 = .ok (.lstore 7, 2) := by decide +kernel
theorem dL_areContracts_152 : decode cL_areContracts 152 = .ok (.aload_n 3, 1) := by decide +kernel
theorem dL_areContracts_153 : decode cL_areContracts 153 = .ok (.iload 9, 2) := by decide +kernel
theorem dL_areContracts_155 : decode cL_areContracts 155 = .ok (.dup2, 1) := by decide +kernel
theorem dL_areContracts_156 : decode cL_areContracts 156 = .ok (.laload, 1) := by decide +kernel
theorem dL_areContracts_157 : decode cL_areContracts 157 = .ok (.lload 10, 2) := by decide +kernel
theorem dL_areContracts_159 : decode cL_areContracts 159 = .ok (.ladd, 1) := by decide +kernel
theorem dL_areContracts_160 : decode cL_areContracts 160 = .ok (.lastore, 1) := by decide +kernel
theorem dL_areContracts_161 : decode cL_areContracts 161 = .ok (.iinc 9 1, 3) := by decide +kernel
theorem dL_areContracts_164 : decode cL_areContracts 164 = .ok (.goto (-73), 3) := by decide +kernel
theorem dL_areContracts_167 : decode cL_areContracts 167 = .ok (.iload_n 2, 1) := by decide +kernel
theorem dL_areContracts_168 : decode cL_areContracts 168 = .ok (.ifCond .eq 81, 3) := by decide +kernel
theorem dL_areContracts_171 : decode cL_areContracts 171 = .ok (.lload 5, 2) := by decide +kernel
theorem dL_areContracts_173 : decode cL_areContracts 173 = .ok (.lconst 0, 1) := by decide +kernel
theorem dL_areContracts_174 : decode cL_areContracts 174 = .ok (.lcmp, 1) := by decide +kernel
theorem dL_areContracts_175 : decode cL_areContracts 175 = .ok (.ifCond .lt 74, 3) := by decide +kernel
theorem dL_areContracts_178 : decode cL_areContracts 178 = .ok (.aload_n 0, 1) := by decide +kernel
theorem dL_areContracts_179 : decode cL_areContracts 179 = .ok (.iload 4, 2) := by decide +kernel
theorem dL_areContracts_181 : decode cL_areContracts 181 = .ok (.invokevirtual 26, 3) := by decide +kernel
theorem dL_areContracts_184 : decode cL_areContracts 184 = .ok (.lload 7, 2) := by decide +kernel
theorem dL_areContracts_186 : decode cL_areContracts 186 = .ok (.lcmp, 1) := by decide +kernel
theorem dL_areContracts_187 : decode cL_areContracts 187 = .ok (.ifCond .ne 62, 3) := by decide +kernel
theorem dL_areContracts_190 : decode cL_areContracts 190 = .ok (.aload_n 0, 1) := by decide +kernel
theorem dL_areContracts_191 : decode cL_areContracts 191 = .ok (.iload 4, 2) := by decide +kernel
theorem dL_areContracts_193 : decode cL_areContracts 193 = .ok (.invokevirtual 37, 3) := by decide +kernel
theorem dL_areContracts_196 : decode cL_areContracts 196 = .ok (.aload_n 1, 1) := by decide +kernel
theorem dL_areContracts_197 : decode cL_areContracts 197 = .ok (.bipush 18, 2) := by decide +kernel
theorem dL_areContracts_199 : decode cL_areContracts 199 = .ok (.iload 4, 2) := by decide +kernel
theorem dL_areContracts_201 : decode cL_areContracts 201 = .ok (.iadd, 1) := by decide +kernel
theorem dL_areContracts_202 : decode cL_areContracts 202 = .ok (.iaload, 1) := by decide +kernel
theorem dL_areContracts_203 : decode cL_areContracts 203 = .ok (.if_icmp .ne 46, 3) := by decide +kernel
theorem dL_areContracts_206 : decode cL_areContracts 206 = .ok (.aload_n 0, 1) := by decide +kernel
theorem dL_areContracts_207 : decode cL_areContracts 207 = .ok (.iload 4, 2) := by decide +kernel
theorem dL_areContracts_209 : decode cL_areContracts 209 = .ok (.invokevirtual 22, 3) := by decide +kernel
theorem dL_areContracts_212 : decode cL_areContracts 212 = .ok (.ifCond .ne 17, 3) := by decide +kernel
theorem dL_areContracts_215 : decode cL_areContracts 215 = .ok (.lload 7, 2) := by decide +kernel
theorem dL_areContracts_217 : decode cL_areContracts 217 = .ok (.lconst 0, 1) := by decide +kernel
theorem dL_areContracts_218 : decode cL_areContracts 218 = .ok (.lcmp, 1) := by decide +kernel
theorem dL_areContracts_219 : decode cL_areContracts 219 = .ok (.ifCond .ne 30, 3) := by decide +kernel
theorem dL_areContracts_222 : decode cL_areContracts 222 = .ok (.lload 5, 2) := by decide +kernel
theorem dL_areContracts_224 : decode cL_areContracts 224 = .ok (.lconst 0, 1) := by decide +kernel
theorem dL_areContracts_225 : decode cL_areContracts 225 = .ok (.lcmp, 1) := by decide +kernel
theorem dL_areContracts_226 : decode cL_areContracts 226 = .ok (.ifCond .ne 23, 3) := by decide +kernel
theorem dL_areContracts_229 : decode cL_areContracts 229 = .ok (.lload 5, 2) := by decide +kernel
theorem dL_areContracts_231 : decode cL_areContracts 231 = .ok (.lconst 0, 1) := by decide +kernel
theorem dL_areContracts_232 : decode cL_areContracts 232 = .ok (.lcmp, 1) := by decide +kernel
theorem dL_areContracts_233 : decode cL_areContracts 233 = .ok (.ifCond .eq 12, 3) := by decide +kernel
theorem dL_areContracts_236 : decode cL_areContracts 236 = .ok (.aload_n 0, 1) := by decide +kernel
theorem dL_areContracts_237 : decode cL_areContracts 237 = .ok (.iload 4, 2) := by decide +kernel
theorem dL_areContracts_239 : decode cL_areContracts 239 = .ok (.invokevirtual 37, 3) := by decide +kernel
theorem dL_areContracts_242 : decode cL_areContracts 242 = .ok (.ifCond .le 7, 3) := by decide +kernel
theorem dL_areContracts_245 : decode cL_areContracts 245 = .ok (.iconst 1, 1) := by decide +kernel
theorem dL_areContracts_246 : decode cL_areContracts 246 = .ok (.goto 4, 3) := by decide +kernel
theorem dL_areContracts_249 : decode cL_areContracts 249 = .ok (.iconst 0, 1) := by decide +kernel
theorem dL_areContracts_250 : decode cL_areContracts 250 = .ok (.istore_n 2, 1) := by decide +kernel
theorem dL_areContracts_251 : decode cL_areContracts 251 = .ok (.iinc 4 1, 3) := by decide +kernel
theorem dL_areContracts_254 : decode cL_areContracts 254 = .ok (.goto (-221), 3) := by decide +kernel
theorem dL_areContracts_257 : decode cL_areContracts 257 = .ok (.iload_n 2, 1) := by decide +kernel
theorem dL_areContracts_258 : decode cL_areContracts 258 = .ok (.ifCond .eq 43, 3) := by decide +kernel
theorem dL_areContracts_261 : decode cL_areContracts 261 = .ok (.aload_n 0, 1) := by decide +kernel
theorem dL_areContracts_262 : decode cL_areContracts 262 = .ok (.iconst 0, 1) := by decide +kernel
theorem dL_areContracts_263 : decode cL_areContracts 263 = .ok (.invokevirtual 92, 3) := by decide +kernel
theorem dL_areContracts_266 : decode cL_areContracts 266 = .ok (.aload_n 3, 1) := by decide +kernel
theorem dL_areContracts_267 : decode cL_areContracts 267 = .ok (.iconst 0, 1) := by decide +kernel
theorem dL_areContracts_268 : decode cL_areContracts 268 = .ok (.laload, 1) := by decide +kernel
theorem dL_areContracts_269 : decode cL_areContracts 269 = .ok (.lcmp, 1) := by decide +kernel
theorem dL_areContracts_270 : decode cL_areContracts 270 = .ok (.ifCond .ne 31, 3) := by decide +kernel
theorem dL_areContracts_273 : decode cL_areContracts 273 = .ok (.aload_n 0, 1) := by decide +kernel
theorem dL_areContracts_274 : decode cL_areContracts 274 = .ok (.iconst 1, 1) := by decide +kernel
theorem dL_areContracts_275 : decode cL_areContracts 275 = .ok (.invokevirtual 92, 3) := by decide +kernel
theorem dL_areContracts_278 : decode cL_areContracts 278 = .ok (.aload_n 3, 1) := by decide +kernel
theorem dL_areContracts_279 : decode cL_areContracts 279 = .ok (.iconst 1, 1) := by decide +kernel
theorem dL_areContracts_280 : decode cL_areContracts 280 = .ok (.laload, 1) := by decide +kernel
theorem dL_areContracts_281 : decode cL_areContracts 281 = .ok (.lcmp, 1) := by decide +kernel
theorem dL_areContracts_282 : decode cL_areContracts 282 = .ok (.ifCond .ne 19, 3) := by decide +kernel
theorem dL_areContracts_285 : decode cL_areContracts 285 = .ok (.aload_n 0, 1) := by decide +kernel
theorem dL_areContracts_286 : decode cL_areContracts 286 = .ok (.iconst 2, 1) := by decide +kernel
theorem dL_areContracts_287 : decode cL_areContracts 287 = .ok (.invokevirtual 92, 3) := by decide +kernel
theorem dL_areContracts_290 : decode cL_areContracts 290 = .ok (.aload_n 3, 1) := by decide +kernel
theorem dL_areContracts_291 : decode cL_areContracts 291 = .ok (.iconst 2, 1) := by decide +kernel
theorem dL_areContracts_292 : decode cL_areContracts 292 = .ok (.laload, 1) := by decide +kernel
theorem dL_areContracts_293 : decode cL_areContracts 293 = .ok (.lcmp, 1) := by decide +kernel
theorem dL_areContracts_294 : decode cL_areContracts 294 = .ok (.ifCond .ne 7, 3) := by decide +kernel
theorem dL_areContracts_297 : decode cL_areContracts 297 = .ok (.iconst 1, 1) := by decide +kernel
theorem dL_areContracts_298 : decode cL_areContracts 298 = .ok (.goto 4, 3) := by decide +kernel
theorem dL_areContracts_301 : decode cL_areContracts 301 = .ok (.iconst 0, 1) := by decide +kernel
theorem dL_areContracts_302 : decode cL_areContracts 302 = .ok (.ireturn, 1) := by decide +kernel
set_option maxRecDepth 20000 in
theorem ggL_law_X5_init : GoodIn wsL_law wsX5_init := goodIn_r _ [6, 7, 8, 9, 10, 11, 12, 13, 14, 15, 16, 17, 18, 19, 20, 21, 22, 3, 23, 24, 25, 26, 27, 28, 29, 30, 31, 32, 33, 34, 35, 36, 37, 38, 423, 424, 418, 419, 420, 421, 422, 425, 426, 427] (by decide +kernel) (by decide +kernel)
set_option maxRecDepth 20000 in
theorem gL_law_X5_init : GoodIn wsL_law (wsX5_init) := ggL_law_X5_init
set_option maxRecDepth 20000 in
theorem ggL_law_X5_today : GoodIn wsL_law wsX5_today := goodIn_r _ [42, 13, 43, 44, 45, 12, 46, 47, 418, 419, 420, 421, 422, 423, 424] (by decide +kernel) (by decide +kernel)
set_option maxRecDepth 20000 in
theorem gL_law_X5_today : GoodIn wsL_law (wsV RL 86 RX5 yX5_today wsX5_today) := goodIn_app (goodIn_of _ (by decide +kernel)) ggL_law_X5_today
set_option maxRecDepth 20000 in
theorem ggL_law_X5_contracts : GoodIn wsL_law wsX5_contracts := goodIn_r _ [51, 17, 52, 53, 54, 16, 55, 56, 418, 419, 420, 421, 422, 425, 426, 427] (by decide +kernel) (by decide +kernel)
set_option maxRecDepth 20000 in
theorem gL_law_X5_contracts : GoodIn wsL_law (wsV RL 10 RX5 yX5_contracts wsX5_contracts) := goodIn_app (goodIn_of _ (by decide +kernel)) ggL_law_X5_contracts
set_option maxRecDepth 20000 in
theorem ggL_law_X5_charged : GoodIn wsL_law wsX5_charged := goodIn_r _ [60, 61, 418, 419, 420, 421, 422] (by decide +kernel) (by decide +kernel)
set_option maxRecDepth 20000 in
theorem gL_law_X5_charged : GoodIn wsL_law (wsV RL 79 RX5 yX5_charged wsX5_charged) := goodIn_app (goodIn_of _ (by decide +kernel)) ggL_law_X5_charged
set_option maxRecDepth 20000 in
theorem ggL_law_X5_madeGood : GoodIn wsL_law wsX5_madeGood := goodIn_r _ [65, 66, 418, 419, 420, 421, 422] (by decide +kernel) (by decide +kernel)
set_option maxRecDepth 20000 in
theorem gL_law_X5_madeGood : GoodIn wsL_law (wsV RL 61 RX5 yX5_madeGood wsX5_madeGood) := goodIn_app (goodIn_of _ (by decide +kernel)) ggL_law_X5_madeGood
set_option maxRecDepth 20000 in
theorem ggL_law_X5_offer : GoodIn wsL_law wsX5_offer := goodIn_ca (goodIn_r _ [70, 13, 71, 72, 2, 73, 74, 75, 76, 77, 78, 79, 80, 81, 82, 43, 44, 45, 12, 46, 47, 83, 84, 85, 86, 87, 88, 89, 90, 23, 418, 419, 420, 421, 422, 423, 424] (by decide +kernel) (by decide +kernel)) (goodIn_sub (fun _ h => List.mem_append_left _ (List.mem_append_left _ (List.mem_append_right _ h))) (by decide +kernel))
set_option maxRecDepth 20000 in
theorem gL_law_X5_offer : GoodIn wsL_law (wsV RL 70 RX5 yX5_offer wsX5_offer) := goodIn_app (goodIn_of _ (by decide +kernel)) ggL_law_X5_offer
set_option maxRecDepth 20000 in
theorem ggL_law_L_draw : GoodIn wsL_law wsL_draw := goodIn_r _ [94, 95, 96, 97] (by decide +kernel) (by decide +kernel)
set_option maxRecDepth 20000 in
theorem gL_law_L_draw : GoodIn wsL_law (va_wsS RL 96 yL_draw wsL_draw) := goodIn_app (goodIn_of _ (by decide +kernel)) ggL_law_L_draw
set_option maxRecDepth 20000 in
theorem ggL_law_L_step_wsL_step_r1 : GoodIn wsL_law wsL_step_r1 := goodIn_r _ [101, 102, 48, 49, 50, 2, 51, 17, 52, 53, 54, 16, 55, 56, 103, 104, 105, 106, 74, 75, 107, 108, 109, 110] (by decide +kernel) (by decide +kernel)
set_option maxRecDepth 20000 in
theorem ggL_law_L_step_wsL_step_r2 : GoodIn wsL_law wsL_step_r2 := goodIn_r _ [111, 112, 113, 71, 72, 73, 76, 77, 78, 114, 115, 116, 117, 8, 9, 118, 119, 120, 121, 122, 123, 124, 125, 126] (by decide +kernel) (by decide +kernel)
set_option maxRecDepth 20000 in
theorem ggL_law_L_step_wsL_step_r3 : GoodIn wsL_law wsL_step_r3 := goodIn_r _ [127, 128, 129, 130, 28, 131, 132, 133, 134, 135, 136, 137, 138, 139, 140, 141, 142, 27, 143, 144, 145, 146, 147, 148] (by decide +kernel) (by decide +kernel)
set_option maxRecDepth 20000 in
theorem ggL_law_L_step_wsL_step_r4 : GoodIn wsL_law wsL_step_r4 := goodIn_r _ [149, 150, 151, 152, 153, 154, 155, 156, 157, 158, 159, 160, 161, 162, 163, 164, 165, 166, 167, 168, 169, 170, 171, 172] (by decide +kernel) (by decide +kernel)
set_option maxRecDepth 20000 in
theorem ggL_law_L_step_wsL_step_r5 : GoodIn wsL_law wsL_step_r5 := goodIn_r _ [173, 174, 175, 176, 177, 178, 179, 180, 181, 182, 183, 184, 185, 186, 187, 188, 189, 190, 191, 192, 193, 194, 195, 196] (by decide +kernel) (by decide +kernel)
set_option maxRecDepth 20000 in
theorem ggL_law_L_step_wsL_step_r6 : GoodIn wsL_law wsL_step_r6 := goodIn_r _ [197, 198, 199, 200, 201, 202, 203, 204, 205, 206, 207, 208, 209, 210, 211, 13, 212, 213, 214, 215, 216, 217, 218, 219] (by decide +kernel) (by decide +kernel)
set_option maxRecDepth 20000 in
theorem ggL_law_L_step_wsL_step_r7 : GoodIn wsL_law wsL_step_r7 := goodIn_r _ [12, 220, 47, 87, 88, 89, 90, 23, 221, 222, 223, 224, 225, 226, 227, 228, 229, 230, 231, 232, 233, 234, 235, 236] (by decide +kernel) (by decide +kernel)
set_option maxRecDepth 20000 in
theorem ggL_law_L_step_wsL_step_r8 : GoodIn wsL_law wsL_step_r8 := goodIn_r _ [237, 238, 239, 240, 241, 242, 243, 244, 245, 246, 18, 247, 248, 249, 250, 251, 252, 253, 254, 255, 256, 257, 258, 259] (by decide +kernel) (by decide +kernel)
set_option maxRecDepth 20000 in
theorem ggL_law_L_step_wsL_step_r9 : GoodIn wsL_law wsL_step_r9 := goodIn_r _ [260, 261, 262, 263, 264, 265, 266, 267, 268, 269, 270, 271, 272, 273, 274, 275, 276, 93, 277, 278, 279, 280, 281, 282] (by decide +kernel) (by decide +kernel)
set_option maxRecDepth 20000 in
theorem ggL_law_L_step_wsL_step_r10 : GoodIn wsL_law wsL_step_r10 := goodIn_r _ [283, 284, 285, 286, 287, 62, 63, 64, 65, 66, 288, 289, 290, 291, 292, 293, 294, 295, 67, 68, 69, 70, 79, 80] (by decide +kernel) (by decide +kernel)
set_option maxRecDepth 20000 in
theorem ggL_law_L_step_wsL_step_r11 : GoodIn wsL_law wsL_step_r11 := goodIn_r _ [81, 82, 43, 44, 45, 46, 83, 84, 85, 86, 296, 297, 298, 299, 300, 301, 302, 303, 304, 305, 306, 307, 308, 309] (by decide +kernel) (by decide +kernel)
set_option maxRecDepth 20000 in
theorem ggL_law_L_step_wsL_step_r12 : GoodIn wsL_law wsL_step_r12 := goodIn_r _ [310, 311, 312, 313, 314, 315, 316, 317, 318, 319, 320, 321, 322, 323, 324, 325, 326, 327, 328, 329, 330, 57, 58, 59] (by decide +kernel) (by decide +kernel)
set_option maxRecDepth 20000 in
theorem ggL_law_L_step_wsL_step_r13 : GoodIn wsL_law wsL_step_r13 := goodIn_r _ [60, 61, 331, 332, 333, 334, 335, 336, 337, 338, 339, 340, 341, 342, 343, 344, 345, 346, 347, 348, 349, 350, 351, 352] (by decide +kernel) (by decide +kernel)
set_option maxRecDepth 20000 in
theorem ggL_law_L_step_wsL_step_r14 : GoodIn wsL_law wsL_step_r14 := goodIn_r _ [353, 354, 355, 356, 357, 358, 359, 360, 361, 362, 363, 364, 365, 366, 367, 368, 369, 370, 371, 372, 373, 374, 375, 376] (by decide +kernel) (by decide +kernel)
set_option maxRecDepth 20000 in
theorem ggL_law_L_step_wsL_step_r15 : GoodIn wsL_law wsL_step_r15 := goodIn_r _ [377, 378, 379, 380, 381, 382, 383, 384, 385, 386, 387, 388, 389, 390, 391, 392, 393, 394, 395, 396, 397, 39, 40, 41] (by decide +kernel) (by decide +kernel)
set_option maxRecDepth 20000 in
theorem ggL_law_L_step_wsL_step_r16 : GoodIn wsL_law wsL_step_r16 := goodIn_r _ [42, 398, 399, 400, 401, 402, 403, 404, 405] (by decide +kernel) (by decide +kernel)
set_option maxRecDepth 20000 in
theorem ggL_law_L_step_wsX50 : GoodIn wsL_law wsX50 := goodIn_r _ [418, 419, 420, 421, 422] (by decide +kernel) (by decide +kernel)
set_option maxRecDepth 20000 in
theorem ggL_law_L_step_wsJx4a65c0 : GoodIn wsL_law wsJx4a65c0 := goodIn_r _ [425, 426, 427] (by decide +kernel) (by decide +kernel)
set_option maxRecDepth 20000 in
theorem ggL_law_L_step_wsX00 : GoodIn wsL_law wsX00 := goodIn_r _ [428, 429, 430, 431, 432, 433, 434, 435] (by decide +kernel) (by decide +kernel)
set_option maxRecDepth 20000 in
theorem ggL_law_L_step_wsX30 : GoodIn wsL_law wsX30 := goodIn_r _ [423, 424] (by decide +kernel) (by decide +kernel)
set_option maxRecDepth 20000 in
theorem ggL_law_L_step_wsX20 : GoodIn wsL_law wsX20 := goodIn_r _ [436] (by decide +kernel) (by decide +kernel)
set_option maxRecDepth 20000 in
theorem ggL_law_L_step_wsX40 : GoodIn wsL_law wsX40 := goodIn_r _ [437, 438, 439, 440] (by decide +kernel) (by decide +kernel)
set_option maxRecDepth 20000 in
theorem ggL_law_L_step_c : GoodIn wsL_law [Cond.code yL_step cL_step 7 (some .boolean)] := goodIn_r _ [100] (by decide +kernel) (by decide +kernel)
set_option maxRecDepth 20000 in
theorem ggL_law_L_step : GoodIn wsL_law wsL_step := goodIn_ca (goodIn_ca (goodIn_ca (goodIn_app ggL_law_L_step_c (goodIn_app (goodIn_app (goodIn_app (goodIn_app (goodIn_app (goodIn_app (goodIn_app ggL_law_L_step_wsL_step_r1 (goodIn_app ggL_law_L_step_wsL_step_r2 (goodIn_app ggL_law_L_step_wsL_step_r3 (goodIn_app ggL_law_L_step_wsL_step_r4 (goodIn_app ggL_law_L_step_wsL_step_r5 (goodIn_app ggL_law_L_step_wsL_step_r6 (goodIn_app ggL_law_L_step_wsL_step_r7 (goodIn_app ggL_law_L_step_wsL_step_r8 (goodIn_app ggL_law_L_step_wsL_step_r9 (goodIn_app ggL_law_L_step_wsL_step_r10 (goodIn_app ggL_law_L_step_wsL_step_r11 (goodIn_app ggL_law_L_step_wsL_step_r12 (goodIn_app ggL_law_L_step_wsL_step_r13 (goodIn_app ggL_law_L_step_wsL_step_r14 (goodIn_app ggL_law_L_step_wsL_step_r15 ggL_law_L_step_wsL_step_r16))))))))))))))) ggL_law_L_step_wsX50) ggL_law_L_step_wsJx4a65c0) ggL_law_L_step_wsX00) ggL_law_L_step_wsX30) ggL_law_L_step_wsX20) ggL_law_L_step_wsX40)) (goodIn_sub (fun _ h => List.mem_append_left _ (List.mem_append_left _ (List.mem_append_right _ h))) (by decide +kernel))) (goodIn_sub (fun _ h => List.mem_append_left _ (List.mem_append_right _ h)) (by decide +kernel))) (goodIn_sub (fun _ h => List.mem_append_right _ h) (by decide +kernel))
set_option maxRecDepth 20000 in
theorem gL_law_L_step : GoodIn wsL_law (va_wsS RL 100 yL_step wsL_step) := goodIn_app (goodIn_of _ (by decide +kernel)) ggL_law_L_step
set_option maxRecDepth 20000 in
theorem ggL_law_L_areContracts : GoodIn wsL_law wsL_areContracts := goodIn_ca (goodIn_ca (goodIn_r _ [408, 118, 278, 279, 48, 49, 50, 2, 51, 17, 52, 53, 54, 16, 55, 56, 247, 248, 249, 250, 18, 288, 289, 290, 291, 181, 182, 183, 184, 185, 186, 187, 188, 189, 190, 191, 192, 193, 194, 195, 196, 197, 198, 199, 200, 201, 202, 203, 28, 292, 293, 294, 113, 295, 216, 280, 281, 282, 283, 71, 72, 73, 74, 75, 76, 77, 78, 284, 285, 286, 287, 119, 208, 209, 210, 211, 13, 212, 213, 214, 215, 124, 217, 218, 219, 12, 220, 47, 87, 88, 89, 90, 23, 221, 222, 223, 251, 252, 253, 254, 255, 256, 257, 258, 259, 177, 178, 179, 180, 204, 205, 206, 207, 120, 409, 410, 411, 412, 413, 414, 415, 416, 417, 418, 419, 420, 421, 422, 425, 426, 427, 428, 429, 430, 431, 432, 433, 434, 435, 423, 424] (by decide +kernel) (by decide +kernel)) (goodIn_sub (fun _ h => List.mem_append_right _ h) (by decide +kernel))) (goodIn_sub (fun _ h => List.mem_append_left _ (List.mem_append_left _ (List.mem_append_right _ h))) (by decide +kernel))
set_option maxRecDepth 20000 in
theorem gL_law_L_areContracts : GoodIn wsL_law (va_wsS RL 103 yL_areContracts wsL_areContracts) := goodIn_app (goodIn_of _ (by decide +kernel)) ggL_law_L_areContracts
