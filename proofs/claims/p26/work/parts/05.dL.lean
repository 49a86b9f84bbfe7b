theorem dL_cell_0 : decode cL_cell 0 = .ok (.iload_n 1, 1) := by decide +kernel
theorem dL_cell_1 : decode cL_cell 1 = .ok (.aload_n 0, 1) := by decide +kernel
theorem dL_cell_2 : decode cL_cell 2 = .ok (.arraylength, 1) := by decide +kernel
theorem dL_cell_3 : decode cL_cell 3 = .ok (.if_icmp .ge 9, 3) := by decide +kernel
theorem dL_cell_6 : decode cL_cell 6 = .ok (.aload_n 0, 1) := by decide +kernel
theorem dL_cell_7 : decode cL_cell 7 = .ok (.iload_n 1, 1) := by decide +kernel
theorem dL_cell_8 : decode cL_cell 8 = .ok (.iaload, 1) := by decide +kernel
theorem dL_cell_9 : decode cL_cell 9 = .ok (.goto 18, 3) := by decide +kernel
theorem dL_cell_12 : decode cL_cell 12 = .ok (.sipush 7919, 3) := by decide +kernel
theorem dL_cell_15 : decode cL_cell 15 = .ok (.iload_n 1, 1) := by decide +kernel
theorem dL_cell_16 : decode cL_cell 16 = .ok (.sipush 557, 3) := by decide +kernel
theorem dL_cell_19 : decode cL_cell 19 = .ok (.iadd, 1) := by decide +kernel
theorem dL_cell_20 : decode cL_cell 20 = .ok (.imul, 1) := by decide +kernel
theorem dL_cell_21 : decode cL_cell 21 = .ok (.iload_n 1, 1) := by decide +kernel
theorem dL_cell_22 : decode cL_cell 22 = .ok (.sipush 2857, 3) := by decide +kernel
theorem dL_cell_25 : decode cL_cell 25 = .ok (.iadd, 1) := by decide +kernel
theorem dL_cell_26 : decode cL_cell 26 = .ok (.imul, 1) := by decide +kernel
theorem dL_cell_27 : decode cL_cell 27 = .ok (.ireturn, 1) := by decide +kernel
theorem dL_low_0 : decode cL_low 0 = .ok (.iload_n 0, 1) := by decide +kernel
theorem dL_low_1 : decode cL_low 1 = .ok (.ldc 7, 2) := by decide +kernel
theorem dL_low_3 : decode cL_low 3 = .ok (.iand, 1) := by decide +kernel
theorem dL_low_4 : decode cL_low 4 = .ok (.iload_n 1, 1) := by decide +kernel
theorem dL_low_5 : decode cL_low 5 = .ok (.irem, 1) := by decide +kernel
theorem dL_low_6 : decode cL_low 6 = .ok (.ireturn, 1) := by decide +kernel
set_option maxRecDepth 20000 in
theorem ggL_does_X4_addSeller : GoodIn wsL_does wsX4_addSeller := goodIn_ca (goodIn_ca (goodIn_r _ [9, 10, 11, 12, 13, 14, 15, 16, 17, 18, 19, 20, 21, 22, 23, 24, 230, 231, 232, 233, 234, 235, 236, 237, 238, 239, 240, 241, 242, 243, 244, 245, 246, 247, 248, 249] (by decide +kernel) (by decide +kernel)) (goodIn_sub (fun _ h => List.mem_cons_of_mem _ (List.mem_append_left _ (List.mem_append_left _ (List.mem_append_right _ h)))) (by decide +kernel))) (goodIn_sub (fun _ h => List.mem_cons_of_mem _ (List.mem_append_left _ (List.mem_append_right _ h))) (by decide +kernel))
set_option maxRecDepth 20000 in
theorem gL_does_X4_addSeller : GoodIn wsL_does (wsV RL 8 RX4 yX4_addSeller wsX4_addSeller) := goodIn_app (goodIn_of _ (by decide +kernel)) ggL_does_X4_addSeller
set_option maxRecDepth 20000 in
theorem ggL_does_X4_verify : GoodIn wsL_does wsX4_verify := goodIn_ca (goodIn_ca (goodIn_r _ [28, 14, 29, 30, 31, 32, 8, 33, 10, 11, 15, 34, 35, 36, 37, 38, 230, 231, 232, 233, 234, 235, 236, 237, 238, 239, 240, 241, 242, 243, 244, 245, 246, 247, 248, 249] (by decide +kernel) (by decide +kernel)) (goodIn_sub (fun _ h => List.mem_cons_of_mem _ (List.mem_append_left _ (List.mem_append_left _ (List.mem_append_right _ h)))) (by decide +kernel))) (goodIn_sub (fun _ h => List.mem_cons_of_mem _ (List.mem_append_right _ h)) (by decide +kernel))
set_option maxRecDepth 20000 in
theorem gL_does_X4_verify : GoodIn wsL_does (wsV RL 14 RX4 yX4_verify wsX4_verify) := goodIn_app (goodIn_of _ (by decide +kernel)) ggL_does_X4_verify
set_option maxRecDepth 20000 in
theorem ggL_does_L_sets : GoodIn wsL_does wsL_sets := goodIn_ca (goodIn_ca (goodIn_r _ [42, 43, 44, 45, 8, 46, 47, 14, 48, 49, 30, 31, 32, 33, 10, 11, 15, 34, 35, 36, 37, 38, 50, 51, 52, 53, 54, 55, 230, 231, 232, 233, 234, 235, 236, 237, 238, 239, 240, 241, 242, 243, 244, 245, 246, 247, 248, 249] (by decide +kernel) (by decide +kernel)) (goodIn_sub (fun _ h => List.mem_cons_of_mem _ (List.mem_append_left _ (List.mem_append_left _ (List.mem_append_right _ h)))) (by decide +kernel))) (goodIn_sub (fun _ h => List.mem_cons_of_mem _ (List.mem_append_right _ h)) (by decide +kernel))
set_option maxRecDepth 20000 in
theorem gL_does_L_sets : GoodIn wsL_does (va_wsS RL 18 yL_sets wsL_sets) := goodIn_app (goodIn_of _ (by decide +kernel)) ggL_does_L_sets
set_option maxRecDepth 20000 in
theorem ggL_does_X4_setShare : GoodIn wsL_does wsX4_setShare := goodIn_ca (goodIn_ca (goodIn_r _ [59, 60, 61, 62, 8, 63, 10, 11, 34, 35, 36, 37, 38, 64, 65, 66, 67, 68, 69, 70, 71, 230, 231, 232, 233, 234, 235, 236, 237, 238, 239, 240] (by decide +kernel) (by decide +kernel)) (goodIn_sub (fun _ h => List.mem_cons_of_mem _ (List.mem_append_left _ (List.mem_append_left _ (List.mem_append_right _ h)))) (by decide +kernel))) (goodIn_sub (fun _ h => List.mem_cons_of_mem _ (List.mem_append_right _ h)) (by decide +kernel))
set_option maxRecDepth 20000 in
theorem gL_does_X4_setShare : GoodIn wsL_does (wsV RL 24 RX4 yX4_setShare wsX4_setShare) := goodIn_app (goodIn_of _ (by decide +kernel)) ggL_does_X4_setShare
set_option maxRecDepth 20000 in
theorem ggL_does_X4_setTax : GoodIn wsL_does wsX4_setTax := goodIn_ca (goodIn_r _ [75, 76, 34, 35, 8, 36, 37, 38, 230, 231, 232, 233, 234, 235, 236, 237, 238, 239, 240] (by decide +kernel) (by decide +kernel)) (goodIn_sub (fun _ h => List.mem_cons_of_mem _ (List.mem_append_right _ h)) (by decide +kernel))
set_option maxRecDepth 20000 in
theorem gL_does_X4_setTax : GoodIn wsL_does (wsV RL 27 RX4 yX4_setTax wsX4_setTax) := goodIn_app (goodIn_of _ (by decide +kernel)) ggL_does_X4_setTax
set_option maxRecDepth 20000 in
theorem ggL_does_X4_sell : GoodIn wsL_does wsX4_sell := goodIn_ca (goodIn_ca (goodIn_ca (goodIn_r _ [80, 47, 30, 31, 32, 8, 33, 10, 11, 14, 15, 61, 62, 63, 34, 35, 36, 37, 38, 81, 82, 83, 84, 12, 13, 85, 86, 87, 88, 89, 90, 60, 76, 91, 92, 93, 94, 54, 95, 96, 97, 98, 99, 100, 55, 101, 102, 103, 104, 105, 106, 107, 108, 109, 110, 111, 112, 113, 114, 115, 116, 117, 118, 119, 120, 121, 122, 123, 124, 125, 126, 127, 128, 129, 130, 131, 132, 133, 134, 135, 136, 230, 231, 232, 233, 234, 235, 236, 237, 238, 239, 240, 241, 242, 243, 244, 245, 246, 247, 248, 249, 250, 251, 252, 253, 254, 255, 256, 257, 258, 259, 260, 261] (by decide +kernel) (by decide +kernel)) (goodIn_sub (fun _ h => List.mem_cons_of_mem _ (List.mem_append_left _ (List.mem_append_left _ (List.mem_append_right _ h)))) (by decide +kernel))) (goodIn_sub (fun _ h => List.mem_cons_of_mem _ (List.mem_append_right _ h)) (by decide +kernel))) (goodIn_sub (fun _ h => List.mem_cons_of_mem _ (List.mem_append_left _ (List.mem_append_right _ h))) (by decide +kernel))
set_option maxRecDepth 20000 in
theorem gL_does_X4_sell : GoodIn wsL_does (wsV RL 30 RX4 yX4_sell wsX4_sell) := goodIn_app (goodIn_of _ (by decide +kernel)) ggL_does_X4_sell
set_option maxRecDepth 20000 in
theorem ggL_does_X4_order : GoodIn wsL_does wsX4_order := goodIn_ca (goodIn_ca (goodIn_ca (goodIn_r _ [140, 37, 38, 12, 13, 47, 14, 15, 91, 92, 93, 94, 61, 62, 8, 63, 10, 11, 34, 35, 36, 141, 142, 143, 144, 145, 146, 147, 81, 82, 83, 84, 85, 86, 148, 149, 150, 151, 87, 88, 89, 90, 60, 76, 54, 95, 96, 97, 98, 99, 100, 55, 101, 102, 103, 104, 105, 106, 107, 108, 109, 110, 111, 112, 113, 114, 115, 116, 117, 118, 119, 120, 121, 122, 123, 124, 125, 126, 127, 128, 129, 130, 131, 132, 133, 134, 135, 136, 230, 231, 232, 233, 234, 235, 236, 237, 238, 239, 240, 241, 242, 243, 244, 245, 246, 247, 248, 249, 250, 251, 252, 253, 254, 255, 256, 257, 258, 259, 260, 261] (by decide +kernel) (by decide +kernel)) (goodIn_sub (fun _ h => List.mem_cons_of_mem _ (List.mem_append_right _ h)) (by decide +kernel))) (goodIn_sub (fun _ h => List.mem_cons_of_mem _ (List.mem_append_left _ (List.mem_append_right _ h))) (by decide +kernel))) (goodIn_sub (fun _ h => List.mem_cons_of_mem _ (List.mem_append_left _ (List.mem_append_left _ (List.mem_append_right _ h)))) (by decide +kernel))
set_option maxRecDepth 20000 in
theorem gL_does_X4_order : GoodIn wsL_does (wsV RL 34 RX4 yX4_order wsX4_order) := goodIn_app (goodIn_of _ (by decide +kernel)) ggL_does_X4_order
set_option maxRecDepth 20000 in
theorem ggL_does_X4_pass : GoodIn wsL_does wsX4_pass := goodIn_ca (goodIn_ca (goodIn_r _ [155, 12, 13, 100, 156, 157, 34, 35, 8, 36, 37, 38, 158, 159, 160, 161, 14, 15, 48, 162, 163, 164, 165, 85, 86, 99, 98, 166, 167, 168, 169, 170, 118, 119, 120, 121, 122, 123, 124, 125, 126, 127, 128, 129, 130, 131, 132, 133, 134, 135, 136, 171, 172, 173, 174, 91, 92, 93, 94, 175, 176, 177, 178, 179, 180, 181, 182, 183, 184, 185, 186, 187, 188, 29, 49, 189, 190, 191, 192, 193, 194, 195, 196, 197, 198, 199, 200, 201, 202, 203, 204, 205, 206, 207, 208, 209, 210, 211, 212, 213, 214, 215, 216, 217, 218, 230, 231, 232, 233, 234, 235, 236, 237, 238, 239, 240, 262, 263, 264, 265, 241, 242, 243, 244, 245, 246, 247, 248, 249, 250, 251, 252, 253, 254, 255, 256, 257, 258, 259, 260, 261] (by decide +kernel) (by decide +kernel)) (goodIn_sub (fun _ h => List.mem_cons_of_mem _ (List.mem_append_left _ (List.mem_append_right _ h))) (by decide +kernel))) (goodIn_sub (fun _ h => List.mem_cons_of_mem _ (List.mem_append_right _ h)) (by decide +kernel))
set_option maxRecDepth 20000 in
theorem gL_does_X4_pass : GoodIn wsL_does (wsV RL 37 RX4 yX4_pass wsX4_pass) := goodIn_app (goodIn_of _ (by decide +kernel)) ggL_does_X4_pass
set_option maxRecDepth 20000 in
theorem ggL_does_X4_fail : GoodIn wsL_does wsX4_fail := goodIn_ca (goodIn_ca (goodIn_r _ [222, 12, 13, 156, 223, 224, 225, 14, 184, 122, 226, 227, 228, 8, 229, 10, 11, 157, 118, 119, 120, 121, 123, 124, 125, 126, 127, 128, 129, 130, 131, 132, 133, 134, 135, 136, 230, 231, 232, 233, 234, 235, 236, 237, 238, 239, 240, 262, 263, 264, 265, 241, 242, 243, 244, 245, 246, 247, 248, 249, 258, 259, 260, 261] (by decide +kernel) (by decide +kernel)) (goodIn_sub (fun _ h => List.mem_cons_of_mem _ (List.mem_append_left _ (List.mem_append_right _ h))) (by decide +kernel))) (goodIn_sub (fun _ h => List.mem_cons_of_mem _ (List.mem_append_left _ (List.mem_append_left _ (List.mem_append_right _ h)))) (by decide +kernel))
set_option maxRecDepth 20000 in
theorem gL_does_X4_fail : GoodIn wsL_does (wsV RL 40 RX4 yX4_fail wsX4_fail) := goodIn_app (goodIn_of _ (by decide +kernel)) ggL_does_X4_fail
theorem dL_does_0 : decode cL_does 0 = .ok (.iload_n 1, 1) := by decide +kernel
theorem dL_does_1 : decode cL_does 1 = .ok (.ifCond .ne 11, 3) := by decide +kernel
theorem dL_does_4 : decode cL_does 4 = .ok (.aload_n 0, 1) := by decide +kernel
theorem dL_does_5 : decode cL_does 5 = .ok (.iload_n 2, 1) := by decide +kernel
theorem dL_does_6 : decode cL_does 6 = .ok (.invokevirtual 8, 3) := by decide +kernel
theorem dL_does_9 : decode cL_does 9 = .ok (.goto 131, 3) := by decide +kernel
theorem dL_does_12 : decode cL_does 12 = .ok (.iload_n 1, 1) := by decide +kernel
theorem dL_does_13 : decode cL_does 13 = .ok (.iconst 1, 1) := by decide +kernel
theorem dL_does_14 : decode cL_does 14 = .ok (.if_icmp .ne 12, 3) := by decide +kernel
theorem dL_does_17 : decode cL_does 17 = .ok (.aload_n 0, 1) := by decide +kernel
theorem dL_does_18 : decode cL_does 18 = .ok (.iload_n 2, 1) := by decide +kernel
theorem dL_does_19 : decode cL_does 19 = .ok (.iload_n 3, 1) := by decide +kernel
theorem dL_does_20 : decode cL_does 20 = .ok (.invokevirtual 14, 3) := by decide +kernel
theorem dL_does_23 : decode cL_does 23 = .ok (.goto 117, 3) := by decide +kernel
theorem dL_does_26 : decode cL_does 26 = .ok (.iload_n 1, 1) := by decide +kernel
theorem dL_does_27 : decode cL_does 27 = .ok (.iconst 2, 1) := by decide +kernel
theorem dL_does_28 : decode cL_does 28 = .ok (.if_icmp .ne 15, 3) := by decide +kernel
theorem dL_does_31 : decode cL_does 31 = .ok (.aload_n 0, 1) := by decide +kernel
theorem dL_does_32 : decode cL_does 32 = .ok (.iconst 1, 1) := by decide +kernel
theorem dL_does_33 : decode cL_does 33 = .ok (.iload_n 2, 1) := by decide +kernel
theorem dL_does_34 : decode cL_does 34 = .ok (.iload_n 3, 1) := by decide +kernel
theorem dL_does_35 : decode cL_does 35 = .ok (.iload 4, 2) := by decide +kernel
theorem dL_does_37 : decode cL_does 37 = .ok (.invokestatic 18, 3) := by decide +kernel
theorem dL_does_40 : decode cL_does 40 = .ok (.goto 100, 3) := by decide +kernel
theorem dL_does_43 : decode cL_does 43 = .ok (.iload_n 1, 1) := by decide +kernel
theorem dL_does_44 : decode cL_does 44 = .ok (.iconst 3, 1) := by decide +kernel
theorem dL_does_45 : decode cL_does 45 = .ok (.if_icmp .ne 15, 3) := by decide +kernel
theorem dL_does_48 : decode cL_does 48 = .ok (.aload_n 0, 1) := by decide +kernel
theorem dL_does_49 : decode cL_does 49 = .ok (.iconst 0, 1) := by decide +kernel
theorem dL_does_50 : decode cL_does 50 = .ok (.iload_n 2, 1) := by decide +kernel
theorem dL_does_51 : decode cL_does 51 = .ok (.iload_n 3, 1) := by decide +kernel
theorem dL_does_52 : decode cL_does 52 = .ok (.iload 4, 2) := by decide +kernel
theorem dL_does_54 : decode cL_does 54 = .ok (.invokestatic 18, 3) := by decide +kernel
theorem dL_does_57 : decode cL_does 57 = .ok (.goto 83, 3) := by decide +kernel
theorem dL_does_60 : decode cL_does 60 = .ok (.iload_n 1, 1) := by decide +kernel
theorem dL_does_61 : decode cL_does 61 = .ok (.iconst 4, 1) := by decide +kernel
theorem dL_does_62 : decode cL_does 62 = .ok (.if_icmp .ne 12, 3) := by decide +kernel
theorem dL_does_65 : decode cL_does 65 = .ok (.aload_n 0, 1) := by decide +kernel
theorem dL_does_66 : decode cL_does 66 = .ok (.iload_n 2, 1) := by decide +kernel
theorem dL_does_67 : decode cL_does 67 = .ok (.iload_n 3, 1) := by decide +kernel
theorem dL_does_68 : decode cL_does 68 = .ok (.invokevirtual 24, 3) := by decide +kernel
theorem dL_does_71 : decode cL_does 71 = .ok (.goto 69, 3) := by decide +kernel
theorem dL_does_74 : decode cL_does 74 = .ok (.iload_n 1, 1) := by decide +kernel
theorem dL_does_75 : decode cL_does 75 = .ok (.iconst 5, 1) := by decide +kernel
theorem dL_does_76 : decode cL_does 76 = .ok (.if_icmp .ne 11, 3) := by decide +kernel
theorem dL_does_79 : decode cL_does 79 = .ok (.aload_n 0, 1) := by decide +kernel
theorem dL_does_80 : decode cL_does 80 = .ok (.iload_n 2, 1) := by decide +kernel
theorem dL_does_81 : decode cL_does 81 = .ok (.invokevirtual 27, 3) := by decide +kernel
theorem dL_does_84 : decode cL_does 84 = .ok (.goto 56, 3) := by decide +kernel
theorem dL_does_87 : decode cL_does 87 = .ok (.iload_n 1, 1) := by decide +kernel
theorem dL_does_88 : decode cL_does 88 = .ok (.bipush 6, 2) := by decide +kernel
theorem dL_does_90 : decode cL_does 90 = .ok (.if_icmp .ne 14, 3) := by decide +kernel
theorem dL_does_93 : decode cL_does 93 = .ok (.aload_n 0, 1) := by decide +kernel
theorem dL_does_94 : decode cL_does 94 = .ok (.iload_n 2, 1) := by decide +kernel
theorem dL_does_95 : decode cL_does 95 = .ok (.iload_n 3, 1) := by decide +kernel
theorem dL_does_96 : decode cL_does 96 = .ok (.iload 4, 2) := by decide +kernel
theorem dL_does_98 : decode cL_does 98 = .ok (.invokevirtual 30, 3) := by decide +kernel
theorem dL_does_101 : decode cL_does 101 = .ok (.goto 39, 3) := by decide +kernel
theorem dL_does_104 : decode cL_does 104 = .ok (.iload_n 1, 1) := by decide +kernel
theorem dL_does_105 : decode cL_does 105 = .ok (.bipush 7, 2) := by decide +kernel
theorem dL_does_107 : decode cL_does 107 = .ok (.if_icmp .ne 14, 3) := by decide +kernel
theorem dL_does_110 : decode cL_does 110 = .ok (.aload_n 0, 1) := by decide +kernel
theorem dL_does_111 : decode cL_does 111 = .ok (.iload_n 2, 1) := by decide +kernel
theorem dL_does_112 : decode cL_does 112 = .ok (.iload_n 3, 1) := by decide +kernel
theorem dL_does_113 : decode cL_does 113 = .ok (.iload 4, 2) := by decide +kernel
theorem dL_does_115 : decode cL_does 115 = .ok (.invokevirtual 34, 3) := by decide +kernel
theorem dL_does_118 : decode cL_does 118 = .ok (.goto 22, 3) := by decide +kernel
theorem dL_does_121 : decode cL_does 121 = .ok (.iload_n 1, 1) := by decide +kernel
theorem dL_does_122 : decode cL_does 122 = .ok (.bipush 8, 2) := by decide +kernel
theorem dL_does_124 : decode cL_does 124 = .ok (.if_icmp .ne 11, 3) := by decide +kernel
theorem dL_does_127 : decode cL_does 127 = .ok (.aload_n 0, 1) := by decide +kernel
theorem dL_does_128 : decode cL_does 128 = .ok (.iload_n 2, 1) := by decide +kernel
theorem dL_does_129 : decode cL_does 129 = .ok (.invokevirtual 37, 3) := by decide +kernel
theorem dL_does_132 : decode cL_does 132 = .ok (.goto 8, 3) := by decide +kernel
theorem dL_does_135 : decode cL_does 135 = .ok (.aload_n 0, 1) := by decide +kernel
theorem dL_does_136 : decode cL_does 136 = .ok (.iload_n 2, 1) := by decide +kernel
theorem dL_does_137 : decode cL_does 137 = .ok (.invokevirtual 40, 3) := by decide +kernel
theorem dL_does_140 : decode cL_does 140 = .ok (.ireturn, 1) := by decide +kernel
theorem dL_does_141 : decode cL_does 141 = .ok (.astore 5, 2) := by decide +kernel
theorem dL_does_143 : decode cL_does 143 = .ok (.ldc 45, 2) := by decide +kernel
theorem dL_does_145 : decode cL_does 145 = .ok (.ireturn, 1) := by decide +kernel
theorem dL_does_146 : decode cL_does 146 = .ok (.astore 5, 2) := by decide +kernel
theorem dL_does_148 : decode cL_does 148 = .ok (.ldc 45, 2) := by decide +kernel
theorem dL_does_150 : decode cL_does 150 = .ok (.ireturn, 1) := by decide +kernel
theorem dL_does_151 : decode cL_does 151 = .ok (.astore 5, 2) := by decide +kernel
theorem dL_does_153 : decode cL_does 153 = .ok (.ldc 45, 2) := by decide +kernel
theorem dL_does_155 : decode cL_does 155 = .ok (.ireturn, 1) := by decide +kernel
set_option maxRecDepth 20000 in
theorem ggL_sets_X4_setPayouts : GoodIn wsL_sets wsX4_setPayouts := goodIn_ca (goodIn_ca (goodIn_r _ [5, 6, 7, 8, 9, 10, 11, 12, 4, 13, 14, 15, 16, 17, 18, 19, 20, 21, 28, 29, 30, 31, 32, 33, 34, 35, 36, 37, 38, 39, 40, 41, 42, 43, 44, 45, 46, 47] (by decide +kernel) (by decide +kernel)) (goodIn_sub (fun _ h => List.mem_cons_of_mem _ (List.mem_append_left _ (List.mem_append_right _ h))) (by decide +kernel))) (goodIn_sub (fun _ h => List.mem_cons_of_mem _ (List.mem_append_right _ h)) (by decide +kernel))
set_option maxRecDepth 20000 in
theorem gL_sets_X4_setPayouts : GoodIn wsL_sets (wsV RL 50 RX4 yX4_setPayouts wsX4_setPayouts) := goodIn_app (goodIn_of _ (by decide +kernel)) ggL_sets_X4_setPayouts
set_option maxRecDepth 20000 in
theorem ggL_sets_X4_setReserve : GoodIn wsL_sets wsX4_setReserve := goodIn_ca (goodIn_ca (goodIn_r _ [25, 7, 26, 27, 10, 11, 12, 4, 13, 14, 15, 16, 17, 18, 19, 20, 21, 28, 29, 30, 31, 32, 33, 34, 35, 36, 37, 38, 39, 40, 41, 42, 43, 44, 45, 46, 47] (by decide +kernel) (by decide +kernel)) (goodIn_sub (fun _ h => List.mem_cons_of_mem _ (List.mem_append_left _ (List.mem_append_right _ h))) (by decide +kernel))) (goodIn_sub (fun _ h => List.mem_cons_of_mem _ (List.mem_append_right _ h)) (by decide +kernel))
set_option maxRecDepth 20000 in
theorem gL_sets_X4_setReserve : GoodIn wsL_sets (wsV RL 54 RX4 yX4_setReserve wsX4_setReserve) := goodIn_app (goodIn_of _ (by decide +kernel)) ggL_sets_X4_setReserve
theorem dL_sets_0 : decode cL_sets 0 = .ok (.iload_n 1, 1) := by decide +kernel
theorem dL_sets_1 : decode cL_sets 1 = .ok (.ifCond .eq 14, 3) := by decide +kernel
theorem dL_sets_4 : decode cL_sets 4 = .ok (.aload_n 0, 1) := by decide +kernel
theorem dL_sets_5 : decode cL_sets 5 = .ok (.iload_n 2, 1) := by decide +kernel
theorem dL_sets_6 : decode cL_sets 6 = .ok (.iload_n 3, 1) := by decide +kernel
theorem dL_sets_7 : decode cL_sets 7 = .ok (.iload 4, 2) := by decide +kernel
theorem dL_sets_9 : decode cL_sets 9 = .ok (.invokevirtual 50, 3) := by decide +kernel
theorem dL_sets_12 : decode cL_sets 12 = .ok (.goto 11, 3) := by decide +kernel
theorem dL_sets_15 : decode cL_sets 15 = .ok (.aload_n 0, 1) := by decide +kernel
theorem dL_sets_16 : decode cL_sets 16 = .ok (.iload_n 2, 1) := by decide +kernel
theorem dL_sets_17 : decode cL_sets 17 = .ok (.iload_n 3, 1) := by decide +kernel
theorem dL_sets_18 : decode cL_sets 18 = .ok (.iload 4, 2) := by decide +kernel
theorem dL_sets_20 : decode cL_sets 20 = .ok (.invokevirtual 54, 3) := by decide +kernel
theorem dL_sets_23 : decode cL_sets 23 = .ok (.iconst 0, 1) := by decide +kernel
theorem dL_sets_24 : decode cL_sets 24 = .ok (.ireturn, 1) := by decide +kernel
set_option maxRecDepth 20000 in
theorem ggL_refund_X4_refund : GoodIn wsL_refund wsX4_refund := goodIn_ca (goodIn_ca (goodIn_ca (goodIn_r _ [9, 10, 11, 12, 13, 14, 15, 16, 17, 18, 19, 20, 21, 22, 23, 24, 25, 26, 27, 28, 29, 30, 31, 32, 8, 33, 34, 35, 36, 37, 38, 39, 40, 41, 42, 43, 44, 45, 46, 47, 48, 49, 50, 51, 52, 53, 54, 55, 56, 57, 58, 59, 60, 61, 62, 63, 64, 65, 66, 67, 68, 69, 70, 71, 72, 73, 74, 75, 76, 77, 78, 79, 80, 81, 82, 83, 84, 85, 86, 87, 88, 89, 90, 91] (by decide +kernel) (by decide +kernel)) (goodIn_sub (fun _ h => List.mem_cons_of_mem _ (List.mem_append_left _ (List.mem_append_left _ (List.mem_append_right _ h)))) (by decide +kernel))) (goodIn_sub (fun _ h => List.mem_cons_of_mem _ (List.mem_append_left _ (List.mem_append_right _ h))) (by decide +kernel))) (goodIn_sub (fun _ h => List.mem_cons_of_mem _ (List.mem_append_right _ h)) (by decide +kernel))
set_option maxRecDepth 20000 in
theorem gL_refund_X4_refund : GoodIn wsL_refund (wsV RL 57 RX4 yX4_refund wsX4_refund) := goodIn_app (goodIn_of _ (by decide +kernel)) ggL_refund_X4_refund
theorem dL_refund_0 : decode cL_refund 0 = .ok (.aload_n 0, 1) := by decide +kernel
theorem dL_refund_1 : decode cL_refund 1 = .ok (.iload_n 1, 1) := by decide +kernel
theorem dL_refund_2 : decode cL_refund 2 = .ok (.iload_n 2, 1) := by decide +kernel
theorem dL_refund_3 : decode cL_refund 3 = .ok (.iload_n 3, 1) := by decide +kernel
theorem dL_refund_4 : decode cL_refund 4 = .ok (.invokevirtual 57, 3) := by decide +kernel
theorem dL_refund_7 : decode cL_refund 7 = .ok (.ireturn, 1) := by decide +kernel
theorem dL_refund_8 : decode cL_refund 8 = .ok (.astore 4, 2) := by decide +kernel
theorem dL_refund_10 : decode cL_refund 10 = .ok (.ldc 45, 2) := by decide +kernel
theorem dL_refund_12 : decode cL_refund 12 = .ok (.ireturn, 1) := by decide +kernel
theorem dL_refund_13 : decode cL_refund 13 = .ok (.astore 4, 2) := by decide +kernel
theorem dL_refund_15 : decode cL_refund 15 = .ok (.ldc 45, 2) := by decide +kernel
theorem dL_refund_17 : decode cL_refund 17 = .ok (.ireturn, 1) := by decide +kernel
theorem dL_refund_18 : decode cL_refund 18 = .ok (.astore 4, 2) := by decide +kernel
theorem dL_refund_20 : decode cL_refund 20 = .ok (.ldc 45, 2) := by decide +kernel
theorem dL_refund_22 : decode cL_refund 22 = .ok (.ireturn, 1) := by decide +kernel
set_option maxRecDepth 20000 in
theorem ggL_balance_X4_balance : GoodIn wsL_balance wsX4_balance := goodIn_ca (goodIn_r _ [7, 8, 9, 10, 11, 12, 6, 13, 14, 15, 16, 17, 18, 19, 20, 21, 22, 23, 24, 25, 26, 27, 28, 29, 30, 31, 32, 33, 34, 35, 36] (by decide +kernel) (by decide +kernel)) (goodIn_sub (fun _ h => List.mem_cons_of_mem _ (List.mem_append_right _ h)) (by decide +kernel))
set_option maxRecDepth 20000 in
theorem gL_balance_X4_balance : GoodIn wsL_balance (wsV RL 61 RX4 yX4_balance wsX4_balance) := goodIn_app (goodIn_of _ (by decide +kernel)) ggL_balance_X4_balance
theorem dL_balance_0 : decode cL_balance 0 = .ok (.aload_n 0, 1) := by decide +kernel
theorem dL_balance_1 : decode cL_balance 1 = .ok (.iload_n 1, 1) := by decide +kernel
theorem dL_balance_2 : decode cL_balance 2 = .ok (.invokevirtual 61, 3) := by decide +kernel
theorem dL_balance_5 : decode cL_balance 5 = .ok (.ireturn, 1) := by decide +kernel
theorem dL_balance_6 : decode cL_balance 6 = .ok (.astore_n 2, 1) := by decide +kernel
theorem dL_balance_7 : decode cL_balance 7 = .ok (.ldc 45, 2) := by decide +kernel
theorem dL_balance_9 : decode cL_balance 9 = .ok (.ireturn, 1) := by decide +kernel
set_option maxRecDepth 20000 in
theorem ggL_act_L_low : GoodIn wsL_act wsL_low := goodIn_r _ [7, 8] (by decide +kernel) (by decide +kernel)
set_option maxRecDepth 20000 in
theorem gL_act_L_low : GoodIn wsL_act (va_wsS RL 64 yL_low wsL_low) := goodIn_app (goodIn_of _ (by decide +kernel)) ggL_act_L_low
set_option maxRecDepth 20000 in
theorem ggL_act_L_does : GoodIn wsL_act wsL_does := goodIn_ca (goodIn_ca (goodIn_ca (goodIn_r _ [11, 12, 13, 14, 15, 16, 17, 18, 19, 20, 21, 22, 23, 24, 25, 26, 27, 28, 29, 30, 31, 32, 33, 34, 35, 36, 37, 38, 39, 40, 41, 42, 43, 44, 45, 46, 47, 48, 49, 50, 51, 6, 52, 53, 54, 55, 56, 57, 58, 59, 60, 61, 62, 63, 64, 65, 66, 67, 68, 69, 70, 71, 72, 73, 74, 75, 76, 77, 78, 79, 80, 81, 82, 83, 84, 85, 86, 87, 88, 89, 90, 91, 92, 93, 94, 95, 96, 97, 98, 99, 100, 101, 102, 103, 104, 105, 106, 107, 108, 109, 110, 111, 112, 113, 114, 115, 116, 117, 118, 119, 120, 121, 122, 123, 124, 125, 126, 127, 128, 129, 130, 131, 132, 133, 134, 135, 136, 137, 138, 139, 140, 141, 142, 143, 144, 145, 146, 147, 148, 149, 150, 151, 152, 153, 154, 155, 156, 157, 158, 159, 160, 161, 162, 163, 164, 165, 166, 167, 168, 169, 170, 171, 172, 173, 174, 175, 176, 177, 178, 179, 180, 181, 182, 183, 184, 185, 186, 187, 188, 189, 190, 191, 192, 193, 194, 195, 196, 197, 198, 199, 200, 201, 202, 203, 204, 205, 206, 207, 208, 209, 210, 211, 212, 213, 214, 215, 216, 217, 218, 219, 220, 221, 222, 223, 224, 225, 226, 227, 228, 229, 230, 231, 232, 233, 234, 235, 236, 237, 238, 239, 249, 250, 251, 252, 253, 254, 255, 256, 257, 258, 259, 260, 261, 262, 263, 264, 265, 266, 267, 268, 269, 270, 271, 272, 273, 274, 275, 276, 277, 278, 279, 280, 281, 282, 283, 284] (by decide +kernel) (by decide +kernel)) (goodIn_sub (fun _ h => List.mem_cons_of_mem _ (List.mem_append_left _ (List.mem_append_left _ (List.mem_append_right _ h)))) (by decide +kernel))) (goodIn_sub (fun _ h => List.mem_cons_of_mem _ (List.mem_append_left _ (List.mem_append_right _ h))) (by decide +kernel))) (goodIn_sub (fun _ h => List.mem_cons_of_mem _ (List.mem_append_right _ h)) (by decide +kernel))
set_option maxRecDepth 20000 in
theorem gL_act_L_does : GoodIn wsL_act (va_wsS RL 67 yL_does wsL_does) := goodIn_app (goodIn_of _ (by decide +kernel)) ggL_act_L_does
set_option maxRecDepth 20000 in
theorem ggL_act_L_refund : GoodIn wsL_act wsL_refund := goodIn_ca (goodIn_ca (goodIn_ca (goodIn_r _ [242, 12, 13, 14, 15, 243, 244, 245, 19, 246, 21, 22, 23, 24, 95, 96, 57, 247, 180, 106, 105, 107, 101, 102, 103, 104, 248, 112, 113, 25, 132, 45, 46, 47, 48, 49, 114, 115, 116, 117, 118, 119, 128, 129, 130, 131, 133, 134, 135, 136, 137, 138, 139, 140, 141, 142, 143, 144, 145, 146, 249, 250, 251, 252, 253, 254, 255, 256, 257, 258, 259, 269, 270, 271, 272, 273, 274, 275, 276, 260, 261, 262, 263, 264, 265, 266, 267, 268, 277, 278, 279, 280] (by decide +kernel) (by decide +kernel)) (goodIn_sub (fun _ h => List.mem_cons_of_mem _ (List.mem_append_left _ (List.mem_append_left _ (List.mem_append_right _ h)))) (by decide +kernel))) (goodIn_sub (fun _ h => List.mem_cons_of_mem _ (List.mem_append_left _ (List.mem_append_right _ h))) (by decide +kernel))) (goodIn_sub (fun _ h => List.mem_cons_of_mem _ (List.mem_append_right _ h)) (by decide +kernel))
set_option maxRecDepth 20000 in
theorem gL_act_L_refund : GoodIn wsL_act (va_wsS RL 74 yL_refund wsL_refund) := goodIn_app (goodIn_of _ (by decide +kernel)) ggL_act_L_refund
theorem dL_act_0 : decode cL_act 0 = .ok (.iload_n 1, 1) := by decide +kernel
theorem dL_act_1 : decode cL_act 1 = .ok (.bipush 24, 2) := by decide +kernel
theorem dL_act_3 : decode cL_act 3 = .ok (.ishr, 1) := by decide +kernel
theorem dL_act_4 : decode cL_act 4 = .ok (.bipush 8, 2) := by decide +kernel
theorem dL_act_6 : decode cL_act 6 = .ok (.invokestatic 64, 3) := by decide +kernel
theorem dL_act_9 : decode cL_act 9 = .ok (.ifCond .ne 7, 3) := by decide +kernel
theorem dL_act_12 : decode cL_act 12 = .ok (.iconst 1, 1) := by decide +kernel
theorem dL_act_13 : decode cL_act 13 = .ok (.goto 4, 3) := by decide +kernel
theorem dL_act_16 : decode cL_act 16 = .ok (.iconst 0, 1) := by decide +kernel
theorem dL_act_17 : decode cL_act 17 = .ok (.istore_n 2, 1) := by decide +kernel
theorem dL_act_18 : decode cL_act 18 = .ok (.iload_n 1, 1) := by decide +kernel
theorem dL_act_19 : decode cL_act 19 = .ok (.bipush 32, 2) := by decide +kernel
theorem dL_act_21 : decode cL_act 21 = .ok (.invokestatic 64, 3) := by decide +kernel
theorem dL_act_24 : decode cL_act 24 = .ok (.istore_n 3, 1) := by decide +kernel
theorem dL_act_25 : decode cL_act 25 = .ok (.iload_n 1, 1) := by decide +kernel
theorem dL_act_26 : decode cL_act 26 = .ok (.iconst 5, 1) := by decide +kernel
theorem dL_act_27 : decode cL_act 27 = .ok (.ishr, 1) := by decide +kernel
theorem dL_act_28 : decode cL_act 28 = .ok (.iload_n 2, 1) := by decide +kernel
theorem dL_act_29 : decode cL_act 29 = .ok (.ifCond .eq 8, 3) := by decide +kernel
theorem dL_act_32 : decode cL_act 32 = .ok (.bipush 10, 2) := by decide +kernel
theorem dL_act_34 : decode cL_act 34 = .ok (.goto 4, 3) := by decide +kernel
theorem dL_act_37 : decode cL_act 37 = .ok (.iconst 4, 1) := by decide +kernel
theorem dL_act_38 : decode cL_act 38 = .ok (.invokestatic 64, 3) := by decide +kernel
theorem dL_act_41 : decode cL_act 41 = .ok (.istore 4, 2) := by decide +kernel
theorem dL_act_43 : decode cL_act 43 = .ok (.iload_n 3, 1) := by decide +kernel
theorem dL_act_44 : decode cL_act 44 = .ok (.iconst 2, 1) := by decide +kernel
theorem dL_act_45 : decode cL_act 45 = .ok (.if_icmp .ge 35, 3) := by decide +kernel
theorem dL_act_48 : decode cL_act 48 = .ok (.aload_n 0, 1) := by decide +kernel
theorem dL_act_49 : decode cL_act 49 = .ok (.iconst 0, 1) := by decide +kernel
theorem dL_act_50 : decode cL_act 50 = .ok (.iload_n 2, 1) := by decide +kernel
theorem dL_act_51 : decode cL_act 51 = .ok (.ifCond .eq 16, 3) := by decide +kernel
theorem dL_act_54 : decode cL_act 54 = .ok (.iload_n 1, 1) := by decide +kernel
theorem dL_act_55 : decode cL_act 55 = .ok (.iconst 5, 1) := by decide +kernel
theorem dL_act_56 : decode cL_act 56 = .ok (.ishr, 1) := by decide +kernel
theorem dL_act_57 : decode cL_act 57 = .ok (.bipush 6, 2) := by decide +kernel
theorem dL_act_59 : decode cL_act 59 = .ok (.invokestatic 64, 3) := by decide +kernel
theorem dL_act_62 : decode cL_act 62 = .ok (.iconst 1, 1) := by decide +kernel
theorem dL_act_63 : decode cL_act 63 = .ok (.isub, 1) := by decide +kernel
theorem dL_act_64 : decode cL_act 64 = .ok (.goto 10, 3) := by decide +kernel
theorem dL_act_67 : decode cL_act 67 = .ok (.iload_n 1, 1) := by decide +kernel
theorem dL_act_68 : decode cL_act 68 = .ok (.iconst 5, 1) := by decide +kernel
theorem dL_act_69 : decode cL_act 69 = .ok (.ishr, 1) := by decide +kernel
theorem dL_act_70 : decode cL_act 70 = .ok (.iconst 2, 1) := by decide +kernel
theorem dL_act_71 : decode cL_act 71 = .ok (.invokestatic 64, 3) := by decide +kernel
theorem dL_act_74 : decode cL_act 74 = .ok (.iconst 0, 1) := by decide +kernel
theorem dL_act_75 : decode cL_act 75 = .ok (.iconst 0, 1) := by decide +kernel
theorem dL_act_76 : decode cL_act 76 = .ok (.invokestatic 67, 3) := by decide +kernel
theorem dL_act_79 : decode cL_act 79 = .ok (.ireturn, 1) := by decide +kernel
theorem dL_act_80 : decode cL_act 80 = .ok (.iload_n 3, 1) := by decide +kernel
theorem dL_act_81 : decode cL_act 81 = .ok (.bipush 9, 2) := by decide +kernel
theorem dL_act_83 : decode cL_act 83 = .ok (.if_icmp .ge 207, 3) := by decide +kernel
theorem dL_act_86 : decode cL_act 86 = .ok (.iload_n 3, 1) := by decide +kernel
theorem dL_act_87 : decode cL_act 87 = .ok (.iconst 5, 1) := by decide +kernel
theorem dL_act_88 : decode cL_act 88 = .ok (.if_icmp .ge 7, 3) := by decide +kernel
theorem dL_act_91 : decode cL_act 91 = .ok (.iconst 1, 1) := by decide +kernel
theorem dL_act_92 : decode cL_act 92 = .ok (.goto 6, 3) := by decide +kernel
theorem dL_act_95 : decode cL_act 95 = .ok (.iload_n 3, 1) := by decide +kernel
theorem dL_act_96 : decode cL_act 96 = .ok (.iconst 3, 1) := by decide +kernel
theorem dL_act_97 : decode cL_act 97 = .ok (.isub, 1) := by decide +kernel
theorem dL_act_98 : decode cL_act 98 = .ok (.istore 5, 2) := by decide +kernel
theorem dL_act_100 : decode cL_act 100 = .ok (.iload 5, 2) := by decide +kernel
theorem dL_act_102 : decode cL_act 102 = .ok (.iconst 1, 1) := by decide +kernel
theorem dL_act_103 : decode cL_act 103 = .ok (.if_icmp .ne 22, 3) := by decide +kernel
theorem dL_act_106 : decode cL_act 106 = .ok (.iload_n 1, 1) := by decide +kernel
theorem dL_act_107 : decode cL_act 107 = .ok (.bipush 9, 2) := by decide +kernel
theorem dL_act_109 : decode cL_act 109 = .ok (.ishr, 1) := by decide +kernel
theorem dL_act_110 : decode cL_act 110 = .ok (.iload_n 2, 1) := by decide +kernel
theorem dL_act_111 : decode cL_act 111 = .ok (.ifCond .eq 7, 3) := by decide +kernel
theorem dL_act_114 : decode cL_act 114 = .ok (.iconst 5, 1) := by decide +kernel
theorem dL_act_115 : decode cL_act 115 = .ok (.goto 4, 3) := by decide +kernel
theorem dL_act_118 : decode cL_act 118 = .ok (.iconst 3, 1) := by decide +kernel
theorem dL_act_119 : decode cL_act 119 = .ok (.invokestatic 64, 3) := by decide +kernel
theorem dL_act_122 : decode cL_act 122 = .ok (.goto 50, 3) := by decide +kernel
theorem dL_act_125 : decode cL_act 125 = .ok (.iload 5, 2) := by decide +kernel
theorem dL_act_127 : decode cL_act 127 = .ok (.iconst 2, 1) := by decide +kernel
theorem dL_act_128 : decode cL_act 128 = .ok (.if_icmp .ne 24, 3) := by decide +kernel
theorem dL_act_131 : decode cL_act 131 = .ok (.iload_n 1, 1) := by decide +kernel
theorem dL_act_132 : decode cL_act 132 = .ok (.bipush 9, 2) := by decide +kernel
theorem dL_act_134 : decode cL_act 134 = .ok (.ishr, 1) := by decide +kernel
theorem dL_act_135 : decode cL_act 135 = .ok (.iload_n 2, 1) := by decide +kernel
theorem dL_act_136 : decode cL_act 136 = .ok (.ifCond .eq 8, 3) := by decide +kernel
theorem dL_act_139 : decode cL_act 139 = .ok (.bipush 9, 2) := by decide +kernel
theorem dL_act_141 : decode cL_act 141 = .ok (.goto 5, 3) := by decide +kernel
theorem dL_act_144 : decode cL_act 144 = .ok (.bipush 7, 2) := by decide +kernel
theorem dL_act_146 : decode cL_act 146 = .ok (.invokestatic 64, 3) := by decide +kernel
theorem dL_act_149 : decode cL_act 149 = .ok (.goto 23, 3) := by decide +kernel
theorem dL_act_152 : decode cL_act 152 = .ok (.iload_n 1, 1) := by decide +kernel
theorem dL_act_153 : decode cL_act 153 = .ok (.bipush 9, 2) := by decide +kernel
theorem dL_act_155 : decode cL_act 155 = .ok (.ishr, 1) := by decide +kernel
theorem dL_act_156 : decode cL_act 156 = .ok (.iload_n 2, 1) := by decide +kernel
theorem dL_act_157 : decode cL_act 157 = .ok (.ifCond .eq 9, 3) := by decide +kernel
theorem dL_act_160 : decode cL_act 160 = .ok (.sipush 1100, 3) := by decide +kernel
theorem dL_act_163 : decode cL_act 163 = .ok (.goto 6, 3) := by decide +kernel
theorem dL_act_166 : decode cL_act 166 = .ok (.sipush 500, 3) := by decide +kernel
theorem dL_act_169 : decode cL_act 169 = .ok (.invokestatic 64, 3) := by decide +kernel
theorem dL_act_172 : decode cL_act 172 = .ok (.istore 6, 2) := by decide +kernel
theorem dL_act_174 : decode cL_act 174 = .ok (.iload 5, 2) := by decide +kernel
theorem dL_act_176 : decode cL_act 176 = .ok (.iconst 2, 1) := by decide +kernel
theorem dL_act_177 : decode cL_act 177 = .ok (.if_icmp .ne 27, 3) := by decide +kernel
theorem dL_act_180 : decode cL_act 180 = .ok (.iconst 1, 1) := by decide +kernel
theorem dL_act_181 : decode cL_act 181 = .ok (.iload_n 1, 1) := by decide +kernel
theorem dL_act_182 : decode cL_act 182 = .ok (.bipush 11, 2) := by decide +kernel
theorem dL_act_184 : decode cL_act 184 = .ok (.ishr, 1) := by decide +kernel
theorem dL_act_185 : decode cL_act 185 = .ok (.iload_n 2, 1) := by decide +kernel
theorem dL_act_186 : decode cL_act 186 = .ok (.ifCond .eq 8, 3) := by decide +kernel
theorem dL_act_189 : decode cL_act 189 = .ok (.ldc 71, 2) := by decide +kernel
theorem dL_act_191 : decode cL_act 191 = .ok (.goto 6, 3) := by decide +kernel
theorem dL_act_194 : decode cL_act 194 = .ok (.sipush 20000, 3) := by decide +kernel
theorem dL_act_197 : decode cL_act 197 = .ok (.invokestatic 64, 3) := by decide +kernel
theorem dL_act_200 : decode cL_act 200 = .ok (.iadd, 1) := by decide +kernel
theorem dL_act_201 : decode cL_act 201 = .ok (.goto 31, 3) := by decide +kernel
theorem dL_act_204 : decode cL_act 204 = .ok (.iload_n 2, 1) := by decide +kernel
theorem dL_act_205 : decode cL_act 205 = .ok (.ifCond .eq 16, 3) := by decide +kernel
theorem dL_act_208 : decode cL_act 208 = .ok (.iload_n 1, 1) := by decide +kernel
theorem dL_act_209 : decode cL_act 209 = .ok (.bipush 11, 2) := by decide +kernel
theorem dL_act_211 : decode cL_act 211 = .ok (.ishr, 1) := by decide +kernel
theorem dL_act_212 : decode cL_act 212 = .ok (.sipush 200, 3) := by decide +kernel
theorem dL_act_215 : decode cL_act 215 = .ok (.invokestatic 64, 3) := by decide +kernel
theorem dL_act_218 : decode cL_act 218 = .ok (.goto 14, 3) := by decide +kernel
theorem dL_act_221 : decode cL_act 221 = .ok (.iconst 1, 1) := by decide +kernel
theorem dL_act_222 : decode cL_act 222 = .ok (.iload_n 1, 1) := by decide +kernel
theorem dL_act_223 : decode cL_act 223 = .ok (.bipush 11, 2) := by decide +kernel
theorem dL_act_225 : decode cL_act 225 = .ok (.ishr, 1) := by decide +kernel
theorem dL_act_226 : decode cL_act 226 = .ok (.bipush 14, 2) := by decide +kernel
theorem dL_act_228 : decode cL_act 228 = .ok (.invokestatic 64, 3) := by decide +kernel
theorem dL_act_231 : decode cL_act 231 = .ok (.iadd, 1) := by decide +kernel
theorem dL_act_232 : decode cL_act 232 = .ok (.istore 7, 2) := by decide +kernel
theorem dL_act_234 : decode cL_act 234 = .ok (.aload_n 0, 1) := by decide +kernel
theorem dL_act_235 : decode cL_act 235 = .ok (.iload 5, 2) := by decide +kernel
theorem dL_act_237 : decode cL_act 237 = .ok (.iload 5, 2) := by decide +kernel
theorem dL_act_239 : decode cL_act 239 = .ok (.iconst 4, 1) := by decide +kernel
theorem dL_act_240 : decode cL_act 240 = .ok (.if_icmp .ne 11, 3) := by decide +kernel
theorem dL_act_243 : decode cL_act 243 = .ok (.iload_n 1, 1) := by decide +kernel
theorem dL_act_244 : decode cL_act 244 = .ok (.iconst 5, 1) := by decide +kernel
theorem dL_act_245 : decode cL_act 245 = .ok (.ishr, 1) := by decide +kernel
theorem dL_act_246 : decode cL_act 246 = .ok (.iconst 3, 1) := by decide +kernel
theorem dL_act_247 : decode cL_act 247 = .ok (.iand, 1) := by decide +kernel
theorem dL_act_248 : decode cL_act 248 = .ok (.goto 34, 3) := by decide +kernel
theorem dL_act_251 : decode cL_act 251 = .ok (.iload 5, 2) := by decide +kernel
theorem dL_act_253 : decode cL_act 253 = .ok (.iconst 5, 1) := by decide +kernel
theorem dL_act_254 : decode cL_act 254 = .ok (.if_icmp .ne 26, 3) := by decide +kernel
theorem dL_act_257 : decode cL_act 257 = .ok (.iload_n 1, 1) := by decide +kernel
theorem dL_act_258 : decode cL_act 258 = .ok (.bipush 9, 2) := by decide +kernel
theorem dL_act_260 : decode cL_act 260 = .ok (.ishr, 1) := by decide +kernel
theorem dL_act_261 : decode cL_act 261 = .ok (.iload_n 2, 1) := by decide +kernel
theorem dL_act_262 : decode cL_act 262 = .ok (.ifCond .eq 9, 3) := by decide +kernel
theorem dL_act_265 : decode cL_act 265 = .ok (.sipush 600, 3) := by decide +kernel
theorem dL_act_268 : decode cL_act 268 = .ok (.goto 6, 3) := by decide +kernel
theorem dL_act_271 : decode cL_act 271 = .ok (.sipush 300, 3) := by decide +kernel
theorem dL_act_274 : decode cL_act 274 = .ok (.invokestatic 64, 3) := by decide +kernel
theorem dL_act_277 : decode cL_act 277 = .ok (.goto 5, 3) := by decide +kernel
theorem dL_act_280 : decode cL_act 280 = .ok (.iload 4, 2) := by decide +kernel
theorem dL_act_282 : decode cL_act 282 = .ok (.iload 6, 2) := by decide +kernel
theorem dL_act_284 : decode cL_act 284 = .ok (.iload 7, 2) := by decide +kernel
theorem dL_act_286 : decode cL_act 286 = .ok (.invokestatic 67, 3) := by decide +kernel
theorem dL_act_289 : decode cL_act 289 = .ok (.ireturn, 1) := by decide +kernel
theorem dL_act_290 : decode cL_act 290 = .ok (.iload_n 3, 1) := by decide +kernel
theorem dL_act_291 : decode cL_act 291 = .ok (.bipush 17, 2) := by decide +kernel
theorem dL_act_293 : decode cL_act 293 = .ok (.if_icmp .ge 131, 3) := by decide +kernel
theorem dL_act_296 : decode cL_act 296 = .ok (.iload_n 2, 1) := by decide +kernel
theorem dL_act_297 : decode cL_act 297 = .ok (.ifCond .eq 15, 3) := by decide +kernel
theorem dL_act_300 : decode cL_act 300 = .ok (.iload_n 1, 1) := by decide +kernel
theorem dL_act_301 : decode cL_act 301 = .ok (.bipush 8, 2) := by decide +kernel
theorem dL_act_303 : decode cL_act 303 = .ok (.ishr, 1) := by decide +kernel
theorem dL_act_304 : decode cL_act 304 = .ok (.ldc 71, 2) := by decide +kernel
theorem dL_act_306 : decode cL_act 306 = .ok (.invokestatic 64, 3) := by decide +kernel
theorem dL_act_309 : decode cL_act 309 = .ok (.goto 29, 3) := by decide +kernel
theorem dL_act_312 : decode cL_act 312 = .ok (.iconst 1, 1) := by decide +kernel
theorem dL_act_313 : decode cL_act 313 = .ok (.iload_n 1, 1) := by decide +kernel
theorem dL_act_314 : decode cL_act 314 = .ok (.bipush 8, 2) := by decide +kernel
theorem dL_act_316 : decode cL_act 316 = .ok (.ishr, 1) := by decide +kernel
theorem dL_act_317 : decode cL_act 317 = .ok (.iload_n 1, 1) := by decide +kernel
theorem dL_act_318 : decode cL_act 318 = .ok (.bipush 18, 2) := by decide +kernel
theorem dL_act_320 : decode cL_act 320 = .ok (.ishr, 1) := by decide +kernel
theorem dL_act_321 : decode cL_act 321 = .ok (.iconst 1, 1) := by decide +kernel
theorem dL_act_322 : decode cL_act 322 = .ok (.iand, 1) := by decide +kernel
theorem dL_act_323 : decode cL_act 323 = .ok (.ifCond .ne 8, 3) := by decide +kernel
theorem dL_act_326 : decode cL_act 326 = .ok (.ldc 72, 2) := by decide +kernel
theorem dL_act_328 : decode cL_act 328 = .ok (.goto 6, 3) := by decide +kernel
theorem dL_act_331 : decode cL_act 331 = .ok (.sipush 30000, 3) := by decide +kernel
theorem dL_act_334 : decode cL_act 334 = .ok (.invokestatic 64, 3) := by decide +kernel
theorem dL_act_337 : decode cL_act 337 = .ok (.iadd, 1) := by decide +kernel
theorem dL_act_338 : decode cL_act 338 = .ok (.istore 5, 2) := by decide +kernel
theorem dL_act_340 : decode cL_act 340 = .ok (.iload_n 3, 1) := by decide +kernel
theorem dL_act_341 : decode cL_act 341 = .ok (.bipush 14, 2) := by decide +kernel
theorem dL_act_343 : decode cL_act 343 = .ok (.if_icmp .ge 40, 3) := by decide +kernel
theorem dL_act_346 : decode cL_act 346 = .ok (.aload_n 0, 1) := by decide +kernel
theorem dL_act_347 : decode cL_act 347 = .ok (.bipush 6, 2) := by decide +kernel
theorem dL_act_349 : decode cL_act 349 = .ok (.iload 4, 2) := by decide +kernel
theorem dL_act_351 : decode cL_act 351 = .ok (.iload_n 2, 1) := by decide +kernel
theorem dL_act_352 : decode cL_act 352 = .ok (.ifCond .eq 17, 3) := by decide +kernel
theorem dL_act_355 : decode cL_act 355 = .ok (.iload_n 1, 1) := by decide +kernel
theorem dL_act_356 : decode cL_act 356 = .ok (.bipush 6, 2) := by decide +kernel
theorem dL_act_358 : decode cL_act 358 = .ok (.ishr, 1) := by decide +kernel
theorem dL_act_359 : decode cL_act 359 = .ok (.bipush 6, 2) := by decide +kernel
theorem dL_act_361 : decode cL_act 361 = .ok (.invokestatic 64, 3) := by decide +kernel
theorem dL_act_364 : decode cL_act 364 = .ok (.iconst 1, 1) := by decide +kernel
theorem dL_act_365 : decode cL_act 365 = .ok (.isub, 1) := by decide +kernel
theorem dL_act_366 : decode cL_act 366 = .ok (.goto 9, 3) := by decide +kernel
theorem dL_act_369 : decode cL_act 369 = .ok (.iload_n 1, 1) := by decide +kernel
theorem dL_act_370 : decode cL_act 370 = .ok (.bipush 6, 2) := by decide +kernel
theorem dL_act_372 : decode cL_act 372 = .ok (.ishr, 1) := by decide +kernel
theorem dL_act_373 : decode cL_act 373 = .ok (.iconst 3, 1) := by decide +kernel
theorem dL_act_374 : decode cL_act 374 = .ok (.iand, 1) := by decide +kernel
theorem dL_act_375 : decode cL_act 375 = .ok (.iload 5, 2) := by decide +kernel
theorem dL_act_377 : decode cL_act 377 = .ok (.invokestatic 67, 3) := by decide +kernel
theorem dL_act_380 : decode cL_act 380 = .ok (.goto 43, 3) := by decide +kernel
theorem dL_act_383 : decode cL_act 383 = .ok (.aload_n 0, 1) := by decide +kernel
theorem dL_act_384 : decode cL_act 384 = .ok (.bipush 7, 2) := by decide +kernel
theorem dL_act_386 : decode cL_act 386 = .ok (.iload_n 2, 1) := by decide +kernel
theorem dL_act_387 : decode cL_act 387 = .ok (.ifCond .eq 15, 3) := by decide +kernel
theorem dL_act_390 : decode cL_act 390 = .ok (.iload_n 1, 1) := by decide +kernel
theorem dL_act_391 : decode cL_act 391 = .ok (.iconst 5, 1) := by decide +kernel
theorem dL_act_392 : decode cL_act 392 = .ok (.ishr, 1) := by decide +kernel
theorem dL_act_393 : decode cL_act 393 = .ok (.sipush 300, 3) := by decide +kernel
theorem dL_act_396 : decode cL_act 396 = .ok (.invokestatic 64, 3) := by decide +kernel
theorem dL_act_399 : decode cL_act 399 = .ok (.goto 13, 3) := by decide +kernel
theorem dL_act_402 : decode cL_act 402 = .ok (.iconst 1, 1) := by decide +kernel
theorem dL_act_403 : decode cL_act 403 = .ok (.iload_n 1, 1) := by decide +kernel
theorem dL_act_404 : decode cL_act 404 = .ok (.iconst 5, 1) := by decide +kernel
theorem dL_act_405 : decode cL_act 405 = .ok (.ishr, 1) := by decide +kernel
theorem dL_act_406 : decode cL_act 406 = .ok (.bipush 7, 2) := by decide +kernel
theorem dL_act_408 : decode cL_act 408 = .ok (.invokestatic 64, 3) := by decide +kernel
theorem dL_act_411 : decode cL_act 411 = .ok (.iadd, 1) := by decide +kernel
theorem dL_act_412 : decode cL_act 412 = .ok (.iload_n 1, 1) := by decide +kernel
theorem dL_act_413 : decode cL_act 413 = .ok (.bipush 6, 2) := by decide +kernel
theorem dL_act_415 : decode cL_act 415 = .ok (.ishr, 1) := by decide +kernel
theorem dL_act_416 : decode cL_act 416 = .ok (.iconst 3, 1) := by decide +kernel
theorem dL_act_417 : decode cL_act 417 = .ok (.iand, 1) := by decide +kernel
theorem dL_act_418 : decode cL_act 418 = .ok (.iload 5, 2) := by decide +kernel
theorem dL_act_420 : decode cL_act 420 = .ok (.invokestatic 67, 3) := by decide +kernel
theorem dL_act_423 : decode cL_act 423 = .ok (.ireturn, 1) := by decide +kernel
theorem dL_act_424 : decode cL_act 424 = .ok (.iload_n 3, 1) := by decide +kernel
theorem dL_act_425 : decode cL_act 425 = .ok (.bipush 23, 2) := by decide +kernel
theorem dL_act_427 : decode cL_act 427 = .ok (.if_icmp .ge 81, 3) := by decide +kernel
theorem dL_act_430 : decode cL_act 430 = .ok (.aload_n 0, 1) := by decide +kernel
theorem dL_act_431 : decode cL_act 431 = .ok (.iload_n 1, 1) := by decide +kernel
theorem dL_act_432 : decode cL_act 432 = .ok (.iconst 5, 1) := by decide +kernel
theorem dL_act_433 : decode cL_act 433 = .ok (.ishr, 1) := by decide +kernel
theorem dL_act_434 : decode cL_act 434 = .ok (.iload_n 2, 1) := by decide +kernel
theorem dL_act_435 : decode cL_act 435 = .ok (.ifCond .eq 8, 3) := by decide +kernel
theorem dL_act_438 : decode cL_act 438 = .ok (.bipush 40, 2) := by decide +kernel
theorem dL_act_440 : decode cL_act 440 = .ok (.goto 5, 3) := by decide +kernel
theorem dL_act_443 : decode cL_act 443 = .ok (.bipush 10, 2) := by decide +kernel
theorem dL_act_445 : decode cL_act 445 = .ok (.invokestatic 64, 3) := by decide +kernel
theorem dL_act_448 : decode cL_act 448 = .ok (.iload_n 2, 1) := by decide +kernel
theorem dL_act_449 : decode cL_act 449 = .ok (.ifCond .eq 15, 3) := by decide +kernel
theorem dL_act_452 : decode cL_act 452 = .ok (.iload_n 1, 1) := by decide +kernel
theorem dL_act_453 : decode cL_act 453 = .ok (.bipush 8, 2) := by decide +kernel
theorem dL_act_455 : decode cL_act 455 = .ok (.ishr, 1) := by decide +kernel
theorem dL_act_456 : decode cL_act 456 = .ok (.ldc 71, 2) := by decide +kernel
theorem dL_act_458 : decode cL_act 458 = .ok (.invokestatic 64, 3) := by decide +kernel
theorem dL_act_461 : decode cL_act 461 = .ok (.goto 29, 3) := by decide +kernel
theorem dL_act_464 : decode cL_act 464 = .ok (.iconst 1, 1) := by decide +kernel
theorem dL_act_465 : decode cL_act 465 = .ok (.iload_n 1, 1) := by decide +kernel
theorem dL_act_466 : decode cL_act 466 = .ok (.bipush 8, 2) := by decide +kernel
theorem dL_act_468 : decode cL_act 468 = .ok (.ishr, 1) := by decide +kernel
theorem dL_act_469 : decode cL_act 469 = .ok (.iload_n 1, 1) := by decide +kernel
theorem dL_act_470 : decode cL_act 470 = .ok (.bipush 18, 2) := by decide +kernel
theorem dL_act_472 : decode cL_act 472 = .ok (.ishr, 1) := by decide +kernel
theorem dL_act_473 : decode cL_act 473 = .ok (.iconst 1, 1) := by decide +kernel
theorem dL_act_474 : decode cL_act 474 = .ok (.iand, 1) := by decide +kernel
theorem dL_act_475 : decode cL_act 475 = .ok (.ifCond .ne 8, 3) := by decide +kernel
theorem dL_act_478 : decode cL_act 478 = .ok (.ldc 73, 2) := by decide +kernel
theorem dL_act_480 : decode cL_act 480 = .ok (.goto 6, 3) := by decide +kernel
theorem dL_act_483 : decode cL_act 483 = .ok (.sipush 9000, 3) := by decide +kernel
theorem dL_act_486 : decode cL_act 486 = .ok (.invokestatic 64, 3) := by decide +kernel
theorem dL_act_489 : decode cL_act 489 = .ok (.iadd, 1) := by decide +kernel
theorem dL_act_490 : decode cL_act 490 = .ok (.iload_n 1, 1) := by decide +kernel
theorem dL_act_491 : decode cL_act 491 = .ok (.bipush 7, 2) := by decide +kernel
theorem dL_act_493 : decode cL_act 493 = .ok (.ishr, 1) := by decide +kernel
theorem dL_act_494 : decode cL_act 494 = .ok (.iconst 1, 1) := by decide +kernel
theorem dL_act_495 : decode cL_act 495 = .ok (.iand, 1) := by decide +kernel
theorem dL_act_496 : decode cL_act 496 = .ok (.ifCond .ne 7, 3) := by decide +kernel
theorem dL_act_499 : decode cL_act 499 = .ok (.iconst 1, 1) := by decide +kernel
theorem dL_act_500 : decode cL_act 500 = .ok (.goto 4, 3) := by decide +kernel
theorem dL_act_503 : decode cL_act 503 = .ok (.iconst 0, 1) := by decide +kernel
theorem dL_act_504 : decode cL_act 504 = .ok (.invokestatic 74, 3) := by decide +kernel
theorem dL_act_507 : decode cL_act 507 = .ok (.ireturn, 1) := by decide +kernel
theorem dL_act_508 : decode cL_act 508 = .ok (.iload_n 3, 1) := by decide +kernel
theorem dL_act_509 : decode cL_act 509 = .ok (.bipush 26, 2) := by decide +kernel
theorem dL_act_511 : decode cL_act 511 = .ok (.if_icmp .ge 31, 3) := by decide +kernel
theorem dL_act_514 : decode cL_act 514 = .ok (.aload_n 0, 1) := by decide +kernel
theorem dL_act_515 : decode cL_act 515 = .ok (.bipush 9, 2) := by decide +kernel
theorem dL_act_517 : decode cL_act 517 = .ok (.iload_n 1, 1) := by decide +kernel
theorem dL_act_518 : decode cL_act 518 = .ok (.iconst 5, 1) := by decide +kernel
theorem dL_act_519 : decode cL_act 519 = .ok (.ishr, 1) := by decide +kernel
theorem dL_act_520 : decode cL_act 520 = .ok (.iload_n 2, 1) := by decide +kernel
theorem dL_act_521 : decode cL_act 521 = .ok (.ifCond .eq 8, 3) := by decide +kernel
theorem dL_act_524 : decode cL_act 524 = .ok (.bipush 20, 2) := by decide +kernel
theorem dL_act_526 : decode cL_act 526 = .ok (.goto 5, 3) := by decide +kernel
theorem dL_act_529 : decode cL_act 529 = .ok (.bipush 8, 2) := by decide +kernel
theorem dL_act_531 : decode cL_act 531 = .ok (.invokestatic 64, 3) := by decide +kernel
theorem dL_act_534 : decode cL_act 534 = .ok (.iconst 0, 1) := by decide +kernel
theorem dL_act_535 : decode cL_act 535 = .ok (.iconst 0, 1) := by decide +kernel
theorem dL_act_536 : decode cL_act 536 = .ok (.invokestatic 67, 3) := by decide +kernel
theorem dL_act_539 : decode cL_act 539 = .ok (.goto 50, 3) := by decide +kernel
theorem dL_act_542 : decode cL_act 542 = .ok (.aload_n 0, 1) := by decide +kernel
theorem dL_act_543 : decode cL_act 543 = .ok (.bipush 8, 2) := by decide +kernel
theorem dL_act_545 : decode cL_act 545 = .ok (.iload_n 2, 1) := by decide +kernel
theorem dL_act_546 : decode cL_act 546 = .ok (.ifCond .eq 14, 3) := by decide +kernel
theorem dL_act_549 : decode cL_act 549 = .ok (.iload_n 1, 1) := by decide +kernel
theorem dL_act_550 : decode cL_act 550 = .ok (.iconst 5, 1) := by decide +kernel
theorem dL_act_551 : decode cL_act 551 = .ok (.ishr, 1) := by decide +kernel
theorem dL_act_552 : decode cL_act 552 = .ok (.bipush 120, 2) := by decide +kernel
theorem dL_act_554 : decode cL_act 554 = .ok (.invokestatic 64, 3) := by decide +kernel
theorem dL_act_557 : decode cL_act 557 = .ok (.goto 27, 3) := by decide +kernel
theorem dL_act_560 : decode cL_act 560 = .ok (.iconst 1, 1) := by decide +kernel
theorem dL_act_561 : decode cL_act 561 = .ok (.iload_n 1, 1) := by decide +kernel
theorem dL_act_562 : decode cL_act 562 = .ok (.iconst 5, 1) := by decide +kernel
theorem dL_act_563 : decode cL_act 563 = .ok (.ishr, 1) := by decide +kernel
theorem dL_act_564 : decode cL_act 564 = .ok (.iload_n 1, 1) := by decide +kernel
theorem dL_act_565 : decode cL_act 565 = .ok (.bipush 14, 2) := by decide +kernel
theorem dL_act_567 : decode cL_act 567 = .ok (.ishr, 1) := by decide +kernel
theorem dL_act_568 : decode cL_act 568 = .ok (.iconst 3, 1) := by decide +kernel
theorem dL_act_569 : decode cL_act 569 = .ok (.iand, 1) := by decide +kernel
theorem dL_act_570 : decode cL_act 570 = .ok (.ifCond .ne 8, 3) := by decide +kernel
theorem dL_act_573 : decode cL_act 573 = .ok (.bipush 35, 2) := by decide +kernel
theorem dL_act_575 : decode cL_act 575 = .ok (.goto 5, 3) := by decide +kernel
theorem dL_act_578 : decode cL_act 578 = .ok (.bipush 6, 2) := by decide +kernel
theorem dL_act_580 : decode cL_act 580 = .ok (.invokestatic 64, 3) := by decide +kernel
theorem dL_act_583 : decode cL_act 583 = .ok (.iadd, 1) := by decide +kernel
theorem dL_act_584 : decode cL_act 584 = .ok (.iconst 0, 1) := by decide +kernel
theorem dL_act_585 : decode cL_act 585 = .ok (.iconst 0, 1) := by decide +kernel
theorem dL_act_586 : decode cL_act 586 = .ok (.invokestatic 67, 3) := by decide +kernel
theorem dL_act_589 : decode cL_act 589 = .ok (.ireturn, 1) := by decide +kernel
