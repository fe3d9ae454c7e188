theorem dL_makes_115 : decode cL_makes 115 = .ok (.iconst 5, 1) := by decide +kernel
theorem dL_makes_116 : decode cL_makes 116 = .ok (.irem, 1) := by decide +kernel
theorem dL_makes_117 : decode cL_makes 117 = .ok (.iload 6, 2) := by decide +kernel
theorem dL_makes_119 : decode cL_makes 119 = .ok (.bipush 8, 2) := by decide +kernel
theorem dL_makes_121 : decode cL_makes 121 = .ok (.idiv, 1) := by decide +kernel
theorem dL_makes_122 : decode cL_makes 122 = .ok (.bipush 40, 2) := by decide +kernel
theorem dL_makes_124 : decode cL_makes 124 = .ok (.irem, 1) := by decide +kernel
theorem dL_makes_125 : decode cL_makes 125 = .ok (.invokevirtual 23, 3) := by decide +kernel
theorem dL_makes_128 : decode cL_makes 128 = .ok (.pop, 1) := by decide +kernel
theorem dL_makes_129 : decode cL_makes 129 = .ok (.aload_n 0, 1) := by decide +kernel
theorem dL_makes_130 : decode cL_makes 130 = .ok (.iload 4, 2) := by decide +kernel
theorem dL_makes_132 : decode cL_makes 132 = .ok (.iload 6, 2) := by decide +kernel
theorem dL_makes_134 : decode cL_makes 134 = .ok (.sipush 512, 3) := by decide +kernel
theorem dL_makes_137 : decode cL_makes 137 = .ok (.idiv, 1) := by decide +kernel
theorem dL_makes_138 : decode cL_makes 138 = .ok (.iconst 4, 1) := by decide +kernel
theorem dL_makes_139 : decode cL_makes 139 = .ok (.irem, 1) := by decide +kernel
theorem dL_makes_140 : decode cL_makes 140 = .ok (.iload 6, 2) := by decide +kernel
theorem dL_makes_142 : decode cL_makes 142 = .ok (.sipush 4096, 3) := by decide +kernel
theorem dL_makes_145 : decode cL_makes 145 = .ok (.idiv, 1) := by decide +kernel
theorem dL_makes_146 : decode cL_makes 146 = .ok (.bipush 50, 2) := by decide +kernel
theorem dL_makes_148 : decode cL_makes 148 = .ok (.irem, 1) := by decide +kernel
theorem dL_makes_149 : decode cL_makes 149 = .ok (.invokevirtual 23, 3) := by decide +kernel
theorem dL_makes_152 : decode cL_makes 152 = .ok (.pop, 1) := by decide +kernel
theorem dL_makes_153 : decode cL_makes 153 = .ok (.aload_n 0, 1) := by decide +kernel
theorem dL_makes_154 : decode cL_makes 154 = .ok (.iload 4, 2) := by decide +kernel
theorem dL_makes_156 : decode cL_makes 156 = .ok (.iload 6, 2) := by decide +kernel
theorem dL_makes_158 : decode cL_makes 158 = .ok (.ldc 27, 2) := by decide +kernel
theorem dL_makes_160 : decode cL_makes 160 = .ok (.idiv, 1) := by decide +kernel
theorem dL_makes_161 : decode cL_makes 161 = .ok (.iload 4, 2) := by decide +kernel
theorem dL_makes_163 : decode cL_makes 163 = .ok (.iconst 1, 1) := by decide +kernel
theorem dL_makes_164 : decode cL_makes 164 = .ok (.iadd, 1) := by decide +kernel
theorem dL_makes_165 : decode cL_makes 165 = .ok (.irem, 1) := by decide +kernel
theorem dL_makes_166 : decode cL_makes 166 = .ok (.iconst 1, 1) := by decide +kernel
theorem dL_makes_167 : decode cL_makes 167 = .ok (.invokevirtual 28, 3) := by decide +kernel
theorem dL_makes_170 : decode cL_makes 170 = .ok (.pop, 1) := by decide +kernel
theorem dL_makes_171 : decode cL_makes 171 = .ok (.iinc 4 1, 3) := by decide +kernel
theorem dL_makes_174 : decode cL_makes 174 = .ok (.goto (-169), 3) := by decide +kernel
theorem dL_makes_177 : decode cL_makes 177 = .ok (.iload_n 3, 1) := by decide +kernel
theorem dL_makes_178 : decode cL_makes 178 = .ok (.ireturn, 1) := by decide +kernel
theorem dL_input_0 : decode cL_input 0 = .ok (.iload_n 0, 1) := by decide +kernel
theorem dL_input_1 : decode cL_input 1 = .ok (.iconst 3, 1) := by decide +kernel
theorem dL_input_2 : decode cL_input 2 = .ok (.irem, 1) := by decide +kernel
theorem dL_input_3 : decode cL_input 3 = .ok (.ifCond .ne 11, 3) := by decide +kernel
theorem dL_input_6 : decode cL_input 6 = .ok (.iload_n 0, 1) := by decide +kernel
theorem dL_input_7 : decode cL_input 7 = .ok (.iconst 4, 1) := by decide +kernel
theorem dL_input_8 : decode cL_input 8 = .ok (.idiv, 1) := by decide +kernel
theorem dL_input_9 : decode cL_input 9 = .ok (.iconst 5, 1) := by decide +kernel
theorem dL_input_10 : decode cL_input 10 = .ok (.irem, 1) := by decide +kernel
theorem dL_input_11 : decode cL_input 11 = .ok (.goto 11, 3) := by decide +kernel
theorem dL_input_14 : decode cL_input 14 = .ok (.bipush 10, 2) := by decide +kernel
theorem dL_input_16 : decode cL_input 16 = .ok (.iload_n 0, 1) := by decide +kernel
theorem dL_input_17 : decode cL_input 17 = .ok (.iconst 4, 1) := by decide +kernel
theorem dL_input_18 : decode cL_input 18 = .ok (.idiv, 1) := by decide +kernel
theorem dL_input_19 : decode cL_input 19 = .ok (.iload_n 1, 1) := by decide +kernel
theorem dL_input_20 : decode cL_input 20 = .ok (.irem, 1) := by decide +kernel
theorem dL_input_21 : decode cL_input 21 = .ok (.iadd, 1) := by decide +kernel
theorem dL_input_22 : decode cL_input 22 = .ok (.ireturn, 1) := by decide +kernel
set_option maxRecDepth 20000 in
theorem ggL_isSo_X7_of : GoodIn wsL_isSo wsX7_of := goodIn_ca (goodIn_ca (goodIn_r _ [5, 6, 7, 8, 9, 4, 10, 11, 12, 13, 14, 15, 16, 17, 18, 19, 20, 21, 22, 23, 24, 25, 26, 27, 28, 29, 30, 31, 32, 33, 34, 35, 36, 37, 38, 39, 40, 41, 42, 43, 44, 223, 224, 225, 226, 227, 228, 229, 230, 231, 232, 233, 234, 235, 236, 237, 238, 239, 240, 241, 242, 243, 244, 245, 246, 247, 248, 249, 250, 251, 252] (by decide +kernel) (by decide +kernel)) (goodIn_sub (fun _ h => List.mem_cons_of_mem _ (List.mem_append_left _ (List.mem_append_right _ h))) (by decide +kernel))) (goodIn_sub (fun _ h => List.mem_cons_of_mem _ (List.mem_append_right _ h)) (by decide +kernel))
set_option maxRecDepth 20000 in
theorem gL_isSo_X7_of : GoodIn wsL_isSo (wsV RL 32 RX7 yX7_of wsX7_of) := goodIn_app (goodIn_of _ (by decide +kernel)) ggL_isSo_X7_of
set_option maxRecDepth 20000 in
theorem ggL_isSo_X7_again : GoodIn wsL_isSo wsX7_again := goodIn_ca (goodIn_ca (goodIn_r _ [48, 11, 12, 6, 49, 50, 51, 52, 8, 9, 4, 10, 13, 14, 15, 16, 17, 53, 54, 55, 56, 57, 58, 59, 60, 61, 62, 63, 64, 65, 66, 67, 68, 69, 70, 28, 71, 30, 31, 72, 73, 74, 35, 75, 37, 39, 38, 44, 76, 77, 78, 79, 40, 43, 80, 81, 82, 83, 41, 42, 84, 85, 86, 87, 88, 89, 90, 91, 92, 93, 94, 95, 96, 97, 98, 99, 100, 101, 102, 103, 104, 105, 106, 107, 108, 109, 110, 111, 112, 113, 114, 115, 116, 117, 118, 119, 120, 121, 122, 123, 124, 125, 126, 127, 128, 129, 130, 131, 132, 133, 134, 135, 136, 137, 138, 139, 140, 141, 142, 143, 144, 145, 146, 147, 148, 149, 150, 151, 152, 153, 154, 155, 156, 157, 158, 159, 160, 161, 162, 163, 164, 165, 166, 167, 168, 169, 170, 171, 172, 173, 174, 175, 176, 177, 178, 179, 180, 181, 182, 183, 184, 185, 186, 187, 188, 189, 190, 191, 192, 193, 194, 195, 196, 197, 198, 199, 200, 201, 202, 203, 204, 205, 206, 207, 208, 209, 210, 211, 212, 213, 214, 215, 216, 217, 218, 219, 220, 221, 222, 25, 26, 27, 29, 32, 33, 34, 36, 223, 224, 225, 226, 227, 228, 229, 230, 231, 232, 233, 253, 254, 255, 256, 257, 258, 234, 235, 236, 237, 238, 239, 240, 241, 242, 243, 244, 245, 246, 247, 248, 249, 250, 251, 252, 259, 260, 261, 262, 263, 264, 265, 266, 267, 268, 269] (by decide +kernel) (by decide +kernel)) (goodIn_sub (fun _ h => List.mem_cons_of_mem _ (List.mem_append_left _ (List.mem_append_right _ h))) (by decide +kernel))) (goodIn_sub (fun _ h => List.mem_cons_of_mem _ (List.mem_append_right _ h)) (by decide +kernel))
set_option maxRecDepth 20000 in
theorem gL_isSo_X7_again : GoodIn wsL_isSo (wsV RL 36 RX7 yX7_again wsX7_again) := goodIn_app (goodIn_of _ (by decide +kernel)) ggL_isSo_X7_again
theorem dL_isSo_0 : decode cL_isSo 0 = .ok (.aload_n 0, 1) := by decide +kernel
theorem dL_isSo_1 : decode cL_isSo 1 = .ok (.iload_n 1, 1) := by decide +kernel
theorem dL_isSo_2 : decode cL_isSo 2 = .ok (.iconst 3, 1) := by decide +kernel
theorem dL_isSo_3 : decode cL_isSo 3 = .ok (.invokevirtual 32, 3) := by decide +kernel
theorem dL_isSo_6 : decode cL_isSo 6 = .ok (.istore_n 3, 1) := by decide +kernel
theorem dL_isSo_7 : decode cL_isSo 7 = .ok (.aload_n 0, 1) := by decide +kernel
theorem dL_isSo_8 : decode cL_isSo 8 = .ok (.iload_n 1, 1) := by decide +kernel
theorem dL_isSo_9 : decode cL_isSo 9 = .ok (.iconst 2, 1) := by decide +kernel
theorem dL_isSo_10 : decode cL_isSo 10 = .ok (.invokevirtual 32, 3) := by decide +kernel
theorem dL_isSo_13 : decode cL_isSo 13 = .ok (.ifCond .lt 39, 3) := by decide +kernel
theorem dL_isSo_16 : decode cL_isSo 16 = .ok (.aload_n 0, 1) := by decide +kernel
theorem dL_isSo_17 : decode cL_isSo 17 = .ok (.iload_n 1, 1) := by decide +kernel
theorem dL_isSo_18 : decode cL_isSo 18 = .ok (.iconst 2, 1) := by decide +kernel
theorem dL_isSo_19 : decode cL_isSo 19 = .ok (.invokevirtual 32, 3) := by decide +kernel
theorem dL_isSo_22 : decode cL_isSo 22 = .ok (.bipush 100, 2) := by decide +kernel
theorem dL_isSo_24 : decode cL_isSo 24 = .ok (.if_icmp .gt 28, 3) := by decide +kernel
theorem dL_isSo_27 : decode cL_isSo 27 = .ok (.aload_n 0, 1) := by decide +kernel
theorem dL_isSo_28 : decode cL_isSo 28 = .ok (.iload_n 1, 1) := by decide +kernel
theorem dL_isSo_29 : decode cL_isSo 29 = .ok (.iconst 1, 1) := by decide +kernel
theorem dL_isSo_30 : decode cL_isSo 30 = .ok (.invokevirtual 32, 3) := by decide +kernel
theorem dL_isSo_33 : decode cL_isSo 33 = .ok (.sipush 1000, 3) := by decide +kernel
theorem dL_isSo_36 : decode cL_isSo 36 = .ok (.if_icmp .gt 16, 3) := by decide +kernel
theorem dL_isSo_39 : decode cL_isSo 39 = .ok (.iload_n 3, 1) := by decide +kernel
theorem dL_isSo_40 : decode cL_isSo 40 = .ok (.ifCond .lt 12, 3) := by decide +kernel
theorem dL_isSo_43 : decode cL_isSo 43 = .ok (.iload_n 3, 1) := by decide +kernel
theorem dL_isSo_44 : decode cL_isSo 44 = .ok (.iconst 3, 1) := by decide +kernel
theorem dL_isSo_45 : decode cL_isSo 45 = .ok (.if_icmp .gt 7, 3) := by decide +kernel
theorem dL_isSo_48 : decode cL_isSo 48 = .ok (.iconst 1, 1) := by decide +kernel
theorem dL_isSo_49 : decode cL_isSo 49 = .ok (.goto 4, 3) := by decide +kernel
theorem dL_isSo_52 : decode cL_isSo 52 = .ok (.iconst 0, 1) := by decide +kernel
theorem dL_isSo_53 : decode cL_isSo 53 = .ok (.istore 4, 2) := by decide +kernel
theorem dL_isSo_55 : decode cL_isSo 55 = .ok (.iload 4, 2) := by decide +kernel
theorem dL_isSo_57 : decode cL_isSo 57 = .ok (.ifCond .eq 72, 3) := by decide +kernel
theorem dL_isSo_60 : decode cL_isSo 60 = .ok (.aload_n 0, 1) := by decide +kernel
theorem dL_isSo_61 : decode cL_isSo 61 = .ok (.iload_n 1, 1) := by decide +kernel
theorem dL_isSo_62 : decode cL_isSo 62 = .ok (.iconst 4, 1) := by decide +kernel
theorem dL_isSo_63 : decode cL_isSo 63 = .ok (.invokevirtual 32, 3) := by decide +kernel
theorem dL_isSo_66 : decode cL_isSo 66 = .ok (.iconst (-1), 1) := by decide +kernel
theorem dL_isSo_67 : decode cL_isSo 67 = .ok (.if_icmp .ne 7, 3) := by decide +kernel
