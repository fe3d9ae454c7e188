theorem dL_isSo_70 : decode cL_isSo 70 = .ok (.iconst 1, 1) := by decide +kernel
theorem dL_isSo_71 : decode cL_isSo 71 = .ok (.goto 4, 3) := by decide +kernel
theorem dL_isSo_74 : decode cL_isSo 74 = .ok (.iconst 0, 1) := by decide +kernel
theorem dL_isSo_75 : decode cL_isSo 75 = .ok (.iload_n 3, 1) := by decide +kernel
theorem dL_isSo_76 : decode cL_isSo 76 = .ok (.iconst 1, 1) := by decide +kernel
theorem dL_isSo_77 : decode cL_isSo 77 = .ok (.if_icmp .eq 7, 3) := by decide +kernel
theorem dL_isSo_80 : decode cL_isSo 80 = .ok (.iconst 1, 1) := by decide +kernel
theorem dL_isSo_81 : decode cL_isSo 81 = .ok (.goto 4, 3) := by decide +kernel
theorem dL_isSo_84 : decode cL_isSo 84 = .ok (.iconst 0, 1) := by decide +kernel
theorem dL_isSo_85 : decode cL_isSo 85 = .ok (.if_icmp .ne 44, 3) := by decide +kernel
theorem dL_isSo_88 : decode cL_isSo 88 = .ok (.aload_n 0, 1) := by decide +kernel
theorem dL_isSo_89 : decode cL_isSo 89 = .ok (.iload_n 1, 1) := by decide +kernel
theorem dL_isSo_90 : decode cL_isSo 90 = .ok (.iconst 5, 1) := by decide +kernel
theorem dL_isSo_91 : decode cL_isSo 91 = .ok (.invokevirtual 32, 3) := by decide +kernel
theorem dL_isSo_94 : decode cL_isSo 94 = .ok (.ifCond .lt 35, 3) := by decide +kernel
theorem dL_isSo_97 : decode cL_isSo 97 = .ok (.iload_n 3, 1) := by decide +kernel
theorem dL_isSo_98 : decode cL_isSo 98 = .ok (.ifCond .ne 12, 3) := by decide +kernel
theorem dL_isSo_101 : decode cL_isSo 101 = .ok (.aload_n 0, 1) := by decide +kernel
theorem dL_isSo_102 : decode cL_isSo 102 = .ok (.iload_n 1, 1) := by decide +kernel
theorem dL_isSo_103 : decode cL_isSo 103 = .ok (.iconst 5, 1) := by decide +kernel
theorem dL_isSo_104 : decode cL_isSo 104 = .ok (.invokevirtual 32, 3) := by decide +kernel
theorem dL_isSo_107 : decode cL_isSo 107 = .ok (.ifCond .ne 22, 3) := by decide +kernel
theorem dL_isSo_110 : decode cL_isSo 110 = .ok (.iload_n 3, 1) := by decide +kernel
theorem dL_isSo_111 : decode cL_isSo 111 = .ok (.iconst 2, 1) := by decide +kernel
theorem dL_isSo_112 : decode cL_isSo 112 = .ok (.if_icmp .eq 13, 3) := by decide +kernel
theorem dL_isSo_115 : decode cL_isSo 115 = .ok (.aload_n 0, 1) := by decide +kernel
theorem dL_isSo_116 : decode cL_isSo 116 = .ok (.iload_n 1, 1) := by decide +kernel
theorem dL_isSo_117 : decode cL_isSo 117 = .ok (.bipush 6, 2) := by decide +kernel
theorem dL_isSo_119 : decode cL_isSo 119 = .ok (.invokevirtual 32, 3) := by decide +kernel
theorem dL_isSo_122 : decode cL_isSo 122 = .ok (.ifCond .ne 7, 3) := by decide +kernel
theorem dL_isSo_125 : decode cL_isSo 125 = .ok (.iconst 1, 1) := by decide +kernel
theorem dL_isSo_126 : decode cL_isSo 126 = .ok (.goto 4, 3) := by decide +kernel
theorem dL_isSo_129 : decode cL_isSo 129 = .ok (.iconst 0, 1) := by decide +kernel
theorem dL_isSo_130 : decode cL_isSo 130 = .ok (.istore 4, 2) := by decide +kernel
theorem dL_isSo_132 : decode cL_isSo 132 = .ok (.iconst 0, 1) := by decide +kernel
theorem dL_isSo_133 : decode cL_isSo 133 = .ok (.istore 5, 2) := by decide +kernel
theorem dL_isSo_135 : decode cL_isSo 135 = .ok (.iload 5, 2) := by decide +kernel
theorem dL_isSo_137 : decode cL_isSo 137 = .ok (.bipush 7, 2) := by decide +kernel
theorem dL_isSo_139 : decode cL_isSo 139 = .ok (.if_icmp .ge 39, 3) := by decide +kernel
theorem dL_isSo_142 : decode cL_isSo 142 = .ok (.iload 4, 2) := by decide +kernel
theorem dL_isSo_144 : decode cL_isSo 144 = .ok (.ifCond .eq 34, 3) := by decide +kernel
theorem dL_isSo_147 : decode cL_isSo 147 = .ok (.aload_n 0, 1) := by decide +kernel
theorem dL_isSo_148 : decode cL_isSo 148 = .ok (.iload_n 2, 1) := by decide +kernel
theorem dL_isSo_149 : decode cL_isSo 149 = .ok (.iload_n 1, 1) := by decide +kernel
theorem dL_isSo_150 : decode cL_isSo 150 = .ok (.iload 5, 2) := by decide +kernel
theorem dL_isSo_152 : decode cL_isSo 152 = .ok (.invokevirtual 36, 3) := by decide +kernel
theorem dL_isSo_155 : decode cL_isSo 155 = .ok (.aload_n 0, 1) := by decide +kernel
theorem dL_isSo_156 : decode cL_isSo 156 = .ok (.iload_n 1, 1) := by decide +kernel
theorem dL_isSo_157 : decode cL_isSo 157 = .ok (.iload 5, 2) := by decide +kernel
theorem dL_isSo_159 : decode cL_isSo 159 = .ok (.invokevirtual 32, 3) := by decide +kernel
theorem dL_isSo_162 : decode cL_isSo 162 = .ok (.if_icmp .ne 7, 3) := by decide +kernel
theorem dL_isSo_165 : decode cL_isSo 165 = .ok (.iconst 1, 1) := by decide +kernel
theorem dL_isSo_166 : decode cL_isSo 166 = .ok (.goto 4, 3) := by decide +kernel
theorem dL_isSo_169 : decode cL_isSo 169 = .ok (.iconst 0, 1) := by decide +kernel
theorem dL_isSo_170 : decode cL_isSo 170 = .ok (.istore 4, 2) := by decide +kernel
theorem dL_isSo_172 : decode cL_isSo 172 = .ok (.iinc 5 1, 3) := by decide +kernel
theorem dL_isSo_175 : decode cL_isSo 175 = .ok (.goto (-40), 3) := by decide +kernel
theorem dL_isSo_178 : decode cL_isSo 178 = .ok (.iload 4, 2) := by decide +kernel
theorem dL_isSo_180 : decode cL_isSo 180 = .ok (.ifCond .eq 28, 3) := by decide +kernel
theorem dL_isSo_183 : decode cL_isSo 183 = .ok (.aload_n 0, 1) := by decide +kernel
theorem dL_isSo_184 : decode cL_isSo 184 = .ok (.iload_n 1, 1) := by decide +kernel
theorem dL_isSo_185 : decode cL_isSo 185 = .ok (.bipush 7, 2) := by decide +kernel
theorem dL_isSo_187 : decode cL_isSo 187 = .ok (.invokevirtual 32, 3) := by decide +kernel
theorem dL_isSo_190 : decode cL_isSo 190 = .ok (.ifCond .lt 18, 3) := by decide +kernel
theorem dL_isSo_193 : decode cL_isSo 193 = .ok (.aload_n 0, 1) := by decide +kernel
theorem dL_isSo_194 : decode cL_isSo 194 = .ok (.iload_n 1, 1) := by decide +kernel
theorem dL_isSo_195 : decode cL_isSo 195 = .ok (.bipush 7, 2) := by decide +kernel
theorem dL_isSo_197 : decode cL_isSo 197 = .ok (.invokevirtual 32, 3) := by decide +kernel
theorem dL_isSo_200 : decode cL_isSo 200 = .ok (.iconst 2, 1) := by decide +kernel
theorem dL_isSo_201 : decode cL_isSo 201 = .ok (.if_icmp .gt 7, 3) := by decide +kernel
theorem dL_isSo_204 : decode cL_isSo 204 = .ok (.iconst 1, 1) := by decide +kernel
theorem dL_isSo_205 : decode cL_isSo 205 = .ok (.goto 4, 3) := by decide +kernel
theorem dL_isSo_208 : decode cL_isSo 208 = .ok (.iconst 0, 1) := by decide +kernel
theorem dL_isSo_209 : decode cL_isSo 209 = .ok (.ireturn, 1) := by decide +kernel
set_option maxRecDepth 20000 in
theorem ggL_arePlaced_X7_of : GoodIn wsL_arePlaced wsX7_of := goodIn_ca (goodIn_ca (goodIn_r _ [5, 6, 7, 8, 9, 4, 10, 11, 12, 13, 14, 15, 16, 17, 18, 19, 20, 21, 22, 23, 24, 25, 26, 27, 28, 29, 30, 31, 32, 33, 34, 35, 36, 37, 38, 39, 40, 41, 42, 43, 44, 45, 46, 47, 48, 49, 50, 51, 52, 53, 54, 55, 56, 57, 58, 59, 60, 61, 62, 63, 64, 65, 66, 67, 68, 69, 70, 71, 72, 73, 74] (by decide +kernel) (by decide +kernel)) (goodIn_sub (fun _ h => List.mem_cons_of_mem _ (List.mem_append_left _ (List.mem_append_right _ h))) (by decide +kernel))) (goodIn_sub (fun _ h => List.mem_cons_of_mem _ (List.mem_append_right _ h)) (by decide +kernel))
set_option maxRecDepth 20000 in
theorem gL_arePlaced_X7_of : GoodIn wsL_arePlaced (wsV RL 32 RX7 yX7_of wsX7_of) := goodIn_app (goodIn_of _ (by decide +kernel)) ggL_arePlaced_X7_of
theorem dL_arePlaced_0 : decode cL_arePlaced 0 = .ok (.aload_n 0, 1) := by decide +kernel
theorem dL_arePlaced_1 : decode cL_arePlaced 1 = .ok (.iconst 0, 1) := by decide +kernel
theorem dL_arePlaced_2 : decode cL_arePlaced 2 = .ok (.iconst 0, 1) := by decide +kernel
theorem dL_arePlaced_3 : decode cL_arePlaced 3 = .ok (.invokevirtual 32, 3) := by decide +kernel
theorem dL_arePlaced_6 : decode cL_arePlaced 6 = .ok (.istore_n 1, 1) := by decide +kernel
theorem dL_arePlaced_7 : decode cL_arePlaced 7 = .ok (.aload_n 0, 1) := by decide +kernel
theorem dL_arePlaced_8 : decode cL_arePlaced 8 = .ok (.iconst 1, 1) := by decide +kernel
theorem dL_arePlaced_9 : decode cL_arePlaced 9 = .ok (.iconst 0, 1) := by decide +kernel
theorem dL_arePlaced_10 : decode cL_arePlaced 10 = .ok (.invokevirtual 32, 3) := by decide +kernel
theorem dL_arePlaced_13 : decode cL_arePlaced 13 = .ok (.istore_n 2, 1) := by decide +kernel
theorem dL_arePlaced_14 : decode cL_arePlaced 14 = .ok (.iload_n 1, 1) := by decide +kernel
theorem dL_arePlaced_15 : decode cL_arePlaced 15 = .ok (.ifCond .lt 35, 3) := by decide +kernel
theorem dL_arePlaced_18 : decode cL_arePlaced 18 = .ok (.iload_n 2, 1) := by decide +kernel
theorem dL_arePlaced_19 : decode cL_arePlaced 19 = .ok (.sipush 600, 3) := by decide +kernel
theorem dL_arePlaced_22 : decode cL_arePlaced 22 = .ok (.if_icmp .gt 28, 3) := by decide +kernel
theorem dL_arePlaced_25 : decode cL_arePlaced 25 = .ok (.iload_n 2, 1) := by decide +kernel
theorem dL_arePlaced_26 : decode cL_arePlaced 26 = .ok (.iload_n 1, 1) := by decide +kernel
theorem dL_arePlaced_27 : decode cL_arePlaced 27 = .ok (.isub, 1) := by decide +kernel
theorem dL_arePlaced_28 : decode cL_arePlaced 28 = .ok (.bipush 20, 2) := by decide +kernel
theorem dL_arePlaced_30 : decode cL_arePlaced 30 = .ok (.if_icmp .lt 20, 3) := by decide +kernel
theorem dL_arePlaced_33 : decode cL_arePlaced 33 = .ok (.iload_n 1, 1) := by decide +kernel
theorem dL_arePlaced_34 : decode cL_arePlaced 34 = .ok (.sipush 580, 3) := by decide +kernel
theorem dL_arePlaced_37 : decode cL_arePlaced 37 = .ok (.if_icmp .gt 13, 3) := by decide +kernel
theorem dL_arePlaced_40 : decode cL_arePlaced 40 = .ok (.iload_n 2, 1) := by decide +kernel
