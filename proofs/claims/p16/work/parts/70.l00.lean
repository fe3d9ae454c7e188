theorem dL_told_0 : decode cL_told 0 = .ok (.iload_n 1, 1) := by decide +kernel
theorem dL_told_1 : decode cL_told 1 = .ok (.aload_n 0, 1) := by decide +kernel
theorem dL_told_2 : decode cL_told 2 = .ok (.arraylength, 1) := by decide +kernel
theorem dL_told_3 : decode cL_told 3 = .ok (.if_icmp .ge 9, 3) := by decide +kernel
theorem dL_told_6 : decode cL_told 6 = .ok (.aload_n 0, 1) := by decide +kernel
theorem dL_told_7 : decode cL_told 7 = .ok (.iload_n 1, 1) := by decide +kernel
theorem dL_told_8 : decode cL_told 8 = .ok (.iaload, 1) := by decide +kernel
theorem dL_told_9 : decode cL_told 9 = .ok (.goto 14, 3) := by decide +kernel
theorem dL_told_12 : decode cL_told 12 = .ok (.ldc 7, 2) := by decide +kernel
theorem dL_told_14 : decode cL_told 14 = .ok (.iload_n 1, 1) := by decide +kernel
theorem dL_told_15 : decode cL_told 15 = .ok (.iconst 5, 1) := by decide +kernel
theorem dL_told_16 : decode cL_told 16 = .ok (.iadd, 1) := by decide +kernel
theorem dL_told_17 : decode cL_told 17 = .ok (.imul, 1) := by decide +kernel
theorem dL_told_18 : decode cL_told 18 = .ok (.iload_n 1, 1) := by decide +kernel
theorem dL_told_19 : decode cL_told 19 = .ok (.bipush 9, 2) := by decide +kernel
theorem dL_told_21 : decode cL_told 21 = .ok (.iadd, 1) := by decide +kernel
theorem dL_told_22 : decode cL_told 22 = .ok (.imul, 1) := by decide +kernel
theorem dL_told_23 : decode cL_told 23 = .ok (.ldc 8, 2) := by decide +kernel
theorem dL_told_25 : decode cL_told 25 = .ok (.iand, 1) := by decide +kernel
theorem dL_told_26 : decode cL_told 26 = .ok (.ireturn, 1) := by decide +kernel
set_option maxRecDepth 20000 in
theorem ggL_makes_L_told : GoodIn wsL_makes wsL_told := goodIn_r _ [7, 8, 9] (by decide +kernel) (by decide +kernel)
set_option maxRecDepth 20000 in
theorem gL_makes_L_told : GoodIn wsL_makes (va_wsS RL 9 yL_told wsL_told) := goodIn_app (goodIn_of _ (by decide +kernel)) ggL_makes_L_told
set_option maxRecDepth 20000 in
theorem ggL_makes_X7_move : GoodIn wsL_makes wsX7_move := goodIn_ca (goodIn_ca (goodIn_r _ [14, 15, 16, 17, 18, 19, 20, 13, 21, 22, 23, 24, 25, 26, 27, 28, 29, 30, 31, 32, 33, 34, 35, 36, 37, 38, 39, 40, 41, 42, 43, 44, 45, 46, 47, 48, 49, 50, 51, 85, 86, 87, 88, 89, 90, 91, 92, 93, 94, 95, 96, 97, 98, 99, 100, 101, 102, 103] (by decide +kernel) (by decide +kernel)) (goodIn_sub (fun _ h => List.mem_cons_of_mem _ (List.mem_append_left _ (List.mem_append_left _ (List.mem_append_right _ h)))) (by decide +kernel))) (goodIn_sub (fun _ h => List.mem_cons_of_mem _ (List.mem_append_left _ (List.mem_append_right _ h))) (by decide +kernel))
set_option maxRecDepth 20000 in
theorem gL_makes_X7_move : GoodIn wsL_makes (wsV RL 17 RX7 yX7_move wsX7_move) := goodIn_app (goodIn_of _ (by decide +kernel)) ggL_makes_X7_move
set_option maxRecDepth 20000 in
theorem ggL_makes_X7_patch : GoodIn wsL_makes wsX7_patch := goodIn_ca (goodIn_ca (goodIn_ca (goodIn_r _ [55, 17, 56, 57, 58, 13, 59, 60, 61, 62, 63, 64, 32, 65, 66, 19, 20, 21, 22, 23, 24, 25, 26, 27, 15, 16, 28, 29, 30, 31, 33, 34, 35, 67, 68, 69, 39, 70, 51, 71, 48, 49, 50, 85, 86, 87, 88, 89, 90, 91, 92, 93, 94, 95, 96, 97, 98, 99, 100, 101, 102, 103] (by decide +kernel) (by decide +kernel)) (goodIn_sub (fun _ h => List.mem_cons_of_mem _ (List.mem_append_right _ h)) (by decide +kernel))) (goodIn_sub (fun _ h => List.mem_cons_of_mem _ (List.mem_append_left _ (List.mem_append_right _ h))) (by decide +kernel))) (goodIn_sub (fun _ h => List.mem_cons_of_mem _ (List.mem_append_left _ (List.mem_append_left _ (List.mem_append_right _ h)))) (by decide +kernel))
set_option maxRecDepth 20000 in
theorem gL_makes_X7_patch : GoodIn wsL_makes (wsV RL 23 RX7 yX7_patch wsX7_patch) := goodIn_app (goodIn_of _ (by decide +kernel)) ggL_makes_X7_patch
set_option maxRecDepth 20000 in
theorem ggL_makes_X7_cancel : GoodIn wsL_makes wsX7_cancel := goodIn_ca (goodIn_ca (goodIn_r _ [75, 17, 56, 57, 58, 13, 59, 60, 61, 62, 63, 64, 32, 65, 66, 24, 25, 26, 27, 15, 16, 28, 29, 30, 31, 33, 34, 35, 76, 77, 78, 39, 79, 80, 81, 82, 83, 84, 85, 86, 87, 88, 89, 90, 91, 92, 93, 94, 95, 96, 97, 98, 99, 100, 101, 102, 103] (by decide +kernel) (by decide +kernel)) (goodIn_sub (fun _ h => List.mem_cons_of_mem _ (List.mem_append_right _ h)) (by decide +kernel))) (goodIn_sub (fun _ h => List.mem_cons_of_mem _ (List.mem_append_left _ (List.mem_append_left _ (List.mem_append_right _ h)))) (by decide +kernel))
set_option maxRecDepth 20000 in
theorem gL_makes_X7_cancel : GoodIn wsL_makes (wsV RL 28 RX7 yX7_cancel wsX7_cancel) := goodIn_app (goodIn_of _ (by decide +kernel)) ggL_makes_X7_cancel
theorem dL_makes_0 : decode cL_makes 0 = .ok (.iconst 1, 1) := by decide +kernel
theorem dL_makes_1 : decode cL_makes 1 = .ok (.istore_n 3, 1) := by decide +kernel
theorem dL_makes_2 : decode cL_makes 2 = .ok (.iconst 0, 1) := by decide +kernel
theorem dL_makes_3 : decode cL_makes 3 = .ok (.istore 4, 2) := by decide +kernel
theorem dL_makes_5 : decode cL_makes 5 = .ok (.iload 4, 2) := by decide +kernel
theorem dL_makes_7 : decode cL_makes 7 = .ok (.iload_n 2, 1) := by decide +kernel
theorem dL_makes_8 : decode cL_makes 8 = .ok (.if_icmp .ge 169, 3) := by decide +kernel
theorem dL_makes_11 : decode cL_makes 11 = .ok (.aload_n 1, 1) := by decide +kernel
theorem dL_makes_12 : decode cL_makes 12 = .ok (.iconst 2, 1) := by decide +kernel
theorem dL_makes_13 : decode cL_makes 13 = .ok (.iload 4, 2) := by decide +kernel
theorem dL_makes_15 : decode cL_makes 15 = .ok (.imul, 1) := by decide +kernel
theorem dL_makes_16 : decode cL_makes 16 = .ok (.invokestatic 9, 3) := by decide +kernel
theorem dL_makes_19 : decode cL_makes 19 = .ok (.istore 5, 2) := by decide +kernel
theorem dL_makes_21 : decode cL_makes 21 = .ok (.aload_n 1, 1) := by decide +kernel
theorem dL_makes_22 : decode cL_makes 22 = .ok (.iconst 2, 1) := by decide +kernel
theorem dL_makes_23 : decode cL_makes 23 = .ok (.iload 4, 2) := by decide +kernel
theorem dL_makes_25 : decode cL_makes 25 = .ok (.imul, 1) := by decide +kernel
theorem dL_makes_26 : decode cL_makes 26 = .ok (.iconst 1, 1) := by decide +kernel
theorem dL_makes_27 : decode cL_makes 27 = .ok (.iadd, 1) := by decide +kernel
theorem dL_makes_28 : decode cL_makes 28 = .ok (.invokestatic 9, 3) := by decide +kernel
theorem dL_makes_31 : decode cL_makes 31 = .ok (.istore 6, 2) := by decide +kernel
theorem dL_makes_33 : decode cL_makes 33 = .ok (.iload_n 3, 1) := by decide +kernel
theorem dL_makes_34 : decode cL_makes 34 = .ok (.ifCond .eq 74, 3) := by decide +kernel
theorem dL_makes_37 : decode cL_makes 37 = .ok (.aload_n 0, 1) := by decide +kernel
theorem dL_makes_38 : decode cL_makes 38 = .ok (.iconst 1, 1) := by decide +kernel
theorem dL_makes_39 : decode cL_makes 39 = .ok (.iload 5, 2) := by decide +kernel
theorem dL_makes_41 : decode cL_makes 41 = .ok (.bipush 12, 2) := by decide +kernel
theorem dL_makes_43 : decode cL_makes 43 = .ok (.irem, 1) := by decide +kernel
theorem dL_makes_44 : decode cL_makes 44 = .ok (.iadd, 1) := by decide +kernel
theorem dL_makes_45 : decode cL_makes 45 = .ok (.iconst 1, 1) := by decide +kernel
theorem dL_makes_46 : decode cL_makes 46 = .ok (.iload 5, 2) := by decide +kernel
theorem dL_makes_48 : decode cL_makes 48 = .ok (.bipush 16, 2) := by decide +kernel
theorem dL_makes_50 : decode cL_makes 50 = .ok (.idiv, 1) := by decide +kernel
theorem dL_makes_51 : decode cL_makes 51 = .ok (.bipush 6, 2) := by decide +kernel
theorem dL_makes_53 : decode cL_makes 53 = .ok (.irem, 1) := by decide +kernel
theorem dL_makes_54 : decode cL_makes 54 = .ok (.iadd, 1) := by decide +kernel
theorem dL_makes_55 : decode cL_makes 55 = .ok (.iconst 1, 1) := by decide +kernel
theorem dL_makes_56 : decode cL_makes 56 = .ok (.iload 5, 2) := by decide +kernel
theorem dL_makes_58 : decode cL_makes 58 = .ok (.sipush 128, 3) := by decide +kernel
theorem dL_makes_61 : decode cL_makes 61 = .ok (.idiv, 1) := by decide +kernel
theorem dL_makes_62 : decode cL_makes 62 = .ok (.bipush 20, 2) := by decide +kernel
theorem dL_makes_64 : decode cL_makes 64 = .ok (.irem, 1) := by decide +kernel
theorem dL_makes_65 : decode cL_makes 65 = .ok (.iadd, 1) := by decide +kernel
theorem dL_makes_66 : decode cL_makes 66 = .ok (.bipush 20, 2) := by decide +kernel
theorem dL_makes_68 : decode cL_makes 68 = .ok (.iload 5, 2) := by decide +kernel
theorem dL_makes_70 : decode cL_makes 70 = .ok (.sipush 4096, 3) := by decide +kernel
theorem dL_makes_73 : decode cL_makes 73 = .ok (.idiv, 1) := by decide +kernel
theorem dL_makes_74 : decode cL_makes 74 = .ok (.bipush 100, 2) := by decide +kernel
theorem dL_makes_76 : decode cL_makes 76 = .ok (.irem, 1) := by decide +kernel
theorem dL_makes_77 : decode cL_makes 77 = .ok (.iadd, 1) := by decide +kernel
theorem dL_makes_78 : decode cL_makes 78 = .ok (.iload 5, 2) := by decide +kernel
theorem dL_makes_80 : decode cL_makes 80 = .ok (.ldc 15, 2) := by decide +kernel
theorem dL_makes_82 : decode cL_makes 82 = .ok (.idiv, 1) := by decide +kernel
theorem dL_makes_83 : decode cL_makes 83 = .ok (.iconst 4, 1) := by decide +kernel
theorem dL_makes_84 : decode cL_makes 84 = .ok (.irem, 1) := by decide +kernel
theorem dL_makes_85 : decode cL_makes 85 = .ok (.iconst 1, 1) := by decide +kernel
theorem dL_makes_86 : decode cL_makes 86 = .ok (.iload 5, 2) := by decide +kernel
theorem dL_makes_88 : decode cL_makes 88 = .ok (.ldc 16, 2) := by decide +kernel
theorem dL_makes_90 : decode cL_makes 90 = .ok (.idiv, 1) := by decide +kernel
theorem dL_makes_91 : decode cL_makes 91 = .ok (.sipush 200, 3) := by decide +kernel
theorem dL_makes_94 : decode cL_makes 94 = .ok (.irem, 1) := by decide +kernel
theorem dL_makes_95 : decode cL_makes 95 = .ok (.iadd, 1) := by decide +kernel
theorem dL_makes_96 : decode cL_makes 96 = .ok (.invokevirtual 17, 3) := by decide +kernel
theorem dL_makes_99 : decode cL_makes 99 = .ok (.iload 4, 2) := by decide +kernel
theorem dL_makes_101 : decode cL_makes 101 = .ok (.if_icmp .ne 7, 3) := by decide +kernel
theorem dL_makes_104 : decode cL_makes 104 = .ok (.iconst 1, 1) := by decide +kernel
theorem dL_makes_105 : decode cL_makes 105 = .ok (.goto 4, 3) := by decide +kernel
theorem dL_makes_108 : decode cL_makes 108 = .ok (.iconst 0, 1) := by decide +kernel
theorem dL_makes_109 : decode cL_makes 109 = .ok (.istore_n 3, 1) := by decide +kernel
theorem dL_makes_110 : decode cL_makes 110 = .ok (.aload_n 0, 1) := by decide +kernel
theorem dL_makes_111 : decode cL_makes 111 = .ok (.iload 4, 2) := by decide +kernel
theorem dL_makes_113 : decode cL_makes 113 = .ok (.iload 6, 2) := by decide +kernel
