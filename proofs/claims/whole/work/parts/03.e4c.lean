theorem dX8_search_18 : decode cX8_search 18 = .ok (.bipush 100, 2) := by decide +kernel
theorem dX8_search_20 : decode cX8_search 20 = .ok (.invokevirtual 99, 3) := by decide +kernel
theorem dX8_search_23 : decode cX8_search 23 = .ok (.aload_n 0, 1) := by decide +kernel
theorem dX8_search_24 : decode cX8_search 24 = .ok (.iload_n 1, 1) := by decide +kernel
theorem dX8_search_25 : decode cX8_search 25 = .ok (.iconst 1, 1) := by decide +kernel
theorem dX8_search_26 : decode cX8_search 26 = .ok (.invokevirtual 131, 3) := by decide +kernel
theorem dX8_search_29 : decode cX8_search 29 = .ok (.ifCond .ne 4, 3) := by decide +kernel
theorem dX8_search_32 : decode cX8_search 32 = .ok (.return_, 1) := by decide +kernel
theorem dX8_search_33 : decode cX8_search 33 = .ok (.aload_n 0, 1) := by decide +kernel
theorem dX8_search_34 : decode cX8_search 34 = .ok (.getfield 35, 3) := by decide +kernel
theorem dX8_search_37 : decode cX8_search 37 = .ok (.iconst 0, 1) := by decide +kernel
theorem dX8_search_38 : decode cX8_search 38 = .ok (.iload_n 1, 1) := by decide +kernel
theorem dX8_search_39 : decode cX8_search 39 = .ok (.iastore, 1) := by decide +kernel
theorem dX8_search_40 : decode cX8_search 40 = .ok (.aload_n 0, 1) := by decide +kernel
theorem dX8_search_41 : decode cX8_search 41 = .ok (.iconst 1, 1) := by decide +kernel
theorem dX8_search_42 : decode cX8_search 42 = .ok (.invokevirtual 135, 3) := by decide +kernel
theorem dX8_search_45 : decode cX8_search 45 = .ok (.aload_n 0, 1) := by decide +kernel
theorem dX8_search_46 : decode cX8_search 46 = .ok (.iconst 1, 1) := by decide +kernel
theorem dX8_search_47 : decode cX8_search 47 = .ok (.invokevirtual 138, 3) := by decide +kernel
theorem dX8_search_50 : decode cX8_search 50 = .ok (.iconst 1, 1) := by decide +kernel
theorem dX8_search_51 : decode cX8_search 51 = .ok (.istore 4, 2) := by decide +kernel
theorem dX8_search_53 : decode cX8_search 53 = .ok (.iconst 0, 1) := by decide +kernel
theorem dX8_search_54 : decode cX8_search 54 = .ok (.istore 5, 2) := by decide +kernel
theorem dX8_search_56 : decode cX8_search 56 = .ok (.iload 4, 2) := by decide +kernel
theorem dX8_search_58 : decode cX8_search 58 = .ok (.ifCond .le 96, 3) := by decide +kernel
theorem dX8_search_61 : decode cX8_search 61 = .ok (.iload 4, 2) := by decide +kernel
theorem dX8_search_63 : decode cX8_search 63 = .ok (.iload_n 2, 1) := by decide +kernel
theorem dX8_search_64 : decode cX8_search 64 = .ok (.if_icmp .eq 12, 3) := by decide +kernel
theorem dX8_search_67 : decode cX8_search 67 = .ok (.iload 5, 2) := by decide +kernel
theorem dX8_search_69 : decode cX8_search 69 = .ok (.aload_n 0, 1) := by decide +kernel
theorem dX8_search_70 : decode cX8_search 70 = .ok (.getfield 44, 3) := by decide +kernel
theorem dX8_search_73 : decode cX8_search 73 = .ok (.if_icmp .ne 29, 3) := by decide +kernel
theorem dX8_search_76 : decode cX8_search 76 = .ok (.iinc 4 (-1), 3) := by decide +kernel
theorem dX8_search_79 : decode cX8_search 79 = .ok (.iload 4, 2) := by decide +kernel
theorem dX8_search_81 : decode cX8_search 81 = .ok (.ifCond .le 15, 3) := by decide +kernel
theorem dX8_search_84 : decode cX8_search 84 = .ok (.aload_n 0, 1) := by decide +kernel
theorem dX8_search_85 : decode cX8_search 85 = .ok (.getfield 35, 3) := by decide +kernel
theorem dX8_search_88 : decode cX8_search 88 = .ok (.iload 4, 2) := by decide +kernel
theorem dX8_search_90 : decode cX8_search 90 = .ok (.iaload, 1) := by decide +kernel
theorem dX8_search_91 : decode cX8_search 91 = .ok (.iconst 1, 1) := by decide +kernel
theorem dX8_search_92 : decode cX8_search 92 = .ok (.iadd, 1) := by decide +kernel
theorem dX8_search_93 : decode cX8_search 93 = .ok (.goto 4, 3) := by decide +kernel
theorem dX8_search_96 : decode cX8_search 96 = .ok (.iconst 0, 1) := by decide +kernel
theorem dX8_search_97 : decode cX8_search 97 = .ok (.istore 5, 2) := by decide +kernel
theorem dX8_search_99 : decode cX8_search 99 = .ok (.goto (-43), 3) := by decide +kernel
theorem dX8_search_102 : decode cX8_search 102 = .ok (.aload_n 0, 1) := by decide +kernel
theorem dX8_search_103 : decode cX8_search 103 = .ok (.iload 4, 2) := by decide +kernel
theorem dX8_search_105 : decode cX8_search 105 = .ok (.invokevirtual 141, 3) := by decide +kernel
theorem dX8_search_108 : decode cX8_search 108 = .ok (.aload_n 0, 1) := by decide +kernel
theorem dX8_search_109 : decode cX8_search 109 = .ok (.iload 5, 2) := by decide +kernel
theorem dX8_search_111 : decode cX8_search 111 = .ok (.iconst 0, 1) := by decide +kernel
theorem dX8_search_112 : decode cX8_search 112 = .ok (.invokevirtual 131, 3) := by decide +kernel
theorem dX8_search_115 : decode cX8_search 115 = .ok (.ifCond .eq 33, 3) := by decide +kernel
theorem dX8_search_118 : decode cX8_search 118 = .ok (.aload_n 0, 1) := by decide +kernel
theorem dX8_search_119 : decode cX8_search 119 = .ok (.getfield 35, 3) := by decide +kernel
theorem dX8_search_122 : decode cX8_search 122 = .ok (.iload 4, 2) := by decide +kernel
theorem dX8_search_124 : decode cX8_search 124 = .ok (.iload 5, 2) := by decide +kernel
theorem dX8_search_126 : decode cX8_search 126 = .ok (.iastore, 1) := by decide +kernel
theorem dX8_search_127 : decode cX8_search 127 = .ok (.iinc 4 1, 3) := by decide +kernel
theorem dX8_search_130 : decode cX8_search 130 = .ok (.aload_n 0, 1) := by decide +kernel
theorem dX8_search_131 : decode cX8_search 131 = .ok (.iload 4, 2) := by decide +kernel
theorem dX8_search_133 : decode cX8_search 133 = .ok (.invokevirtual 135, 3) := by decide +kernel
theorem dX8_search_136 : decode cX8_search 136 = .ok (.aload_n 0, 1) := by decide +kernel
theorem dX8_search_137 : decode cX8_search 137 = .ok (.iload 4, 2) := by decide +kernel
theorem dX8_search_139 : decode cX8_search 139 = .ok (.invokevirtual 138, 3) := by decide +kernel
theorem dX8_search_142 : decode cX8_search 142 = .ok (.iconst 0, 1) := by decide +kernel
theorem dX8_search_143 : decode cX8_search 143 = .ok (.istore 5, 2) := by decide +kernel
theorem dX8_search_145 : decode cX8_search 145 = .ok (.goto (-89), 3) := by decide +kernel
theorem dX8_search_148 : decode cX8_search 148 = .ok (.iinc 5 1, 3) := by decide +kernel
theorem dX8_search_151 : decode cX8_search 151 = .ok (.goto (-95), 3) := by decide +kernel
theorem dX8_search_154 : decode cX8_search 154 = .ok (.return_, 1) := by decide +kernel
set_option maxRecDepth 20000 in
theorem ggX8_most_X8_isMove : GoodIn wsX8_most wsX8_isMove := goodIn_r _ [6, 7, 8, 9, 5, 10, 87, 88, 89, 90, 91, 92, 93, 94, 95, 96, 97, 98, 99, 100, 101, 102, 103] rfl (by decide +kernel)
set_option maxRecDepth 20000 in
theorem gX8_most_X8_isMove : GoodIn wsX8_most (wsV RX8 59 RX8 yX8_isMove wsX8_isMove) := goodIn_app (goodIn_of _ (by decide +kernel)) ggX8_most_X8_isMove
set_option maxRecDepth 20000 in
theorem ggX8_most_X8_in : GoodIn wsX8_most wsX8_in := goodIn_r _ [10] rfl (by decide +kernel)
set_option maxRecDepth 20000 in
theorem gX8_most_X8_in : GoodIn wsX8_most (va_wsS RX8 47 yX8_in wsX8_in) := goodIn_app (goodIn_of _ (by decide +kernel)) ggX8_most_X8_in
set_option maxRecDepth 20000 in
theorem ggX8_most_X8_isFine : GoodIn wsX8_most wsX8_isFine := goodIn_r _ [14, 15, 87, 88, 89, 90, 91, 92, 93, 94, 95, 96, 97, 98, 99, 100, 101, 102, 103] rfl (by decide +kernel)
set_option maxRecDepth 20000 in
theorem gX8_most_X8_isFine : GoodIn wsX8_most (wsV RX8 55 RX8 yX8_isFine wsX8_isFine) := goodIn_app (goodIn_of _ (by decide +kernel)) ggX8_most_X8_isFine
set_option maxRecDepth 20000 in
theorem ggX8_most_X8_search : GoodIn wsX8_most wsX8_search := goodIn_r _ [19, 20, 1, 21, 7, 22, 23, 24, 5, 25, 26, 27, 28, 29, 30, 31, 32, 33, 34, 35, 36, 37, 38, 39, 40, 41, 42, 43, 44, 45, 46, 47, 48, 49, 50, 51, 52, 53, 54, 55, 56, 57, 58, 59, 60, 61, 62, 63, 64, 65, 66, 67, 68, 69, 70, 71, 72, 73, 74, 75, 76, 77, 78, 79, 80, 81, 82, 83, 84, 85, 86, 87, 88, 89, 90, 91, 92, 93, 94, 95, 96, 97, 98, 99, 100, 101, 102, 103] rfl (by decide +kernel)
set_option maxRecDepth 20000 in
theorem gX8_most_X8_search : GoodIn wsX8_most (wsV RX8 144 RX8 yX8_search wsX8_search) := goodIn_app (goodIn_of _ (by decide +kernel)) ggX8_most_X8_search
theorem dX8_most_0 : decode cX8_most 0 = .ok (.aload_n 0, 1) := by decide +kernel
theorem dX8_most_1 : decode cX8_most 1 = .ok (.aload_n 0, 1) := by decide +kernel
theorem dX8_most_2 : decode cX8_most 2 = .ok (.iload_n 1, 1) := by decide +kernel
theorem dX8_most_3 : decode cX8_most 3 = .ok (.invokevirtual 59, 3) := by decide +kernel
theorem dX8_most_6 : decode cX8_most 6 = .ok (.ifCond .ne 7, 3) := by decide +kernel
theorem dX8_most_9 : decode cX8_most 9 = .ok (.iconst 1, 1) := by decide +kernel
theorem dX8_most_10 : decode cX8_most 10 = .ok (.goto 27, 3) := by decide +kernel
theorem dX8_most_13 : decode cX8_most 13 = .ok (.iload_n 2, 1) := by decide +kernel
theorem dX8_most_14 : decode cX8_most 14 = .ok (.iconst 1, 1) := by decide +kernel
theorem dX8_most_15 : decode cX8_most 15 = .ok (.iconst 4, 1) := by decide +kernel
theorem dX8_most_16 : decode cX8_most 16 = .ok (.invokestatic 47, 3) := by decide +kernel
theorem dX8_most_19 : decode cX8_most 19 = .ok (.ifCond .eq 17, 3) := by decide +kernel
theorem dX8_most_22 : decode cX8_most 22 = .ok (.iload_n 3, 1) := by decide +kernel
theorem dX8_most_23 : decode cX8_most 23 = .ok (.iconst 0, 1) := by decide +kernel
theorem dX8_most_24 : decode cX8_most 24 = .ok (.bipush 100, 2) := by decide +kernel
theorem dX8_most_26 : decode cX8_most 26 = .ok (.invokestatic 47, 3) := by decide +kernel
theorem dX8_most_29 : decode cX8_most 29 = .ok (.ifCond .eq 7, 3) := by decide +kernel
theorem dX8_most_32 : decode cX8_most 32 = .ok (.iconst 0, 1) := by decide +kernel
