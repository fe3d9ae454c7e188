theorem dX8_advantage_101 : decode cX8_advantage 101 = .ok (.istore_n 3, 1) := by decide +kernel
theorem dX8_advantage_102 : decode cX8_advantage 102 = .ok (.aload_n 0, 1) := by decide +kernel
theorem dX8_advantage_103 : decode cX8_advantage 103 = .ok (.getfield 13, 3) := by decide +kernel
theorem dX8_advantage_106 : decode cX8_advantage 106 = .ok (.bipush 14, 2) := by decide +kernel
theorem dX8_advantage_108 : decode cX8_advantage 108 = .ok (.iaload, 1) := by decide +kernel
theorem dX8_advantage_109 : decode cX8_advantage 109 = .ok (.ifCond .ne 8, 3) := by decide +kernel
theorem dX8_advantage_112 : decode cX8_advantage 112 = .ok (.iload 4, 2) := by decide +kernel
theorem dX8_advantage_114 : decode cX8_advantage 114 = .ok (.goto 7, 3) := by decide +kernel
theorem dX8_advantage_117 : decode cX8_advantage 117 = .ok (.iload 5, 2) := by decide +kernel
theorem dX8_advantage_119 : decode cX8_advantage 119 = .ok (.iconst 2, 1) := by decide +kernel
theorem dX8_advantage_120 : decode cX8_advantage 120 = .ok (.iadd, 1) := by decide +kernel
theorem dX8_advantage_121 : decode cX8_advantage 121 = .ok (.istore 4, 2) := by decide +kernel
theorem dX8_advantage_123 : decode cX8_advantage 123 = .ok (.iinc 5 1, 3) := by decide +kernel
theorem dX8_advantage_126 : decode cX8_advantage 126 = .ok (.goto (-82), 3) := by decide +kernel
theorem dX8_advantage_129 : decode cX8_advantage 129 = .ok (.iload 4, 2) := by decide +kernel
theorem dX8_advantage_131 : decode cX8_advantage 131 = .ok (.iload_n 3, 1) := by decide +kernel
theorem dX8_advantage_132 : decode cX8_advantage 132 = .ok (.isub, 1) := by decide +kernel
theorem dX8_advantage_133 : decode cX8_advantage 133 = .ok (.ireturn, 1) := by decide +kernel
set_option maxRecDepth 20000 in
theorem ggX8_lossBy_X8_lay : GoodIn wsX8_lossBy wsX8_lay := goodIn_r _ [6, 1, 53, 54, 55, 56, 57, 58, 59, 60, 61, 62, 63, 64, 65, 66, 67, 68, 69] rfl (by decide +kernel)
set_option maxRecDepth 20000 in
theorem gX8_lossBy_X8_lay : GoodIn wsX8_lossBy (wsV RX8 99 RX8 yX8_lay wsX8_lay) := goodIn_app (goodIn_of _ (by decide +kernel)) ggX8_lossBy_X8_lay
set_option maxRecDepth 20000 in
theorem ggX8_lossBy_X8_blocking : GoodIn wsX8_lossBy wsX8_blocking := goodIn_r _ [10, 11, 12, 13, 5, 14, 15, 53, 54, 55, 56, 57, 58, 59, 60, 61, 62, 63, 64, 65, 66, 67, 68, 69] rfl (by decide +kernel)
set_option maxRecDepth 20000 in
theorem gX8_lossBy_X8_blocking : GoodIn wsX8_lossBy (wsV RX8 118 RX8 yX8_blocking wsX8_blocking) := goodIn_app (goodIn_of _ (by decide +kernel)) ggX8_lossBy_X8_blocking
set_option maxRecDepth 20000 in
theorem ggX8_lossBy_X8_frame : GoodIn wsX8_lossBy wsX8_frame := goodIn_r _ [19, 20, 21, 22, 23, 5, 24, 1, 25, 26, 27, 28, 11, 12, 13, 14, 15, 29, 30, 31, 32, 33, 34, 35, 36, 37, 38, 39, 40, 41, 42, 43, 44, 45, 46, 47, 48, 49, 50, 51, 52, 53, 54, 55, 56, 57, 58, 59, 60, 61, 62, 63, 64, 65, 66, 67, 68, 69] rfl (by decide +kernel)
set_option maxRecDepth 20000 in
theorem gX8_lossBy_X8_frame : GoodIn wsX8_lossBy (wsV RX8 112 RX8 yX8_frame wsX8_frame) := goodIn_app (goodIn_of _ (by decide +kernel)) ggX8_lossBy_X8_frame
theorem dX8_lossBy_0 : decode cX8_lossBy 0 = .ok (.aload_n 0, 1) := by decide +kernel
theorem dX8_lossBy_1 : decode cX8_lossBy 1 = .ok (.sipush 290, 3) := by decide +kernel
theorem dX8_lossBy_4 : decode cX8_lossBy 4 = .ok (.sipush 310, 3) := by decide +kernel
theorem dX8_lossBy_7 : decode cX8_lossBy 7 = .ok (.bipush 100, 2) := by decide +kernel
theorem dX8_lossBy_9 : decode cX8_lossBy 9 = .ok (.bipush 100, 2) := by decide +kernel
theorem dX8_lossBy_11 : decode cX8_lossBy 11 = .ok (.invokevirtual 99, 3) := by decide +kernel
theorem dX8_lossBy_14 : decode cX8_lossBy 14 = .ok (.iconst 0, 1) := by decide +kernel
theorem dX8_lossBy_15 : decode cX8_lossBy 15 = .ok (.istore 4, 2) := by decide +kernel
theorem dX8_lossBy_17 : decode cX8_lossBy 17 = .ok (.iconst 0, 1) := by decide +kernel
theorem dX8_lossBy_18 : decode cX8_lossBy 18 = .ok (.istore 5, 2) := by decide +kernel
theorem dX8_lossBy_20 : decode cX8_lossBy 20 = .ok (.iload 5, 2) := by decide +kernel
theorem dX8_lossBy_22 : decode cX8_lossBy 22 = .ok (.sipush 200, 3) := by decide +kernel
theorem dX8_lossBy_25 : decode cX8_lossBy 25 = .ok (.if_icmp .ge 119, 3) := by decide +kernel
theorem dX8_lossBy_28 : decode cX8_lossBy 28 = .ok (.iload 4, 2) := by decide +kernel
theorem dX8_lossBy_30 : decode cX8_lossBy 30 = .ok (.iconst 1, 1) := by decide +kernel
theorem dX8_lossBy_31 : decode cX8_lossBy 31 = .ok (.if_icmp .ne 17, 3) := by decide +kernel
theorem dX8_lossBy_34 : decode cX8_lossBy 34 = .ok (.aload_n 0, 1) := by decide +kernel
theorem dX8_lossBy_35 : decode cX8_lossBy 35 = .ok (.getfield 13, 3) := by decide +kernel
theorem dX8_lossBy_38 : decode cX8_lossBy 38 = .ok (.bipush 14, 2) := by decide +kernel
theorem dX8_lossBy_40 : decode cX8_lossBy 40 = .ok (.iaload, 1) := by decide +kernel
theorem dX8_lossBy_41 : decode cX8_lossBy 41 = .ok (.ifCond .ne 7, 3) := by decide +kernel
theorem dX8_lossBy_44 : decode cX8_lossBy 44 = .ok (.iconst 1, 1) := by decide +kernel
theorem dX8_lossBy_45 : decode cX8_lossBy 45 = .ok (.goto 4, 3) := by decide +kernel
theorem dX8_lossBy_48 : decode cX8_lossBy 48 = .ok (.iconst 0, 1) := by decide +kernel
theorem dX8_lossBy_49 : decode cX8_lossBy 49 = .ok (.istore 6, 2) := by decide +kernel
theorem dX8_lossBy_51 : decode cX8_lossBy 51 = .ok (.iload 4, 2) := by decide +kernel
theorem dX8_lossBy_53 : decode cX8_lossBy 53 = .ok (.iconst 2, 1) := by decide +kernel
theorem dX8_lossBy_54 : decode cX8_lossBy 54 = .ok (.if_icmp .ne 7, 3) := by decide +kernel
theorem dX8_lossBy_57 : decode cX8_lossBy 57 = .ok (.iconst 0, 1) := by decide +kernel
theorem dX8_lossBy_58 : decode cX8_lossBy 58 = .ok (.goto 22, 3) := by decide +kernel
theorem dX8_lossBy_61 : decode cX8_lossBy 61 = .ok (.iload 6, 2) := by decide +kernel
theorem dX8_lossBy_63 : decode cX8_lossBy 63 = .ok (.ifCond .eq 10, 3) := by decide +kernel
theorem dX8_lossBy_66 : decode cX8_lossBy 66 = .ok (.bipush 10, 2) := by decide +kernel
theorem dX8_lossBy_68 : decode cX8_lossBy 68 = .ok (.iload_n 2, 1) := by decide +kernel
theorem dX8_lossBy_69 : decode cX8_lossBy 69 = .ok (.iadd, 1) := by decide +kernel
theorem dX8_lossBy_70 : decode cX8_lossBy 70 = .ok (.goto 10, 3) := by decide +kernel
theorem dX8_lossBy_73 : decode cX8_lossBy 73 = .ok (.aload_n 0, 1) := by decide +kernel
theorem dX8_lossBy_74 : decode cX8_lossBy 74 = .ok (.iload_n 1, 1) := by decide +kernel
theorem dX8_lossBy_75 : decode cX8_lossBy 75 = .ok (.iload 5, 2) := by decide +kernel
theorem dX8_lossBy_77 : decode cX8_lossBy 77 = .ok (.invokevirtual 118, 3) := by decide +kernel
theorem dX8_lossBy_80 : decode cX8_lossBy 80 = .ok (.istore 7, 2) := by decide +kernel
theorem dX8_lossBy_82 : decode cX8_lossBy 82 = .ok (.iload 6, 2) := by decide +kernel
theorem dX8_lossBy_84 : decode cX8_lossBy 84 = .ok (.ifCond .eq 7, 3) := by decide +kernel
theorem dX8_lossBy_87 : decode cX8_lossBy 87 = .ok (.iconst 2, 1) := by decide +kernel
theorem dX8_lossBy_88 : decode cX8_lossBy 88 = .ok (.goto 5, 3) := by decide +kernel
theorem dX8_lossBy_91 : decode cX8_lossBy 91 = .ok (.iload 4, 2) := by decide +kernel
theorem dX8_lossBy_93 : decode cX8_lossBy 93 = .ok (.istore 4, 2) := by decide +kernel
theorem dX8_lossBy_95 : decode cX8_lossBy 95 = .ok (.aload_n 0, 1) := by decide +kernel
theorem dX8_lossBy_96 : decode cX8_lossBy 96 = .ok (.iload 5, 2) := by decide +kernel
theorem dX8_lossBy_98 : decode cX8_lossBy 98 = .ok (.ifCond .ne 10, 3) := by decide +kernel
theorem dX8_lossBy_101 : decode cX8_lossBy 101 = .ok (.bipush 10, 2) := by decide +kernel
theorem dX8_lossBy_103 : decode cX8_lossBy 103 = .ok (.iload_n 1, 1) := by decide +kernel
theorem dX8_lossBy_104 : decode cX8_lossBy 104 = .ok (.iadd, 1) := by decide +kernel
theorem dX8_lossBy_105 : decode cX8_lossBy 105 = .ok (.goto 4, 3) := by decide +kernel
theorem dX8_lossBy_108 : decode cX8_lossBy 108 = .ok (.iload_n 3, 1) := by decide +kernel
theorem dX8_lossBy_109 : decode cX8_lossBy 109 = .ok (.iload 7, 2) := by decide +kernel
theorem dX8_lossBy_111 : decode cX8_lossBy 111 = .ok (.invokevirtual 112, 3) := by decide +kernel
theorem dX8_lossBy_114 : decode cX8_lossBy 114 = .ok (.iload 4, 2) := by decide +kernel
theorem dX8_lossBy_116 : decode cX8_lossBy 116 = .ok (.ifCond .ne 18, 3) := by decide +kernel
theorem dX8_lossBy_119 : decode cX8_lossBy 119 = .ok (.aload_n 0, 1) := by decide +kernel
theorem dX8_lossBy_120 : decode cX8_lossBy 120 = .ok (.getfield 13, 3) := by decide +kernel
theorem dX8_lossBy_123 : decode cX8_lossBy 123 = .ok (.bipush 14, 2) := by decide +kernel
theorem dX8_lossBy_125 : decode cX8_lossBy 125 = .ok (.iaload, 1) := by decide +kernel
theorem dX8_lossBy_126 : decode cX8_lossBy 126 = .ok (.iconst 3, 1) := by decide +kernel
theorem dX8_lossBy_127 : decode cX8_lossBy 127 = .ok (.if_icmp .ne 7, 3) := by decide +kernel
theorem dX8_lossBy_130 : decode cX8_lossBy 130 = .ok (.iconst 1, 1) := by decide +kernel
theorem dX8_lossBy_131 : decode cX8_lossBy 131 = .ok (.goto 5, 3) := by decide +kernel
theorem dX8_lossBy_134 : decode cX8_lossBy 134 = .ok (.iload 4, 2) := by decide +kernel
theorem dX8_lossBy_136 : decode cX8_lossBy 136 = .ok (.istore 4, 2) := by decide +kernel
theorem dX8_lossBy_138 : decode cX8_lossBy 138 = .ok (.iinc 5 1, 3) := by decide +kernel
theorem dX8_lossBy_141 : decode cX8_lossBy 141 = .ok (.goto (-121), 3) := by decide +kernel
theorem dX8_lossBy_144 : decode cX8_lossBy 144 = .ok (.iload 4, 2) := by decide +kernel
theorem dX8_lossBy_146 : decode cX8_lossBy 146 = .ok (.ifCond .ne 7, 3) := by decide +kernel
theorem dX8_lossBy_149 : decode cX8_lossBy 149 = .ok (.iconst (-1), 1) := by decide +kernel
theorem dX8_lossBy_150 : decode cX8_lossBy 150 = .ok (.goto 13, 3) := by decide +kernel
