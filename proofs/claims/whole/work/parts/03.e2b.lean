theorem dX8_begin_68 : decode cX8_begin 68 = .ok (.aload_n 0, 1) := by decide +kernel
theorem dX8_begin_69 : decode cX8_begin 69 = .ok (.getfield 25, 3) := by decide +kernel
theorem dX8_begin_72 : decode cX8_begin 72 = .ok (.iconst 0, 1) := by decide +kernel
theorem dX8_begin_73 : decode cX8_begin 73 = .ok (.iconst 0, 1) := by decide +kernel
theorem dX8_begin_74 : decode cX8_begin 74 = .ok (.iastore, 1) := by decide +kernel
theorem dX8_begin_75 : decode cX8_begin 75 = .ok (.aload_n 0, 1) := by decide +kernel
theorem dX8_begin_76 : decode cX8_begin 76 = .ok (.getfield 25, 3) := by decide +kernel
theorem dX8_begin_79 : decode cX8_begin 79 = .ok (.iconst 1, 1) := by decide +kernel
theorem dX8_begin_80 : decode cX8_begin 80 = .ok (.iconst 0, 1) := by decide +kernel
theorem dX8_begin_81 : decode cX8_begin 81 = .ok (.iastore, 1) := by decide +kernel
theorem dX8_begin_82 : decode cX8_begin 82 = .ok (.aload_n 0, 1) := by decide +kernel
theorem dX8_begin_83 : decode cX8_begin 83 = .ok (.getfield 16, 3) := by decide +kernel
theorem dX8_begin_86 : decode cX8_begin 86 = .ok (.iconst 2, 1) := by decide +kernel
theorem dX8_begin_87 : decode cX8_begin 87 = .ok (.iconst 0, 1) := by decide +kernel
theorem dX8_begin_88 : decode cX8_begin 88 = .ok (.iastore, 1) := by decide +kernel
theorem dX8_begin_89 : decode cX8_begin 89 = .ok (.aload_n 0, 1) := by decide +kernel
theorem dX8_begin_90 : decode cX8_begin 90 = .ok (.getfield 16, 3) := by decide +kernel
theorem dX8_begin_93 : decode cX8_begin 93 = .ok (.bipush 13, 2) := by decide +kernel
theorem dX8_begin_95 : decode cX8_begin 95 = .ok (.iconst 0, 1) := by decide +kernel
theorem dX8_begin_96 : decode cX8_begin 96 = .ok (.iastore, 1) := by decide +kernel
theorem dX8_begin_97 : decode cX8_begin 97 = .ok (.aload_n 0, 1) := by decide +kernel
theorem dX8_begin_98 : decode cX8_begin 98 = .ok (.dup, 1) := by decide +kernel
theorem dX8_begin_99 : decode cX8_begin 99 = .ok (.getfield 96, 3) := by decide +kernel
theorem dX8_begin_102 : decode cX8_begin 102 = .ok (.iconst 1, 1) := by decide +kernel
theorem dX8_begin_103 : decode cX8_begin 103 = .ok (.iadd, 1) := by decide +kernel
theorem dX8_begin_104 : decode cX8_begin 104 = .ok (.putfield 96, 3) := by decide +kernel
theorem dX8_begin_107 : decode cX8_begin 107 = .ok (.aload_n 0, 1) := by decide +kernel
theorem dX8_begin_108 : decode cX8_begin 108 = .ok (.iconst 1, 1) := by decide +kernel
theorem dX8_begin_109 : decode cX8_begin 109 = .ok (.putfield 51, 3) := by decide +kernel
theorem dX8_begin_112 : decode cX8_begin 112 = .ok (.aload_n 0, 1) := by decide +kernel
theorem dX8_begin_113 : decode cX8_begin 113 = .ok (.iconst 0, 1) := by decide +kernel
theorem dX8_begin_114 : decode cX8_begin 114 = .ok (.putfield 28, 3) := by decide +kernel
theorem dX8_begin_117 : decode cX8_begin 117 = .ok (.aload_n 0, 1) := by decide +kernel
theorem dX8_begin_118 : decode cX8_begin 118 = .ok (.sipush 300, 3) := by decide +kernel
theorem dX8_begin_121 : decode cX8_begin 121 = .ok (.iload_n 1, 1) := by decide +kernel
theorem dX8_begin_122 : decode cX8_begin 122 = .ok (.iconst 2, 1) := by decide +kernel
theorem dX8_begin_123 : decode cX8_begin 123 = .ok (.idiv, 1) := by decide +kernel
theorem dX8_begin_124 : decode cX8_begin 124 = .ok (.isub, 1) := by decide +kernel
theorem dX8_begin_125 : decode cX8_begin 125 = .ok (.sipush 300, 3) := by decide +kernel
theorem dX8_begin_128 : decode cX8_begin 128 = .ok (.iload_n 1, 1) := by decide +kernel
theorem dX8_begin_129 : decode cX8_begin 129 = .ok (.iconst 2, 1) := by decide +kernel
theorem dX8_begin_130 : decode cX8_begin 130 = .ok (.idiv, 1) := by decide +kernel
theorem dX8_begin_131 : decode cX8_begin 131 = .ok (.iadd, 1) := by decide +kernel
theorem dX8_begin_132 : decode cX8_begin 132 = .ok (.aload_n 0, 1) := by decide +kernel
theorem dX8_begin_133 : decode cX8_begin 133 = .ok (.getfield 16, 3) := by decide +kernel
theorem dX8_begin_136 : decode cX8_begin 136 = .ok (.iconst 2, 1) := by decide +kernel
theorem dX8_begin_137 : decode cX8_begin 137 = .ok (.iaload, 1) := by decide +kernel
theorem dX8_begin_138 : decode cX8_begin 138 = .ok (.aload_n 0, 1) := by decide +kernel
theorem dX8_begin_139 : decode cX8_begin 139 = .ok (.getfield 16, 3) := by decide +kernel
theorem dX8_begin_142 : decode cX8_begin 142 = .ok (.bipush 13, 2) := by decide +kernel
theorem dX8_begin_144 : decode cX8_begin 144 = .ok (.iaload, 1) := by decide +kernel
theorem dX8_begin_145 : decode cX8_begin 145 = .ok (.invokevirtual 99, 3) := by decide +kernel
theorem dX8_begin_148 : decode cX8_begin 148 = .ok (.aload_n 0, 1) := by decide +kernel
theorem dX8_begin_149 : decode cX8_begin 149 = .ok (.invokevirtual 103, 3) := by decide +kernel
theorem dX8_begin_152 : decode cX8_begin 152 = .ok (.aload_n 0, 1) := by decide +kernel
theorem dX8_begin_153 : decode cX8_begin 153 = .ok (.getfield 96, 3) := by decide +kernel
theorem dX8_begin_156 : decode cX8_begin 156 = .ok (.ireturn, 1) := by decide +kernel
set_option maxRecDepth 20000 in
theorem ggX8_isInput_X8_in : GoodIn wsX8_isInput wsX8_in := goodIn_r _ [5] (by decide +kernel) (by decide +kernel)
set_option maxRecDepth 20000 in
theorem gX8_isInput_X8_in : GoodIn wsX8_isInput (va_wsS RX8 47 yX8_in wsX8_in) := goodIn_app (goodIn_of _ (by decide +kernel)) ggX8_isInput_X8_in
theorem dX8_isInput_0 : decode cX8_isInput 0 = .ok (.iload_n 1, 1) := by decide +kernel
theorem dX8_isInput_1 : decode cX8_isInput 1 = .ok (.iconst 0, 1) := by decide +kernel
theorem dX8_isInput_2 : decode cX8_isInput 2 = .ok (.iconst 4, 1) := by decide +kernel
theorem dX8_isInput_3 : decode cX8_isInput 3 = .ok (.invokestatic 47, 3) := by decide +kernel
theorem dX8_isInput_6 : decode cX8_isInput 6 = .ok (.ifCond .ne 19, 3) := by decide +kernel
theorem dX8_isInput_9 : decode cX8_isInput 9 = .ok (.iload_n 1, 1) := by decide +kernel
theorem dX8_isInput_10 : decode cX8_isInput 10 = .ok (.bipush 10, 2) := by decide +kernel
theorem dX8_isInput_12 : decode cX8_isInput 12 = .ok (.bipush 9, 2) := by decide +kernel
theorem dX8_isInput_14 : decode cX8_isInput 14 = .ok (.aload_n 0, 1) := by decide +kernel
theorem dX8_isInput_15 : decode cX8_isInput 15 = .ok (.getfield 44, 3) := by decide +kernel
theorem dX8_isInput_18 : decode cX8_isInput 18 = .ok (.iadd, 1) := by decide +kernel
theorem dX8_isInput_19 : decode cX8_isInput 19 = .ok (.invokestatic 47, 3) := by decide +kernel
theorem dX8_isInput_22 : decode cX8_isInput 22 = .ok (.ifCond .eq 7, 3) := by decide +kernel
theorem dX8_isInput_25 : decode cX8_isInput 25 = .ok (.iconst 1, 1) := by decide +kernel
theorem dX8_isInput_26 : decode cX8_isInput 26 = .ok (.goto 4, 3) := by decide +kernel
theorem dX8_isInput_29 : decode cX8_isInput 29 = .ok (.iconst 0, 1) := by decide +kernel
theorem dX8_isInput_30 : decode cX8_isInput 30 = .ok (.ireturn, 1) := by decide +kernel
theorem dX8_endRound_0 : decode cX8_endRound 0 = .ok (.aload_n 0, 1) := by decide +kernel
theorem dX8_endRound_1 : decode cX8_endRound 1 = .ok (.iconst 0, 1) := by decide +kernel
theorem dX8_endRound_2 : decode cX8_endRound 2 = .ok (.putfield 51, 3) := by decide +kernel
theorem dX8_endRound_5 : decode cX8_endRound 5 = .ok (.aload_n 0, 1) := by decide +kernel
theorem dX8_endRound_6 : decode cX8_endRound 6 = .ok (.getfield 13, 3) := by decide +kernel
theorem dX8_endRound_9 : decode cX8_endRound 9 = .ok (.iconst 1, 1) := by decide +kernel
theorem dX8_endRound_10 : decode cX8_endRound 10 = .ok (.iaload, 1) := by decide +kernel
theorem dX8_endRound_11 : decode cX8_endRound 11 = .ok (.aload_n 0, 1) := by decide +kernel
theorem dX8_endRound_12 : decode cX8_endRound 12 = .ok (.getfield 13, 3) := by decide +kernel
theorem dX8_endRound_15 : decode cX8_endRound 15 = .ok (.bipush 12, 2) := by decide +kernel
theorem dX8_endRound_17 : decode cX8_endRound 17 = .ok (.iaload, 1) := by decide +kernel
theorem dX8_endRound_18 : decode cX8_endRound 18 = .ok (.if_icmp .le 7, 3) := by decide +kernel
theorem dX8_endRound_21 : decode cX8_endRound 21 = .ok (.iconst 0, 1) := by decide +kernel
theorem dX8_endRound_22 : decode cX8_endRound 22 = .ok (.goto 24, 3) := by decide +kernel
theorem dX8_endRound_25 : decode cX8_endRound 25 = .ok (.aload_n 0, 1) := by decide +kernel
theorem dX8_endRound_26 : decode cX8_endRound 26 = .ok (.getfield 13, 3) := by decide +kernel
theorem dX8_endRound_29 : decode cX8_endRound 29 = .ok (.iconst 1, 1) := by decide +kernel
theorem dX8_endRound_30 : decode cX8_endRound 30 = .ok (.iaload, 1) := by decide +kernel
theorem dX8_endRound_31 : decode cX8_endRound 31 = .ok (.aload_n 0, 1) := by decide +kernel
theorem dX8_endRound_32 : decode cX8_endRound 32 = .ok (.getfield 13, 3) := by decide +kernel
theorem dX8_endRound_35 : decode cX8_endRound 35 = .ok (.bipush 12, 2) := by decide +kernel
theorem dX8_endRound_37 : decode cX8_endRound 37 = .ok (.iaload, 1) := by decide +kernel
theorem dX8_endRound_38 : decode cX8_endRound 38 = .ok (.if_icmp .ge 7, 3) := by decide +kernel
theorem dX8_endRound_41 : decode cX8_endRound 41 = .ok (.iconst 1, 1) := by decide +kernel
theorem dX8_endRound_42 : decode cX8_endRound 42 = .ok (.goto 4, 3) := by decide +kernel
theorem dX8_endRound_45 : decode cX8_endRound 45 = .ok (.iconst (-1), 1) := by decide +kernel
theorem dX8_endRound_46 : decode cX8_endRound 46 = .ok (.istore_n 1, 1) := by decide +kernel
