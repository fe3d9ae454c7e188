theorem dX8_load_26 : decode cX8_load 26 = .ok (.return_, 1) := by decide +kernel
theorem dX8_store_0 : decode cX8_store 0 = .ok (.iconst 0, 1) := by decide +kernel
theorem dX8_store_1 : decode cX8_store 1 = .ok (.istore_n 1, 1) := by decide +kernel
theorem dX8_store_2 : decode cX8_store 2 = .ok (.iload_n 1, 1) := by decide +kernel
theorem dX8_store_3 : decode cX8_store 3 = .ok (.bipush 22, 2) := by decide +kernel
theorem dX8_store_5 : decode cX8_store 5 = .ok (.if_icmp .ge 21, 3) := by decide +kernel
theorem dX8_store_8 : decode cX8_store 8 = .ok (.aload_n 0, 1) := by decide +kernel
theorem dX8_store_9 : decode cX8_store 9 = .ok (.getfield 16, 3) := by decide +kernel
theorem dX8_store_12 : decode cX8_store 12 = .ok (.iload_n 1, 1) := by decide +kernel
theorem dX8_store_13 : decode cX8_store 13 = .ok (.aload_n 0, 1) := by decide +kernel
theorem dX8_store_14 : decode cX8_store 14 = .ok (.getfield 13, 3) := by decide +kernel
theorem dX8_store_17 : decode cX8_store 17 = .ok (.iload_n 1, 1) := by decide +kernel
theorem dX8_store_18 : decode cX8_store 18 = .ok (.iaload, 1) := by decide +kernel
theorem dX8_store_19 : decode cX8_store 19 = .ok (.iastore, 1) := by decide +kernel
theorem dX8_store_20 : decode cX8_store 20 = .ok (.iinc 1 1, 3) := by decide +kernel
theorem dX8_store_23 : decode cX8_store 23 = .ok (.goto (-21), 3) := by decide +kernel
theorem dX8_store_26 : decode cX8_store 26 = .ok (.iconst 0, 1) := by decide +kernel
theorem dX8_store_27 : decode cX8_store 27 = .ok (.istore_n 1, 1) := by decide +kernel
theorem dX8_store_28 : decode cX8_store 28 = .ok (.iload_n 1, 1) := by decide +kernel
theorem dX8_store_29 : decode cX8_store 29 = .ok (.bipush 7, 2) := by decide +kernel
theorem dX8_store_31 : decode cX8_store 31 = .ok (.if_icmp .ge 55, 3) := by decide +kernel
theorem dX8_store_34 : decode cX8_store 34 = .ok (.aload_n 0, 1) := by decide +kernel
theorem dX8_store_35 : decode cX8_store 35 = .ok (.getfield 22, 3) := by decide +kernel
theorem dX8_store_38 : decode cX8_store 38 = .ok (.bipush 14, 2) := by decide +kernel
theorem dX8_store_40 : decode cX8_store 40 = .ok (.aload_n 0, 1) := by decide +kernel
theorem dX8_store_41 : decode cX8_store 41 = .ok (.getfield 28, 3) := by decide +kernel
theorem dX8_store_44 : decode cX8_store 44 = .ok (.imul, 1) := by decide +kernel
theorem dX8_store_45 : decode cX8_store 45 = .ok (.iload_n 1, 1) := by decide +kernel
theorem dX8_store_46 : decode cX8_store 46 = .ok (.iadd, 1) := by decide +kernel
theorem dX8_store_47 : decode cX8_store 47 = .ok (.aload_n 0, 1) := by decide +kernel
theorem dX8_store_48 : decode cX8_store 48 = .ok (.getfield 13, 3) := by decide +kernel
theorem dX8_store_51 : decode cX8_store 51 = .ok (.iload_n 1, 1) := by decide +kernel
theorem dX8_store_52 : decode cX8_store 52 = .ok (.iaload, 1) := by decide +kernel
theorem dX8_store_53 : decode cX8_store 53 = .ok (.iastore, 1) := by decide +kernel
theorem dX8_store_54 : decode cX8_store 54 = .ok (.aload_n 0, 1) := by decide +kernel
theorem dX8_store_55 : decode cX8_store 55 = .ok (.getfield 22, 3) := by decide +kernel
theorem dX8_store_58 : decode cX8_store 58 = .ok (.bipush 14, 2) := by decide +kernel
theorem dX8_store_60 : decode cX8_store 60 = .ok (.aload_n 0, 1) := by decide +kernel
theorem dX8_store_61 : decode cX8_store 61 = .ok (.getfield 28, 3) := by decide +kernel
theorem dX8_store_64 : decode cX8_store 64 = .ok (.imul, 1) := by decide +kernel
theorem dX8_store_65 : decode cX8_store 65 = .ok (.bipush 7, 2) := by decide +kernel
theorem dX8_store_67 : decode cX8_store 67 = .ok (.iadd, 1) := by decide +kernel
theorem dX8_store_68 : decode cX8_store 68 = .ok (.iload_n 1, 1) := by decide +kernel
theorem dX8_store_69 : decode cX8_store 69 = .ok (.iadd, 1) := by decide +kernel
theorem dX8_store_70 : decode cX8_store 70 = .ok (.aload_n 0, 1) := by decide +kernel
theorem dX8_store_71 : decode cX8_store 71 = .ok (.getfield 13, 3) := by decide +kernel
theorem dX8_store_74 : decode cX8_store 74 = .ok (.bipush 11, 2) := by decide +kernel
theorem dX8_store_76 : decode cX8_store 76 = .ok (.iload_n 1, 1) := by decide +kernel
theorem dX8_store_77 : decode cX8_store 77 = .ok (.iadd, 1) := by decide +kernel
theorem dX8_store_78 : decode cX8_store 78 = .ok (.iaload, 1) := by decide +kernel
theorem dX8_store_79 : decode cX8_store 79 = .ok (.iastore, 1) := by decide +kernel
theorem dX8_store_80 : decode cX8_store 80 = .ok (.iinc 1 1, 3) := by decide +kernel
theorem dX8_store_83 : decode cX8_store 83 = .ok (.goto (-55), 3) := by decide +kernel
theorem dX8_store_86 : decode cX8_store 86 = .ok (.return_, 1) := by decide +kernel
set_option maxRecDepth 20000 in
theorem ggX8_begin_X8_in : GoodIn wsX8_begin wsX8_in := goodIn_r _ [10] (by decide +kernel) (by decide +kernel)
set_option maxRecDepth 20000 in
theorem gX8_begin_X8_in : GoodIn wsX8_begin (va_wsS RX8 47 yX8_in wsX8_in) := goodIn_app (goodIn_of _ (by decide +kernel)) ggX8_begin_X8_in
set_option maxRecDepth 20000 in
theorem ggX8_begin_X8_isFine : GoodIn wsX8_begin wsX8_isFine := goodIn_r _ [14, 15, 26, 27, 28, 29, 30, 31, 32, 33, 34, 35, 36, 37, 38, 39, 40, 41, 42] (by decide +kernel) (by decide +kernel)
set_option maxRecDepth 20000 in
theorem gX8_begin_X8_isFine : GoodIn wsX8_begin (wsV RX8 55 RX8 yX8_isFine wsX8_isFine) := goodIn_app (goodIn_of _ (by decide +kernel)) ggX8_begin_X8_isFine
set_option maxRecDepth 20000 in
theorem ggX8_begin_X8_lay : GoodIn wsX8_begin wsX8_lay := goodIn_r _ [19, 20, 26, 27, 28, 29, 30, 31, 32, 33, 34, 35, 36, 37, 38, 39, 40, 41, 42] (by decide +kernel) (by decide +kernel)
set_option maxRecDepth 20000 in
theorem gX8_begin_X8_lay : GoodIn wsX8_begin (wsV RX8 99 RX8 yX8_lay wsX8_lay) := goodIn_app (goodIn_of _ (by decide +kernel)) ggX8_begin_X8_lay
set_option maxRecDepth 20000 in
theorem ggX8_begin_X8_store : GoodIn wsX8_begin wsX8_store := goodIn_r _ [24, 5, 20, 25, 6, 26, 27, 28, 29, 30, 31, 32, 33, 34, 35, 36, 37, 38, 39, 40, 41, 42] (by decide +kernel) (by decide +kernel)
set_option maxRecDepth 20000 in
theorem gX8_begin_X8_store : GoodIn wsX8_begin (wsV RX8 103 RX8 yX8_store wsX8_store) := goodIn_app (goodIn_of _ (by decide +kernel)) ggX8_begin_X8_store
theorem dX8_begin_0 : decode cX8_begin 0 = .ok (.aload_n 0, 1) := by decide +kernel
theorem dX8_begin_1 : decode cX8_begin 1 = .ok (.iload_n 1, 1) := by decide +kernel
theorem dX8_begin_2 : decode cX8_begin 2 = .ok (.bipush 20, 2) := by decide +kernel
theorem dX8_begin_4 : decode cX8_begin 4 = .ok (.sipush 300, 3) := by decide +kernel
theorem dX8_begin_7 : decode cX8_begin 7 = .ok (.invokestatic 47, 3) := by decide +kernel
theorem dX8_begin_10 : decode cX8_begin 10 = .ok (.ifCond .eq 9, 3) := by decide +kernel
theorem dX8_begin_13 : decode cX8_begin 13 = .ok (.iload_n 1, 1) := by decide +kernel
theorem dX8_begin_14 : decode cX8_begin 14 = .ok (.iconst 2, 1) := by decide +kernel
theorem dX8_begin_15 : decode cX8_begin 15 = .ok (.irem, 1) := by decide +kernel
theorem dX8_begin_16 : decode cX8_begin 16 = .ok (.ifCond .eq 7, 3) := by decide +kernel
theorem dX8_begin_19 : decode cX8_begin 19 = .ok (.iconst 1, 1) := by decide +kernel
theorem dX8_begin_20 : decode cX8_begin 20 = .ok (.goto 15, 3) := by decide +kernel
theorem dX8_begin_23 : decode cX8_begin 23 = .ok (.aload_n 0, 1) := by decide +kernel
theorem dX8_begin_24 : decode cX8_begin 24 = .ok (.getfield 51, 3) := by decide +kernel
theorem dX8_begin_27 : decode cX8_begin 27 = .ok (.ifCond .eq 7, 3) := by decide +kernel
theorem dX8_begin_30 : decode cX8_begin 30 = .ok (.iconst 2, 1) := by decide +kernel
theorem dX8_begin_31 : decode cX8_begin 31 = .ok (.goto 4, 3) := by decide +kernel
theorem dX8_begin_34 : decode cX8_begin 34 = .ok (.iconst 0, 1) := by decide +kernel
theorem dX8_begin_35 : decode cX8_begin 35 = .ok (.invokevirtual 55, 3) := by decide +kernel
theorem dX8_begin_38 : decode cX8_begin 38 = .ok (.ifCond .ne 5, 3) := by decide +kernel
theorem dX8_begin_41 : decode cX8_begin 41 = .ok (.iconst 0, 1) := by decide +kernel
theorem dX8_begin_42 : decode cX8_begin 42 = .ok (.ireturn, 1) := by decide +kernel
theorem dX8_begin_43 : decode cX8_begin 43 = .ok (.aload_n 0, 1) := by decide +kernel
theorem dX8_begin_44 : decode cX8_begin 44 = .ok (.getfield 96, 3) := by decide +kernel
theorem dX8_begin_47 : decode cX8_begin 47 = .ok (.ifCond .eq 11, 3) := by decide +kernel
theorem dX8_begin_50 : decode cX8_begin 50 = .ok (.aload_n 0, 1) := by decide +kernel
theorem dX8_begin_51 : decode cX8_begin 51 = .ok (.getfield 32, 3) := by decide +kernel
theorem dX8_begin_54 : decode cX8_begin 54 = .ok (.iconst (-1), 1) := by decide +kernel
theorem dX8_begin_55 : decode cX8_begin 55 = .ok (.if_icmp .eq 42, 3) := by decide +kernel
theorem dX8_begin_58 : decode cX8_begin 58 = .ok (.aload_n 0, 1) := by decide +kernel
theorem dX8_begin_59 : decode cX8_begin 59 = .ok (.iconst 0, 1) := by decide +kernel
theorem dX8_begin_60 : decode cX8_begin 60 = .ok (.putfield 96, 3) := by decide +kernel
theorem dX8_begin_63 : decode cX8_begin 63 = .ok (.aload_n 0, 1) := by decide +kernel
theorem dX8_begin_64 : decode cX8_begin 64 = .ok (.iconst (-1), 1) := by decide +kernel
theorem dX8_begin_65 : decode cX8_begin 65 = .ok (.putfield 32, 3) := by decide +kernel
theorem dX8_begin_68 : decode cX8_begin 68 = .ok (.aload_n 0, 1) := by decide +kernel
theorem dX8_begin_69 : decode cX8_begin 69 = .ok (.getfield 25, 3) := by decide +kernel
theorem dX8_begin_72 : decode cX8_begin 72 = .ok (.iconst 0, 1) := by decide +kernel
theorem dX8_begin_73 : decode cX8_begin 73 = .ok (.iconst 0, 1) := by decide +kernel
theorem dX8_begin_74 : decode cX8_begin 74 = .ok (.iastore, 1) := by decide +kernel
theorem dX8_begin_75 : decode cX8_begin 75 = .ok (.aload_n 0, 1) := by decide +kernel
theorem dX8_begin_76 : decode cX8_begin 76 = .ok (.getfield 25, 3) := by decide +kernel
theorem dX8_begin_79 : decode cX8_begin 79 = .ok (.iconst 1, 1) := by decide +kernel
theorem dX8_begin_80 : decode cX8_begin 80 = .ok (.iconst 0, 1) := by decide +kernel
theorem dX8_begin_81 : decode cX8_begin 81 = .ok (.iastore, 1) := by decide +kernel
theorem dX8_begin_82 : decode cX8_begin 82 = .ok (.aload_n 0, 1) := by decide +kernel
theorem dX8_begin_83 : decode cX8_begin 83 = .ok (.getfield 16, 3) := by decide +kernel
theorem dX8_begin_86 : decode cX8_begin 86 = .ok (.iconst 2, 1) := by decide +kernel
theorem dX8_begin_87 : decode cX8_begin 87 = .ok (.iconst 0, 1) := by decide +kernel
theorem dX8_begin_88 : decode cX8_begin 88 = .ok (.iastore, 1) := by decide +kernel
theorem dX8_begin_89 : decode cX8_begin 89 = .ok (.aload_n 0, 1) := by decide +kernel
theorem dX8_begin_90 : decode cX8_begin 90 = .ok (.getfield 16, 3) := by decide +kernel
theorem dX8_begin_93 : decode cX8_begin 93 = .ok (.bipush 13, 2) := by decide +kernel
theorem dX8_begin_95 : decode cX8_begin 95 = .ok (.iconst 0, 1) := by decide +kernel
theorem dX8_begin_96 : decode cX8_begin 96 = .ok (.iastore, 1) := by decide +kernel
theorem dX8_begin_97 : decode cX8_begin 97 = .ok (.aload_n 0, 1) := by decide +kernel
theorem dX8_begin_98 : decode cX8_begin 98 = .ok (.dup, 1) := by decide +kernel
theorem dX8_begin_99 : decode cX8_begin 99 = .ok (.getfield 96, 3) := by decide +kernel
theorem dX8_begin_102 : decode cX8_begin 102 = .ok (.iconst 1, 1) := by decide +kernel
theorem dX8_begin_103 : decode cX8_begin 103 = .ok (.iadd, 1) := by decide +kernel
theorem dX8_begin_104 : decode cX8_begin 104 = .ok (.putfield 96, 3) := by decide +kernel
theorem dX8_begin_107 : decode cX8_begin 107 = .ok (.aload_n 0, 1) := by decide +kernel
theorem dX8_begin_108 : decode cX8_begin 108 = .ok (.iconst 1, 1) := by decide +kernel
theorem dX8_begin_109 : decode cX8_begin 109 = .ok (.putfield 51, 3) := by decide +kernel
theorem dX8_begin_112 : decode cX8_begin 112 = .ok (.aload_n 0, 1) := by decide +kernel
theorem dX8_begin_113 : decode cX8_begin 113 = .ok (.iconst 0, 1) := by decide +kernel
theorem dX8_begin_114 : decode cX8_begin 114 = .ok (.putfield 28, 3) := by decide +kernel
theorem dX8_begin_117 : decode cX8_begin 117 = .ok (.aload_n 0, 1) := by decide +kernel
theorem dX8_begin_118 : decode cX8_begin 118 = .ok (.sipush 300, 3) := by decide +kernel
theorem dX8_begin_121 : decode cX8_begin 121 = .ok (.iload_n 1, 1) := by decide +kernel
theorem dX8_begin_122 : decode cX8_begin 122 = .ok (.iconst 2, 1) := by decide +kernel
theorem dX8_begin_123 : decode cX8_begin 123 = .ok (.idiv, 1) := by decide +kernel
theorem dX8_begin_124 : decode cX8_begin 124 = .ok (.isub, 1) := by decide +kernel
theorem dX8_begin_125 : decode cX8_begin 125 = .ok (.sipush 300, 3) := by decide +kernel
theorem dX8_begin_128 : decode cX8_begin 128 = .ok (.iload_n 1, 1) := by decide +kernel
theorem dX8_begin_129 : decode cX8_begin 129 = .ok (.iconst 2, 1) := by decide +kernel
theorem dX8_begin_130 : decode cX8_begin 130 = .ok (.idiv, 1) := by decide +kernel
theorem dX8_begin_131 : decode cX8_begin 131 = .ok (.iadd, 1) := by decide +kernel
theorem dX8_begin_132 : decode cX8_begin 132 = .ok (.aload_n 0, 1) := by decide +kernel
theorem dX8_begin_133 : decode cX8_begin 133 = .ok (.getfield 16, 3) := by decide +kernel
theorem dX8_begin_136 : decode cX8_begin 136 = .ok (.iconst 2, 1) := by decide +kernel
theorem dX8_begin_137 : decode cX8_begin 137 = .ok (.iaload, 1) := by decide +kernel
theorem dX8_begin_138 : decode cX8_begin 138 = .ok (.aload_n 0, 1) := by decide +kernel
theorem dX8_begin_139 : decode cX8_begin 139 = .ok (.getfield 16, 3) := by decide +kernel
theorem dX8_begin_142 : decode cX8_begin 142 = .ok (.bipush 13, 2) := by decide +kernel
theorem dX8_begin_144 : decode cX8_begin 144 = .ok (.iaload, 1) := by decide +kernel
theorem dX8_begin_145 : decode cX8_begin 145 = .ok (.invokevirtual 99, 3) := by decide +kernel
theorem dX8_begin_148 : decode cX8_begin 148 = .ok (.aload_n 0, 1) := by decide +kernel
theorem dX8_begin_149 : decode cX8_begin 149 = .ok (.invokevirtual 103, 3) := by decide +kernel
theorem dX8_begin_152 : decode cX8_begin 152 = .ok (.aload_n 0, 1) := by decide +kernel
theorem dX8_begin_153 : decode cX8_begin 153 = .ok (.getfield 96, 3) := by decide +kernel
theorem dX8_begin_156 : decode cX8_begin 156 = .ok (.ireturn, 1) := by decide +kernel
set_option maxRecDepth 20000 in
theorem ggX8_isInput_X8_in : GoodIn wsX8_isInput wsX8_in := goodIn_r _ [5] (by decide +kernel) (by decide +kernel)
set_option maxRecDepth 20000 in
theorem gX8_isInput_X8_in : GoodIn wsX8_isInput (va_wsS RX8 47 yX8_in wsX8_in) := goodIn_app (goodIn_of _ (by decide +kernel)) ggX8_isInput_X8_in
theorem dX8_isInput_0 : decode cX8_isInput 0 = .ok (.iload_n 1, 1) := by decide +kernel
theorem dX8_isInput_1 : decode cX8_isInput 1 = .ok (.iconst 0, 1) := by decide +kernel
theorem dX8_isInput_2 : decode cX8_isInput 2 = .ok (.iconst 4, 1) := by decide +kernel
theorem dX8_isInput_3 : decode cX8_isInput 3 = .ok (.invokestatic 47, 3) := by decide +kernel
theorem dX8_isInput_6 : decode cX8_isInput 6 = .ok (.ifCond .ne 19, 3) := by decide +kernel
theorem dX8_isInput_9 : decode cX8_isInput 9 = .ok (.iload_n 1, 1) := by decide +kernel
theorem dX8_isInput_10 : decode cX8_isInput 10 = .ok (.bipush 10, 2) := by decide +kernel
theorem dX8_isInput_12 : decode cX8_isInput 12 = .ok (.bipush 9, 2) := by decide +kernel
theorem dX8_isInput_14 : decode cX8_isInput 14 = .ok (.aload_n 0, 1) := by decide +kernel
theorem dX8_isInput_15 : decode cX8_isInput 15 = .ok (.getfield 44, 3) := by decide +kernel
theorem dX8_isInput_18 : decode cX8_isInput 18 = .ok (.iadd, 1) := by decide +kernel
theorem dX8_isInput_19 : decode cX8_isInput 19 = .ok (.invokestatic 47, 3) := by decide +kernel
theorem dX8_isInput_22 : decode cX8_isInput 22 = .ok (.ifCond .eq 7, 3) := by decide +kernel
theorem dX8_isInput_25 : decode cX8_isInput 25 = .ok (.iconst 1, 1) := by decide +kernel
theorem dX8_isInput_26 : decode cX8_isInput 26 = .ok (.goto 4, 3) := by decide +kernel
theorem dX8_isInput_29 : decode cX8_isInput 29 = .ok (.iconst 0, 1) := by decide +kernel
theorem dX8_isInput_30 : decode cX8_isInput 30 = .ok (.ireturn, 1) := by decide +kernel
theorem dX8_endRound_0 : decode cX8_endRound 0 = .ok (.aload_n 0, 1) := by decide +kernel
theorem dX8_endRound_1 : decode cX8_endRound 1 = .ok (.iconst 0, 1) := by decide +kernel
theorem dX8_endRound_2 : decode cX8_endRound 2 = .ok (.putfield 51, 3) := by decide +kernel
theorem dX8_endRound_5 : decode cX8_endRound 5 = .ok (.aload_n 0, 1) := by decide +kernel
theorem dX8_endRound_6 : decode cX8_endRound 6 = .ok (.getfield 13, 3) := by decide +kernel
theorem dX8_endRound_9 : decode cX8_endRound 9 = .ok (.iconst 1, 1) := by decide +kernel
theorem dX8_endRound_10 : decode cX8_endRound 10 = .ok (.iaload, 1) := by decide +kernel
theorem dX8_endRound_11 : decode cX8_endRound 11 = .ok (.aload_n 0, 1) := by decide +kernel
theorem dX8_endRound_12 : decode cX8_endRound 12 = .ok (.getfield 13, 3) := by decide +kernel
theorem dX8_endRound_15 : decode cX8_endRound 15 = .ok (.bipush 12, 2) := by decide +kernel
theorem dX8_endRound_17 : decode cX8_endRound 17 = .ok (.iaload, 1) := by decide +kernel
theorem dX8_endRound_18 : decode cX8_endRound 18 = .ok (.if_icmp .le 7, 3) := by decide +kernel
theorem dX8_endRound_21 : decode cX8_endRound 21 = .ok (.iconst 0, 1) := by decide +kernel
theorem dX8_endRound_22 : decode cX8_endRound 22 = .ok (.goto 24, 3) := by decide +kernel
theorem dX8_endRound_25 : decode cX8_endRound 25 = .ok (.aload_n 0, 1) := by decide +kernel
theorem dX8_endRound_26 : decode cX8_endRound 26 = .ok (.getfield 13, 3) := by decide +kernel
theorem dX8_endRound_29 : decode cX8_endRound 29 = .ok (.iconst 1, 1) := by decide +kernel
theorem dX8_endRound_30 : decode cX8_endRound 30 = .ok (.iaload, 1) := by decide +kernel
theorem dX8_endRound_31 : decode cX8_endRound 31 = .ok (.aload_n 0, 1) := by decide +kernel
theorem dX8_endRound_32 : decode cX8_endRound 32 = .ok (.getfield 13, 3) := by decide +kernel
theorem dX8_endRound_35 : decode cX8_endRound 35 = .ok (.bipush 12, 2) := by decide +kernel
theorem dX8_endRound_37 : decode cX8_endRound 37 = .ok (.iaload, 1) := by decide +kernel
theorem dX8_endRound_38 : decode cX8_endRound 38 = .ok (.if_icmp .ge 7, 3) := by decide +kernel
theorem dX8_endRound_41 : decode cX8_endRound 41 = .ok (.iconst 1, 1) := by decide +kernel
theorem dX8_endRound_42 : decode cX8_endRound 42 = .ok (.goto 4, 3) := by decide +kernel
theorem dX8_endRound_45 : decode cX8_endRound 45 = .ok (.iconst (-1), 1) := by decide +kernel
theorem dX8_endRound_46 : decode cX8_endRound 46 = .ok (.istore_n 1, 1) := by decide +kernel
theorem dX8_endRound_47 : decode cX8_endRound 47 = .ok (.iload_n 1, 1) := by decide +kernel
theorem dX8_endRound_48 : decode cX8_endRound 48 = .ok (.iconst (-1), 1) := by decide +kernel
theorem dX8_endRound_49 : decode cX8_endRound 49 = .ok (.if_icmp .eq 32, 3) := by decide +kernel
theorem dX8_endRound_52 : decode cX8_endRound 52 = .ok (.aload_n 0, 1) := by decide +kernel
theorem dX8_endRound_53 : decode cX8_endRound 53 = .ok (.getfield 25, 3) := by decide +kernel
theorem dX8_endRound_56 : decode cX8_endRound 56 = .ok (.iload_n 1, 1) := by decide +kernel
theorem dX8_endRound_57 : decode cX8_endRound 57 = .ok (.dup2, 1) := by decide +kernel
theorem dX8_endRound_58 : decode cX8_endRound 58 = .ok (.iaload, 1) := by decide +kernel
theorem dX8_endRound_59 : decode cX8_endRound 59 = .ok (.iconst 1, 1) := by decide +kernel
theorem dX8_endRound_60 : decode cX8_endRound 60 = .ok (.iadd, 1) := by decide +kernel
theorem dX8_endRound_61 : decode cX8_endRound 61 = .ok (.iastore, 1) := by decide +kernel
theorem dX8_endRound_62 : decode cX8_endRound 62 = .ok (.aload_n 0, 1) := by decide +kernel
theorem dX8_endRound_63 : decode cX8_endRound 63 = .ok (.aload_n 0, 1) := by decide +kernel
theorem dX8_endRound_64 : decode cX8_endRound 64 = .ok (.getfield 25, 3) := by decide +kernel
theorem dX8_endRound_67 : decode cX8_endRound 67 = .ok (.iload_n 1, 1) := by decide +kernel
theorem dX8_endRound_68 : decode cX8_endRound 68 = .ok (.iaload, 1) := by decide +kernel
theorem dX8_endRound_69 : decode cX8_endRound 69 = .ok (.iconst 2, 1) := by decide +kernel
theorem dX8_endRound_70 : decode cX8_endRound 70 = .ok (.if_icmp .ne 7, 3) := by decide +kernel
theorem dX8_endRound_73 : decode cX8_endRound 73 = .ok (.iload_n 1, 1) := by decide +kernel
theorem dX8_endRound_74 : decode cX8_endRound 74 = .ok (.goto 4, 3) := by decide +kernel
theorem dX8_endRound_77 : decode cX8_endRound 77 = .ok (.iconst (-1), 1) := by decide +kernel
theorem dX8_endRound_78 : decode cX8_endRound 78 = .ok (.putfield 32, 3) := by decide +kernel
theorem dX8_endRound_81 : decode cX8_endRound 81 = .ok (.return_, 1) := by decide +kernel
set_option maxRecDepth 20000 in
theorem ggX8_play_X8_in : GoodIn wsX8_play wsX8_in := goodIn_r _ [7] (by decide +kernel) (by decide +kernel)
set_option maxRecDepth 20000 in
theorem gX8_play_X8_in : GoodIn wsX8_play (va_wsS RX8 47 yX8_in wsX8_in) := goodIn_app (goodIn_of _ (by decide +kernel)) ggX8_play_X8_in
set_option maxRecDepth 20000 in
theorem ggX8_play_X8_isInput : GoodIn wsX8_play wsX8_isInput := goodIn_r _ [11, 12, 4, 5, 6, 7, 76, 77, 78, 79, 80, 81, 82, 83, 84, 85, 86, 87, 88, 89, 90, 91, 92] (by decide +kernel) (by decide +kernel)
set_option maxRecDepth 20000 in
theorem gX8_play_X8_isInput : GoodIn wsX8_play (wsV RX8 106 RX8 yX8_isInput wsX8_isInput) := goodIn_app (goodIn_of _ (by decide +kernel)) ggX8_play_X8_isInput
set_option maxRecDepth 20000 in
theorem ggX8_play_X8_isFine : GoodIn wsX8_play wsX8_isFine := goodIn_r _ [16, 17, 76, 77, 78, 79, 80, 81, 82, 83, 84, 85, 86, 87, 88, 89, 90, 91, 92] (by decide +kernel) (by decide +kernel)
set_option maxRecDepth 20000 in
theorem gX8_play_X8_isFine : GoodIn wsX8_play (wsV RX8 55 RX8 yX8_isFine wsX8_isFine) := goodIn_app (goodIn_of _ (by decide +kernel)) ggX8_play_X8_isFine
set_option maxRecDepth 20000 in
theorem ggX8_play_X8_load : GoodIn wsX8_play wsX8_load := goodIn_r _ [21, 3, 22, 76, 77, 78, 79, 80, 81, 82, 83, 84, 85, 86, 87, 88, 89, 90, 91, 92] (by decide +kernel) (by decide +kernel)
set_option maxRecDepth 20000 in
theorem gX8_play_X8_load : GoodIn wsX8_play (wsV RX8 109 RX8 yX8_load wsX8_load) := goodIn_app (goodIn_of _ (by decide +kernel)) ggX8_play_X8_load
set_option maxRecDepth 20000 in
theorem ggX8_play_X8_frame : GoodIn wsX8_play wsX8_frame := goodIn_r _ [26, 27, 28, 29, 30, 6, 31, 3, 32, 33, 34, 35, 36, 37, 38, 39, 40, 41, 42, 43, 44, 45, 46, 47, 48, 49, 50, 51, 52, 53, 54, 55, 56, 57, 58, 59, 60, 61, 62, 63, 64, 76, 77, 78, 79, 80, 81, 82, 83, 84, 85, 86, 87, 88, 89, 90, 91, 92] (by decide +kernel) (by decide +kernel)
set_option maxRecDepth 20000 in
theorem gX8_play_X8_frame : GoodIn wsX8_play (wsV RX8 112 RX8 yX8_frame wsX8_frame) := goodIn_app (goodIn_of _ (by decide +kernel)) ggX8_play_X8_frame
set_option maxRecDepth 20000 in
theorem ggX8_play_X8_store : GoodIn wsX8_play wsX8_store := goodIn_r _ [68, 22, 3, 69, 2, 76, 77, 78, 79, 80, 81, 82, 83, 84, 85, 86, 87, 88, 89, 90, 91, 92] (by decide +kernel) (by decide +kernel)
set_option maxRecDepth 20000 in
theorem gX8_play_X8_store : GoodIn wsX8_play (wsV RX8 103 RX8 yX8_store wsX8_store) := goodIn_app (goodIn_of _ (by decide +kernel)) ggX8_play_X8_store
set_option maxRecDepth 20000 in
theorem ggX8_play_X8_endRound : GoodIn wsX8_play wsX8_endRound := goodIn_r _ [73, 1, 3, 74, 75, 76, 77, 78, 79, 80, 81, 82, 83, 84, 85, 86, 87, 88, 89, 90, 91, 92] (by decide +kernel) (by decide +kernel)
set_option maxRecDepth 20000 in
theorem gX8_play_X8_endRound : GoodIn wsX8_play (wsV RX8 115 RX8 yX8_endRound wsX8_endRound) := goodIn_app (goodIn_of _ (by decide +kernel)) ggX8_play_X8_endRound
theorem dX8_play_0 : decode cX8_play 0 = .ok (.aload_n 0, 1) := by decide +kernel
theorem dX8_play_1 : decode cX8_play 1 = .ok (.iload_n 1, 1) := by decide +kernel
theorem dX8_play_2 : decode cX8_play 2 = .ok (.iconst 1, 1) := by decide +kernel
theorem dX8_play_3 : decode cX8_play 3 = .ok (.bipush 60, 2) := by decide +kernel
theorem dX8_play_5 : decode cX8_play 5 = .ok (.invokestatic 47, 3) := by decide +kernel
theorem dX8_play_8 : decode cX8_play 8 = .ok (.ifCond .eq 19, 3) := by decide +kernel
theorem dX8_play_11 : decode cX8_play 11 = .ok (.aload_n 0, 1) := by decide +kernel
theorem dX8_play_12 : decode cX8_play 12 = .ok (.iload_n 2, 1) := by decide +kernel
theorem dX8_play_13 : decode cX8_play 13 = .ok (.invokevirtual 106, 3) := by decide +kernel
theorem dX8_play_16 : decode cX8_play 16 = .ok (.ifCond .eq 11, 3) := by decide +kernel
theorem dX8_play_19 : decode cX8_play 19 = .ok (.aload_n 0, 1) := by decide +kernel
theorem dX8_play_20 : decode cX8_play 20 = .ok (.iload_n 3, 1) := by decide +kernel
theorem dX8_play_21 : decode cX8_play 21 = .ok (.invokevirtual 106, 3) := by decide +kernel
theorem dX8_play_24 : decode cX8_play 24 = .ok (.ifCond .ne 7, 3) := by decide +kernel
theorem dX8_play_27 : decode cX8_play 27 = .ok (.iconst 1, 1) := by decide +kernel
theorem dX8_play_28 : decode cX8_play 28 = .ok (.goto 15, 3) := by decide +kernel
theorem dX8_play_31 : decode cX8_play 31 = .ok (.aload_n 0, 1) := by decide +kernel
theorem dX8_play_32 : decode cX8_play 32 = .ok (.getfield 51, 3) := by decide +kernel
theorem dX8_play_35 : decode cX8_play 35 = .ok (.ifCond .eq 7, 3) := by decide +kernel
theorem dX8_play_38 : decode cX8_play 38 = .ok (.iconst 0, 1) := by decide +kernel
theorem dX8_play_39 : decode cX8_play 39 = .ok (.goto 4, 3) := by decide +kernel
theorem dX8_play_42 : decode cX8_play 42 = .ok (.iconst 2, 1) := by decide +kernel
theorem dX8_play_43 : decode cX8_play 43 = .ok (.invokevirtual 55, 3) := by decide +kernel
theorem dX8_play_46 : decode cX8_play 46 = .ok (.ifCond .ne 5, 3) := by decide +kernel
theorem dX8_play_49 : decode cX8_play 49 = .ok (.iconst 0, 1) := by decide +kernel
theorem dX8_play_50 : decode cX8_play 50 = .ok (.ireturn, 1) := by decide +kernel
theorem dX8_play_51 : decode cX8_play 51 = .ok (.aload_n 0, 1) := by decide +kernel
theorem dX8_play_52 : decode cX8_play 52 = .ok (.invokevirtual 109, 3) := by decide +kernel
theorem dX8_play_55 : decode cX8_play 55 = .ok (.iconst 0, 1) := by decide +kernel
theorem dX8_play_56 : decode cX8_play 56 = .ok (.istore 4, 2) := by decide +kernel
theorem dX8_play_58 : decode cX8_play 58 = .ok (.iload 4, 2) := by decide +kernel
theorem dX8_play_60 : decode cX8_play 60 = .ok (.iload_n 1, 1) := by decide +kernel
theorem dX8_play_61 : decode cX8_play 61 = .ok (.if_icmp .ge 69, 3) := by decide +kernel
theorem dX8_play_64 : decode cX8_play 64 = .ok (.aload_n 0, 1) := by decide +kernel
theorem dX8_play_65 : decode cX8_play 65 = .ok (.getfield 51, 3) := by decide +kernel
theorem dX8_play_68 : decode cX8_play 68 = .ok (.ifCond .eq 62, 3) := by decide +kernel
theorem dX8_play_71 : decode cX8_play 71 = .ok (.aload_n 0, 1) := by decide +kernel
theorem dX8_play_72 : decode cX8_play 72 = .ok (.iload_n 2, 1) := by decide +kernel
theorem dX8_play_73 : decode cX8_play 73 = .ok (.iload_n 3, 1) := by decide +kernel
theorem dX8_play_74 : decode cX8_play 74 = .ok (.invokevirtual 112, 3) := by decide +kernel
theorem dX8_play_77 : decode cX8_play 77 = .ok (.aload_n 0, 1) := by decide +kernel
theorem dX8_play_78 : decode cX8_play 78 = .ok (.dup, 1) := by decide +kernel
theorem dX8_play_79 : decode cX8_play 79 = .ok (.getfield 28, 3) := by decide +kernel
theorem dX8_play_82 : decode cX8_play 82 = .ok (.iconst 1, 1) := by decide +kernel
theorem dX8_play_83 : decode cX8_play 83 = .ok (.iadd, 1) := by decide +kernel
theorem dX8_play_84 : decode cX8_play 84 = .ok (.putfield 28, 3) := by decide +kernel
theorem dX8_play_87 : decode cX8_play 87 = .ok (.aload_n 0, 1) := by decide +kernel
theorem dX8_play_88 : decode cX8_play 88 = .ok (.invokevirtual 103, 3) := by decide +kernel
theorem dX8_play_91 : decode cX8_play 91 = .ok (.aload_n 0, 1) := by decide +kernel
theorem dX8_play_92 : decode cX8_play 92 = .ok (.getfield 13, 3) := by decide +kernel
theorem dX8_play_95 : decode cX8_play 95 = .ok (.iconst 1, 1) := by decide +kernel
theorem dX8_play_96 : decode cX8_play 96 = .ok (.iaload, 1) := by decide +kernel
theorem dX8_play_97 : decode cX8_play 97 = .ok (.ifCond .le 23, 3) := by decide +kernel
theorem dX8_play_100 : decode cX8_play 100 = .ok (.aload_n 0, 1) := by decide +kernel
theorem dX8_play_101 : decode cX8_play 101 = .ok (.getfield 13, 3) := by decide +kernel
theorem dX8_play_104 : decode cX8_play 104 = .ok (.bipush 12, 2) := by decide +kernel
theorem dX8_play_106 : decode cX8_play 106 = .ok (.iaload, 1) := by decide +kernel
theorem dX8_play_107 : decode cX8_play 107 = .ok (.ifCond .le 13, 3) := by decide +kernel
theorem dX8_play_110 : decode cX8_play 110 = .ok (.aload_n 0, 1) := by decide +kernel
theorem dX8_play_111 : decode cX8_play 111 = .ok (.getfield 28, 3) := by decide +kernel
theorem dX8_play_114 : decode cX8_play 114 = .ok (.sipush 600, 3) := by decide +kernel
theorem dX8_play_117 : decode cX8_play 117 = .ok (.if_icmp .ne 7, 3) := by decide +kernel
theorem dX8_play_120 : decode cX8_play 120 = .ok (.aload_n 0, 1) := by decide +kernel
theorem dX8_play_121 : decode cX8_play 121 = .ok (.invokevirtual 115, 3) := by decide +kernel
theorem dX8_play_124 : decode cX8_play 124 = .ok (.iinc 4 1, 3) := by decide +kernel
theorem dX8_play_127 : decode cX8_play 127 = .ok (.goto (-69), 3) := by decide +kernel
theorem dX8_play_130 : decode cX8_play 130 = .ok (.aload_n 0, 1) := by decide +kernel
theorem dX8_play_131 : decode cX8_play 131 = .ok (.getfield 28, 3) := by decide +kernel
theorem dX8_play_134 : decode cX8_play 134 = .ok (.ireturn, 1) := by decide +kernel
