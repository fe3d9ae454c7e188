theorem dX7_mostAt_55 : decode cX7_mostAt 55 = .ok (.iload 4, 2) := by decide +kernel
theorem dX7_mostAt_57 : decode cX7_mostAt 57 = .ok (.invokevirtual 205, 3) := by decide +kernel
theorem dX7_mostAt_60 : decode cX7_mostAt 60 = .ok (.ireturn, 1) := by decide +kernel
set_option maxRecDepth 20000 in
theorem ggX7_endRoundIfOver_X0_count : GoodIn wsX7_endRoundIfOver wsX0_count := goodIn_r _ [13, 14, 15, 49, 50, 51] (by decide +kernel) (by decide +kernel)
set_option maxRecDepth 20000 in
theorem gX7_endRoundIfOver_X0_count : GoodIn wsX7_endRoundIfOver (wsV RX7 211 RX0 yX0_count wsX0_count) := goodIn_app (goodIn_of _ (by decide +kernel)) ggX7_endRoundIfOver_X0_count
theorem dX7_endRoundIfOver_0 : decode cX7_endRoundIfOver 0 = .ok (.aload_n 0, 1) := by decide +kernel
theorem dX7_endRoundIfOver_1 : decode cX7_endRoundIfOver 1 = .ok (.getfield 24, 3) := by decide +kernel
theorem dX7_endRoundIfOver_4 : decode cX7_endRoundIfOver 4 = .ok (.getfield 122, 3) := by decide +kernel
theorem dX7_endRoundIfOver_7 : decode cX7_endRoundIfOver 7 = .ok (.getfield 208, 3) := by decide +kernel
theorem dX7_endRoundIfOver_10 : decode cX7_endRoundIfOver 10 = .ok (.istore_n 1, 1) := by decide +kernel
theorem dX7_endRoundIfOver_11 : decode cX7_endRoundIfOver 11 = .ok (.aload_n 0, 1) := by decide +kernel
theorem dX7_endRoundIfOver_12 : decode cX7_endRoundIfOver 12 = .ok (.getfield 24, 3) := by decide +kernel
theorem dX7_endRoundIfOver_15 : decode cX7_endRoundIfOver 15 = .ok (.getfield 131, 3) := by decide +kernel
theorem dX7_endRoundIfOver_18 : decode cX7_endRoundIfOver 18 = .ok (.getfield 208, 3) := by decide +kernel
theorem dX7_endRoundIfOver_21 : decode cX7_endRoundIfOver 21 = .ok (.istore_n 2, 1) := by decide +kernel
theorem dX7_endRoundIfOver_22 : decode cX7_endRoundIfOver 22 = .ok (.iload_n 1, 1) := by decide +kernel
theorem dX7_endRoundIfOver_23 : decode cX7_endRoundIfOver 23 = .ok (.ifCond .le 21, 3) := by decide +kernel
theorem dX7_endRoundIfOver_26 : decode cX7_endRoundIfOver 26 = .ok (.iload_n 2, 1) := by decide +kernel
theorem dX7_endRoundIfOver_27 : decode cX7_endRoundIfOver 27 = .ok (.ifCond .le 17, 3) := by decide +kernel
theorem dX7_endRoundIfOver_30 : decode cX7_endRoundIfOver 30 = .ok (.aload_n 0, 1) := by decide +kernel
theorem dX7_endRoundIfOver_31 : decode cX7_endRoundIfOver 31 = .ok (.getfield 34, 3) := by decide +kernel
theorem dX7_endRoundIfOver_34 : decode cX7_endRoundIfOver 34 = .ok (.getfield 154, 3) := by decide +kernel
theorem dX7_endRoundIfOver_37 : decode cX7_endRoundIfOver 37 = .ok (.sipush 600, 3) := by decide +kernel
theorem dX7_endRoundIfOver_40 : decode cX7_endRoundIfOver 40 = .ok (.if_icmp .ge 4, 3) := by decide +kernel
theorem dX7_endRoundIfOver_43 : decode cX7_endRoundIfOver 43 = .ok (.return_, 1) := by decide +kernel
theorem dX7_endRoundIfOver_44 : decode cX7_endRoundIfOver 44 = .ok (.aload_n 0, 1) := by decide +kernel
theorem dX7_endRoundIfOver_45 : decode cX7_endRoundIfOver 45 = .ok (.iconst 0, 1) := by decide +kernel
theorem dX7_endRoundIfOver_46 : decode cX7_endRoundIfOver 46 = .ok (.putfield 52, 3) := by decide +kernel
theorem dX7_endRoundIfOver_49 : decode cX7_endRoundIfOver 49 = .ok (.aload_n 0, 1) := by decide +kernel
theorem dX7_endRoundIfOver_50 : decode cX7_endRoundIfOver 50 = .ok (.getfield 41, 3) := by decide +kernel
theorem dX7_endRoundIfOver_53 : decode cX7_endRoundIfOver 53 = .ok (.iload_n 1, 1) := by decide +kernel
theorem dX7_endRoundIfOver_54 : decode cX7_endRoundIfOver 54 = .ok (.iload_n 2, 1) := by decide +kernel
theorem dX7_endRoundIfOver_55 : decode cX7_endRoundIfOver 55 = .ok (.invokevirtual 211, 3) := by decide +kernel
theorem dX7_endRoundIfOver_58 : decode cX7_endRoundIfOver 58 = .ok (.return_, 1) := by decide +kernel
set_option maxRecDepth 20000 in
theorem ggX7_needMove_X5_has : GoodIn wsX7_needMove wsX5_has := goodIn_r _ [8, 9, 18, 19, 20] (by decide +kernel) (by decide +kernel)
set_option maxRecDepth 20000 in
theorem gX7_needMove_X5_has : GoodIn wsX7_needMove (wsV RX7 213 RX5 yX5_has wsX5_has) := goodIn_app (goodIn_of _ (by decide +kernel)) ggX7_needMove_X5_has
theorem dX7_needMove_0 : decode cX7_needMove 0 = .ok (.aload_n 0, 1) := by decide +kernel
theorem dX7_needMove_1 : decode cX7_needMove 1 = .ok (.getfield 10, 3) := by decide +kernel
theorem dX7_needMove_4 : decode cX7_needMove 4 = .ok (.iload_n 1, 1) := by decide +kernel
theorem dX7_needMove_5 : decode cX7_needMove 5 = .ok (.invokevirtual 213, 3) := by decide +kernel
theorem dX7_needMove_8 : decode cX7_needMove 8 = .ok (.ifCond .ne 13, 3) := by decide +kernel
theorem dX7_needMove_11 : decode cX7_needMove 11 = .ok (.new 170, 3) := by decide +kernel
theorem dX7_needMove_14 : decode cX7_needMove 14 = .ok (.dup, 1) := by decide +kernel
theorem dX7_needMove_15 : decode cX7_needMove 15 = .ok (.ldc 216, 2) := by decide +kernel
theorem dX7_needMove_17 : decode cX7_needMove 17 = .ok (.invokespecial 174, 3) := by decide +kernel
theorem dX7_needMove_20 : decode cX7_needMove 20 = .ok (.athrow, 1) := by decide +kernel
theorem dX7_needMove_21 : decode cX7_needMove 21 = .ok (.return_, 1) := by decide +kernel
set_option maxRecDepth 20000 in
theorem ggX7_needInput_X5_has : GoodIn wsX7_needInput wsX5_has := goodIn_r _ [8, 9, 18, 19, 20] (by decide +kernel) (by decide +kernel)
set_option maxRecDepth 20000 in
theorem gX7_needInput_X5_has : GoodIn wsX7_needInput (wsV RX7 213 RX5 yX5_has wsX5_has) := goodIn_app (goodIn_of _ (by decide +kernel)) ggX7_needInput_X5_has
theorem dX7_needInput_0 : decode cX7_needInput 0 = .ok (.iload_n 1, 1) := by decide +kernel
theorem dX7_needInput_1 : decode cX7_needInput 1 = .ok (.ifCond .lt 12, 3) := by decide +kernel
theorem dX7_needInput_4 : decode cX7_needInput 4 = .ok (.iload_n 1, 1) := by decide +kernel
theorem dX7_needInput_5 : decode cX7_needInput 5 = .ok (.iconst 4, 1) := by decide +kernel
theorem dX7_needInput_6 : decode cX7_needInput 6 = .ok (.if_icmp .gt 7, 3) := by decide +kernel
theorem dX7_needInput_9 : decode cX7_needInput 9 = .ok (.iconst 1, 1) := by decide +kernel
theorem dX7_needInput_10 : decode cX7_needInput 10 = .ok (.goto 4, 3) := by decide +kernel
theorem dX7_needInput_13 : decode cX7_needInput 13 = .ok (.iconst 0, 1) := by decide +kernel
theorem dX7_needInput_14 : decode cX7_needInput 14 = .ok (.istore_n 2, 1) := by decide +kernel
theorem dX7_needInput_15 : decode cX7_needInput 15 = .ok (.iload_n 1, 1) := by decide +kernel
theorem dX7_needInput_16 : decode cX7_needInput 16 = .ok (.bipush 10, 2) := by decide +kernel
theorem dX7_needInput_18 : decode cX7_needInput 18 = .ok (.if_icmp .lt 21, 3) := by decide +kernel
theorem dX7_needInput_21 : decode cX7_needInput 21 = .ok (.aload_n 0, 1) := by decide +kernel
theorem dX7_needInput_22 : decode cX7_needInput 22 = .ok (.getfield 10, 3) := by decide +kernel
theorem dX7_needInput_25 : decode cX7_needInput 25 = .ok (.iload_n 1, 1) := by decide +kernel
theorem dX7_needInput_26 : decode cX7_needInput 26 = .ok (.bipush 10, 2) := by decide +kernel
theorem dX7_needInput_28 : decode cX7_needInput 28 = .ok (.isub, 1) := by decide +kernel
theorem dX7_needInput_29 : decode cX7_needInput 29 = .ok (.invokevirtual 213, 3) := by decide +kernel
theorem dX7_needInput_32 : decode cX7_needInput 32 = .ok (.ifCond .eq 7, 3) := by decide +kernel
theorem dX7_needInput_35 : decode cX7_needInput 35 = .ok (.iconst 1, 1) := by decide +kernel
theorem dX7_needInput_36 : decode cX7_needInput 36 = .ok (.goto 4, 3) := by decide +kernel
theorem dX7_needInput_39 : decode cX7_needInput 39 = .ok (.iconst 0, 1) := by decide +kernel
theorem dX7_needInput_40 : decode cX7_needInput 40 = .ok (.istore_n 3, 1) := by decide +kernel
theorem dX7_needInput_41 : decode cX7_needInput 41 = .ok (.iload_n 2, 1) := by decide +kernel
theorem dX7_needInput_42 : decode cX7_needInput 42 = .ok (.ifCond .ne 17, 3) := by decide +kernel
theorem dX7_needInput_45 : decode cX7_needInput 45 = .ok (.iload_n 3, 1) := by decide +kernel
theorem dX7_needInput_46 : decode cX7_needInput 46 = .ok (.ifCond .ne 13, 3) := by decide +kernel
theorem dX7_needInput_49 : decode cX7_needInput 49 = .ok (.new 104, 3) := by decide +kernel
theorem dX7_needInput_52 : decode cX7_needInput 52 = .ok (.dup, 1) := by decide +kernel
theorem dX7_needInput_53 : decode cX7_needInput 53 = .ok (.ldc 218, 2) := by decide +kernel
theorem dX7_needInput_55 : decode cX7_needInput 55 = .ok (.invokespecial 108, 3) := by decide +kernel
theorem dX7_needInput_58 : decode cX7_needInput 58 = .ok (.athrow, 1) := by decide +kernel
theorem dX7_needInput_59 : decode cX7_needInput 59 = .ok (.return_, 1) := by decide +kernel
theorem dX7_needNoRound_0 : decode cX7_needNoRound 0 = .ok (.aload_n 0, 1) := by decide +kernel
theorem dX7_needNoRound_1 : decode cX7_needNoRound 1 = .ok (.getfield 52, 3) := by decide +kernel
theorem dX7_needNoRound_4 : decode cX7_needNoRound 4 = .ok (.ifCond .eq 13, 3) := by decide +kernel
theorem dX7_needNoRound_7 : decode cX7_needNoRound 7 = .ok (.new 67, 3) := by decide +kernel
theorem dX7_needNoRound_10 : decode cX7_needNoRound 10 = .ok (.dup, 1) := by decide +kernel
theorem dX7_needNoRound_11 : decode cX7_needNoRound 11 = .ok (.ldc 220, 2) := by decide +kernel
theorem dX7_needNoRound_13 : decode cX7_needNoRound 13 = .ok (.invokespecial 71, 3) := by decide +kernel
theorem dX7_needNoRound_16 : decode cX7_needNoRound 16 = .ok (.athrow, 1) := by decide +kernel
theorem dX7_needNoRound_17 : decode cX7_needNoRound 17 = .ok (.return_, 1) := by decide +kernel
theorem dX7_needFigure_0 : decode cX7_needFigure 0 = .ok (.iload_n 0, 1) := by decide +kernel
theorem dX7_needFigure_1 : decode cX7_needFigure 1 = .ok (.ifCond .eq 18, 3) := by decide +kernel
theorem dX7_needFigure_4 : decode cX7_needFigure 4 = .ok (.iload_n 0, 1) := by decide +kernel
theorem dX7_needFigure_5 : decode cX7_needFigure 5 = .ok (.iconst 1, 1) := by decide +kernel
theorem dX7_needFigure_6 : decode cX7_needFigure 6 = .ok (.if_icmp .eq 13, 3) := by decide +kernel
theorem dX7_needFigure_9 : decode cX7_needFigure 9 = .ok (.new 170, 3) := by decide +kernel
theorem dX7_needFigure_12 : decode cX7_needFigure 12 = .ok (.dup, 1) := by decide +kernel
theorem dX7_needFigure_13 : decode cX7_needFigure 13 = .ok (.ldc 222, 2) := by decide +kernel
theorem dX7_needFigure_15 : decode cX7_needFigure 15 = .ok (.invokespecial 174, 3) := by decide +kernel
theorem dX7_needFigure_18 : decode cX7_needFigure 18 = .ok (.athrow, 1) := by decide +kernel
theorem dX7_needFigure_19 : decode cX7_needFigure 19 = .ok (.return_, 1) := by decide +kernel
theorem dX7_needWithin_0 : decode cX7_needWithin 0 = .ok (.iload_n 0, 1) := by decide +kernel
theorem dX7_needWithin_1 : decode cX7_needWithin 1 = .ok (.iload_n 1, 1) := by decide +kernel
theorem dX7_needWithin_2 : decode cX7_needWithin 2 = .ok (.if_icmp .lt 8, 3) := by decide +kernel
theorem dX7_needWithin_5 : decode cX7_needWithin 5 = .ok (.iload_n 0, 1) := by decide +kernel
theorem dX7_needWithin_6 : decode cX7_needWithin 6 = .ok (.iload_n 2, 1) := by decide +kernel
theorem dX7_needWithin_7 : decode cX7_needWithin 7 = .ok (.if_icmp .le 13, 3) := by decide +kernel
theorem dX7_needWithin_10 : decode cX7_needWithin 10 = .ok (.new 104, 3) := by decide +kernel
theorem dX7_needWithin_13 : decode cX7_needWithin 13 = .ok (.dup, 1) := by decide +kernel
theorem dX7_needWithin_14 : decode cX7_needWithin 14 = .ok (.ldc 224, 2) := by decide +kernel
theorem dX7_needWithin_16 : decode cX7_needWithin 16 = .ok (.invokespecial 108, 3) := by decide +kernel
theorem dX7_needWithin_19 : decode cX7_needWithin 19 = .ok (.athrow, 1) := by decide +kernel
theorem dX7_needWithin_20 : decode cX7_needWithin 20 = .ok (.return_, 1) := by decide +kernel
theorem dX7_inputOf_0 : decode cX7_inputOf 0 = .ok (.bipush 10, 2) := by decide +kernel
theorem dX7_inputOf_2 : decode cX7_inputOf 2 = .ok (.iload_n 0, 1) := by decide +kernel
theorem dX7_inputOf_3 : decode cX7_inputOf 3 = .ok (.iadd, 1) := by decide +kernel
theorem dX7_inputOf_4 : decode cX7_inputOf 4 = .ok (.ireturn, 1) := by decide +kernel
theorem dX8_init_0 : decode cX8_init 0 = .ok (.aload_n 0, 1) := by decide +kernel
theorem dX8_init_1 : decode cX8_init 1 = .ok (.invokespecial 1, 3) := by decide +kernel
theorem dX8_init_4 : decode cX8_init 4 = .ok (.aload_n 0, 1) := by decide +kernel
theorem dX8_init_5 : decode cX8_init 5 = .ok (.bipush 72, 2) := by decide +kernel
theorem dX8_init_7 : decode cX8_init 7 = .ok (.newarray .int, 2) := by decide +kernel
theorem dX8_init_9 : decode cX8_init 9 = .ok (.putfield 7, 3) := by decide +kernel
theorem dX8_init_12 : decode cX8_init 12 = .ok (.aload_n 0, 1) := by decide +kernel
theorem dX8_init_13 : decode cX8_init 13 = .ok (.bipush 22, 2) := by decide +kernel
theorem dX8_init_15 : decode cX8_init 15 = .ok (.newarray .int, 2) := by decide +kernel
theorem dX8_init_17 : decode cX8_init 17 = .ok (.putfield 13, 3) := by decide +kernel
theorem dX8_init_20 : decode cX8_init 20 = .ok (.aload_n 0, 1) := by decide +kernel
theorem dX8_init_21 : decode cX8_init 21 = .ok (.bipush 22, 2) := by decide +kernel
theorem dX8_init_23 : decode cX8_init 23 = .ok (.newarray .int, 2) := by decide +kernel
theorem dX8_init_25 : decode cX8_init 25 = .ok (.putfield 16, 3) := by decide +kernel
theorem dX8_init_28 : decode cX8_init 28 = .ok (.aload_n 0, 1) := by decide +kernel
theorem dX8_init_29 : decode cX8_init 29 = .ok (.bipush 110, 2) := by decide +kernel
theorem dX8_init_31 : decode cX8_init 31 = .ok (.newarray .int, 2) := by decide +kernel
theorem dX8_init_33 : decode cX8_init 33 = .ok (.putfield 19, 3) := by decide +kernel
theorem dX8_init_36 : decode cX8_init 36 = .ok (.aload_n 0, 1) := by decide +kernel
theorem dX8_init_37 : decode cX8_init 37 = .ok (.sipush 8414, 3) := by decide +kernel
theorem dX8_init_40 : decode cX8_init 40 = .ok (.newarray .int, 2) := by decide +kernel
theorem dX8_init_42 : decode cX8_init 42 = .ok (.putfield 22, 3) := by decide +kernel
theorem dX8_init_45 : decode cX8_init 45 = .ok (.aload_n 0, 1) := by decide +kernel
theorem dX8_init_46 : decode cX8_init 46 = .ok (.iconst 2, 1) := by decide +kernel
theorem dX8_init_47 : decode cX8_init 47 = .ok (.newarray .int, 2) := by decide +kernel
theorem dX8_init_49 : decode cX8_init 49 = .ok (.putfield 25, 3) := by decide +kernel
theorem dX8_init_52 : decode cX8_init 52 = .ok (.aload_n 0, 1) := by decide +kernel
theorem dX8_init_53 : decode cX8_init 53 = .ok (.iconst (-1), 1) := by decide +kernel
theorem dX8_init_54 : decode cX8_init 54 = .ok (.putfield 28, 3) := by decide +kernel
theorem dX8_init_57 : decode cX8_init 57 = .ok (.aload_n 0, 1) := by decide +kernel
theorem dX8_init_58 : decode cX8_init 58 = .ok (.iconst (-1), 1) := by decide +kernel
theorem dX8_init_59 : decode cX8_init 59 = .ok (.putfield 32, 3) := by decide +kernel
theorem dX8_init_62 : decode cX8_init 62 = .ok (.aload_n 0, 1) := by decide +kernel
theorem dX8_init_63 : decode cX8_init 63 = .ok (.iconst 4, 1) := by decide +kernel
theorem dX8_init_64 : decode cX8_init 64 = .ok (.newarray .int, 2) := by decide +kernel
theorem dX8_init_66 : decode cX8_init 66 = .ok (.putfield 35, 3) := by decide +kernel
theorem dX8_init_69 : decode cX8_init 69 = .ok (.aload_n 0, 1) := by decide +kernel
theorem dX8_init_70 : decode cX8_init 70 = .ok (.iconst 4, 1) := by decide +kernel
theorem dX8_init_71 : decode cX8_init 71 = .ok (.newarray .int, 2) := by decide +kernel
theorem dX8_init_73 : decode cX8_init 73 = .ok (.putfield 38, 3) := by decide +kernel
theorem dX8_init_76 : decode cX8_init 76 = .ok (.aload_n 0, 1) := by decide +kernel
theorem dX8_init_77 : decode cX8_init 77 = .ok (.getfield 16, 3) := by decide +kernel
theorem dX8_init_80 : decode cX8_init 80 = .ok (.iconst 4, 1) := by decide +kernel
theorem dX8_init_81 : decode cX8_init 81 = .ok (.iconst (-1), 1) := by decide +kernel
theorem dX8_init_82 : decode cX8_init 82 = .ok (.iastore, 1) := by decide +kernel
theorem dX8_init_83 : decode cX8_init 83 = .ok (.aload_n 0, 1) := by decide +kernel
theorem dX8_init_84 : decode cX8_init 84 = .ok (.getfield 16, 3) := by decide +kernel
theorem dX8_init_87 : decode cX8_init 87 = .ok (.bipush 15, 2) := by decide +kernel
theorem dX8_init_89 : decode cX8_init 89 = .ok (.iconst (-1), 1) := by decide +kernel
theorem dX8_init_90 : decode cX8_init 90 = .ok (.iastore, 1) := by decide +kernel
theorem dX8_init_91 : decode cX8_init 91 = .ok (.return_, 1) := by decide +kernel
theorem dX8_thrown_0 : decode cX8_thrown 0 = .ok (.aload_n 0, 1) := by decide +kernel
theorem dX8_thrown_1 : decode cX8_thrown 1 = .ok (.getfield 41, 3) := by decide +kernel
theorem dX8_thrown_4 : decode cX8_thrown 4 = .ok (.ireturn, 1) := by decide +kernel
theorem dX8_in_0 : decode cX8_in 0 = .ok (.iload_n 0, 1) := by decide +kernel
theorem dX8_in_1 : decode cX8_in 1 = .ok (.iload_n 1, 1) := by decide +kernel
theorem dX8_in_2 : decode cX8_in 2 = .ok (.if_icmp .lt 12, 3) := by decide +kernel
theorem dX8_in_5 : decode cX8_in 5 = .ok (.iload_n 0, 1) := by decide +kernel
theorem dX8_in_6 : decode cX8_in 6 = .ok (.iload_n 2, 1) := by decide +kernel
theorem dX8_in_7 : decode cX8_in 7 = .ok (.if_icmp .gt 7, 3) := by decide +kernel
theorem dX8_in_10 : decode cX8_in 10 = .ok (.iconst 1, 1) := by decide +kernel
theorem dX8_in_11 : decode cX8_in 11 = .ok (.goto 4, 3) := by decide +kernel
theorem dX8_in_14 : decode cX8_in 14 = .ok (.iconst 0, 1) := by decide +kernel
theorem dX8_in_15 : decode cX8_in 15 = .ok (.ireturn, 1) := by decide +kernel
theorem dX8_isFine_0 : decode cX8_isFine 0 = .ok (.aload_n 0, 1) := by decide +kernel
theorem dX8_isFine_1 : decode cX8_isFine 1 = .ok (.iload_n 1, 1) := by decide +kernel
theorem dX8_isFine_2 : decode cX8_isFine 2 = .ok (.putfield 41, 3) := by decide +kernel
theorem dX8_isFine_5 : decode cX8_isFine 5 = .ok (.iload_n 1, 1) := by decide +kernel
theorem dX8_isFine_6 : decode cX8_isFine 6 = .ok (.ifCond .ne 7, 3) := by decide +kernel
theorem dX8_isFine_9 : decode cX8_isFine 9 = .ok (.iconst 1, 1) := by decide +kernel
theorem dX8_isFine_10 : decode cX8_isFine 10 = .ok (.goto 4, 3) := by decide +kernel
theorem dX8_isFine_13 : decode cX8_isFine 13 = .ok (.iconst 0, 1) := by decide +kernel
theorem dX8_isFine_14 : decode cX8_isFine 14 = .ok (.ireturn, 1) := by decide +kernel
set_option maxRecDepth 20000 in
theorem ggX8_isMove_X8_in : GoodIn wsX8_isMove wsX8_in := goodIn_r _ [5] (by decide +kernel) (by decide +kernel)
set_option maxRecDepth 20000 in
theorem gX8_isMove_X8_in : GoodIn wsX8_isMove (va_wsS RX8 47 yX8_in wsX8_in) := goodIn_app (goodIn_of _ (by decide +kernel)) ggX8_isMove_X8_in
theorem dX8_isMove_0 : decode cX8_isMove 0 = .ok (.iload_n 1, 1) := by decide +kernel
theorem dX8_isMove_1 : decode cX8_isMove 1 = .ok (.iconst 0, 1) := by decide +kernel
theorem dX8_isMove_2 : decode cX8_isMove 2 = .ok (.aload_n 0, 1) := by decide +kernel
theorem dX8_isMove_3 : decode cX8_isMove 3 = .ok (.getfield 44, 3) := by decide +kernel
theorem dX8_isMove_6 : decode cX8_isMove 6 = .ok (.iconst 1, 1) := by decide +kernel
theorem dX8_isMove_7 : decode cX8_isMove 7 = .ok (.isub, 1) := by decide +kernel
theorem dX8_isMove_8 : decode cX8_isMove 8 = .ok (.invokestatic 47, 3) := by decide +kernel
theorem dX8_isMove_11 : decode cX8_isMove 11 = .ok (.ireturn, 1) := by decide +kernel
theorem dX8_ofMove_0 : decode cX8_ofMove 0 = .ok (.aload_n 0, 1) := by decide +kernel
theorem dX8_ofMove_1 : decode cX8_ofMove 1 = .ok (.getfield 7, 3) := by decide +kernel
theorem dX8_ofMove_4 : decode cX8_ofMove 4 = .ok (.bipush 12, 2) := by decide +kernel
theorem dX8_ofMove_6 : decode cX8_ofMove 6 = .ok (.iload_n 1, 1) := by decide +kernel
theorem dX8_ofMove_7 : decode cX8_ofMove 7 = .ok (.imul, 1) := by decide +kernel
theorem dX8_ofMove_8 : decode cX8_ofMove 8 = .ok (.iload_n 2, 1) := by decide +kernel
theorem dX8_ofMove_9 : decode cX8_ofMove 9 = .ok (.iadd, 1) := by decide +kernel
theorem dX8_ofMove_10 : decode cX8_ofMove 10 = .ok (.iaload, 1) := by decide +kernel
theorem dX8_ofMove_11 : decode cX8_ofMove 11 = .ok (.ireturn, 1) := by decide +kernel
set_option maxRecDepth 20000 in
theorem ggX8_move_X8_in : GoodIn wsX8_move wsX8_in := goodIn_r _ [7] (by decide +kernel) (by decide +kernel)
set_option maxRecDepth 20000 in
theorem gX8_move_X8_in : GoodIn wsX8_move (va_wsS RX8 47 yX8_in wsX8_in) := goodIn_app (goodIn_of _ (by decide +kernel)) ggX8_move_X8_in
set_option maxRecDepth 20000 in
theorem ggX8_move_X8_isFine : GoodIn wsX8_move wsX8_isFine := goodIn_r _ [11, 12, 13, 14, 15, 16, 17, 18, 19, 20, 21, 22, 23, 24, 25, 26, 27, 28, 29] (by decide +kernel) (by decide +kernel)
set_option maxRecDepth 20000 in
theorem gX8_move_X8_isFine : GoodIn wsX8_move (wsV RX8 55 RX8 yX8_isFine wsX8_isFine) := goodIn_app (goodIn_of _ (by decide +kernel)) ggX8_move_X8_isFine
theorem dX8_move_0 : decode cX8_move 0 = .ok (.iload_n 1, 1) := by decide +kernel
theorem dX8_move_1 : decode cX8_move 1 = .ok (.iconst 1, 1) := by decide +kernel
theorem dX8_move_2 : decode cX8_move 2 = .ok (.bipush 30, 2) := by decide +kernel
theorem dX8_move_4 : decode cX8_move 4 = .ok (.invokestatic 47, 3) := by decide +kernel
theorem dX8_move_7 : decode cX8_move 7 = .ok (.ifCond .eq 61, 3) := by decide +kernel
theorem dX8_move_10 : decode cX8_move 10 = .ok (.iload_n 2, 1) := by decide +kernel
theorem dX8_move_11 : decode cX8_move 11 = .ok (.iconst 1, 1) := by decide +kernel
theorem dX8_move_12 : decode cX8_move 12 = .ok (.bipush 10, 2) := by decide +kernel
theorem dX8_move_14 : decode cX8_move 14 = .ok (.invokestatic 47, 3) := by decide +kernel
theorem dX8_move_17 : decode cX8_move 17 = .ok (.ifCond .eq 51, 3) := by decide +kernel
theorem dX8_move_20 : decode cX8_move 20 = .ok (.iload_n 3, 1) := by decide +kernel
theorem dX8_move_21 : decode cX8_move 21 = .ok (.iconst 1, 1) := by decide +kernel
theorem dX8_move_22 : decode cX8_move 22 = .ok (.bipush 40, 2) := by decide +kernel
theorem dX8_move_24 : decode cX8_move 24 = .ok (.invokestatic 47, 3) := by decide +kernel
theorem dX8_move_27 : decode cX8_move 27 = .ok (.ifCond .eq 41, 3) := by decide +kernel
theorem dX8_move_30 : decode cX8_move 30 = .ok (.iload 4, 2) := by decide +kernel
theorem dX8_move_32 : decode cX8_move 32 = .ok (.iconst 1, 1) := by decide +kernel
theorem dX8_move_33 : decode cX8_move 33 = .ok (.sipush 150, 3) := by decide +kernel
theorem dX8_move_36 : decode cX8_move 36 = .ok (.invokestatic 47, 3) := by decide +kernel
theorem dX8_move_39 : decode cX8_move 39 = .ok (.ifCond .eq 29, 3) := by decide +kernel
theorem dX8_move_42 : decode cX8_move 42 = .ok (.iload 5, 2) := by decide +kernel
theorem dX8_move_44 : decode cX8_move 44 = .ok (.iconst 0, 1) := by decide +kernel
theorem dX8_move_45 : decode cX8_move 45 = .ok (.iconst 3, 1) := by decide +kernel
theorem dX8_move_46 : decode cX8_move 46 = .ok (.invokestatic 47, 3) := by decide +kernel
theorem dX8_move_49 : decode cX8_move 49 = .ok (.ifCond .eq 19, 3) := by decide +kernel
theorem dX8_move_52 : decode cX8_move 52 = .ok (.iload 6, 2) := by decide +kernel
theorem dX8_move_54 : decode cX8_move 54 = .ok (.iconst 1, 1) := by decide +kernel
theorem dX8_move_55 : decode cX8_move 55 = .ok (.sipush 200, 3) := by decide +kernel
theorem dX8_move_58 : decode cX8_move 58 = .ok (.invokestatic 47, 3) := by decide +kernel
theorem dX8_move_61 : decode cX8_move 61 = .ok (.ifCond .eq 7, 3) := by decide +kernel
theorem dX8_move_64 : decode cX8_move 64 = .ok (.iconst 1, 1) := by decide +kernel
theorem dX8_move_65 : decode cX8_move 65 = .ok (.goto 4, 3) := by decide +kernel
theorem dX8_move_68 : decode cX8_move 68 = .ok (.iconst 0, 1) := by decide +kernel
theorem dX8_move_69 : decode cX8_move 69 = .ok (.istore 7, 2) := by decide +kernel
theorem dX8_move_71 : decode cX8_move 71 = .ok (.aload_n 0, 1) := by decide +kernel
theorem dX8_move_72 : decode cX8_move 72 = .ok (.iload 7, 2) := by decide +kernel
theorem dX8_move_74 : decode cX8_move 74 = .ok (.ifCond .ne 7, 3) := by decide +kernel
theorem dX8_move_77 : decode cX8_move 77 = .ok (.iconst 1, 1) := by decide +kernel
theorem dX8_move_78 : decode cX8_move 78 = .ok (.goto 24, 3) := by decide +kernel
theorem dX8_move_81 : decode cX8_move 81 = .ok (.aload_n 0, 1) := by decide +kernel
theorem dX8_move_82 : decode cX8_move 82 = .ok (.getfield 44, 3) := by decide +kernel
theorem dX8_move_85 : decode cX8_move 85 = .ok (.bipush 6, 2) := by decide +kernel
theorem dX8_move_87 : decode cX8_move 87 = .ok (.if_icmp .eq 10, 3) := by decide +kernel
theorem dX8_move_90 : decode cX8_move 90 = .ok (.aload_n 0, 1) := by decide +kernel
theorem dX8_move_91 : decode cX8_move 91 = .ok (.getfield 51, 3) := by decide +kernel
theorem dX8_move_94 : decode cX8_move 94 = .ok (.ifCond .eq 7, 3) := by decide +kernel
theorem dX8_move_97 : decode cX8_move 97 = .ok (.iconst 2, 1) := by decide +kernel
theorem dX8_move_98 : decode cX8_move 98 = .ok (.goto 4, 3) := by decide +kernel
theorem dX8_move_101 : decode cX8_move 101 = .ok (.iconst 0, 1) := by decide +kernel
theorem dX8_move_102 : decode cX8_move 102 = .ok (.invokevirtual 55, 3) := by decide +kernel
theorem dX8_move_105 : decode cX8_move 105 = .ok (.ifCond .ne 5, 3) := by decide +kernel
theorem dX8_move_108 : decode cX8_move 108 = .ok (.iconst 0, 1) := by decide +kernel
theorem dX8_move_109 : decode cX8_move 109 = .ok (.ireturn, 1) := by decide +kernel
theorem dX8_move_110 : decode cX8_move 110 = .ok (.bipush 12, 2) := by decide +kernel
theorem dX8_move_112 : decode cX8_move 112 = .ok (.aload_n 0, 1) := by decide +kernel
theorem dX8_move_113 : decode cX8_move 113 = .ok (.getfield 44, 3) := by decide +kernel
theorem dX8_move_116 : decode cX8_move 116 = .ok (.imul, 1) := by decide +kernel
theorem dX8_move_117 : decode cX8_move 117 = .ok (.istore 8, 2) := by decide +kernel
theorem dX8_move_119 : decode cX8_move 119 = .ok (.aload_n 0, 1) := by decide +kernel
theorem dX8_move_120 : decode cX8_move 120 = .ok (.getfield 7, 3) := by decide +kernel
theorem dX8_move_123 : decode cX8_move 123 = .ok (.iload 8, 2) := by decide +kernel
theorem dX8_move_125 : decode cX8_move 125 = .ok (.iload_n 1, 1) := by decide +kernel
theorem dX8_move_126 : decode cX8_move 126 = .ok (.iastore, 1) := by decide +kernel
theorem dX8_move_127 : decode cX8_move 127 = .ok (.aload_n 0, 1) := by decide +kernel
theorem dX8_move_128 : decode cX8_move 128 = .ok (.getfield 7, 3) := by decide +kernel
theorem dX8_move_131 : decode cX8_move 131 = .ok (.iload 8, 2) := by decide +kernel
theorem dX8_move_133 : decode cX8_move 133 = .ok (.iconst 1, 1) := by decide +kernel
theorem dX8_move_134 : decode cX8_move 134 = .ok (.iadd, 1) := by decide +kernel
theorem dX8_move_135 : decode cX8_move 135 = .ok (.iload_n 2, 1) := by decide +kernel
theorem dX8_move_136 : decode cX8_move 136 = .ok (.iastore, 1) := by decide +kernel
theorem dX8_move_137 : decode cX8_move 137 = .ok (.aload_n 0, 1) := by decide +kernel
theorem dX8_move_138 : decode cX8_move 138 = .ok (.getfield 7, 3) := by decide +kernel
theorem dX8_move_141 : decode cX8_move 141 = .ok (.iload 8, 2) := by decide +kernel
theorem dX8_move_143 : decode cX8_move 143 = .ok (.iconst 2, 1) := by decide +kernel
theorem dX8_move_144 : decode cX8_move 144 = .ok (.iadd, 1) := by decide +kernel
theorem dX8_move_145 : decode cX8_move 145 = .ok (.iload_n 3, 1) := by decide +kernel
theorem dX8_move_146 : decode cX8_move 146 = .ok (.iastore, 1) := by decide +kernel
theorem dX8_move_147 : decode cX8_move 147 = .ok (.aload_n 0, 1) := by decide +kernel
theorem dX8_move_148 : decode cX8_move 148 = .ok (.getfield 7, 3) := by decide +kernel
theorem dX8_move_151 : decode cX8_move 151 = .ok (.iload 8, 2) := by decide +kernel
theorem dX8_move_153 : decode cX8_move 153 = .ok (.iconst 3, 1) := by decide +kernel
theorem dX8_move_154 : decode cX8_move 154 = .ok (.iadd, 1) := by decide +kernel
theorem dX8_move_155 : decode cX8_move 155 = .ok (.iload 4, 2) := by decide +kernel
theorem dX8_move_157 : decode cX8_move 157 = .ok (.iastore, 1) := by decide +kernel
theorem dX8_move_158 : decode cX8_move 158 = .ok (.aload_n 0, 1) := by decide +kernel
theorem dX8_move_159 : decode cX8_move 159 = .ok (.getfield 7, 3) := by decide +kernel
theorem dX8_move_162 : decode cX8_move 162 = .ok (.iload 8, 2) := by decide +kernel
theorem dX8_move_164 : decode cX8_move 164 = .ok (.iconst 4, 1) := by decide +kernel
theorem dX8_move_165 : decode cX8_move 165 = .ok (.iadd, 1) := by decide +kernel
theorem dX8_move_166 : decode cX8_move 166 = .ok (.iload 5, 2) := by decide +kernel
theorem dX8_move_168 : decode cX8_move 168 = .ok (.iastore, 1) := by decide +kernel
theorem dX8_move_169 : decode cX8_move 169 = .ok (.aload_n 0, 1) := by decide +kernel
theorem dX8_move_170 : decode cX8_move 170 = .ok (.getfield 7, 3) := by decide +kernel
theorem dX8_move_173 : decode cX8_move 173 = .ok (.iload 8, 2) := by decide +kernel
theorem dX8_move_175 : decode cX8_move 175 = .ok (.iconst 5, 1) := by decide +kernel
theorem dX8_move_176 : decode cX8_move 176 = .ok (.iadd, 1) := by decide +kernel
theorem dX8_move_177 : decode cX8_move 177 = .ok (.iload 6, 2) := by decide +kernel
theorem dX8_move_179 : decode cX8_move 179 = .ok (.iastore, 1) := by decide +kernel
theorem dX8_move_180 : decode cX8_move 180 = .ok (.aload_n 0, 1) := by decide +kernel
theorem dX8_move_181 : decode cX8_move 181 = .ok (.getfield 7, 3) := by decide +kernel
theorem dX8_move_184 : decode cX8_move 184 = .ok (.iload 8, 2) := by decide +kernel
theorem dX8_move_186 : decode cX8_move 186 = .ok (.bipush 6, 2) := by decide +kernel
theorem dX8_move_188 : decode cX8_move 188 = .ok (.iadd, 1) := by decide +kernel
theorem dX8_move_189 : decode cX8_move 189 = .ok (.bipush 20, 2) := by decide +kernel
theorem dX8_move_191 : decode cX8_move 191 = .ok (.iastore, 1) := by decide +kernel
theorem dX8_move_192 : decode cX8_move 192 = .ok (.aload_n 0, 1) := by decide +kernel
theorem dX8_move_193 : decode cX8_move 193 = .ok (.getfield 7, 3) := by decide +kernel
theorem dX8_move_196 : decode cX8_move 196 = .ok (.iload 8, 2) := by decide +kernel
theorem dX8_move_198 : decode cX8_move 198 = .ok (.bipush 7, 2) := by decide +kernel
theorem dX8_move_200 : decode cX8_move 200 = .ok (.iadd, 1) := by decide +kernel
theorem dX8_move_201 : decode cX8_move 201 = .ok (.bipush 12, 2) := by decide +kernel
theorem dX8_move_203 : decode cX8_move 203 = .ok (.iastore, 1) := by decide +kernel
theorem dX8_move_204 : decode cX8_move 204 = .ok (.aload_n 0, 1) := by decide +kernel
theorem dX8_move_205 : decode cX8_move 205 = .ok (.getfield 7, 3) := by decide +kernel
theorem dX8_move_208 : decode cX8_move 208 = .ok (.iload 8, 2) := by decide +kernel
theorem dX8_move_210 : decode cX8_move 210 = .ok (.bipush 8, 2) := by decide +kernel
theorem dX8_move_212 : decode cX8_move 212 = .ok (.iadd, 1) := by decide +kernel
theorem dX8_move_213 : decode cX8_move 213 = .ok (.bipush 10, 2) := by decide +kernel
theorem dX8_move_215 : decode cX8_move 215 = .ok (.iastore, 1) := by decide +kernel
theorem dX8_move_216 : decode cX8_move 216 = .ok (.aload_n 0, 1) := by decide +kernel
theorem dX8_move_217 : decode cX8_move 217 = .ok (.getfield 7, 3) := by decide +kernel
theorem dX8_move_220 : decode cX8_move 220 = .ok (.iload 8, 2) := by decide +kernel
theorem dX8_move_222 : decode cX8_move 222 = .ok (.bipush 9, 2) := by decide +kernel
theorem dX8_move_224 : decode cX8_move 224 = .ok (.iadd, 1) := by decide +kernel
theorem dX8_move_225 : decode cX8_move 225 = .ok (.iconst 0, 1) := by decide +kernel
theorem dX8_move_226 : decode cX8_move 226 = .ok (.iastore, 1) := by decide +kernel
theorem dX8_move_227 : decode cX8_move 227 = .ok (.aload_n 0, 1) := by decide +kernel
theorem dX8_move_228 : decode cX8_move 228 = .ok (.getfield 7, 3) := by decide +kernel
theorem dX8_move_231 : decode cX8_move 231 = .ok (.iload 8, 2) := by decide +kernel
theorem dX8_move_233 : decode cX8_move 233 = .ok (.bipush 10, 2) := by decide +kernel
theorem dX8_move_235 : decode cX8_move 235 = .ok (.iadd, 1) := by decide +kernel
theorem dX8_move_236 : decode cX8_move 236 = .ok (.iconst 5, 1) := by decide +kernel
theorem dX8_move_237 : decode cX8_move 237 = .ok (.iastore, 1) := by decide +kernel
theorem dX8_move_238 : decode cX8_move 238 = .ok (.aload_n 0, 1) := by decide +kernel
theorem dX8_move_239 : decode cX8_move 239 = .ok (.getfield 7, 3) := by decide +kernel
theorem dX8_move_242 : decode cX8_move 242 = .ok (.iload 8, 2) := by decide +kernel
theorem dX8_move_244 : decode cX8_move 244 = .ok (.bipush 11, 2) := by decide +kernel
theorem dX8_move_246 : decode cX8_move 246 = .ok (.iadd, 1) := by decide +kernel
theorem dX8_move_247 : decode cX8_move 247 = .ok (.iconst 0, 1) := by decide +kernel
theorem dX8_move_248 : decode cX8_move 248 = .ok (.iastore, 1) := by decide +kernel
theorem dX8_move_249 : decode cX8_move 249 = .ok (.aload_n 0, 1) := by decide +kernel
theorem dX8_move_250 : decode cX8_move 250 = .ok (.dup, 1) := by decide +kernel
theorem dX8_move_251 : decode cX8_move 251 = .ok (.getfield 44, 3) := by decide +kernel
theorem dX8_move_254 : decode cX8_move 254 = .ok (.iconst 1, 1) := by decide +kernel
theorem dX8_move_255 : decode cX8_move 255 = .ok (.iadd, 1) := by decide +kernel
theorem dX8_move_256 : decode cX8_move 256 = .ok (.putfield 44, 3) := by decide +kernel
theorem dX8_move_259 : decode cX8_move 259 = .ok (.aload_n 0, 1) := by decide +kernel
theorem dX8_move_260 : decode cX8_move 260 = .ok (.getfield 44, 3) := by decide +kernel
theorem dX8_move_263 : decode cX8_move 263 = .ok (.iconst 1, 1) := by decide +kernel
theorem dX8_move_264 : decode cX8_move 264 = .ok (.isub, 1) := by decide +kernel
theorem dX8_move_265 : decode cX8_move 265 = .ok (.ireturn, 1) := by decide +kernel
set_option maxRecDepth 20000 in
theorem ggX8_patch_X8_isMove : GoodIn wsX8_patch wsX8_isMove := goodIn_r _ [7, 8, 9, 10, 6, 11, 17, 18, 19, 20, 21, 22, 23, 24, 25, 26, 27, 28, 29, 30, 31, 32, 33] (by decide +kernel) (by decide +kernel)
set_option maxRecDepth 20000 in
theorem gX8_patch_X8_isMove : GoodIn wsX8_patch (wsV RX8 59 RX8 yX8_isMove wsX8_isMove) := goodIn_app (goodIn_of _ (by decide +kernel)) ggX8_patch_X8_isMove
set_option maxRecDepth 20000 in
theorem ggX8_patch_X8_in : GoodIn wsX8_patch wsX8_in := goodIn_r _ [11] (by decide +kernel) (by decide +kernel)
set_option maxRecDepth 20000 in
theorem gX8_patch_X8_in : GoodIn wsX8_patch (va_wsS RX8 47 yX8_in wsX8_in) := goodIn_app (goodIn_of _ (by decide +kernel)) ggX8_patch_X8_in
set_option maxRecDepth 20000 in
theorem ggX8_patch_X8_isFine : GoodIn wsX8_patch wsX8_isFine := goodIn_r _ [15, 16, 17, 18, 19, 20, 21, 22, 23, 24, 25, 26, 27, 28, 29, 30, 31, 32, 33] (by decide +kernel) (by decide +kernel)
set_option maxRecDepth 20000 in
theorem gX8_patch_X8_isFine : GoodIn wsX8_patch (wsV RX8 55 RX8 yX8_isFine wsX8_isFine) := goodIn_app (goodIn_of _ (by decide +kernel)) ggX8_patch_X8_isFine
theorem dX8_patch_0 : decode cX8_patch 0 = .ok (.aload_n 0, 1) := by decide +kernel
theorem dX8_patch_1 : decode cX8_patch 1 = .ok (.aload_n 0, 1) := by decide +kernel
theorem dX8_patch_2 : decode cX8_patch 2 = .ok (.iload_n 1, 1) := by decide +kernel
theorem dX8_patch_3 : decode cX8_patch 3 = .ok (.invokevirtual 59, 3) := by decide +kernel
theorem dX8_patch_6 : decode cX8_patch 6 = .ok (.ifCond .ne 7, 3) := by decide +kernel
theorem dX8_patch_9 : decode cX8_patch 9 = .ok (.iconst 1, 1) := by decide +kernel
theorem dX8_patch_10 : decode cX8_patch 10 = .ok (.goto 38, 3) := by decide +kernel
theorem dX8_patch_13 : decode cX8_patch 13 = .ok (.iload_n 2, 1) := by decide +kernel
theorem dX8_patch_14 : decode cX8_patch 14 = .ok (.iconst 0, 1) := by decide +kernel
theorem dX8_patch_15 : decode cX8_patch 15 = .ok (.iconst 4, 1) := by decide +kernel
theorem dX8_patch_16 : decode cX8_patch 16 = .ok (.invokestatic 47, 3) := by decide +kernel
theorem dX8_patch_19 : decode cX8_patch 19 = .ok (.ifCond .eq 13, 3) := by decide +kernel
theorem dX8_patch_22 : decode cX8_patch 22 = .ok (.iload_n 3, 1) := by decide +kernel
theorem dX8_patch_23 : decode cX8_patch 23 = .ok (.iconst 0, 1) := by decide +kernel
theorem dX8_patch_24 : decode cX8_patch 24 = .ok (.bipush 60, 2) := by decide +kernel
theorem dX8_patch_26 : decode cX8_patch 26 = .ok (.invokestatic 47, 3) := by decide +kernel
theorem dX8_patch_29 : decode cX8_patch 29 = .ok (.ifCond .ne 7, 3) := by decide +kernel
theorem dX8_patch_32 : decode cX8_patch 32 = .ok (.iconst 2, 1) := by decide +kernel
theorem dX8_patch_33 : decode cX8_patch 33 = .ok (.goto 15, 3) := by decide +kernel
theorem dX8_patch_36 : decode cX8_patch 36 = .ok (.aload_n 0, 1) := by decide +kernel
theorem dX8_patch_37 : decode cX8_patch 37 = .ok (.getfield 51, 3) := by decide +kernel
theorem dX8_patch_40 : decode cX8_patch 40 = .ok (.ifCond .eq 7, 3) := by decide +kernel
theorem dX8_patch_43 : decode cX8_patch 43 = .ok (.iconst 3, 1) := by decide +kernel
theorem dX8_patch_44 : decode cX8_patch 44 = .ok (.goto 4, 3) := by decide +kernel
theorem dX8_patch_47 : decode cX8_patch 47 = .ok (.iconst 0, 1) := by decide +kernel
theorem dX8_patch_48 : decode cX8_patch 48 = .ok (.invokevirtual 55, 3) := by decide +kernel
theorem dX8_patch_51 : decode cX8_patch 51 = .ok (.ifCond .ne 5, 3) := by decide +kernel
theorem dX8_patch_54 : decode cX8_patch 54 = .ok (.iconst 0, 1) := by decide +kernel
theorem dX8_patch_55 : decode cX8_patch 55 = .ok (.ireturn, 1) := by decide +kernel
theorem dX8_patch_56 : decode cX8_patch 56 = .ok (.aload_n 0, 1) := by decide +kernel
theorem dX8_patch_57 : decode cX8_patch 57 = .ok (.getfield 7, 3) := by decide +kernel
theorem dX8_patch_60 : decode cX8_patch 60 = .ok (.bipush 12, 2) := by decide +kernel
theorem dX8_patch_62 : decode cX8_patch 62 = .ok (.iload_n 1, 1) := by decide +kernel
theorem dX8_patch_63 : decode cX8_patch 63 = .ok (.imul, 1) := by decide +kernel
theorem dX8_patch_64 : decode cX8_patch 64 = .ok (.bipush 6, 2) := by decide +kernel
theorem dX8_patch_66 : decode cX8_patch 66 = .ok (.iadd, 1) := by decide +kernel
theorem dX8_patch_67 : decode cX8_patch 67 = .ok (.iload_n 2, 1) := by decide +kernel
theorem dX8_patch_68 : decode cX8_patch 68 = .ok (.iadd, 1) := by decide +kernel
theorem dX8_patch_69 : decode cX8_patch 69 = .ok (.iaload, 1) := by decide +kernel
theorem dX8_patch_70 : decode cX8_patch 70 = .ok (.istore 4, 2) := by decide +kernel
theorem dX8_patch_72 : decode cX8_patch 72 = .ok (.aload_n 0, 1) := by decide +kernel
theorem dX8_patch_73 : decode cX8_patch 73 = .ok (.getfield 7, 3) := by decide +kernel
theorem dX8_patch_76 : decode cX8_patch 76 = .ok (.bipush 12, 2) := by decide +kernel
theorem dX8_patch_78 : decode cX8_patch 78 = .ok (.iload_n 1, 1) := by decide +kernel
theorem dX8_patch_79 : decode cX8_patch 79 = .ok (.imul, 1) := by decide +kernel
theorem dX8_patch_80 : decode cX8_patch 80 = .ok (.bipush 6, 2) := by decide +kernel
theorem dX8_patch_82 : decode cX8_patch 82 = .ok (.iadd, 1) := by decide +kernel
theorem dX8_patch_83 : decode cX8_patch 83 = .ok (.iload_n 2, 1) := by decide +kernel
theorem dX8_patch_84 : decode cX8_patch 84 = .ok (.iadd, 1) := by decide +kernel
theorem dX8_patch_85 : decode cX8_patch 85 = .ok (.iload_n 3, 1) := by decide +kernel
theorem dX8_patch_86 : decode cX8_patch 86 = .ok (.iastore, 1) := by decide +kernel
theorem dX8_patch_87 : decode cX8_patch 87 = .ok (.iload 4, 2) := by decide +kernel
theorem dX8_patch_89 : decode cX8_patch 89 = .ok (.ireturn, 1) := by decide +kernel
set_option maxRecDepth 20000 in
theorem ggX8_cancel_X8_isMove : GoodIn wsX8_cancel wsX8_isMove := goodIn_r _ [7, 8, 9, 10, 6, 11, 17, 18, 19, 20, 21, 22, 23, 24, 25, 26, 27, 28, 29, 30, 31, 32, 33] (by decide +kernel) (by decide +kernel)
set_option maxRecDepth 20000 in
theorem gX8_cancel_X8_isMove : GoodIn wsX8_cancel (wsV RX8 59 RX8 yX8_isMove wsX8_isMove) := goodIn_app (goodIn_of _ (by decide +kernel)) ggX8_cancel_X8_isMove
set_option maxRecDepth 20000 in
theorem ggX8_cancel_X8_isFine : GoodIn wsX8_cancel wsX8_isFine := goodIn_r _ [15, 16, 17, 18, 19, 20, 21, 22, 23, 24, 25, 26, 27, 28, 29, 30, 31, 32, 33] (by decide +kernel) (by decide +kernel)
set_option maxRecDepth 20000 in
theorem gX8_cancel_X8_isFine : GoodIn wsX8_cancel (wsV RX8 55 RX8 yX8_isFine wsX8_isFine) := goodIn_app (goodIn_of _ (by decide +kernel)) ggX8_cancel_X8_isFine
theorem dX8_cancel_0 : decode cX8_cancel 0 = .ok (.aload_n 0, 1) := by decide +kernel
theorem dX8_cancel_1 : decode cX8_cancel 1 = .ok (.aload_n 0, 1) := by decide +kernel
theorem dX8_cancel_2 : decode cX8_cancel 2 = .ok (.iload_n 1, 1) := by decide +kernel
theorem dX8_cancel_3 : decode cX8_cancel 3 = .ok (.invokevirtual 59, 3) := by decide +kernel
theorem dX8_cancel_6 : decode cX8_cancel 6 = .ok (.ifCond .eq 11, 3) := by decide +kernel
theorem dX8_cancel_9 : decode cX8_cancel 9 = .ok (.aload_n 0, 1) := by decide +kernel
theorem dX8_cancel_10 : decode cX8_cancel 10 = .ok (.iload_n 2, 1) := by decide +kernel
theorem dX8_cancel_11 : decode cX8_cancel 11 = .ok (.invokevirtual 59, 3) := by decide +kernel
theorem dX8_cancel_14 : decode cX8_cancel 14 = .ok (.ifCond .ne 7, 3) := by decide +kernel
theorem dX8_cancel_17 : decode cX8_cancel 17 = .ok (.iconst 1, 1) := by decide +kernel
theorem dX8_cancel_18 : decode cX8_cancel 18 = .ok (.goto 15, 3) := by decide +kernel
theorem dX8_cancel_21 : decode cX8_cancel 21 = .ok (.aload_n 0, 1) := by decide +kernel
theorem dX8_cancel_22 : decode cX8_cancel 22 = .ok (.getfield 51, 3) := by decide +kernel
theorem dX8_cancel_25 : decode cX8_cancel 25 = .ok (.ifCond .eq 7, 3) := by decide +kernel
theorem dX8_cancel_28 : decode cX8_cancel 28 = .ok (.iconst 2, 1) := by decide +kernel
theorem dX8_cancel_29 : decode cX8_cancel 29 = .ok (.goto 4, 3) := by decide +kernel
theorem dX8_cancel_32 : decode cX8_cancel 32 = .ok (.iconst 0, 1) := by decide +kernel
theorem dX8_cancel_33 : decode cX8_cancel 33 = .ok (.invokevirtual 55, 3) := by decide +kernel
theorem dX8_cancel_36 : decode cX8_cancel 36 = .ok (.ifCond .ne 5, 3) := by decide +kernel
theorem dX8_cancel_39 : decode cX8_cancel 39 = .ok (.iconst 0, 1) := by decide +kernel
theorem dX8_cancel_40 : decode cX8_cancel 40 = .ok (.ireturn, 1) := by decide +kernel
theorem dX8_cancel_41 : decode cX8_cancel 41 = .ok (.bipush 12, 2) := by decide +kernel
theorem dX8_cancel_43 : decode cX8_cancel 43 = .ok (.iload_n 1, 1) := by decide +kernel
theorem dX8_cancel_44 : decode cX8_cancel 44 = .ok (.imul, 1) := by decide +kernel
theorem dX8_cancel_45 : decode cX8_cancel 45 = .ok (.bipush 11, 2) := by decide +kernel
theorem dX8_cancel_47 : decode cX8_cancel 47 = .ok (.iadd, 1) := by decide +kernel
theorem dX8_cancel_48 : decode cX8_cancel 48 = .ok (.istore 4, 2) := by decide +kernel
theorem dX8_cancel_50 : decode cX8_cancel 50 = .ok (.aload_n 0, 1) := by decide +kernel
theorem dX8_cancel_51 : decode cX8_cancel 51 = .ok (.getfield 7, 3) := by decide +kernel
theorem dX8_cancel_54 : decode cX8_cancel 54 = .ok (.iload 4, 2) := by decide +kernel
theorem dX8_cancel_56 : decode cX8_cancel 56 = .ok (.iaload, 1) := by decide +kernel
theorem dX8_cancel_57 : decode cX8_cancel 57 = .ok (.iload_n 2, 1) := by decide +kernel
theorem dX8_cancel_58 : decode cX8_cancel 58 = .ok (.ishr, 1) := by decide +kernel
theorem dX8_cancel_59 : decode cX8_cancel 59 = .ok (.iconst 1, 1) := by decide +kernel
theorem dX8_cancel_60 : decode cX8_cancel 60 = .ok (.iand, 1) := by decide +kernel
theorem dX8_cancel_61 : decode cX8_cancel 61 = .ok (.iconst 1, 1) := by decide +kernel
theorem dX8_cancel_62 : decode cX8_cancel 62 = .ok (.if_icmp .ne 7, 3) := by decide +kernel
theorem dX8_cancel_65 : decode cX8_cancel 65 = .ok (.iconst 1, 1) := by decide +kernel
theorem dX8_cancel_66 : decode cX8_cancel 66 = .ok (.goto 4, 3) := by decide +kernel
theorem dX8_cancel_69 : decode cX8_cancel 69 = .ok (.iconst 0, 1) := by decide +kernel
theorem dX8_cancel_70 : decode cX8_cancel 70 = .ok (.istore 5, 2) := by decide +kernel
theorem dX8_cancel_72 : decode cX8_cancel 72 = .ok (.aload_n 0, 1) := by decide +kernel
theorem dX8_cancel_73 : decode cX8_cancel 73 = .ok (.getfield 7, 3) := by decide +kernel
theorem dX8_cancel_76 : decode cX8_cancel 76 = .ok (.iload 4, 2) := by decide +kernel
theorem dX8_cancel_78 : decode cX8_cancel 78 = .ok (.iload_n 3, 1) := by decide +kernel
theorem dX8_cancel_79 : decode cX8_cancel 79 = .ok (.ifCond .eq 17, 3) := by decide +kernel
theorem dX8_cancel_82 : decode cX8_cancel 82 = .ok (.aload_n 0, 1) := by decide +kernel
theorem dX8_cancel_83 : decode cX8_cancel 83 = .ok (.getfield 7, 3) := by decide +kernel
theorem dX8_cancel_86 : decode cX8_cancel 86 = .ok (.iload 4, 2) := by decide +kernel
theorem dX8_cancel_88 : decode cX8_cancel 88 = .ok (.iaload, 1) := by decide +kernel
theorem dX8_cancel_89 : decode cX8_cancel 89 = .ok (.iconst 1, 1) := by decide +kernel
theorem dX8_cancel_90 : decode cX8_cancel 90 = .ok (.iload_n 2, 1) := by decide +kernel
theorem dX8_cancel_91 : decode cX8_cancel 91 = .ok (.ishl, 1) := by decide +kernel
theorem dX8_cancel_92 : decode cX8_cancel 92 = .ok (.ior, 1) := by decide +kernel
theorem dX8_cancel_93 : decode cX8_cancel 93 = .ok (.goto 16, 3) := by decide +kernel
theorem dX8_cancel_96 : decode cX8_cancel 96 = .ok (.aload_n 0, 1) := by decide +kernel
theorem dX8_cancel_97 : decode cX8_cancel 97 = .ok (.getfield 7, 3) := by decide +kernel
theorem dX8_cancel_100 : decode cX8_cancel 100 = .ok (.iload 4, 2) := by decide +kernel
theorem dX8_cancel_102 : decode cX8_cancel 102 = .ok (.iaload, 1) := by decide +kernel
theorem dX8_cancel_103 : decode cX8_cancel 103 = .ok (.iconst 1, 1) := by decide +kernel
theorem dX8_cancel_104 : decode cX8_cancel 104 = .ok (.iload_n 2, 1) := by decide +kernel
theorem dX8_cancel_105 : decode cX8_cancel 105 = .ok (.ishl, 1) := by decide +kernel
theorem dX8_cancel_106 : decode cX8_cancel 106 = .ok (.iconst (-1), 1) := by decide +kernel
theorem dX8_cancel_107 : decode cX8_cancel 107 = .ok (.ixor, 1) := by decide +kernel
theorem dX8_cancel_108 : decode cX8_cancel 108 = .ok (.iand, 1) := by decide +kernel
theorem dX8_cancel_109 : decode cX8_cancel 109 = .ok (.iastore, 1) := by decide +kernel
theorem dX8_cancel_110 : decode cX8_cancel 110 = .ok (.iload 5, 2) := by decide +kernel
theorem dX8_cancel_112 : decode cX8_cancel 112 = .ok (.ireturn, 1) := by decide +kernel
theorem dX8_keepInput_0 : decode cX8_keepInput 0 = .ok (.iload_n 2, 1) := by decide +kernel
theorem dX8_keepInput_1 : decode cX8_keepInput 1 = .ok (.bipush 10, 2) := by decide +kernel
theorem dX8_keepInput_3 : decode cX8_keepInput 3 = .ok (.if_icmp .lt 26, 3) := by decide +kernel
theorem dX8_keepInput_6 : decode cX8_keepInput 6 = .ok (.aload_n 0, 1) := by decide +kernel
theorem dX8_keepInput_7 : decode cX8_keepInput 7 = .ok (.getfield 13, 3) := by decide +kernel
theorem dX8_keepInput_10 : decode cX8_keepInput 10 = .ok (.iload_n 1, 1) := by decide +kernel
theorem dX8_keepInput_11 : decode cX8_keepInput 11 = .ok (.bipush 7, 2) := by decide +kernel
theorem dX8_keepInput_13 : decode cX8_keepInput 13 = .ok (.iadd, 1) := by decide +kernel
theorem dX8_keepInput_14 : decode cX8_keepInput 14 = .ok (.iload_n 2, 1) := by decide +kernel
theorem dX8_keepInput_15 : decode cX8_keepInput 15 = .ok (.bipush 10, 2) := by decide +kernel
theorem dX8_keepInput_17 : decode cX8_keepInput 17 = .ok (.isub, 1) := by decide +kernel
theorem dX8_keepInput_18 : decode cX8_keepInput 18 = .ok (.iastore, 1) := by decide +kernel
theorem dX8_keepInput_19 : decode cX8_keepInput 19 = .ok (.aload_n 0, 1) := by decide +kernel
theorem dX8_keepInput_20 : decode cX8_keepInput 20 = .ok (.getfield 13, 3) := by decide +kernel
theorem dX8_keepInput_23 : decode cX8_keepInput 23 = .ok (.iload_n 1, 1) := by decide +kernel
theorem dX8_keepInput_24 : decode cX8_keepInput 24 = .ok (.bipush 8, 2) := by decide +kernel
theorem dX8_keepInput_26 : decode cX8_keepInput 26 = .ok (.iadd, 1) := by decide +kernel
theorem dX8_keepInput_27 : decode cX8_keepInput 27 = .ok (.iconst 5, 1) := by decide +kernel
theorem dX8_keepInput_28 : decode cX8_keepInput 28 = .ok (.iastore, 1) := by decide +kernel
theorem dX8_keepInput_29 : decode cX8_keepInput 29 = .ok (.return_, 1) := by decide +kernel
set_option maxRecDepth 20000 in
theorem ggX8_beginKept_X8_ofMove : GoodIn wsX8_beginKept wsX8_ofMove := goodIn_r _ [6, 7, 8, 9, 10, 11, 12, 13, 14, 15, 16, 17, 18, 19, 20, 21, 22, 23, 24] (by decide +kernel) (by decide +kernel)
set_option maxRecDepth 20000 in
theorem gX8_beginKept_X8_ofMove : GoodIn wsX8_beginKept (wsV RX8 62 RX8 yX8_ofMove wsX8_ofMove) := goodIn_app (goodIn_of _ (by decide +kernel)) ggX8_beginKept_X8_ofMove
theorem dX8_beginKept_0 : decode cX8_beginKept 0 = .ok (.aload_n 0, 1) := by decide +kernel
theorem dX8_beginKept_1 : decode cX8_beginKept 1 = .ok (.getfield 13, 3) := by decide +kernel
theorem dX8_beginKept_4 : decode cX8_beginKept 4 = .ok (.iload_n 1, 1) := by decide +kernel
theorem dX8_beginKept_5 : decode cX8_beginKept 5 = .ok (.bipush 7, 2) := by decide +kernel
theorem dX8_beginKept_7 : decode cX8_beginKept 7 = .ok (.iadd, 1) := by decide +kernel
theorem dX8_beginKept_8 : decode cX8_beginKept 8 = .ok (.iaload, 1) := by decide +kernel
theorem dX8_beginKept_9 : decode cX8_beginKept 9 = .ok (.istore_n 2, 1) := by decide +kernel
theorem dX8_beginKept_10 : decode cX8_beginKept 10 = .ok (.iload_n 2, 1) := by decide +kernel
theorem dX8_beginKept_11 : decode cX8_beginKept 11 = .ok (.iconst (-1), 1) := by decide +kernel
theorem dX8_beginKept_12 : decode cX8_beginKept 12 = .ok (.if_icmp .eq 21, 3) := by decide +kernel
theorem dX8_beginKept_15 : decode cX8_beginKept 15 = .ok (.aload_n 0, 1) := by decide +kernel
theorem dX8_beginKept_16 : decode cX8_beginKept 16 = .ok (.iload_n 2, 1) := by decide +kernel
theorem dX8_beginKept_17 : decode cX8_beginKept 17 = .ok (.bipush 9, 2) := by decide +kernel
theorem dX8_beginKept_19 : decode cX8_beginKept 19 = .ok (.invokevirtual 62, 3) := by decide +kernel
theorem dX8_beginKept_22 : decode cX8_beginKept 22 = .ok (.aload_n 0, 1) := by decide +kernel
theorem dX8_beginKept_23 : decode cX8_beginKept 23 = .ok (.getfield 13, 3) := by decide +kernel
theorem dX8_beginKept_26 : decode cX8_beginKept 26 = .ok (.iload_n 1, 1) := by decide +kernel
theorem dX8_beginKept_27 : decode cX8_beginKept 27 = .ok (.iconst 2, 1) := by decide +kernel
theorem dX8_beginKept_28 : decode cX8_beginKept 28 = .ok (.iadd, 1) := by decide +kernel
theorem dX8_beginKept_29 : decode cX8_beginKept 29 = .ok (.iaload, 1) := by decide +kernel
theorem dX8_beginKept_30 : decode cX8_beginKept 30 = .ok (.if_icmp .le 5, 3) := by decide +kernel
theorem dX8_beginKept_33 : decode cX8_beginKept 33 = .ok (.iconst 0, 1) := by decide +kernel
theorem dX8_beginKept_34 : decode cX8_beginKept 34 = .ok (.ireturn, 1) := by decide +kernel
theorem dX8_beginKept_35 : decode cX8_beginKept 35 = .ok (.aload_n 0, 1) := by decide +kernel
theorem dX8_beginKept_36 : decode cX8_beginKept 36 = .ok (.getfield 13, 3) := by decide +kernel
theorem dX8_beginKept_39 : decode cX8_beginKept 39 = .ok (.iload_n 1, 1) := by decide +kernel
theorem dX8_beginKept_40 : decode cX8_beginKept 40 = .ok (.iconst 3, 1) := by decide +kernel
theorem dX8_beginKept_41 : decode cX8_beginKept 41 = .ok (.iadd, 1) := by decide +kernel
theorem dX8_beginKept_42 : decode cX8_beginKept 42 = .ok (.iaload, 1) := by decide +kernel
theorem dX8_beginKept_43 : decode cX8_beginKept 43 = .ok (.iconst 1, 1) := by decide +kernel
theorem dX8_beginKept_44 : decode cX8_beginKept 44 = .ok (.if_icmp .ne 56, 3) := by decide +kernel
theorem dX8_beginKept_47 : decode cX8_beginKept 47 = .ok (.aload_n 0, 1) := by decide +kernel
theorem dX8_beginKept_48 : decode cX8_beginKept 48 = .ok (.getfield 13, 3) := by decide +kernel
theorem dX8_beginKept_51 : decode cX8_beginKept 51 = .ok (.iload_n 1, 1) := by decide +kernel
theorem dX8_beginKept_52 : decode cX8_beginKept 52 = .ok (.bipush 9, 2) := by decide +kernel
theorem dX8_beginKept_54 : decode cX8_beginKept 54 = .ok (.iadd, 1) := by decide +kernel
theorem dX8_beginKept_55 : decode cX8_beginKept 55 = .ok (.iaload, 1) := by decide +kernel
theorem dX8_beginKept_56 : decode cX8_beginKept 56 = .ok (.iconst (-1), 1) := by decide +kernel
theorem dX8_beginKept_57 : decode cX8_beginKept 57 = .ok (.if_icmp .eq 43, 3) := by decide +kernel
theorem dX8_beginKept_60 : decode cX8_beginKept 60 = .ok (.aload_n 0, 1) := by decide +kernel
theorem dX8_beginKept_61 : decode cX8_beginKept 61 = .ok (.getfield 13, 3) := by decide +kernel
theorem dX8_beginKept_64 : decode cX8_beginKept 64 = .ok (.iload_n 1, 1) := by decide +kernel
theorem dX8_beginKept_65 : decode cX8_beginKept 65 = .ok (.bipush 9, 2) := by decide +kernel
theorem dX8_beginKept_67 : decode cX8_beginKept 67 = .ok (.iadd, 1) := by decide +kernel
theorem dX8_beginKept_68 : decode cX8_beginKept 68 = .ok (.iaload, 1) := by decide +kernel
theorem dX8_beginKept_69 : decode cX8_beginKept 69 = .ok (.bipush 10, 2) := by decide +kernel
theorem dX8_beginKept_71 : decode cX8_beginKept 71 = .ok (.if_icmp .gt 29, 3) := by decide +kernel
theorem dX8_beginKept_74 : decode cX8_beginKept 74 = .ok (.aload_n 0, 1) := by decide +kernel
theorem dX8_beginKept_75 : decode cX8_beginKept 75 = .ok (.aload_n 0, 1) := by decide +kernel
theorem dX8_beginKept_76 : decode cX8_beginKept 76 = .ok (.getfield 13, 3) := by decide +kernel
theorem dX8_beginKept_79 : decode cX8_beginKept 79 = .ok (.iload_n 1, 1) := by decide +kernel
theorem dX8_beginKept_80 : decode cX8_beginKept 80 = .ok (.iconst 4, 1) := by decide +kernel
theorem dX8_beginKept_81 : decode cX8_beginKept 81 = .ok (.iadd, 1) := by decide +kernel
theorem dX8_beginKept_82 : decode cX8_beginKept 82 = .ok (.iaload, 1) := by decide +kernel
theorem dX8_beginKept_83 : decode cX8_beginKept 83 = .ok (.bipush 11, 2) := by decide +kernel
theorem dX8_beginKept_85 : decode cX8_beginKept 85 = .ok (.invokevirtual 62, 3) := by decide +kernel
theorem dX8_beginKept_88 : decode cX8_beginKept 88 = .ok (.iload_n 2, 1) := by decide +kernel
theorem dX8_beginKept_89 : decode cX8_beginKept 89 = .ok (.ishr, 1) := by decide +kernel
theorem dX8_beginKept_90 : decode cX8_beginKept 90 = .ok (.iconst 1, 1) := by decide +kernel
theorem dX8_beginKept_91 : decode cX8_beginKept 91 = .ok (.iand, 1) := by decide +kernel
theorem dX8_beginKept_92 : decode cX8_beginKept 92 = .ok (.iconst 1, 1) := by decide +kernel
theorem dX8_beginKept_93 : decode cX8_beginKept 93 = .ok (.if_icmp .ne 7, 3) := by decide +kernel
theorem dX8_beginKept_96 : decode cX8_beginKept 96 = .ok (.iconst 1, 1) := by decide +kernel
theorem dX8_beginKept_97 : decode cX8_beginKept 97 = .ok (.goto 4, 3) := by decide +kernel
theorem dX8_beginKept_100 : decode cX8_beginKept 100 = .ok (.iconst 0, 1) := by decide +kernel
theorem dX8_beginKept_101 : decode cX8_beginKept 101 = .ok (.istore_n 3, 1) := by decide +kernel
theorem dX8_beginKept_102 : decode cX8_beginKept 102 = .ok (.aload_n 0, 1) := by decide +kernel
theorem dX8_beginKept_103 : decode cX8_beginKept 103 = .ok (.getfield 13, 3) := by decide +kernel
theorem dX8_beginKept_106 : decode cX8_beginKept 106 = .ok (.iload_n 1, 1) := by decide +kernel
theorem dX8_beginKept_107 : decode cX8_beginKept 107 = .ok (.iconst 3, 1) := by decide +kernel
theorem dX8_beginKept_108 : decode cX8_beginKept 108 = .ok (.iadd, 1) := by decide +kernel
theorem dX8_beginKept_109 : decode cX8_beginKept 109 = .ok (.iaload, 1) := by decide +kernel
theorem dX8_beginKept_110 : decode cX8_beginKept 110 = .ok (.ifCond .eq 9, 3) := by decide +kernel
theorem dX8_beginKept_113 : decode cX8_beginKept 113 = .ok (.iload_n 3, 1) := by decide +kernel
theorem dX8_beginKept_114 : decode cX8_beginKept 114 = .ok (.ifCond .ne 5, 3) := by decide +kernel
theorem dX8_beginKept_117 : decode cX8_beginKept 117 = .ok (.iconst 0, 1) := by decide +kernel
theorem dX8_beginKept_118 : decode cX8_beginKept 118 = .ok (.ireturn, 1) := by decide +kernel
theorem dX8_beginKept_119 : decode cX8_beginKept 119 = .ok (.aload_n 0, 1) := by decide +kernel
theorem dX8_beginKept_120 : decode cX8_beginKept 120 = .ok (.getfield 13, 3) := by decide +kernel
theorem dX8_beginKept_123 : decode cX8_beginKept 123 = .ok (.iload_n 1, 1) := by decide +kernel
theorem dX8_beginKept_124 : decode cX8_beginKept 124 = .ok (.iconst 2, 1) := by decide +kernel
theorem dX8_beginKept_125 : decode cX8_beginKept 125 = .ok (.iadd, 1) := by decide +kernel
theorem dX8_beginKept_126 : decode cX8_beginKept 126 = .ok (.dup2, 1) := by decide +kernel
theorem dX8_beginKept_127 : decode cX8_beginKept 127 = .ok (.iaload, 1) := by decide +kernel
theorem dX8_beginKept_128 : decode cX8_beginKept 128 = .ok (.aload_n 0, 1) := by decide +kernel
theorem dX8_beginKept_129 : decode cX8_beginKept 129 = .ok (.iload_n 2, 1) := by decide +kernel
theorem dX8_beginKept_130 : decode cX8_beginKept 130 = .ok (.bipush 9, 2) := by decide +kernel
theorem dX8_beginKept_132 : decode cX8_beginKept 132 = .ok (.invokevirtual 62, 3) := by decide +kernel
theorem dX8_beginKept_135 : decode cX8_beginKept 135 = .ok (.isub, 1) := by decide +kernel
theorem dX8_beginKept_136 : decode cX8_beginKept 136 = .ok (.iastore, 1) := by decide +kernel
theorem dX8_beginKept_137 : decode cX8_beginKept 137 = .ok (.aload_n 0, 1) := by decide +kernel
theorem dX8_beginKept_138 : decode cX8_beginKept 138 = .ok (.getfield 13, 3) := by decide +kernel
theorem dX8_beginKept_141 : decode cX8_beginKept 141 = .ok (.iload_n 1, 1) := by decide +kernel
theorem dX8_beginKept_142 : decode cX8_beginKept 142 = .ok (.iconst 3, 1) := by decide +kernel
theorem dX8_beginKept_143 : decode cX8_beginKept 143 = .ok (.iadd, 1) := by decide +kernel
theorem dX8_beginKept_144 : decode cX8_beginKept 144 = .ok (.iconst 1, 1) := by decide +kernel
theorem dX8_beginKept_145 : decode cX8_beginKept 145 = .ok (.iastore, 1) := by decide +kernel
theorem dX8_beginKept_146 : decode cX8_beginKept 146 = .ok (.aload_n 0, 1) := by decide +kernel
theorem dX8_beginKept_147 : decode cX8_beginKept 147 = .ok (.getfield 13, 3) := by decide +kernel
theorem dX8_beginKept_150 : decode cX8_beginKept 150 = .ok (.iload_n 1, 1) := by decide +kernel
theorem dX8_beginKept_151 : decode cX8_beginKept 151 = .ok (.iconst 4, 1) := by decide +kernel
theorem dX8_beginKept_152 : decode cX8_beginKept 152 = .ok (.iadd, 1) := by decide +kernel
theorem dX8_beginKept_153 : decode cX8_beginKept 153 = .ok (.iload_n 2, 1) := by decide +kernel
theorem dX8_beginKept_154 : decode cX8_beginKept 154 = .ok (.iastore, 1) := by decide +kernel
theorem dX8_beginKept_155 : decode cX8_beginKept 155 = .ok (.aload_n 0, 1) := by decide +kernel
theorem dX8_beginKept_156 : decode cX8_beginKept 156 = .ok (.getfield 13, 3) := by decide +kernel
theorem dX8_beginKept_159 : decode cX8_beginKept 159 = .ok (.iload_n 1, 1) := by decide +kernel
theorem dX8_beginKept_160 : decode cX8_beginKept 160 = .ok (.iconst 5, 1) := by decide +kernel
theorem dX8_beginKept_161 : decode cX8_beginKept 161 = .ok (.iadd, 1) := by decide +kernel
theorem dX8_beginKept_162 : decode cX8_beginKept 162 = .ok (.iconst 0, 1) := by decide +kernel
theorem dX8_beginKept_163 : decode cX8_beginKept 163 = .ok (.iastore, 1) := by decide +kernel
theorem dX8_beginKept_164 : decode cX8_beginKept 164 = .ok (.aload_n 0, 1) := by decide +kernel
theorem dX8_beginKept_165 : decode cX8_beginKept 165 = .ok (.getfield 13, 3) := by decide +kernel
theorem dX8_beginKept_168 : decode cX8_beginKept 168 = .ok (.iload_n 1, 1) := by decide +kernel
theorem dX8_beginKept_169 : decode cX8_beginKept 169 = .ok (.bipush 9, 2) := by decide +kernel
theorem dX8_beginKept_171 : decode cX8_beginKept 171 = .ok (.iadd, 1) := by decide +kernel
theorem dX8_beginKept_172 : decode cX8_beginKept 172 = .ok (.iconst (-1), 1) := by decide +kernel
theorem dX8_beginKept_173 : decode cX8_beginKept 173 = .ok (.iastore, 1) := by decide +kernel
theorem dX8_beginKept_174 : decode cX8_beginKept 174 = .ok (.aload_n 0, 1) := by decide +kernel
theorem dX8_beginKept_175 : decode cX8_beginKept 175 = .ok (.getfield 13, 3) := by decide +kernel
theorem dX8_beginKept_178 : decode cX8_beginKept 178 = .ok (.iload_n 1, 1) := by decide +kernel
theorem dX8_beginKept_179 : decode cX8_beginKept 179 = .ok (.bipush 7, 2) := by decide +kernel
theorem dX8_beginKept_181 : decode cX8_beginKept 181 = .ok (.iadd, 1) := by decide +kernel
theorem dX8_beginKept_182 : decode cX8_beginKept 182 = .ok (.iconst (-1), 1) := by decide +kernel
theorem dX8_beginKept_183 : decode cX8_beginKept 183 = .ok (.iastore, 1) := by decide +kernel
theorem dX8_beginKept_184 : decode cX8_beginKept 184 = .ok (.aload_n 0, 1) := by decide +kernel
theorem dX8_beginKept_185 : decode cX8_beginKept 185 = .ok (.getfield 13, 3) := by decide +kernel
theorem dX8_beginKept_188 : decode cX8_beginKept 188 = .ok (.iload_n 1, 1) := by decide +kernel
theorem dX8_beginKept_189 : decode cX8_beginKept 189 = .ok (.bipush 8, 2) := by decide +kernel
theorem dX8_beginKept_191 : decode cX8_beginKept 191 = .ok (.iadd, 1) := by decide +kernel
theorem dX8_beginKept_192 : decode cX8_beginKept 192 = .ok (.iconst 0, 1) := by decide +kernel
theorem dX8_beginKept_193 : decode cX8_beginKept 193 = .ok (.iastore, 1) := by decide +kernel
theorem dX8_beginKept_194 : decode cX8_beginKept 194 = .ok (.iconst 1, 1) := by decide +kernel
theorem dX8_beginKept_195 : decode cX8_beginKept 195 = .ok (.ireturn, 1) := by decide +kernel
theorem dX8_go_0 : decode cX8_go 0 = .ok (.aload_n 0, 1) := by decide +kernel
theorem dX8_go_1 : decode cX8_go 1 = .ok (.getfield 13, 3) := by decide +kernel
theorem dX8_go_4 : decode cX8_go 4 = .ok (.iconst 3, 1) := by decide +kernel
theorem dX8_go_5 : decode cX8_go 5 = .ok (.iaload, 1) := by decide +kernel
theorem dX8_go_6 : decode cX8_go 6 = .ok (.ifCond .ne 32, 3) := by decide +kernel
theorem dX8_go_9 : decode cX8_go 9 = .ok (.aload_n 0, 1) := by decide +kernel
theorem dX8_go_10 : decode cX8_go 10 = .ok (.getfield 13, 3) := by decide +kernel
theorem dX8_go_13 : decode cX8_go 13 = .ok (.iconst 0, 1) := by decide +kernel
theorem dX8_go_14 : decode cX8_go 14 = .ok (.dup2, 1) := by decide +kernel
theorem dX8_go_15 : decode cX8_go 15 = .ok (.iaload, 1) := by decide +kernel
theorem dX8_go_16 : decode cX8_go 16 = .ok (.iload_n 1, 1) := by decide +kernel
theorem dX8_go_17 : decode cX8_go 17 = .ok (.iconst 1, 1) := by decide +kernel
theorem dX8_go_18 : decode cX8_go 18 = .ok (.if_icmp .ne 7, 3) := by decide +kernel
theorem dX8_go_21 : decode cX8_go 21 = .ok (.iconst 4, 1) := by decide +kernel
theorem dX8_go_22 : decode cX8_go 22 = .ok (.goto 14, 3) := by decide +kernel
theorem dX8_go_25 : decode cX8_go 25 = .ok (.iload_n 1, 1) := by decide +kernel
theorem dX8_go_26 : decode cX8_go 26 = .ok (.iconst 2, 1) := by decide +kernel
theorem dX8_go_27 : decode cX8_go 27 = .ok (.if_icmp .ne 8, 3) := by decide +kernel
theorem dX8_go_30 : decode cX8_go 30 = .ok (.bipush (-3), 2) := by decide +kernel
theorem dX8_go_32 : decode cX8_go 32 = .ok (.goto 4, 3) := by decide +kernel
theorem dX8_go_35 : decode cX8_go 35 = .ok (.iconst 0, 1) := by decide +kernel
theorem dX8_go_36 : decode cX8_go 36 = .ok (.iadd, 1) := by decide +kernel
theorem dX8_go_37 : decode cX8_go 37 = .ok (.iastore, 1) := by decide +kernel
theorem dX8_go_38 : decode cX8_go 38 = .ok (.aload_n 0, 1) := by decide +kernel
theorem dX8_go_39 : decode cX8_go 39 = .ok (.getfield 13, 3) := by decide +kernel
theorem dX8_go_42 : decode cX8_go 42 = .ok (.bipush 14, 2) := by decide +kernel
theorem dX8_go_44 : decode cX8_go 44 = .ok (.iaload, 1) := by decide +kernel
theorem dX8_go_45 : decode cX8_go 45 = .ok (.ifCond .ne 33, 3) := by decide +kernel
theorem dX8_go_48 : decode cX8_go 48 = .ok (.aload_n 0, 1) := by decide +kernel
theorem dX8_go_49 : decode cX8_go 49 = .ok (.getfield 13, 3) := by decide +kernel
theorem dX8_go_52 : decode cX8_go 52 = .ok (.bipush 11, 2) := by decide +kernel
theorem dX8_go_54 : decode cX8_go 54 = .ok (.dup2, 1) := by decide +kernel
theorem dX8_go_55 : decode cX8_go 55 = .ok (.iaload, 1) := by decide +kernel
theorem dX8_go_56 : decode cX8_go 56 = .ok (.iload_n 2, 1) := by decide +kernel
theorem dX8_go_57 : decode cX8_go 57 = .ok (.iconst 1, 1) := by decide +kernel
theorem dX8_go_58 : decode cX8_go 58 = .ok (.if_icmp .ne 8, 3) := by decide +kernel
theorem dX8_go_61 : decode cX8_go 61 = .ok (.bipush (-4), 2) := by decide +kernel
theorem dX8_go_63 : decode cX8_go 63 = .ok (.goto 13, 3) := by decide +kernel
theorem dX8_go_66 : decode cX8_go 66 = .ok (.iload_n 2, 1) := by decide +kernel
theorem dX8_go_67 : decode cX8_go 67 = .ok (.iconst 2, 1) := by decide +kernel
theorem dX8_go_68 : decode cX8_go 68 = .ok (.if_icmp .ne 7, 3) := by decide +kernel
theorem dX8_go_71 : decode cX8_go 71 = .ok (.iconst 3, 1) := by decide +kernel
theorem dX8_go_72 : decode cX8_go 72 = .ok (.goto 4, 3) := by decide +kernel
theorem dX8_go_75 : decode cX8_go 75 = .ok (.iconst 0, 1) := by decide +kernel
theorem dX8_go_76 : decode cX8_go 76 = .ok (.iadd, 1) := by decide +kernel
theorem dX8_go_77 : decode cX8_go 77 = .ok (.iastore, 1) := by decide +kernel
theorem dX8_go_78 : decode cX8_go 78 = .ok (.bipush 20, 2) := by decide +kernel
theorem dX8_go_80 : decode cX8_go 80 = .ok (.aload_n 0, 1) := by decide +kernel
theorem dX8_go_81 : decode cX8_go 81 = .ok (.getfield 13, 3) := by decide +kernel
theorem dX8_go_84 : decode cX8_go 84 = .ok (.bipush 11, 2) := by decide +kernel
theorem dX8_go_86 : decode cX8_go 86 = .ok (.iaload, 1) := by decide +kernel
theorem dX8_go_87 : decode cX8_go 87 = .ok (.aload_n 0, 1) := by decide +kernel
theorem dX8_go_88 : decode cX8_go 88 = .ok (.getfield 13, 3) := by decide +kernel
theorem dX8_go_91 : decode cX8_go 91 = .ok (.iconst 0, 1) := by decide +kernel
theorem dX8_go_92 : decode cX8_go 92 = .ok (.iaload, 1) := by decide +kernel
theorem dX8_go_93 : decode cX8_go 93 = .ok (.isub, 1) := by decide +kernel
theorem dX8_go_94 : decode cX8_go 94 = .ok (.isub, 1) := by decide +kernel
theorem dX8_go_95 : decode cX8_go 95 = .ok (.istore_n 3, 1) := by decide +kernel
theorem dX8_go_96 : decode cX8_go 96 = .ok (.iload_n 3, 1) := by decide +kernel
theorem dX8_go_97 : decode cX8_go 97 = .ok (.ifCond .le 30, 3) := by decide +kernel
theorem dX8_go_100 : decode cX8_go 100 = .ok (.aload_n 0, 1) := by decide +kernel
theorem dX8_go_101 : decode cX8_go 101 = .ok (.getfield 13, 3) := by decide +kernel
theorem dX8_go_104 : decode cX8_go 104 = .ok (.iconst 0, 1) := by decide +kernel
theorem dX8_go_105 : decode cX8_go 105 = .ok (.dup2, 1) := by decide +kernel
theorem dX8_go_106 : decode cX8_go 106 = .ok (.iaload, 1) := by decide +kernel
theorem dX8_go_107 : decode cX8_go 107 = .ok (.iload_n 3, 1) := by decide +kernel
theorem dX8_go_108 : decode cX8_go 108 = .ok (.iconst 2, 1) := by decide +kernel
theorem dX8_go_109 : decode cX8_go 109 = .ok (.idiv, 1) := by decide +kernel
theorem dX8_go_110 : decode cX8_go 110 = .ok (.isub, 1) := by decide +kernel
theorem dX8_go_111 : decode cX8_go 111 = .ok (.iastore, 1) := by decide +kernel
theorem dX8_go_112 : decode cX8_go 112 = .ok (.aload_n 0, 1) := by decide +kernel
theorem dX8_go_113 : decode cX8_go 113 = .ok (.getfield 13, 3) := by decide +kernel
theorem dX8_go_116 : decode cX8_go 116 = .ok (.bipush 11, 2) := by decide +kernel
theorem dX8_go_118 : decode cX8_go 118 = .ok (.dup2, 1) := by decide +kernel
theorem dX8_go_119 : decode cX8_go 119 = .ok (.iaload, 1) := by decide +kernel
theorem dX8_go_120 : decode cX8_go 120 = .ok (.iload_n 3, 1) := by decide +kernel
theorem dX8_go_121 : decode cX8_go 121 = .ok (.iload_n 3, 1) := by decide +kernel
theorem dX8_go_122 : decode cX8_go 122 = .ok (.iconst 2, 1) := by decide +kernel
theorem dX8_go_123 : decode cX8_go 123 = .ok (.idiv, 1) := by decide +kernel
theorem dX8_go_124 : decode cX8_go 124 = .ok (.isub, 1) := by decide +kernel
theorem dX8_go_125 : decode cX8_go 125 = .ok (.iadd, 1) := by decide +kernel
theorem dX8_go_126 : decode cX8_go 126 = .ok (.iastore, 1) := by decide +kernel
theorem dX8_go_127 : decode cX8_go 127 = .ok (.aload_n 0, 1) := by decide +kernel
theorem dX8_go_128 : decode cX8_go 128 = .ok (.getfield 13, 3) := by decide +kernel
theorem dX8_go_131 : decode cX8_go 131 = .ok (.iconst 0, 1) := by decide +kernel
theorem dX8_go_132 : decode cX8_go 132 = .ok (.iaload, 1) := by decide +kernel
theorem dX8_go_133 : decode cX8_go 133 = .ok (.ifCond .ge 41, 3) := by decide +kernel
theorem dX8_go_136 : decode cX8_go 136 = .ok (.aload_n 0, 1) := by decide +kernel
theorem dX8_go_137 : decode cX8_go 137 = .ok (.getfield 13, 3) := by decide +kernel
theorem dX8_go_140 : decode cX8_go 140 = .ok (.iconst 0, 1) := by decide +kernel
theorem dX8_go_141 : decode cX8_go 141 = .ok (.iconst 0, 1) := by decide +kernel
theorem dX8_go_142 : decode cX8_go 142 = .ok (.iastore, 1) := by decide +kernel
theorem dX8_go_143 : decode cX8_go 143 = .ok (.aload_n 0, 1) := by decide +kernel
theorem dX8_go_144 : decode cX8_go 144 = .ok (.getfield 13, 3) := by decide +kernel
theorem dX8_go_147 : decode cX8_go 147 = .ok (.bipush 11, 2) := by decide +kernel
theorem dX8_go_149 : decode cX8_go 149 = .ok (.aload_n 0, 1) := by decide +kernel
theorem dX8_go_150 : decode cX8_go 150 = .ok (.getfield 13, 3) := by decide +kernel
theorem dX8_go_153 : decode cX8_go 153 = .ok (.bipush 11, 2) := by decide +kernel
theorem dX8_go_155 : decode cX8_go 155 = .ok (.iaload, 1) := by decide +kernel
theorem dX8_go_156 : decode cX8_go 156 = .ok (.bipush 20, 2) := by decide +kernel
theorem dX8_go_158 : decode cX8_go 158 = .ok (.if_icmp .ge 8, 3) := by decide +kernel
theorem dX8_go_161 : decode cX8_go 161 = .ok (.bipush 20, 2) := by decide +kernel
theorem dX8_go_163 : decode cX8_go 163 = .ok (.goto 10, 3) := by decide +kernel
theorem dX8_go_166 : decode cX8_go 166 = .ok (.aload_n 0, 1) := by decide +kernel
theorem dX8_go_167 : decode cX8_go 167 = .ok (.getfield 13, 3) := by decide +kernel
theorem dX8_go_170 : decode cX8_go 170 = .ok (.bipush 11, 2) := by decide +kernel
theorem dX8_go_172 : decode cX8_go 172 = .ok (.iaload, 1) := by decide +kernel
theorem dX8_go_173 : decode cX8_go 173 = .ok (.iastore, 1) := by decide +kernel
theorem dX8_go_174 : decode cX8_go 174 = .ok (.aload_n 0, 1) := by decide +kernel
theorem dX8_go_175 : decode cX8_go 175 = .ok (.getfield 13, 3) := by decide +kernel
theorem dX8_go_178 : decode cX8_go 178 = .ok (.bipush 11, 2) := by decide +kernel
theorem dX8_go_180 : decode cX8_go 180 = .ok (.iaload, 1) := by decide +kernel
theorem dX8_go_181 : decode cX8_go 181 = .ok (.sipush 600, 3) := by decide +kernel
theorem dX8_go_184 : decode cX8_go 184 = .ok (.if_icmp .le 43, 3) := by decide +kernel
theorem dX8_go_187 : decode cX8_go 187 = .ok (.aload_n 0, 1) := by decide +kernel
theorem dX8_go_188 : decode cX8_go 188 = .ok (.getfield 13, 3) := by decide +kernel
theorem dX8_go_191 : decode cX8_go 191 = .ok (.bipush 11, 2) := by decide +kernel
theorem dX8_go_193 : decode cX8_go 193 = .ok (.sipush 600, 3) := by decide +kernel
theorem dX8_go_196 : decode cX8_go 196 = .ok (.iastore, 1) := by decide +kernel
theorem dX8_go_197 : decode cX8_go 197 = .ok (.aload_n 0, 1) := by decide +kernel
theorem dX8_go_198 : decode cX8_go 198 = .ok (.getfield 13, 3) := by decide +kernel
theorem dX8_go_201 : decode cX8_go 201 = .ok (.iconst 0, 1) := by decide +kernel
theorem dX8_go_202 : decode cX8_go 202 = .ok (.aload_n 0, 1) := by decide +kernel
theorem dX8_go_203 : decode cX8_go 203 = .ok (.getfield 13, 3) := by decide +kernel
theorem dX8_go_206 : decode cX8_go 206 = .ok (.iconst 0, 1) := by decide +kernel
theorem dX8_go_207 : decode cX8_go 207 = .ok (.iaload, 1) := by decide +kernel
theorem dX8_go_208 : decode cX8_go 208 = .ok (.sipush 580, 3) := by decide +kernel
theorem dX8_go_211 : decode cX8_go 211 = .ok (.if_icmp .le 9, 3) := by decide +kernel
theorem dX8_go_214 : decode cX8_go 214 = .ok (.sipush 580, 3) := by decide +kernel
theorem dX8_go_217 : decode cX8_go 217 = .ok (.goto 9, 3) := by decide +kernel
theorem dX8_go_220 : decode cX8_go 220 = .ok (.aload_n 0, 1) := by decide +kernel
theorem dX8_go_221 : decode cX8_go 221 = .ok (.getfield 13, 3) := by decide +kernel
theorem dX8_go_224 : decode cX8_go 224 = .ok (.iconst 0, 1) := by decide +kernel
theorem dX8_go_225 : decode cX8_go 225 = .ok (.iaload, 1) := by decide +kernel
theorem dX8_go_226 : decode cX8_go 226 = .ok (.iastore, 1) := by decide +kernel
theorem dX8_go_227 : decode cX8_go 227 = .ok (.return_, 1) := by decide +kernel
set_option maxRecDepth 20000 in
theorem ggX8_reaches_X8_ofMove : GoodIn wsX8_reaches wsX8_ofMove := goodIn_r _ [6, 7, 8, 9, 10, 11, 12, 13, 14, 15, 16, 17, 18, 19, 20, 21, 22, 23, 24] (by decide +kernel) (by decide +kernel)
set_option maxRecDepth 20000 in
theorem gX8_reaches_X8_ofMove : GoodIn wsX8_reaches (wsV RX8 62 RX8 yX8_ofMove wsX8_ofMove) := goodIn_app (goodIn_of _ (by decide +kernel)) ggX8_reaches_X8_ofMove
theorem dX8_reaches_0 : decode cX8_reaches 0 = .ok (.aload_n 0, 1) := by decide +kernel
theorem dX8_reaches_1 : decode cX8_reaches 1 = .ok (.getfield 13, 3) := by decide +kernel
theorem dX8_reaches_4 : decode cX8_reaches 4 = .ok (.iload_n 1, 1) := by decide +kernel
theorem dX8_reaches_5 : decode cX8_reaches 5 = .ok (.iconst 3, 1) := by decide +kernel
theorem dX8_reaches_6 : decode cX8_reaches 6 = .ok (.iadd, 1) := by decide +kernel
theorem dX8_reaches_7 : decode cX8_reaches 7 = .ok (.iaload, 1) := by decide +kernel
theorem dX8_reaches_8 : decode cX8_reaches 8 = .ok (.iconst 1, 1) := by decide +kernel
theorem dX8_reaches_9 : decode cX8_reaches 9 = .ok (.if_icmp .ne 16, 3) := by decide +kernel
theorem dX8_reaches_12 : decode cX8_reaches 12 = .ok (.aload_n 0, 1) := by decide +kernel
theorem dX8_reaches_13 : decode cX8_reaches 13 = .ok (.getfield 13, 3) := by decide +kernel
theorem dX8_reaches_16 : decode cX8_reaches 16 = .ok (.iload_n 1, 1) := by decide +kernel
theorem dX8_reaches_17 : decode cX8_reaches 17 = .ok (.bipush 9, 2) := by decide +kernel
theorem dX8_reaches_19 : decode cX8_reaches 19 = .ok (.iadd, 1) := by decide +kernel
theorem dX8_reaches_20 : decode cX8_reaches 20 = .ok (.iaload, 1) := by decide +kernel
theorem dX8_reaches_21 : decode cX8_reaches 21 = .ok (.iconst (-1), 1) := by decide +kernel
theorem dX8_reaches_22 : decode cX8_reaches 22 = .ok (.if_icmp .eq 5, 3) := by decide +kernel
theorem dX8_reaches_25 : decode cX8_reaches 25 = .ok (.iconst 0, 1) := by decide +kernel
theorem dX8_reaches_26 : decode cX8_reaches 26 = .ok (.ireturn, 1) := by decide +kernel
theorem dX8_reaches_27 : decode cX8_reaches 27 = .ok (.aload_n 0, 1) := by decide +kernel
theorem dX8_reaches_28 : decode cX8_reaches 28 = .ok (.getfield 13, 3) := by decide +kernel
theorem dX8_reaches_31 : decode cX8_reaches 31 = .ok (.iload_n 1, 1) := by decide +kernel
theorem dX8_reaches_32 : decode cX8_reaches 32 = .ok (.iconst 4, 1) := by decide +kernel
theorem dX8_reaches_33 : decode cX8_reaches 33 = .ok (.iadd, 1) := by decide +kernel
theorem dX8_reaches_34 : decode cX8_reaches 34 = .ok (.iaload, 1) := by decide +kernel
theorem dX8_reaches_35 : decode cX8_reaches 35 = .ok (.istore_n 2, 1) := by decide +kernel
theorem dX8_reaches_36 : decode cX8_reaches 36 = .ok (.aload_n 0, 1) := by decide +kernel
theorem dX8_reaches_37 : decode cX8_reaches 37 = .ok (.getfield 13, 3) := by decide +kernel
theorem dX8_reaches_40 : decode cX8_reaches 40 = .ok (.iload_n 1, 1) := by decide +kernel
theorem dX8_reaches_41 : decode cX8_reaches 41 = .ok (.iconst 5, 1) := by decide +kernel
theorem dX8_reaches_42 : decode cX8_reaches 42 = .ok (.iadd, 1) := by decide +kernel
theorem dX8_reaches_43 : decode cX8_reaches 43 = .ok (.iaload, 1) := by decide +kernel
theorem dX8_reaches_44 : decode cX8_reaches 44 = .ok (.aload_n 0, 1) := by decide +kernel
theorem dX8_reaches_45 : decode cX8_reaches 45 = .ok (.iload_n 2, 1) := by decide +kernel
theorem dX8_reaches_46 : decode cX8_reaches 46 = .ok (.iconst 0, 1) := by decide +kernel
theorem dX8_reaches_47 : decode cX8_reaches 47 = .ok (.invokevirtual 62, 3) := by decide +kernel
theorem dX8_reaches_50 : decode cX8_reaches 50 = .ok (.isub, 1) := by decide +kernel
theorem dX8_reaches_51 : decode cX8_reaches 51 = .ok (.istore_n 3, 1) := by decide +kernel
theorem dX8_reaches_52 : decode cX8_reaches 52 = .ok (.aload_n 0, 1) := by decide +kernel
theorem dX8_reaches_53 : decode cX8_reaches 53 = .ok (.getfield 13, 3) := by decide +kernel
theorem dX8_reaches_56 : decode cX8_reaches 56 = .ok (.bipush 11, 2) := by decide +kernel
theorem dX8_reaches_58 : decode cX8_reaches 58 = .ok (.iload_n 1, 1) := by decide +kernel
theorem dX8_reaches_59 : decode cX8_reaches 59 = .ok (.isub, 1) := by decide +kernel
theorem dX8_reaches_60 : decode cX8_reaches 60 = .ok (.iconst 3, 1) := by decide +kernel
theorem dX8_reaches_61 : decode cX8_reaches 61 = .ok (.iadd, 1) := by decide +kernel
theorem dX8_reaches_62 : decode cX8_reaches 62 = .ok (.iaload, 1) := by decide +kernel
theorem dX8_reaches_63 : decode cX8_reaches 63 = .ok (.istore 4, 2) := by decide +kernel
theorem dX8_reaches_65 : decode cX8_reaches 65 = .ok (.aload_n 0, 1) := by decide +kernel
theorem dX8_reaches_66 : decode cX8_reaches 66 = .ok (.iload_n 2, 1) := by decide +kernel
theorem dX8_reaches_67 : decode cX8_reaches 67 = .ok (.iconst 4, 1) := by decide +kernel
theorem dX8_reaches_68 : decode cX8_reaches 68 = .ok (.invokevirtual 62, 3) := by decide +kernel
theorem dX8_reaches_71 : decode cX8_reaches 71 = .ok (.iconst 3, 1) := by decide +kernel
theorem dX8_reaches_72 : decode cX8_reaches 72 = .ok (.if_icmp .ne 14, 3) := by decide +kernel
theorem dX8_reaches_75 : decode cX8_reaches 75 = .ok (.iload 4, 2) := by decide +kernel
theorem dX8_reaches_77 : decode cX8_reaches 77 = .ok (.ifCond .eq 9, 3) := by decide +kernel
theorem dX8_reaches_80 : decode cX8_reaches 80 = .ok (.iload 4, 2) := by decide +kernel
theorem dX8_reaches_82 : decode cX8_reaches 82 = .ok (.iconst 1, 1) := by decide +kernel
theorem dX8_reaches_83 : decode cX8_reaches 83 = .ok (.if_icmp .ne 7, 3) := by decide +kernel
theorem dX8_reaches_86 : decode cX8_reaches 86 = .ok (.iconst 1, 1) := by decide +kernel
theorem dX8_reaches_87 : decode cX8_reaches 87 = .ok (.goto 4, 3) := by decide +kernel
theorem dX8_reaches_90 : decode cX8_reaches 90 = .ok (.iconst 0, 1) := by decide +kernel
theorem dX8_reaches_91 : decode cX8_reaches 91 = .ok (.istore 5, 2) := by decide +kernel
theorem dX8_reaches_93 : decode cX8_reaches 93 = .ok (.iload_n 3, 1) := by decide +kernel
theorem dX8_reaches_94 : decode cX8_reaches 94 = .ok (.ifCond .lt 45, 3) := by decide +kernel
theorem dX8_reaches_97 : decode cX8_reaches 97 = .ok (.iload_n 3, 1) := by decide +kernel
theorem dX8_reaches_98 : decode cX8_reaches 98 = .ok (.aload_n 0, 1) := by decide +kernel
theorem dX8_reaches_99 : decode cX8_reaches 99 = .ok (.iload_n 2, 1) := by decide +kernel
theorem dX8_reaches_100 : decode cX8_reaches 100 = .ok (.iconst 1, 1) := by decide +kernel
theorem dX8_reaches_101 : decode cX8_reaches 101 = .ok (.invokevirtual 62, 3) := by decide +kernel
theorem dX8_reaches_104 : decode cX8_reaches 104 = .ok (.if_icmp .ge 35, 3) := by decide +kernel
theorem dX8_reaches_107 : decode cX8_reaches 107 = .ok (.aload_n 0, 1) := by decide +kernel
theorem dX8_reaches_108 : decode cX8_reaches 108 = .ok (.getfield 13, 3) := by decide +kernel
theorem dX8_reaches_111 : decode cX8_reaches 111 = .ok (.bipush 11, 2) := by decide +kernel
theorem dX8_reaches_113 : decode cX8_reaches 113 = .ok (.iaload, 1) := by decide +kernel
theorem dX8_reaches_114 : decode cX8_reaches 114 = .ok (.aload_n 0, 1) := by decide +kernel
theorem dX8_reaches_115 : decode cX8_reaches 115 = .ok (.getfield 13, 3) := by decide +kernel
theorem dX8_reaches_118 : decode cX8_reaches 118 = .ok (.iconst 0, 1) := by decide +kernel
theorem dX8_reaches_119 : decode cX8_reaches 119 = .ok (.iaload, 1) := by decide +kernel
theorem dX8_reaches_120 : decode cX8_reaches 120 = .ok (.isub, 1) := by decide +kernel
theorem dX8_reaches_121 : decode cX8_reaches 121 = .ok (.aload_n 0, 1) := by decide +kernel
theorem dX8_reaches_122 : decode cX8_reaches 122 = .ok (.iload_n 2, 1) := by decide +kernel
theorem dX8_reaches_123 : decode cX8_reaches 123 = .ok (.iconst 3, 1) := by decide +kernel
theorem dX8_reaches_124 : decode cX8_reaches 124 = .ok (.invokevirtual 62, 3) := by decide +kernel
theorem dX8_reaches_127 : decode cX8_reaches 127 = .ok (.if_icmp .gt 12, 3) := by decide +kernel
theorem dX8_reaches_130 : decode cX8_reaches 130 = .ok (.iload 5, 2) := by decide +kernel
theorem dX8_reaches_132 : decode cX8_reaches 132 = .ok (.ifCond .eq 7, 3) := by decide +kernel
theorem dX8_reaches_135 : decode cX8_reaches 135 = .ok (.iconst 1, 1) := by decide +kernel
theorem dX8_reaches_136 : decode cX8_reaches 136 = .ok (.goto 4, 3) := by decide +kernel
theorem dX8_reaches_139 : decode cX8_reaches 139 = .ok (.iconst 0, 1) := by decide +kernel
theorem dX8_reaches_140 : decode cX8_reaches 140 = .ok (.ireturn, 1) := by decide +kernel
theorem dX8_goBack_0 : decode cX8_goBack 0 = .ok (.iload_n 1, 1) := by decide +kernel
theorem dX8_goBack_1 : decode cX8_goBack 1 = .ok (.ifCond .ne 12, 3) := by decide +kernel
theorem dX8_goBack_4 : decode cX8_goBack 4 = .ok (.aload_n 0, 1) := by decide +kernel
theorem dX8_goBack_5 : decode cX8_goBack 5 = .ok (.getfield 13, 3) := by decide +kernel
theorem dX8_goBack_8 : decode cX8_goBack 8 = .ok (.iconst 0, 1) := by decide +kernel
theorem dX8_goBack_9 : decode cX8_goBack 9 = .ok (.iaload, 1) := by decide +kernel
theorem dX8_goBack_10 : decode cX8_goBack 10 = .ok (.goto 14, 3) := by decide +kernel
theorem dX8_goBack_13 : decode cX8_goBack 13 = .ok (.sipush 600, 3) := by decide +kernel
theorem dX8_goBack_16 : decode cX8_goBack 16 = .ok (.aload_n 0, 1) := by decide +kernel
theorem dX8_goBack_17 : decode cX8_goBack 17 = .ok (.getfield 13, 3) := by decide +kernel
theorem dX8_goBack_20 : decode cX8_goBack 20 = .ok (.bipush 11, 2) := by decide +kernel
theorem dX8_goBack_22 : decode cX8_goBack 22 = .ok (.iaload, 1) := by decide +kernel
theorem dX8_goBack_23 : decode cX8_goBack 23 = .ok (.isub, 1) := by decide +kernel
theorem dX8_goBack_24 : decode cX8_goBack 24 = .ok (.istore_n 3, 1) := by decide +kernel
theorem dX8_goBack_25 : decode cX8_goBack 25 = .ok (.iload_n 2, 1) := by decide +kernel
theorem dX8_goBack_26 : decode cX8_goBack 26 = .ok (.iload_n 3, 1) := by decide +kernel
theorem dX8_goBack_27 : decode cX8_goBack 27 = .ok (.if_icmp .ge 7, 3) := by decide +kernel
theorem dX8_goBack_30 : decode cX8_goBack 30 = .ok (.iload_n 2, 1) := by decide +kernel
theorem dX8_goBack_31 : decode cX8_goBack 31 = .ok (.goto 4, 3) := by decide +kernel
theorem dX8_goBack_34 : decode cX8_goBack 34 = .ok (.iload_n 3, 1) := by decide +kernel
theorem dX8_goBack_35 : decode cX8_goBack 35 = .ok (.istore 4, 2) := by decide +kernel
theorem dX8_goBack_37 : decode cX8_goBack 37 = .ok (.aload_n 0, 1) := by decide +kernel
theorem dX8_goBack_38 : decode cX8_goBack 38 = .ok (.getfield 13, 3) := by decide +kernel
theorem dX8_goBack_41 : decode cX8_goBack 41 = .ok (.iload_n 1, 1) := by decide +kernel
theorem dX8_goBack_42 : decode cX8_goBack 42 = .ok (.iconst 0, 1) := by decide +kernel
theorem dX8_goBack_43 : decode cX8_goBack 43 = .ok (.iadd, 1) := by decide +kernel
theorem dX8_goBack_44 : decode cX8_goBack 44 = .ok (.dup2, 1) := by decide +kernel
theorem dX8_goBack_45 : decode cX8_goBack 45 = .ok (.iaload, 1) := by decide +kernel
theorem dX8_goBack_46 : decode cX8_goBack 46 = .ok (.iload_n 1, 1) := by decide +kernel
theorem dX8_goBack_47 : decode cX8_goBack 47 = .ok (.ifCond .ne 9, 3) := by decide +kernel
theorem dX8_goBack_50 : decode cX8_goBack 50 = .ok (.iload 4, 2) := by decide +kernel
theorem dX8_goBack_52 : decode cX8_goBack 52 = .ok (.ineg, 1) := by decide +kernel
theorem dX8_goBack_53 : decode cX8_goBack 53 = .ok (.goto 5, 3) := by decide +kernel
theorem dX8_goBack_56 : decode cX8_goBack 56 = .ok (.iload 4, 2) := by decide +kernel
theorem dX8_goBack_58 : decode cX8_goBack 58 = .ok (.iadd, 1) := by decide +kernel
theorem dX8_goBack_59 : decode cX8_goBack 59 = .ok (.iastore, 1) := by decide +kernel
theorem dX8_goBack_60 : decode cX8_goBack 60 = .ok (.iload_n 2, 1) := by decide +kernel
theorem dX8_goBack_61 : decode cX8_goBack 61 = .ok (.iload 4, 2) := by decide +kernel
theorem dX8_goBack_63 : decode cX8_goBack 63 = .ok (.isub, 1) := by decide +kernel
theorem dX8_goBack_64 : decode cX8_goBack 64 = .ok (.ireturn, 1) := by decide +kernel
set_option maxRecDepth 20000 in
theorem ggX8_touch_X8_ofMove : GoodIn wsX8_touch wsX8_ofMove := goodIn_r _ [6, 7, 12, 13, 14, 15, 16, 17, 18, 19, 20, 21, 22, 23, 24, 25, 26, 27, 28] (by decide +kernel) (by decide +kernel)
set_option maxRecDepth 20000 in
theorem gX8_touch_X8_ofMove : GoodIn wsX8_touch (wsV RX8 62 RX8 yX8_ofMove wsX8_ofMove) := goodIn_app (goodIn_of _ (by decide +kernel)) ggX8_touch_X8_ofMove
set_option maxRecDepth 20000 in
theorem ggX8_touch_X8_goBack : GoodIn wsX8_touch wsX8_goBack := goodIn_r _ [11, 1, 12, 13, 14, 15, 16, 17, 18, 19, 20, 21, 22, 23, 24, 25, 26, 27, 28] (by decide +kernel) (by decide +kernel)
set_option maxRecDepth 20000 in
theorem gX8_touch_X8_goBack : GoodIn wsX8_touch (wsV RX8 66 RX8 yX8_goBack wsX8_goBack) := goodIn_app (goodIn_of _ (by decide +kernel)) ggX8_touch_X8_goBack
theorem dX8_touch_0 : decode cX8_touch 0 = .ok (.bipush 11, 2) := by decide +kernel
theorem dX8_touch_2 : decode cX8_touch 2 = .ok (.iload_n 1, 1) := by decide +kernel
theorem dX8_touch_3 : decode cX8_touch 3 = .ok (.isub, 1) := by decide +kernel
theorem dX8_touch_4 : decode cX8_touch 4 = .ok (.istore 6, 2) := by decide +kernel
theorem dX8_touch_6 : decode cX8_touch 6 = .ok (.aload_n 0, 1) := by decide +kernel
theorem dX8_touch_7 : decode cX8_touch 7 = .ok (.iload_n 2, 1) := by decide +kernel
theorem dX8_touch_8 : decode cX8_touch 8 = .ok (.iconst 4, 1) := by decide +kernel
theorem dX8_touch_9 : decode cX8_touch 9 = .ok (.invokevirtual 62, 3) := by decide +kernel
theorem dX8_touch_12 : decode cX8_touch 12 = .ok (.istore 7, 2) := by decide +kernel
theorem dX8_touch_14 : decode cX8_touch 14 = .ok (.aload_n 0, 1) := by decide +kernel
theorem dX8_touch_15 : decode cX8_touch 15 = .ok (.getfield 13, 3) := by decide +kernel
theorem dX8_touch_18 : decode cX8_touch 18 = .ok (.iload_n 1, 1) := by decide +kernel
theorem dX8_touch_19 : decode cX8_touch 19 = .ok (.iconst 2, 1) := by decide +kernel
theorem dX8_touch_20 : decode cX8_touch 20 = .ok (.iadd, 1) := by decide +kernel
theorem dX8_touch_21 : decode cX8_touch 21 = .ok (.iaload, 1) := by decide +kernel
theorem dX8_touch_22 : decode cX8_touch 22 = .ok (.aload_n 0, 1) := by decide +kernel
theorem dX8_touch_23 : decode cX8_touch 23 = .ok (.iload_n 2, 1) := by decide +kernel
theorem dX8_touch_24 : decode cX8_touch 24 = .ok (.bipush 10, 2) := by decide +kernel
theorem dX8_touch_26 : decode cX8_touch 26 = .ok (.invokevirtual 62, 3) := by decide +kernel
theorem dX8_touch_29 : decode cX8_touch 29 = .ok (.iadd, 1) := by decide +kernel
theorem dX8_touch_30 : decode cX8_touch 30 = .ok (.istore 8, 2) := by decide +kernel
theorem dX8_touch_32 : decode cX8_touch 32 = .ok (.aload_n 0, 1) := by decide +kernel
theorem dX8_touch_33 : decode cX8_touch 33 = .ok (.getfield 13, 3) := by decide +kernel
theorem dX8_touch_36 : decode cX8_touch 36 = .ok (.iload_n 1, 1) := by decide +kernel
theorem dX8_touch_37 : decode cX8_touch 37 = .ok (.iconst 2, 1) := by decide +kernel
theorem dX8_touch_38 : decode cX8_touch 38 = .ok (.iadd, 1) := by decide +kernel
theorem dX8_touch_39 : decode cX8_touch 39 = .ok (.iload 8, 2) := by decide +kernel
theorem dX8_touch_41 : decode cX8_touch 41 = .ok (.bipush 100, 2) := by decide +kernel
theorem dX8_touch_43 : decode cX8_touch 43 = .ok (.if_icmp .le 8, 3) := by decide +kernel
theorem dX8_touch_46 : decode cX8_touch 46 = .ok (.bipush 100, 2) := by decide +kernel
theorem dX8_touch_48 : decode cX8_touch 48 = .ok (.goto 5, 3) := by decide +kernel
theorem dX8_touch_51 : decode cX8_touch 51 = .ok (.iload 8, 2) := by decide +kernel
theorem dX8_touch_53 : decode cX8_touch 53 = .ok (.iastore, 1) := by decide +kernel
theorem dX8_touch_54 : decode cX8_touch 54 = .ok (.iload 5, 2) := by decide +kernel
theorem dX8_touch_56 : decode cX8_touch 56 = .ok (.iconst 2, 1) := by decide +kernel
theorem dX8_touch_57 : decode cX8_touch 57 = .ok (.if_icmp .ne 14, 3) := by decide +kernel
theorem dX8_touch_60 : decode cX8_touch 60 = .ok (.iload 7, 2) := by decide +kernel
theorem dX8_touch_62 : decode cX8_touch 62 = .ok (.ifCond .eq 27, 3) := by decide +kernel
theorem dX8_touch_65 : decode cX8_touch 65 = .ok (.iload 7, 2) := by decide +kernel
theorem dX8_touch_67 : decode cX8_touch 67 = .ok (.iconst 2, 1) := by decide +kernel
theorem dX8_touch_68 : decode cX8_touch 68 = .ok (.if_icmp .eq 21, 3) := by decide +kernel
theorem dX8_touch_71 : decode cX8_touch 71 = .ok (.iload 5, 2) := by decide +kernel
theorem dX8_touch_73 : decode cX8_touch 73 = .ok (.iconst 4, 1) := by decide +kernel
theorem dX8_touch_74 : decode cX8_touch 74 = .ok (.if_icmp .ne 19, 3) := by decide +kernel
theorem dX8_touch_77 : decode cX8_touch 77 = .ok (.iload 7, 2) := by decide +kernel
theorem dX8_touch_79 : decode cX8_touch 79 = .ok (.iconst 1, 1) := by decide +kernel
theorem dX8_touch_80 : decode cX8_touch 80 = .ok (.if_icmp .eq 9, 3) := by decide +kernel
theorem dX8_touch_83 : decode cX8_touch 83 = .ok (.iload 7, 2) := by decide +kernel
theorem dX8_touch_85 : decode cX8_touch 85 = .ok (.iconst 2, 1) := by decide +kernel
theorem dX8_touch_86 : decode cX8_touch 86 = .ok (.if_icmp .ne 7, 3) := by decide +kernel
theorem dX8_touch_89 : decode cX8_touch 89 = .ok (.iconst 1, 1) := by decide +kernel
theorem dX8_touch_90 : decode cX8_touch 90 = .ok (.goto 4, 3) := by decide +kernel
theorem dX8_touch_93 : decode cX8_touch 93 = .ok (.iconst 0, 1) := by decide +kernel
theorem dX8_touch_94 : decode cX8_touch 94 = .ok (.istore 9, 2) := by decide +kernel
theorem dX8_touch_96 : decode cX8_touch 96 = .ok (.iload 9, 2) := by decide +kernel
theorem dX8_touch_98 : decode cX8_touch 98 = .ok (.ifCond .eq 62, 3) := by decide +kernel
theorem dX8_touch_101 : decode cX8_touch 101 = .ok (.iload_n 3, 1) := by decide +kernel
theorem dX8_touch_102 : decode cX8_touch 102 = .ok (.ifCond .eq 8, 3) := by decide +kernel
theorem dX8_touch_105 : decode cX8_touch 105 = .ok (.iload_n 3, 1) := by decide +kernel
theorem dX8_touch_106 : decode cX8_touch 106 = .ok (.iconst 3, 1) := by decide +kernel
theorem dX8_touch_107 : decode cX8_touch 107 = .ok (.if_icmp .ne 53, 3) := by decide +kernel
theorem dX8_touch_110 : decode cX8_touch 110 = .ok (.aload_n 0, 1) := by decide +kernel
theorem dX8_touch_111 : decode cX8_touch 111 = .ok (.getfield 13, 3) := by decide +kernel
theorem dX8_touch_114 : decode cX8_touch 114 = .ok (.iload 6, 2) := by decide +kernel
theorem dX8_touch_116 : decode cX8_touch 116 = .ok (.iconst 1, 1) := by decide +kernel
theorem dX8_touch_117 : decode cX8_touch 117 = .ok (.iadd, 1) := by decide +kernel
theorem dX8_touch_118 : decode cX8_touch 118 = .ok (.dup2, 1) := by decide +kernel
theorem dX8_touch_119 : decode cX8_touch 119 = .ok (.iaload, 1) := by decide +kernel
theorem dX8_touch_120 : decode cX8_touch 120 = .ok (.aload_n 0, 1) := by decide +kernel
theorem dX8_touch_121 : decode cX8_touch 121 = .ok (.iload_n 2, 1) := by decide +kernel
theorem dX8_touch_122 : decode cX8_touch 122 = .ok (.iconst 5, 1) := by decide +kernel
theorem dX8_touch_123 : decode cX8_touch 123 = .ok (.invokevirtual 62, 3) := by decide +kernel
theorem dX8_touch_126 : decode cX8_touch 126 = .ok (.bipush 10, 2) := by decide +kernel
theorem dX8_touch_128 : decode cX8_touch 128 = .ok (.idiv, 1) := by decide +kernel
theorem dX8_touch_129 : decode cX8_touch 129 = .ok (.isub, 1) := by decide +kernel
theorem dX8_touch_130 : decode cX8_touch 130 = .ok (.iastore, 1) := by decide +kernel
theorem dX8_touch_131 : decode cX8_touch 131 = .ok (.aload_n 0, 1) := by decide +kernel
theorem dX8_touch_132 : decode cX8_touch 132 = .ok (.getfield 13, 3) := by decide +kernel
theorem dX8_touch_135 : decode cX8_touch 135 = .ok (.iload 6, 2) := by decide +kernel
theorem dX8_touch_137 : decode cX8_touch 137 = .ok (.iconst 3, 1) := by decide +kernel
theorem dX8_touch_138 : decode cX8_touch 138 = .ok (.iadd, 1) := by decide +kernel
theorem dX8_touch_139 : decode cX8_touch 139 = .ok (.iconst 3, 1) := by decide +kernel
theorem dX8_touch_140 : decode cX8_touch 140 = .ok (.iastore, 1) := by decide +kernel
theorem dX8_touch_141 : decode cX8_touch 141 = .ok (.aload_n 0, 1) := by decide +kernel
theorem dX8_touch_142 : decode cX8_touch 142 = .ok (.getfield 13, 3) := by decide +kernel
theorem dX8_touch_145 : decode cX8_touch 145 = .ok (.iload 6, 2) := by decide +kernel
theorem dX8_touch_147 : decode cX8_touch 147 = .ok (.iconst 5, 1) := by decide +kernel
theorem dX8_touch_148 : decode cX8_touch 148 = .ok (.iadd, 1) := by decide +kernel
theorem dX8_touch_149 : decode cX8_touch 149 = .ok (.aload_n 0, 1) := by decide +kernel
theorem dX8_touch_150 : decode cX8_touch 150 = .ok (.iload_n 2, 1) := by decide +kernel
theorem dX8_touch_151 : decode cX8_touch 151 = .ok (.bipush 7, 2) := by decide +kernel
theorem dX8_touch_153 : decode cX8_touch 153 = .ok (.invokevirtual 62, 3) := by decide +kernel
theorem dX8_touch_156 : decode cX8_touch 156 = .ok (.iastore, 1) := by decide +kernel
theorem dX8_touch_157 : decode cX8_touch 157 = .ok (.goto 144, 3) := by decide +kernel
theorem dX8_touch_160 : decode cX8_touch 160 = .ok (.iload_n 3, 1) := by decide +kernel
theorem dX8_touch_161 : decode cX8_touch 161 = .ok (.iconst 2, 1) := by decide +kernel
theorem dX8_touch_162 : decode cX8_touch 162 = .ok (.if_icmp .ne 10, 3) := by decide +kernel
theorem dX8_touch_165 : decode cX8_touch 165 = .ok (.iload 4, 2) := by decide +kernel
theorem dX8_touch_167 : decode cX8_touch 167 = .ok (.iconst 1, 1) := by decide +kernel
theorem dX8_touch_168 : decode cX8_touch 168 = .ok (.iadd, 1) := by decide +kernel
theorem dX8_touch_169 : decode cX8_touch 169 = .ok (.goto 4, 3) := by decide +kernel
theorem dX8_touch_172 : decode cX8_touch 172 = .ok (.iconst 1, 1) := by decide +kernel
theorem dX8_touch_173 : decode cX8_touch 173 = .ok (.istore 10, 2) := by decide +kernel
theorem dX8_touch_175 : decode cX8_touch 175 = .ok (.aload_n 0, 1) := by decide +kernel
theorem dX8_touch_176 : decode cX8_touch 176 = .ok (.iload_n 2, 1) := by decide +kernel
theorem dX8_touch_177 : decode cX8_touch 177 = .ok (.iconst 5, 1) := by decide +kernel
theorem dX8_touch_178 : decode cX8_touch 178 = .ok (.invokevirtual 62, 3) := by decide +kernel
theorem dX8_touch_181 : decode cX8_touch 181 = .ok (.iload 10, 2) := by decide +kernel
theorem dX8_touch_183 : decode cX8_touch 183 = .ok (.bipush 10, 2) := by decide +kernel
theorem dX8_touch_185 : decode cX8_touch 185 = .ok (.if_icmp .le 7, 3) := by decide +kernel
theorem dX8_touch_188 : decode cX8_touch 188 = .ok (.iconst 1, 1) := by decide +kernel
theorem dX8_touch_189 : decode cX8_touch 189 = .ok (.goto 8, 3) := by decide +kernel
theorem dX8_touch_192 : decode cX8_touch 192 = .ok (.bipush 11, 2) := by decide +kernel
theorem dX8_touch_194 : decode cX8_touch 194 = .ok (.iload 10, 2) := by decide +kernel
theorem dX8_touch_196 : decode cX8_touch 196 = .ok (.isub, 1) := by decide +kernel
theorem dX8_touch_197 : decode cX8_touch 197 = .ok (.imul, 1) := by decide +kernel
theorem dX8_touch_198 : decode cX8_touch 198 = .ok (.bipush 10, 2) := by decide +kernel
theorem dX8_touch_200 : decode cX8_touch 200 = .ok (.idiv, 1) := by decide +kernel
theorem dX8_touch_201 : decode cX8_touch 201 = .ok (.istore 11, 2) := by decide +kernel
theorem dX8_touch_203 : decode cX8_touch 203 = .ok (.aload_n 0, 1) := by decide +kernel
theorem dX8_touch_204 : decode cX8_touch 204 = .ok (.iload_n 2, 1) := by decide +kernel
theorem dX8_touch_205 : decode cX8_touch 205 = .ok (.bipush 6, 2) := by decide +kernel
theorem dX8_touch_207 : decode cX8_touch 207 = .ok (.invokevirtual 62, 3) := by decide +kernel
theorem dX8_touch_210 : decode cX8_touch 210 = .ok (.iconst 2, 1) := by decide +kernel
theorem dX8_touch_211 : decode cX8_touch 211 = .ok (.iload 10, 2) := by decide +kernel
theorem dX8_touch_213 : decode cX8_touch 213 = .ok (.iconst 1, 1) := by decide +kernel
theorem dX8_touch_214 : decode cX8_touch 214 = .ok (.isub, 1) := by decide +kernel
theorem dX8_touch_215 : decode cX8_touch 215 = .ok (.imul, 1) := by decide +kernel
theorem dX8_touch_216 : decode cX8_touch 216 = .ok (.isub, 1) := by decide +kernel
theorem dX8_touch_217 : decode cX8_touch 217 = .ok (.iload_n 3, 1) := by decide +kernel
theorem dX8_touch_218 : decode cX8_touch 218 = .ok (.iconst 1, 1) := by decide +kernel
theorem dX8_touch_219 : decode cX8_touch 219 = .ok (.if_icmp .ne 7, 3) := by decide +kernel
theorem dX8_touch_222 : decode cX8_touch 222 = .ok (.iconst 4, 1) := by decide +kernel
theorem dX8_touch_223 : decode cX8_touch 223 = .ok (.goto 4, 3) := by decide +kernel
theorem dX8_touch_226 : decode cX8_touch 226 = .ok (.iconst 0, 1) := by decide +kernel
theorem dX8_touch_227 : decode cX8_touch 227 = .ok (.iadd, 1) := by decide +kernel
theorem dX8_touch_228 : decode cX8_touch 228 = .ok (.istore 12, 2) := by decide +kernel
theorem dX8_touch_230 : decode cX8_touch 230 = .ok (.aload_n 0, 1) := by decide +kernel
theorem dX8_touch_231 : decode cX8_touch 231 = .ok (.getfield 13, 3) := by decide +kernel
theorem dX8_touch_234 : decode cX8_touch 234 = .ok (.iload 6, 2) := by decide +kernel
theorem dX8_touch_236 : decode cX8_touch 236 = .ok (.iconst 1, 1) := by decide +kernel
theorem dX8_touch_237 : decode cX8_touch 237 = .ok (.iadd, 1) := by decide +kernel
theorem dX8_touch_238 : decode cX8_touch 238 = .ok (.dup2, 1) := by decide +kernel
theorem dX8_touch_239 : decode cX8_touch 239 = .ok (.iaload, 1) := by decide +kernel
theorem dX8_touch_240 : decode cX8_touch 240 = .ok (.iload_n 3, 1) := by decide +kernel
theorem dX8_touch_241 : decode cX8_touch 241 = .ok (.iconst 1, 1) := by decide +kernel
theorem dX8_touch_242 : decode cX8_touch 242 = .ok (.if_icmp .ne 13, 3) := by decide +kernel
theorem dX8_touch_245 : decode cX8_touch 245 = .ok (.iload 11, 2) := by decide +kernel
theorem dX8_touch_247 : decode cX8_touch 247 = .ok (.bipush 6, 2) := by decide +kernel
theorem dX8_touch_249 : decode cX8_touch 249 = .ok (.imul, 1) := by decide +kernel
theorem dX8_touch_250 : decode cX8_touch 250 = .ok (.iconst 5, 1) := by decide +kernel
theorem dX8_touch_251 : decode cX8_touch 251 = .ok (.idiv, 1) := by decide +kernel
theorem dX8_touch_252 : decode cX8_touch 252 = .ok (.goto 5, 3) := by decide +kernel
theorem dX8_touch_255 : decode cX8_touch 255 = .ok (.iload 11, 2) := by decide +kernel
theorem dX8_touch_257 : decode cX8_touch 257 = .ok (.isub, 1) := by decide +kernel
theorem dX8_touch_258 : decode cX8_touch 258 = .ok (.iastore, 1) := by decide +kernel
theorem dX8_touch_259 : decode cX8_touch 259 = .ok (.aload_n 0, 1) := by decide +kernel
theorem dX8_touch_260 : decode cX8_touch 260 = .ok (.getfield 13, 3) := by decide +kernel
theorem dX8_touch_263 : decode cX8_touch 263 = .ok (.iload 6, 2) := by decide +kernel
theorem dX8_touch_265 : decode cX8_touch 265 = .ok (.iconst 3, 1) := by decide +kernel
theorem dX8_touch_266 : decode cX8_touch 266 = .ok (.iadd, 1) := by decide +kernel
theorem dX8_touch_267 : decode cX8_touch 267 = .ok (.iconst 2, 1) := by decide +kernel
theorem dX8_touch_268 : decode cX8_touch 268 = .ok (.iastore, 1) := by decide +kernel
theorem dX8_touch_269 : decode cX8_touch 269 = .ok (.aload_n 0, 1) := by decide +kernel
theorem dX8_touch_270 : decode cX8_touch 270 = .ok (.getfield 13, 3) := by decide +kernel
theorem dX8_touch_273 : decode cX8_touch 273 = .ok (.iload 6, 2) := by decide +kernel
theorem dX8_touch_275 : decode cX8_touch 275 = .ok (.iconst 5, 1) := by decide +kernel
theorem dX8_touch_276 : decode cX8_touch 276 = .ok (.iadd, 1) := by decide +kernel
theorem dX8_touch_277 : decode cX8_touch 277 = .ok (.iload 12, 2) := by decide +kernel
theorem dX8_touch_279 : decode cX8_touch 279 = .ok (.ifCond .ge 7, 3) := by decide +kernel
theorem dX8_touch_282 : decode cX8_touch 282 = .ok (.iconst 0, 1) := by decide +kernel
theorem dX8_touch_283 : decode cX8_touch 283 = .ok (.goto 5, 3) := by decide +kernel
theorem dX8_touch_286 : decode cX8_touch 286 = .ok (.iload 12, 2) := by decide +kernel
theorem dX8_touch_288 : decode cX8_touch 288 = .ok (.iastore, 1) := by decide +kernel
theorem dX8_touch_289 : decode cX8_touch 289 = .ok (.aload_n 0, 1) := by decide +kernel
theorem dX8_touch_290 : decode cX8_touch 290 = .ok (.getfield 13, 3) := by decide +kernel
theorem dX8_touch_293 : decode cX8_touch 293 = .ok (.iload 6, 2) := by decide +kernel
theorem dX8_touch_295 : decode cX8_touch 295 = .ok (.bipush 6, 2) := by decide +kernel
theorem dX8_touch_297 : decode cX8_touch 297 = .ok (.iadd, 1) := by decide +kernel
theorem dX8_touch_298 : decode cX8_touch 298 = .ok (.iload 10, 2) := by decide +kernel
theorem dX8_touch_300 : decode cX8_touch 300 = .ok (.iastore, 1) := by decide +kernel
theorem dX8_touch_301 : decode cX8_touch 301 = .ok (.aload_n 0, 1) := by decide +kernel
theorem dX8_touch_302 : decode cX8_touch 302 = .ok (.getfield 13, 3) := by decide +kernel
theorem dX8_touch_305 : decode cX8_touch 305 = .ok (.iload 6, 2) := by decide +kernel
theorem dX8_touch_307 : decode cX8_touch 307 = .ok (.iconst 4, 1) := by decide +kernel
theorem dX8_touch_308 : decode cX8_touch 308 = .ok (.iadd, 1) := by decide +kernel
theorem dX8_touch_309 : decode cX8_touch 309 = .ok (.iconst (-1), 1) := by decide +kernel
theorem dX8_touch_310 : decode cX8_touch 310 = .ok (.iastore, 1) := by decide +kernel
theorem dX8_touch_311 : decode cX8_touch 311 = .ok (.aload_n 0, 1) := by decide +kernel
theorem dX8_touch_312 : decode cX8_touch 312 = .ok (.iload 6, 2) := by decide +kernel
theorem dX8_touch_314 : decode cX8_touch 314 = .ok (.aload_n 0, 1) := by decide +kernel
theorem dX8_touch_315 : decode cX8_touch 315 = .ok (.iload_n 2, 1) := by decide +kernel
theorem dX8_touch_316 : decode cX8_touch 316 = .ok (.bipush 8, 2) := by decide +kernel
theorem dX8_touch_318 : decode cX8_touch 318 = .ok (.invokevirtual 62, 3) := by decide +kernel
theorem dX8_touch_321 : decode cX8_touch 321 = .ok (.invokevirtual 66, 3) := by decide +kernel
theorem dX8_touch_324 : decode cX8_touch 324 = .ok (.istore 10, 2) := by decide +kernel
theorem dX8_touch_326 : decode cX8_touch 326 = .ok (.aload_n 0, 1) := by decide +kernel
theorem dX8_touch_327 : decode cX8_touch 327 = .ok (.iload_n 1, 1) := by decide +kernel
theorem dX8_touch_328 : decode cX8_touch 328 = .ok (.iload 10, 2) := by decide +kernel
theorem dX8_touch_330 : decode cX8_touch 330 = .ok (.invokevirtual 66, 3) := by decide +kernel
theorem dX8_touch_333 : decode cX8_touch 333 = .ok (.pop, 1) := by decide +kernel
theorem dX8_touch_334 : decode cX8_touch 334 = .ok (.return_, 1) := by decide +kernel
set_option maxRecDepth 20000 in
theorem ggX8_hitBoth_X8_reaches : GoodIn wsX8_hitBoth wsX8_reaches := goodIn_r _ [6, 1, 7, 8, 9, 5, 10, 11, 20, 21, 22, 23, 24, 25, 26, 27, 28, 29, 30, 31, 32, 33, 34, 35, 36] (by decide +kernel) (by decide +kernel)
set_option maxRecDepth 20000 in
theorem gX8_hitBoth_X8_reaches : GoodIn wsX8_hitBoth (wsV RX8 69 RX8 yX8_reaches wsX8_reaches) := goodIn_app (goodIn_of _ (by decide +kernel)) ggX8_hitBoth_X8_reaches
set_option maxRecDepth 20000 in
theorem ggX8_hitBoth_X8_ofMove : GoodIn wsX8_hitBoth wsX8_ofMove := goodIn_r _ [10, 11, 20, 21, 22, 23, 24, 25, 26, 27, 28, 29, 30, 31, 32, 33, 34, 35, 36] (by decide +kernel) (by decide +kernel)
set_option maxRecDepth 20000 in
theorem gX8_hitBoth_X8_ofMove : GoodIn wsX8_hitBoth (wsV RX8 62 RX8 yX8_ofMove wsX8_ofMove) := goodIn_app (goodIn_of _ (by decide +kernel)) ggX8_hitBoth_X8_ofMove
set_option maxRecDepth 20000 in
theorem ggX8_hitBoth_X8_goBack : GoodIn wsX8_hitBoth wsX8_goBack := goodIn_r _ [15, 1, 20, 21, 22, 23, 24, 25, 26, 27, 28, 29, 30, 31, 32, 33, 34, 35, 36] (by decide +kernel) (by decide +kernel)
set_option maxRecDepth 20000 in
theorem gX8_hitBoth_X8_goBack : GoodIn wsX8_hitBoth (wsV RX8 66 RX8 yX8_goBack wsX8_goBack) := goodIn_app (goodIn_of _ (by decide +kernel)) ggX8_hitBoth_X8_goBack
set_option maxRecDepth 20000 in
theorem ggX8_hitBoth_X8_touch : GoodIn wsX8_hitBoth wsX8_touch := goodIn_r _ [19, 1, 7, 8, 9, 5, 10, 11, 12, 13, 14, 15, 20, 21, 22, 23, 24, 25, 26, 27, 28, 29, 30, 31, 32, 33, 34, 35, 36] (by decide +kernel) (by decide +kernel)
set_option maxRecDepth 20000 in
theorem gX8_hitBoth_X8_touch : GoodIn wsX8_hitBoth (wsV RX8 72 RX8 yX8_touch wsX8_touch) := goodIn_app (goodIn_of _ (by decide +kernel)) ggX8_hitBoth_X8_touch
theorem dX8_hitBoth_0 : decode cX8_hitBoth 0 = .ok (.aload_n 0, 1) := by decide +kernel
theorem dX8_hitBoth_1 : decode cX8_hitBoth 1 = .ok (.iconst 0, 1) := by decide +kernel
theorem dX8_hitBoth_2 : decode cX8_hitBoth 2 = .ok (.invokevirtual 69, 3) := by decide +kernel
theorem dX8_hitBoth_5 : decode cX8_hitBoth 5 = .ok (.istore_n 3, 1) := by decide +kernel
theorem dX8_hitBoth_6 : decode cX8_hitBoth 6 = .ok (.aload_n 0, 1) := by decide +kernel
theorem dX8_hitBoth_7 : decode cX8_hitBoth 7 = .ok (.bipush 11, 2) := by decide +kernel
theorem dX8_hitBoth_9 : decode cX8_hitBoth 9 = .ok (.invokevirtual 69, 3) := by decide +kernel
theorem dX8_hitBoth_12 : decode cX8_hitBoth 12 = .ok (.istore 4, 2) := by decide +kernel
theorem dX8_hitBoth_14 : decode cX8_hitBoth 14 = .ok (.aload_n 0, 1) := by decide +kernel
theorem dX8_hitBoth_15 : decode cX8_hitBoth 15 = .ok (.getfield 13, 3) := by decide +kernel
theorem dX8_hitBoth_18 : decode cX8_hitBoth 18 = .ok (.iconst 4, 1) := by decide +kernel
theorem dX8_hitBoth_19 : decode cX8_hitBoth 19 = .ok (.iaload, 1) := by decide +kernel
theorem dX8_hitBoth_20 : decode cX8_hitBoth 20 = .ok (.istore 5, 2) := by decide +kernel
theorem dX8_hitBoth_22 : decode cX8_hitBoth 22 = .ok (.aload_n 0, 1) := by decide +kernel
theorem dX8_hitBoth_23 : decode cX8_hitBoth 23 = .ok (.getfield 13, 3) := by decide +kernel
theorem dX8_hitBoth_26 : decode cX8_hitBoth 26 = .ok (.bipush 15, 2) := by decide +kernel
theorem dX8_hitBoth_28 : decode cX8_hitBoth 28 = .ok (.iaload, 1) := by decide +kernel
theorem dX8_hitBoth_29 : decode cX8_hitBoth 29 = .ok (.istore 6, 2) := by decide +kernel
theorem dX8_hitBoth_31 : decode cX8_hitBoth 31 = .ok (.aload_n 0, 1) := by decide +kernel
theorem dX8_hitBoth_32 : decode cX8_hitBoth 32 = .ok (.getfield 13, 3) := by decide +kernel
theorem dX8_hitBoth_35 : decode cX8_hitBoth 35 = .ok (.iconst 3, 1) := by decide +kernel
theorem dX8_hitBoth_36 : decode cX8_hitBoth 36 = .ok (.iaload, 1) := by decide +kernel
theorem dX8_hitBoth_37 : decode cX8_hitBoth 37 = .ok (.istore 7, 2) := by decide +kernel
theorem dX8_hitBoth_39 : decode cX8_hitBoth 39 = .ok (.aload_n 0, 1) := by decide +kernel
theorem dX8_hitBoth_40 : decode cX8_hitBoth 40 = .ok (.getfield 13, 3) := by decide +kernel
theorem dX8_hitBoth_43 : decode cX8_hitBoth 43 = .ok (.bipush 14, 2) := by decide +kernel
theorem dX8_hitBoth_45 : decode cX8_hitBoth 45 = .ok (.iaload, 1) := by decide +kernel
theorem dX8_hitBoth_46 : decode cX8_hitBoth 46 = .ok (.istore 8, 2) := by decide +kernel
theorem dX8_hitBoth_48 : decode cX8_hitBoth 48 = .ok (.aload_n 0, 1) := by decide +kernel
theorem dX8_hitBoth_49 : decode cX8_hitBoth 49 = .ok (.getfield 13, 3) := by decide +kernel
theorem dX8_hitBoth_52 : decode cX8_hitBoth 52 = .ok (.bipush 6, 2) := by decide +kernel
theorem dX8_hitBoth_54 : decode cX8_hitBoth 54 = .ok (.iaload, 1) := by decide +kernel
theorem dX8_hitBoth_55 : decode cX8_hitBoth 55 = .ok (.istore 9, 2) := by decide +kernel
theorem dX8_hitBoth_57 : decode cX8_hitBoth 57 = .ok (.aload_n 0, 1) := by decide +kernel
theorem dX8_hitBoth_58 : decode cX8_hitBoth 58 = .ok (.getfield 13, 3) := by decide +kernel
theorem dX8_hitBoth_61 : decode cX8_hitBoth 61 = .ok (.bipush 17, 2) := by decide +kernel
theorem dX8_hitBoth_63 : decode cX8_hitBoth 63 = .ok (.iaload, 1) := by decide +kernel
theorem dX8_hitBoth_64 : decode cX8_hitBoth 64 = .ok (.istore 10, 2) := by decide +kernel
theorem dX8_hitBoth_66 : decode cX8_hitBoth 66 = .ok (.iload_n 3, 1) := by decide +kernel
theorem dX8_hitBoth_67 : decode cX8_hitBoth 67 = .ok (.ifCond .eq 11, 3) := by decide +kernel
theorem dX8_hitBoth_70 : decode cX8_hitBoth 70 = .ok (.aload_n 0, 1) := by decide +kernel
theorem dX8_hitBoth_71 : decode cX8_hitBoth 71 = .ok (.getfield 13, 3) := by decide +kernel
theorem dX8_hitBoth_74 : decode cX8_hitBoth 74 = .ok (.bipush 9, 2) := by decide +kernel
theorem dX8_hitBoth_76 : decode cX8_hitBoth 76 = .ok (.iconst 0, 1) := by decide +kernel
theorem dX8_hitBoth_77 : decode cX8_hitBoth 77 = .ok (.iastore, 1) := by decide +kernel
theorem dX8_hitBoth_78 : decode cX8_hitBoth 78 = .ok (.iload 4, 2) := by decide +kernel
theorem dX8_hitBoth_80 : decode cX8_hitBoth 80 = .ok (.ifCond .eq 11, 3) := by decide +kernel
theorem dX8_hitBoth_83 : decode cX8_hitBoth 83 = .ok (.aload_n 0, 1) := by decide +kernel
theorem dX8_hitBoth_84 : decode cX8_hitBoth 84 = .ok (.getfield 13, 3) := by decide +kernel
theorem dX8_hitBoth_87 : decode cX8_hitBoth 87 = .ok (.bipush 20, 2) := by decide +kernel
theorem dX8_hitBoth_89 : decode cX8_hitBoth 89 = .ok (.iconst 0, 1) := by decide +kernel
theorem dX8_hitBoth_90 : decode cX8_hitBoth 90 = .ok (.iastore, 1) := by decide +kernel
theorem dX8_hitBoth_91 : decode cX8_hitBoth 91 = .ok (.iload_n 3, 1) := by decide +kernel
theorem dX8_hitBoth_92 : decode cX8_hitBoth 92 = .ok (.ifCond .eq 48, 3) := by decide +kernel
theorem dX8_hitBoth_95 : decode cX8_hitBoth 95 = .ok (.iload 4, 2) := by decide +kernel
theorem dX8_hitBoth_97 : decode cX8_hitBoth 97 = .ok (.ifCond .eq 43, 3) := by decide +kernel
theorem dX8_hitBoth_100 : decode cX8_hitBoth 100 = .ok (.aload_n 0, 1) := by decide +kernel
theorem dX8_hitBoth_101 : decode cX8_hitBoth 101 = .ok (.iload 5, 2) := by decide +kernel
theorem dX8_hitBoth_103 : decode cX8_hitBoth 103 = .ok (.iconst 4, 1) := by decide +kernel
theorem dX8_hitBoth_104 : decode cX8_hitBoth 104 = .ok (.invokevirtual 62, 3) := by decide +kernel
theorem dX8_hitBoth_107 : decode cX8_hitBoth 107 = .ok (.iconst 3, 1) := by decide +kernel
theorem dX8_hitBoth_108 : decode cX8_hitBoth 108 = .ok (.if_icmp .ne 32, 3) := by decide +kernel
theorem dX8_hitBoth_111 : decode cX8_hitBoth 111 = .ok (.aload_n 0, 1) := by decide +kernel
theorem dX8_hitBoth_112 : decode cX8_hitBoth 112 = .ok (.iload 6, 2) := by decide +kernel
theorem dX8_hitBoth_114 : decode cX8_hitBoth 114 = .ok (.iconst 4, 1) := by decide +kernel
theorem dX8_hitBoth_115 : decode cX8_hitBoth 115 = .ok (.invokevirtual 62, 3) := by decide +kernel
theorem dX8_hitBoth_118 : decode cX8_hitBoth 118 = .ok (.iconst 3, 1) := by decide +kernel
theorem dX8_hitBoth_119 : decode cX8_hitBoth 119 = .ok (.if_icmp .ne 21, 3) := by decide +kernel
theorem dX8_hitBoth_122 : decode cX8_hitBoth 122 = .ok (.aload_n 0, 1) := by decide +kernel
theorem dX8_hitBoth_123 : decode cX8_hitBoth 123 = .ok (.iconst 0, 1) := by decide +kernel
theorem dX8_hitBoth_124 : decode cX8_hitBoth 124 = .ok (.bipush 20, 2) := by decide +kernel
theorem dX8_hitBoth_126 : decode cX8_hitBoth 126 = .ok (.invokevirtual 66, 3) := by decide +kernel
theorem dX8_hitBoth_129 : decode cX8_hitBoth 129 = .ok (.pop, 1) := by decide +kernel
theorem dX8_hitBoth_130 : decode cX8_hitBoth 130 = .ok (.aload_n 0, 1) := by decide +kernel
theorem dX8_hitBoth_131 : decode cX8_hitBoth 131 = .ok (.bipush 11, 2) := by decide +kernel
theorem dX8_hitBoth_133 : decode cX8_hitBoth 133 = .ok (.bipush 20, 2) := by decide +kernel
theorem dX8_hitBoth_135 : decode cX8_hitBoth 135 = .ok (.invokevirtual 66, 3) := by decide +kernel
theorem dX8_hitBoth_138 : decode cX8_hitBoth 138 = .ok (.pop, 1) := by decide +kernel
theorem dX8_hitBoth_139 : decode cX8_hitBoth 139 = .ok (.return_, 1) := by decide +kernel
theorem dX8_hitBoth_140 : decode cX8_hitBoth 140 = .ok (.iload_n 3, 1) := by decide +kernel
theorem dX8_hitBoth_141 : decode cX8_hitBoth 141 = .ok (.ifCond .eq 15, 3) := by decide +kernel
theorem dX8_hitBoth_144 : decode cX8_hitBoth 144 = .ok (.aload_n 0, 1) := by decide +kernel
theorem dX8_hitBoth_145 : decode cX8_hitBoth 145 = .ok (.iconst 0, 1) := by decide +kernel
theorem dX8_hitBoth_146 : decode cX8_hitBoth 146 = .ok (.iload 5, 2) := by decide +kernel
theorem dX8_hitBoth_148 : decode cX8_hitBoth 148 = .ok (.iload 8, 2) := by decide +kernel
theorem dX8_hitBoth_150 : decode cX8_hitBoth 150 = .ok (.iload 10, 2) := by decide +kernel
theorem dX8_hitBoth_152 : decode cX8_hitBoth 152 = .ok (.iload_n 2, 1) := by decide +kernel
theorem dX8_hitBoth_153 : decode cX8_hitBoth 153 = .ok (.invokevirtual 72, 3) := by decide +kernel
theorem dX8_hitBoth_156 : decode cX8_hitBoth 156 = .ok (.iload 4, 2) := by decide +kernel
theorem dX8_hitBoth_158 : decode cX8_hitBoth 158 = .ok (.ifCond .eq 16, 3) := by decide +kernel
theorem dX8_hitBoth_161 : decode cX8_hitBoth 161 = .ok (.aload_n 0, 1) := by decide +kernel
theorem dX8_hitBoth_162 : decode cX8_hitBoth 162 = .ok (.bipush 11, 2) := by decide +kernel
theorem dX8_hitBoth_164 : decode cX8_hitBoth 164 = .ok (.iload 6, 2) := by decide +kernel
theorem dX8_hitBoth_166 : decode cX8_hitBoth 166 = .ok (.iload 7, 2) := by decide +kernel
theorem dX8_hitBoth_168 : decode cX8_hitBoth 168 = .ok (.iload 9, 2) := by decide +kernel
theorem dX8_hitBoth_170 : decode cX8_hitBoth 170 = .ok (.iload_n 1, 1) := by decide +kernel
theorem dX8_hitBoth_171 : decode cX8_hitBoth 171 = .ok (.invokevirtual 72, 3) := by decide +kernel
theorem dX8_hitBoth_174 : decode cX8_hitBoth 174 = .ok (.return_, 1) := by decide +kernel
set_option maxRecDepth 20000 in
theorem ggX8_comeOn_X8_ofMove : GoodIn wsX8_comeOn wsX8_ofMove := goodIn_r _ [6, 7, 8, 9, 10, 11, 12, 13, 14, 15, 16, 17, 18, 19, 20, 21, 22, 23, 24] (by decide +kernel) (by decide +kernel)
set_option maxRecDepth 20000 in
theorem gX8_comeOn_X8_ofMove : GoodIn wsX8_comeOn (wsV RX8 62 RX8 yX8_ofMove wsX8_ofMove) := goodIn_app (goodIn_of _ (by decide +kernel)) ggX8_comeOn_X8_ofMove
theorem dX8_comeOn_0 : decode cX8_comeOn 0 = .ok (.aload_n 0, 1) := by decide +kernel
theorem dX8_comeOn_1 : decode cX8_comeOn 1 = .ok (.getfield 13, 3) := by decide +kernel
theorem dX8_comeOn_4 : decode cX8_comeOn 4 = .ok (.iload_n 1, 1) := by decide +kernel
theorem dX8_comeOn_5 : decode cX8_comeOn 5 = .ok (.iconst 3, 1) := by decide +kernel
theorem dX8_comeOn_6 : decode cX8_comeOn 6 = .ok (.iadd, 1) := by decide +kernel
theorem dX8_comeOn_7 : decode cX8_comeOn 7 = .ok (.iaload, 1) := by decide +kernel
theorem dX8_comeOn_8 : decode cX8_comeOn 8 = .ok (.iconst 1, 1) := by decide +kernel
theorem dX8_comeOn_9 : decode cX8_comeOn 9 = .ok (.if_icmp .ne 97, 3) := by decide +kernel
theorem dX8_comeOn_12 : decode cX8_comeOn 12 = .ok (.aload_n 0, 1) := by decide +kernel
theorem dX8_comeOn_13 : decode cX8_comeOn 13 = .ok (.getfield 13, 3) := by decide +kernel
theorem dX8_comeOn_16 : decode cX8_comeOn 16 = .ok (.iload_n 1, 1) := by decide +kernel
theorem dX8_comeOn_17 : decode cX8_comeOn 17 = .ok (.iconst 4, 1) := by decide +kernel
theorem dX8_comeOn_18 : decode cX8_comeOn 18 = .ok (.iadd, 1) := by decide +kernel
theorem dX8_comeOn_19 : decode cX8_comeOn 19 = .ok (.iaload, 1) := by decide +kernel
theorem dX8_comeOn_20 : decode cX8_comeOn 20 = .ok (.istore_n 2, 1) := by decide +kernel
theorem dX8_comeOn_21 : decode cX8_comeOn 21 = .ok (.aload_n 0, 1) := by decide +kernel
theorem dX8_comeOn_22 : decode cX8_comeOn 22 = .ok (.getfield 13, 3) := by decide +kernel
theorem dX8_comeOn_25 : decode cX8_comeOn 25 = .ok (.iload_n 1, 1) := by decide +kernel
theorem dX8_comeOn_26 : decode cX8_comeOn 26 = .ok (.iconst 5, 1) := by decide +kernel
theorem dX8_comeOn_27 : decode cX8_comeOn 27 = .ok (.iadd, 1) := by decide +kernel
theorem dX8_comeOn_28 : decode cX8_comeOn 28 = .ok (.dup2, 1) := by decide +kernel
theorem dX8_comeOn_29 : decode cX8_comeOn 29 = .ok (.iaload, 1) := by decide +kernel
theorem dX8_comeOn_30 : decode cX8_comeOn 30 = .ok (.iconst 1, 1) := by decide +kernel
theorem dX8_comeOn_31 : decode cX8_comeOn 31 = .ok (.iadd, 1) := by decide +kernel
theorem dX8_comeOn_32 : decode cX8_comeOn 32 = .ok (.iastore, 1) := by decide +kernel
theorem dX8_comeOn_33 : decode cX8_comeOn 33 = .ok (.aload_n 0, 1) := by decide +kernel
theorem dX8_comeOn_34 : decode cX8_comeOn 34 = .ok (.getfield 13, 3) := by decide +kernel
