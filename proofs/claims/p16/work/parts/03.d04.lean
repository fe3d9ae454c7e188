theorem dX7_begin_79 : decode cX7_begin 79 = .ok (.getfield 34, 3) := by decide +kernel
theorem dX7_begin_82 : decode cX7_begin 82 = .ok (.iload_n 1, 1) := by decide +kernel
theorem dX7_begin_83 : decode cX7_begin 83 = .ok (.iload_n 2, 1) := by decide +kernel
theorem dX7_begin_84 : decode cX7_begin 84 = .ok (.ifCond .eq 7, 3) := by decide +kernel
theorem dX7_begin_87 : decode cX7_begin 87 = .ok (.iconst 0, 1) := by decide +kernel
theorem dX7_begin_88 : decode cX7_begin 88 = .ok (.goto 13, 3) := by decide +kernel
theorem dX7_begin_91 : decode cX7_begin 91 = .ok (.aload_n 0, 1) := by decide +kernel
theorem dX7_begin_92 : decode cX7_begin 92 = .ok (.getfield 24, 3) := by decide +kernel
theorem dX7_begin_95 : decode cX7_begin 95 = .ok (.getfield 122, 3) := by decide +kernel
theorem dX7_begin_98 : decode cX7_begin 98 = .ok (.getfield 126, 3) := by decide +kernel
theorem dX7_begin_101 : decode cX7_begin 101 = .ok (.iload_n 2, 1) := by decide +kernel
theorem dX7_begin_102 : decode cX7_begin 102 = .ok (.ifCond .eq 7, 3) := by decide +kernel
theorem dX7_begin_105 : decode cX7_begin 105 = .ok (.iconst 0, 1) := by decide +kernel
theorem dX7_begin_106 : decode cX7_begin 106 = .ok (.goto 13, 3) := by decide +kernel
theorem dX7_begin_109 : decode cX7_begin 109 = .ok (.aload_n 0, 1) := by decide +kernel
theorem dX7_begin_110 : decode cX7_begin 110 = .ok (.getfield 24, 3) := by decide +kernel
theorem dX7_begin_113 : decode cX7_begin 113 = .ok (.getfield 131, 3) := by decide +kernel
theorem dX7_begin_116 : decode cX7_begin 116 = .ok (.getfield 126, 3) := by decide +kernel
theorem dX7_begin_119 : decode cX7_begin 119 = .ok (.invokevirtual 134, 3) := by decide +kernel
theorem dX7_begin_122 : decode cX7_begin 122 = .ok (.aload_n 0, 1) := by decide +kernel
theorem dX7_begin_123 : decode cX7_begin 123 = .ok (.getfield 34, 3) := by decide +kernel
theorem dX7_begin_126 : decode cX7_begin 126 = .ok (.aload_n 0, 1) := by decide +kernel
theorem dX7_begin_127 : decode cX7_begin 127 = .ok (.getfield 24, 3) := by decide +kernel
theorem dX7_begin_130 : decode cX7_begin 130 = .ok (.invokevirtual 136, 3) := by decide +kernel
theorem dX7_begin_133 : decode cX7_begin 133 = .ok (.aload_n 0, 1) := by decide +kernel
theorem dX7_begin_134 : decode cX7_begin 134 = .ok (.iconst 1, 1) := by decide +kernel
theorem dX7_begin_135 : decode cX7_begin 135 = .ok (.putfield 52, 3) := by decide +kernel
theorem dX7_begin_138 : decode cX7_begin 138 = .ok (.aload_n 0, 1) := by decide +kernel
theorem dX7_begin_139 : decode cX7_begin 139 = .ok (.getfield 41, 3) := by decide +kernel
theorem dX7_begin_142 : decode cX7_begin 142 = .ok (.dup, 1) := by decide +kernel
theorem dX7_begin_143 : decode cX7_begin 143 = .ok (.getfield 109, 3) := by decide +kernel
theorem dX7_begin_146 : decode cX7_begin 146 = .ok (.iconst 1, 1) := by decide +kernel
theorem dX7_begin_147 : decode cX7_begin 147 = .ok (.iadd, 1) := by decide +kernel
theorem dX7_begin_148 : decode cX7_begin 148 = .ok (.putfield 109, 3) := by decide +kernel
theorem dX7_begin_151 : decode cX7_begin 151 = .ok (.aload_n 0, 1) := by decide +kernel
theorem dX7_begin_152 : decode cX7_begin 152 = .ok (.getfield 41, 3) := by decide +kernel
theorem dX7_begin_155 : decode cX7_begin 155 = .ok (.getfield 109, 3) := by decide +kernel
theorem dX7_begin_158 : decode cX7_begin 158 = .ok (.ireturn, 1) := by decide +kernel
set_option maxRecDepth 20000 in
theorem ggX7_play_X7_needWithin : GoodIn wsX7_play wsX7_needWithin := goodIn_ca (goodIn_r _ [10, 11, 12] (by decide +kernel) (by decide +kernel)) (goodIn_sub (fun _ h => List.mem_cons_of_mem _ (List.mem_append_right _ h)) (by decide +kernel))
set_option maxRecDepth 20000 in
theorem gX7_play_X7_needWithin : GoodIn wsX7_play (va_wsS RX7 56 yX7_needWithin wsX7_needWithin) := goodIn_app (goodIn_of _ (by decide +kernel)) ggX7_play_X7_needWithin
set_option maxRecDepth 20000 in
theorem ggX7_play_X7_needInput : GoodIn wsX7_play wsX7_needInput := goodIn_ca (goodIn_r _ [16, 11, 12, 17, 18, 19, 20, 21, 22, 23, 205, 206, 207, 208, 209, 210, 211, 212, 219, 220, 221] (by decide +kernel) (by decide +kernel)) (goodIn_sub (fun _ h => List.mem_cons_of_mem _ (List.mem_append_right _ h)) (by decide +kernel))
set_option maxRecDepth 20000 in
theorem gX7_play_X7_needInput : GoodIn wsX7_play (wsV RX7 140 RX7 yX7_needInput wsX7_needInput) := goodIn_app (goodIn_of _ (by decide +kernel)) ggX7_play_X7_needInput
set_option maxRecDepth 20000 in
theorem ggX7_play_X6_add : GoodIn wsX7_play wsX6_add := goodIn_r _ [28, 29, 30, 31, 213, 214, 215, 216, 217, 218] (by decide +kernel) (by decide +kernel)
set_option maxRecDepth 20000 in
theorem gX7_play_X6_add : GoodIn wsX7_play (wsV RX7 145 RX6 yX6_add wsX6_add) := goodIn_app (goodIn_of _ (by decide +kernel)) ggX7_play_X6_add
set_option maxRecDepth 20000 in
theorem ggX7_play_X1_playFrame : GoodIn wsX7_play wsX1_playFrame := goodIn_r _ [36, 37, 38, 39, 40, 41, 42, 43, 44, 45, 46, 47, 48, 49, 50, 51, 52, 53, 54, 55, 56, 57, 58, 59, 60, 21, 61, 62, 63, 64, 65, 66, 67, 68, 69, 70, 71, 72, 73, 74, 75, 76, 77, 78, 79, 80, 81, 82, 83, 84, 85, 35, 86, 87, 88, 89, 90, 91, 92, 93, 94, 95, 96, 97, 98, 99, 100, 101, 102, 103, 104, 105, 106, 107, 108, 109, 110, 111, 112, 113, 114, 115, 116, 117, 118, 119, 120, 121, 122, 123, 124, 125, 126, 127, 128, 129, 130, 131, 132, 133, 134, 135, 136, 137, 138, 139, 140, 141, 142, 143, 144, 145, 146, 147, 148, 149, 150, 151, 152, 153, 154, 155, 156, 157, 158, 159, 160, 161, 162, 163, 164, 165, 166, 167, 168, 169, 170, 171, 172, 173, 174, 175, 176, 177, 178, 179, 180, 181, 182, 183, 184, 185, 186, 187, 188, 189, 222, 223, 224, 225, 226, 227, 228, 229, 230, 231, 232, 233, 234, 235, 236, 237, 238, 239, 240, 219, 220, 221, 241, 242, 243, 244, 245, 246, 247, 248] (by decide +kernel) (by decide +kernel)
set_option maxRecDepth 20000 in
theorem gX7_play_X1_playFrame : GoodIn wsX7_play (wsV RX7 148 RX1 yX1_playFrame wsX1_playFrame) := goodIn_app (goodIn_of _ (by decide +kernel)) ggX7_play_X1_playFrame
set_option maxRecDepth 20000 in
theorem ggX7_play_X7_endRoundIfOver : GoodIn wsX7_play wsX7_endRoundIfOver := goodIn_r _ [193, 5, 194, 195, 196, 4, 6, 3, 197, 198, 199, 200, 201, 202, 203, 204, 205, 206, 207, 208, 209, 210, 211, 212, 222, 223, 224, 225, 226, 227, 228, 229, 230, 231, 232, 233, 234, 235, 236, 237, 238, 239, 240, 213, 214, 215, 216, 217, 218, 249, 250, 251] (by decide +kernel) (by decide +kernel)
set_option maxRecDepth 20000 in
theorem gX7_play_X7_endRoundIfOver : GoodIn wsX7_play (wsV RX7 151 RX7 yX7_endRoundIfOver wsX7_endRoundIfOver) := goodIn_app (goodIn_of _ (by decide +kernel)) ggX7_play_X7_endRoundIfOver
theorem dX7_play_0 : decode cX7_play 0 = .ok (.iload_n 1, 1) := by decide +kernel
theorem dX7_play_1 : decode cX7_play 1 = .ok (.iconst 1, 1) := by decide +kernel
theorem dX7_play_2 : decode cX7_play 2 = .ok (.bipush 60, 2) := by decide +kernel
theorem dX7_play_4 : decode cX7_play 4 = .ok (.invokestatic 56, 3) := by decide +kernel
theorem dX7_play_7 : decode cX7_play 7 = .ok (.aload_n 0, 1) := by decide +kernel
theorem dX7_play_8 : decode cX7_play 8 = .ok (.iload_n 2, 1) := by decide +kernel
theorem dX7_play_9 : decode cX7_play 9 = .ok (.invokevirtual 140, 3) := by decide +kernel
theorem dX7_play_12 : decode cX7_play 12 = .ok (.aload_n 0, 1) := by decide +kernel
theorem dX7_play_13 : decode cX7_play 13 = .ok (.iload_n 3, 1) := by decide +kernel
theorem dX7_play_14 : decode cX7_play 14 = .ok (.invokevirtual 140, 3) := by decide +kernel
theorem dX7_play_17 : decode cX7_play 17 = .ok (.aload_n 0, 1) := by decide +kernel
theorem dX7_play_18 : decode cX7_play 18 = .ok (.getfield 52, 3) := by decide +kernel
theorem dX7_play_21 : decode cX7_play 21 = .ok (.ifCond .ne 13, 3) := by decide +kernel
theorem dX7_play_24 : decode cX7_play 24 = .ok (.new 67, 3) := by decide +kernel
theorem dX7_play_27 : decode cX7_play 27 = .ok (.dup, 1) := by decide +kernel
theorem dX7_play_28 : decode cX7_play 28 = .ok (.ldc 143, 2) := by decide +kernel
theorem dX7_play_30 : decode cX7_play 30 = .ok (.invokespecial 71, 3) := by decide +kernel
theorem dX7_play_33 : decode cX7_play 33 = .ok (.athrow, 1) := by decide +kernel
theorem dX7_play_34 : decode cX7_play 34 = .ok (.iconst 0, 1) := by decide +kernel
theorem dX7_play_35 : decode cX7_play 35 = .ok (.istore 4, 2) := by decide +kernel
theorem dX7_play_37 : decode cX7_play 37 = .ok (.iload 4, 2) := by decide +kernel
theorem dX7_play_39 : decode cX7_play 39 = .ok (.iload_n 1, 1) := by decide +kernel
theorem dX7_play_40 : decode cX7_play 40 = .ok (.if_icmp .ge 38, 3) := by decide +kernel
theorem dX7_play_43 : decode cX7_play 43 = .ok (.aload_n 0, 1) := by decide +kernel
theorem dX7_play_44 : decode cX7_play 44 = .ok (.getfield 52, 3) := by decide +kernel
theorem dX7_play_47 : decode cX7_play 47 = .ok (.ifCond .eq 31, 3) := by decide +kernel
theorem dX7_play_50 : decode cX7_play 50 = .ok (.aload_n 0, 1) := by decide +kernel
theorem dX7_play_51 : decode cX7_play 51 = .ok (.getfield 34, 3) := by decide +kernel
theorem dX7_play_54 : decode cX7_play 54 = .ok (.iload_n 2, 1) := by decide +kernel
theorem dX7_play_55 : decode cX7_play 55 = .ok (.iload_n 3, 1) := by decide +kernel
theorem dX7_play_56 : decode cX7_play 56 = .ok (.invokevirtual 145, 3) := by decide +kernel
theorem dX7_play_59 : decode cX7_play 59 = .ok (.aload_n 0, 1) := by decide +kernel
theorem dX7_play_60 : decode cX7_play 60 = .ok (.getfield 24, 3) := by decide +kernel
theorem dX7_play_63 : decode cX7_play 63 = .ok (.iload_n 2, 1) := by decide +kernel
theorem dX7_play_64 : decode cX7_play 64 = .ok (.iload_n 3, 1) := by decide +kernel
theorem dX7_play_65 : decode cX7_play 65 = .ok (.invokevirtual 148, 3) := by decide +kernel
theorem dX7_play_68 : decode cX7_play 68 = .ok (.aload_n 0, 1) := by decide +kernel
theorem dX7_play_69 : decode cX7_play 69 = .ok (.invokevirtual 151, 3) := by decide +kernel
theorem dX7_play_72 : decode cX7_play 72 = .ok (.iinc 4 1, 3) := by decide +kernel
theorem dX7_play_75 : decode cX7_play 75 = .ok (.goto (-38), 3) := by decide +kernel
theorem dX7_play_78 : decode cX7_play 78 = .ok (.aload_n 0, 1) := by decide +kernel
theorem dX7_play_79 : decode cX7_play 79 = .ok (.getfield 34, 3) := by decide +kernel
theorem dX7_play_82 : decode cX7_play 82 = .ok (.getfield 154, 3) := by decide +kernel
theorem dX7_play_85 : decode cX7_play 85 = .ok (.ireturn, 1) := by decide +kernel
set_option maxRecDepth 20000 in
theorem ggX7_of_X7_needFigure : GoodIn wsX7_of wsX7_needFigure := goodIn_ca (goodIn_r _ [6, 7, 8] (by decide +kernel) (by decide +kernel)) (goodIn_sub (fun _ h => List.mem_cons_of_mem _ (List.mem_append_left _ (List.mem_append_right _ h))) (by decide +kernel))
set_option maxRecDepth 20000 in
theorem gX7_of_X7_needFigure : GoodIn wsX7_of (va_wsS RX7 157 yX7_needFigure wsX7_needFigure) := goodIn_app (goodIn_of _ (by decide +kernel)) ggX7_of_X7_needFigure
set_option maxRecDepth 20000 in
theorem ggX7_of_X7_needWithin : GoodIn wsX7_of wsX7_needWithin := goodIn_ca (goodIn_r _ [11, 12, 13] (by decide +kernel) (by decide +kernel)) (goodIn_sub (fun _ h => List.mem_cons_of_mem _ (List.mem_append_right _ h)) (by decide +kernel))
set_option maxRecDepth 20000 in
theorem gX7_of_X7_needWithin : GoodIn wsX7_of (va_wsS RX7 56 yX7_needWithin wsX7_needWithin) := goodIn_app (goodIn_of _ (by decide +kernel)) ggX7_of_X7_needWithin
set_option maxRecDepth 20000 in
theorem ggX7_of_X0_wins : GoodIn wsX7_of wsX0_wins := goodIn_r _ [18, 19, 20, 49, 50, 51] (by decide +kernel) (by decide +kernel)
set_option maxRecDepth 20000 in
theorem gX7_of_X0_wins : GoodIn wsX7_of (wsV RX7 160 RX0 yX0_wins wsX0_wins) := goodIn_app (goodIn_of _ (by decide +kernel)) ggX7_of_X0_wins
set_option maxRecDepth 20000 in
theorem ggX7_of_X1_figure : GoodIn wsX7_of wsX1_figure := goodIn_r _ [25, 26, 27, 52, 53, 54] (by decide +kernel) (by decide +kernel)
set_option maxRecDepth 20000 in
theorem gX7_of_X1_figure : GoodIn wsX7_of (wsV RX7 163 RX1 yX1_figure wsX1_figure) := goodIn_app (goodIn_of _ (by decide +kernel)) ggX7_of_X1_figure
set_option maxRecDepth 20000 in
theorem ggX7_of_X2_tell : GoodIn wsX7_of wsX2_tell := goodIn_r _ [32, 33, 34, 35, 36, 37, 38, 39, 40, 55, 56, 57, 58, 59, 60, 61, 62, 63, 64, 65, 66, 67, 68, 69, 70] (by decide +kernel) (by decide +kernel)
set_option maxRecDepth 20000 in
theorem gX7_of_X2_tell : GoodIn wsX7_of (wsV RX7 167 RX2 yX2_tell wsX2_tell) := goodIn_app (goodIn_of _ (by decide +kernel)) ggX7_of_X2_tell
theorem dX7_of_0 : decode cX7_of 0 = .ok (.iload_n 1, 1) := by decide +kernel
theorem dX7_of_1 : decode cX7_of 1 = .ok (.invokestatic 157, 3) := by decide +kernel
theorem dX7_of_4 : decode cX7_of 4 = .ok (.iload_n 2, 1) := by decide +kernel
theorem dX7_of_5 : decode cX7_of 5 = .ok (.iconst 0, 1) := by decide +kernel
theorem dX7_of_6 : decode cX7_of 6 = .ok (.bipush 7, 2) := by decide +kernel
theorem dX7_of_8 : decode cX7_of 8 = .ok (.invokestatic 56, 3) := by decide +kernel
theorem dX7_of_11 : decode cX7_of 11 = .ok (.iload_n 2, 1) := by decide +kernel
theorem dX7_of_12 : decode cX7_of 12 = .ok (.bipush 7, 2) := by decide +kernel
theorem dX7_of_14 : decode cX7_of 14 = .ok (.if_icmp .ne 14, 3) := by decide +kernel
theorem dX7_of_17 : decode cX7_of 17 = .ok (.aload_n 0, 1) := by decide +kernel
theorem dX7_of_18 : decode cX7_of 18 = .ok (.getfield 41, 3) := by decide +kernel
theorem dX7_of_21 : decode cX7_of 21 = .ok (.iload_n 1, 1) := by decide +kernel
theorem dX7_of_22 : decode cX7_of 22 = .ok (.invokevirtual 160, 3) := by decide +kernel
theorem dX7_of_25 : decode cX7_of 25 = .ok (.goto 15, 3) := by decide +kernel
theorem dX7_of_28 : decode cX7_of 28 = .ok (.aload_n 0, 1) := by decide +kernel
theorem dX7_of_29 : decode cX7_of 29 = .ok (.getfield 24, 3) := by decide +kernel
theorem dX7_of_32 : decode cX7_of 32 = .ok (.iload_n 1, 1) := by decide +kernel
theorem dX7_of_33 : decode cX7_of 33 = .ok (.invokevirtual 163, 3) := by decide +kernel
theorem dX7_of_36 : decode cX7_of 36 = .ok (.iload_n 2, 1) := by decide +kernel
theorem dX7_of_37 : decode cX7_of 37 = .ok (.invokevirtual 167, 3) := by decide +kernel
theorem dX7_of_40 : decode cX7_of 40 = .ok (.ireturn, 1) := by decide +kernel
set_option maxRecDepth 20000 in
theorem ggX7_again_X7_needFigure : GoodIn wsX7_again wsX7_needFigure := goodIn_ca (goodIn_r _ [11, 1, 2] (by decide +kernel) (by decide +kernel)) (goodIn_sub (fun _ h => List.mem_cons_of_mem _ (List.mem_append_left _ (List.mem_append_right _ h))) (by decide +kernel))
set_option maxRecDepth 20000 in
theorem gX7_again_X7_needFigure : GoodIn wsX7_again (va_wsS RX7 157 yX7_needFigure wsX7_needFigure) := goodIn_app (goodIn_of _ (by decide +kernel)) ggX7_again_X7_needFigure
set_option maxRecDepth 20000 in
theorem ggX7_again_X7_needWithin : GoodIn wsX7_again wsX7_needWithin := goodIn_ca (goodIn_r _ [14, 15, 16] (by decide +kernel) (by decide +kernel)) (goodIn_sub (fun _ h => List.mem_cons_of_mem _ (List.mem_append_right _ h)) (by decide +kernel))
set_option maxRecDepth 20000 in
theorem gX7_again_X7_needWithin : GoodIn wsX7_again (va_wsS RX7 56 yX7_needWithin wsX7_needWithin) := goodIn_app (goodIn_of _ (by decide +kernel)) ggX7_again_X7_needWithin
set_option maxRecDepth 20000 in
theorem ggX7_again_X6_playInto : GoodIn wsX7_again wsX6_playInto := goodIn_r _ [21, 22, 23, 24, 25, 26, 27, 20, 28, 29, 30, 31, 32, 33, 34, 35, 36, 37, 38, 39, 40, 41, 42, 43, 44, 45, 46, 47, 48, 49, 50, 51, 52, 53, 54, 55, 56, 57, 58, 59, 60, 61, 62, 63, 64, 65, 66, 67, 68, 69, 70, 71, 72, 73, 74, 75, 76, 77, 78, 79, 80, 81, 82, 83, 84, 85, 86, 87, 88, 89, 90, 91, 92, 93, 94, 95, 96, 97, 98, 99, 100, 101, 102, 103, 104, 105, 106, 107, 108, 109, 110, 111, 112, 113, 114, 115, 116, 117, 118, 119, 120, 121, 122, 123, 124, 125, 126, 127, 128, 129, 130, 131, 132, 133, 134, 135, 136, 137, 138, 139, 140, 141, 142, 143, 144, 145, 146, 147, 148, 149, 150, 151, 152, 153, 154, 155, 156, 157, 158, 159, 160, 161, 162, 163, 164, 165, 166, 167, 168, 169, 170, 171, 172, 173, 174, 175, 176, 177, 178, 179, 180, 181, 182, 183, 184, 185, 186, 187, 188, 189, 190, 191, 192, 193, 194, 195, 196, 197, 198, 218, 219, 220, 221, 222, 223, 224, 225, 226, 227, 228, 229, 230, 231, 232, 233, 234, 235, 236, 237, 238, 239, 240, 241, 242, 243, 244, 245, 246, 247, 248, 249, 250, 251, 252, 253] (by decide +kernel) (by decide +kernel)
set_option maxRecDepth 20000 in
theorem gX7_again_X6_playInto : GoodIn wsX7_again (wsV RX7 175 RX6 yX6_playInto wsX6_playInto) := goodIn_app (goodIn_of _ (by decide +kernel)) ggX7_again_X6_playInto
set_option maxRecDepth 20000 in
theorem ggX7_again_X1_figure : GoodIn wsX7_again wsX1_figure := goodIn_r _ [202, 37, 38, 224, 225, 226] (by decide +kernel) (by decide +kernel)
set_option maxRecDepth 20000 in
theorem gX7_again_X1_figure : GoodIn wsX7_again (wsV RX7 163 RX1 yX1_figure wsX1_figure) := goodIn_app (goodIn_of _ (by decide +kernel)) ggX7_again_X1_figure
set_option maxRecDepth 20000 in
theorem ggX7_again_X2_tell : GoodIn wsX7_again wsX2_tell := goodIn_r _ [206, 44, 46, 45, 52, 58, 59, 53, 47, 227, 228, 229, 230, 231, 232, 233, 234, 235, 236, 237, 238, 239, 240, 241, 242] (by decide +kernel) (by decide +kernel)
set_option maxRecDepth 20000 in
theorem gX7_again_X2_tell : GoodIn wsX7_again (wsV RX7 167 RX2 yX2_tell wsX2_tell) := goodIn_app (goodIn_of _ (by decide +kernel)) ggX7_again_X2_tell
theorem dX7_again_0 : decode cX7_again 0 = .ok (.aload_n 0, 1) := by decide +kernel
theorem dX7_again_1 : decode cX7_again 1 = .ok (.getfield 41, 3) := by decide +kernel
theorem dX7_again_4 : decode cX7_again 4 = .ok (.getfield 109, 3) := by decide +kernel
theorem dX7_again_7 : decode cX7_again 7 = .ok (.ifCond .eq 18, 3) := by decide +kernel
theorem dX7_again_10 : decode cX7_again 10 = .ok (.iload_n 1, 1) := by decide +kernel
theorem dX7_again_11 : decode cX7_again 11 = .ok (.ifCond .lt 14, 3) := by decide +kernel
theorem dX7_again_14 : decode cX7_again 14 = .ok (.iload_n 1, 1) := by decide +kernel
theorem dX7_again_15 : decode cX7_again 15 = .ok (.aload_n 0, 1) := by decide +kernel
theorem dX7_again_16 : decode cX7_again 16 = .ok (.getfield 34, 3) := by decide +kernel
theorem dX7_again_19 : decode cX7_again 19 = .ok (.getfield 154, 3) := by decide +kernel
theorem dX7_again_22 : decode cX7_again 22 = .ok (.if_icmp .le 13, 3) := by decide +kernel
theorem dX7_again_25 : decode cX7_again 25 = .ok (.new 170, 3) := by decide +kernel
theorem dX7_again_28 : decode cX7_again 28 = .ok (.dup, 1) := by decide +kernel
theorem dX7_again_29 : decode cX7_again 29 = .ok (.ldc 172, 2) := by decide +kernel
theorem dX7_again_31 : decode cX7_again 31 = .ok (.invokespecial 174, 3) := by decide +kernel
theorem dX7_again_34 : decode cX7_again 34 = .ok (.athrow, 1) := by decide +kernel
theorem dX7_again_35 : decode cX7_again 35 = .ok (.iload_n 2, 1) := by decide +kernel
theorem dX7_again_36 : decode cX7_again 36 = .ok (.invokestatic 157, 3) := by decide +kernel
theorem dX7_again_39 : decode cX7_again 39 = .ok (.iload_n 3, 1) := by decide +kernel
theorem dX7_again_40 : decode cX7_again 40 = .ok (.iconst 0, 1) := by decide +kernel
theorem dX7_again_41 : decode cX7_again 41 = .ok (.bipush 6, 2) := by decide +kernel
theorem dX7_again_43 : decode cX7_again 43 = .ok (.invokestatic 56, 3) := by decide +kernel
theorem dX7_again_46 : decode cX7_again 46 = .ok (.aload_n 0, 1) := by decide +kernel
theorem dX7_again_47 : decode cX7_again 47 = .ok (.getfield 34, 3) := by decide +kernel
theorem dX7_again_50 : decode cX7_again 50 = .ok (.aload_n 0, 1) := by decide +kernel
theorem dX7_again_51 : decode cX7_again 51 = .ok (.getfield 28, 3) := by decide +kernel
theorem dX7_again_54 : decode cX7_again 54 = .ok (.iload_n 1, 1) := by decide +kernel
theorem dX7_again_55 : decode cX7_again 55 = .ok (.invokevirtual 175, 3) := by decide +kernel
theorem dX7_again_58 : decode cX7_again 58 = .ok (.aload_n 0, 1) := by decide +kernel
theorem dX7_again_59 : decode cX7_again 59 = .ok (.getfield 28, 3) := by decide +kernel
theorem dX7_again_62 : decode cX7_again 62 = .ok (.iload_n 2, 1) := by decide +kernel
theorem dX7_again_63 : decode cX7_again 63 = .ok (.invokevirtual 163, 3) := by decide +kernel
theorem dX7_again_66 : decode cX7_again 66 = .ok (.iload_n 3, 1) := by decide +kernel
theorem dX7_again_67 : decode cX7_again 67 = .ok (.invokevirtual 167, 3) := by decide +kernel
theorem dX7_again_70 : decode cX7_again 70 = .ok (.ireturn, 1) := by decide +kernel
theorem dX7_goesOn_0 : decode cX7_goesOn 0 = .ok (.aload_n 0, 1) := by decide +kernel
theorem dX7_goesOn_1 : decode cX7_goesOn 1 = .ok (.getfield 52, 3) := by decide +kernel
theorem dX7_goesOn_4 : decode cX7_goesOn 4 = .ok (.ireturn, 1) := by decide +kernel
set_option maxRecDepth 20000 in
theorem ggX7_winner_X0_wonBy : GoodIn wsX7_winner wsX0_wonBy := goodIn_r _ [6, 7, 8, 17, 18, 19] (by decide +kernel) (by decide +kernel)
set_option maxRecDepth 20000 in
theorem gX7_winner_X0_wonBy : GoodIn wsX7_winner (wsV RX7 112 RX0 yX0_wonBy wsX0_wonBy) := goodIn_app (goodIn_of _ (by decide +kernel)) ggX7_winner_X0_wonBy
theorem dX7_winner_0 : decode cX7_winner 0 = .ok (.aload_n 0, 1) := by decide +kernel
theorem dX7_winner_1 : decode cX7_winner 1 = .ok (.getfield 41, 3) := by decide +kernel
theorem dX7_winner_4 : decode cX7_winner 4 = .ok (.invokevirtual 112, 3) := by decide +kernel
theorem dX7_winner_7 : decode cX7_winner 7 = .ok (.ireturn, 1) := by decide +kernel
set_option maxRecDepth 20000 in
theorem ggX7_punish_X7_needMove : GoodIn wsX7_punish wsX7_needMove := goodIn_ca (goodIn_r _ [10, 11, 12, 13, 14, 15, 16, 17, 18, 19, 203, 204, 205, 206, 207, 208, 209, 210, 211, 212, 213] (by decide +kernel) (by decide +kernel)) (goodIn_sub (fun _ h => List.mem_cons_of_mem _ (List.mem_append_right _ h)) (by decide +kernel))
set_option maxRecDepth 20000 in
theorem gX7_punish_X7_needMove : GoodIn wsX7_punish (wsV RX7 84 RX7 yX7_needMove wsX7_needMove) := goodIn_app (goodIn_of _ (by decide +kernel)) ggX7_punish_X7_needMove
set_option maxRecDepth 20000 in
theorem ggX7_punish_X3_lossOfPunished : GoodIn wsX7_punish wsX3_lossOfPunished := goodIn_r _ [24, 25, 26, 27, 28, 29, 30, 31, 32, 33, 34, 35, 36, 37, 38, 39, 40, 41, 42, 43, 44, 45, 46, 47, 48, 49, 50, 51, 52, 53, 54, 55, 56, 57, 58, 59, 60, 61, 62, 63, 64, 65, 66, 67, 23, 68, 69, 70, 71, 72, 73, 74, 17, 75, 76, 77, 78, 9, 79, 80, 81, 82, 83, 84, 85, 86, 87, 88, 89, 90, 91, 92, 93, 94, 95, 96, 97, 98, 99, 100, 101, 102, 103, 104, 105, 106, 107, 108, 109, 110, 111, 112, 113, 114, 115, 116, 117, 4, 118, 119, 3, 5, 120, 121, 122, 123, 124, 125, 126, 127, 128, 129, 130, 131, 132, 133, 134, 135, 136, 137, 138, 139, 140, 141, 142, 143, 144, 145, 146, 147, 148, 149, 150, 151, 152, 153, 154, 155, 156, 157, 158, 159, 160, 161, 162, 163, 164, 165, 166, 167, 168, 169, 170, 171, 172, 173, 174, 175, 176, 177, 178, 179, 180, 181, 182, 183, 184, 185, 186, 187, 188, 189, 190, 191, 192, 193, 194, 195, 196, 197, 198, 199, 200, 201, 202, 214, 215, 216, 217, 218, 219, 220, 221, 222, 223, 224, 225, 226, 227, 228, 229, 230, 231, 232, 233, 234, 235, 236, 237, 238, 239, 240, 241, 242, 243, 244, 245, 246, 247, 211, 212, 213] (by decide +kernel) (by decide +kernel)
set_option maxRecDepth 20000 in
theorem gX7_punish_X3_lossOfPunished : GoodIn wsX7_punish (wsV RX7 183 RX3 yX3_lossOfPunished wsX3_lossOfPunished) := goodIn_app (goodIn_of _ (by decide +kernel)) ggX7_punish_X3_lossOfPunished
theorem dX7_punish_0 : decode cX7_punish 0 = .ok (.aload_n 0, 1) := by decide +kernel
theorem dX7_punish_1 : decode cX7_punish 1 = .ok (.iload_n 1, 1) := by decide +kernel
theorem dX7_punish_2 : decode cX7_punish 2 = .ok (.invokevirtual 84, 3) := by decide +kernel
theorem dX7_punish_5 : decode cX7_punish 5 = .ok (.aload_n 0, 1) := by decide +kernel
theorem dX7_punish_6 : decode cX7_punish 6 = .ok (.iload_n 2, 1) := by decide +kernel
theorem dX7_punish_7 : decode cX7_punish 7 = .ok (.invokevirtual 84, 3) := by decide +kernel
theorem dX7_punish_10 : decode cX7_punish 10 = .ok (.aload_n 0, 1) := by decide +kernel
theorem dX7_punish_11 : decode cX7_punish 11 = .ok (.getfield 48, 3) := by decide +kernel
theorem dX7_punish_14 : decode cX7_punish 14 = .ok (.iload_n 1, 1) := by decide +kernel
theorem dX7_punish_15 : decode cX7_punish 15 = .ok (.iload_n 2, 1) := by decide +kernel
theorem dX7_punish_16 : decode cX7_punish 16 = .ok (.iconst 2, 1) := by decide +kernel
theorem dX7_punish_17 : decode cX7_punish 17 = .ok (.invokevirtual 183, 3) := by decide +kernel
theorem dX7_punish_20 : decode cX7_punish 20 = .ok (.aload_n 0, 1) := by decide +kernel
theorem dX7_punish_21 : decode cX7_punish 21 = .ok (.getfield 48, 3) := by decide +kernel
theorem dX7_punish_24 : decode cX7_punish 24 = .ok (.iload_n 1, 1) := by decide +kernel
theorem dX7_punish_25 : decode cX7_punish 25 = .ok (.iload_n 2, 1) := by decide +kernel
theorem dX7_punish_26 : decode cX7_punish 26 = .ok (.iconst 4, 1) := by decide +kernel
theorem dX7_punish_27 : decode cX7_punish 27 = .ok (.invokevirtual 183, 3) := by decide +kernel
theorem dX7_punish_30 : decode cX7_punish 30 = .ok (.invokestatic 187, 3) := by decide +kernel
theorem dX7_punish_33 : decode cX7_punish 33 = .ok (.ireturn, 1) := by decide +kernel
set_option maxRecDepth 20000 in
theorem ggX7_most_X7_needMove : GoodIn wsX7_most wsX7_needMove := goodIn_ca (goodIn_r _ [7, 8, 9, 10, 11, 12, 13, 14, 15, 16, 229, 230, 231, 232, 233, 234, 235, 236, 244, 245, 246] (by decide +kernel) (by decide +kernel)) (goodIn_sub (fun _ h => List.mem_cons_of_mem _ (List.mem_append_left _ (List.mem_append_right _ h))) (by decide +kernel))
set_option maxRecDepth 20000 in
theorem gX7_most_X7_needMove : GoodIn wsX7_most (wsV RX7 84 RX7 yX7_needMove wsX7_needMove) := goodIn_app (goodIn_of _ (by decide +kernel)) ggX7_most_X7_needMove
set_option maxRecDepth 20000 in
theorem ggX7_most_X7_needWithin : GoodIn wsX7_most wsX7_needWithin := goodIn_ca (goodIn_r _ [19, 20, 21] (by decide +kernel) (by decide +kernel)) (goodIn_sub (fun _ h => List.mem_cons_of_mem _ (List.mem_append_right _ h)) (by decide +kernel))
set_option maxRecDepth 20000 in
theorem gX7_most_X7_needWithin : GoodIn wsX7_most (va_wsS RX7 56 yX7_needWithin wsX7_needWithin) := goodIn_app (goodIn_of _ (by decide +kernel)) ggX7_most_X7_needWithin
set_option maxRecDepth 20000 in
theorem ggX7_most_X3_clearRows : GoodIn wsX7_most wsX3_clearRows := goodIn_r _ [26, 27, 28, 29, 30, 31, 32, 33, 34, 35, 36, 37, 38, 39, 40, 41, 42, 43, 44, 45, 46, 47, 48, 49, 50, 51, 52, 53, 54, 55, 56, 57, 58, 59, 60, 61, 62, 63, 64, 237, 238, 239, 240, 241, 242, 243, 247, 248, 249, 250, 251, 252, 253, 254, 255, 256, 257, 258, 259, 260, 261, 262, 263, 264, 265] (by decide +kernel) (by decide +kernel)
set_option maxRecDepth 20000 in
theorem gX7_most_X3_clearRows : GoodIn wsX7_most (wsV RX7 193 RX3 yX3_clearRows wsX3_clearRows) := goodIn_app (goodIn_of _ (by decide +kernel)) ggX7_most_X3_clearRows
set_option maxRecDepth 20000 in
theorem ggX7_most_X3_addHit : GoodIn wsX7_most wsX3_addHit := goodIn_r _ [66, 29, 67, 68, 69, 70, 71, 72, 73, 74, 33, 75, 35, 36, 76, 77, 78, 40, 79, 42, 44, 43, 50, 45, 56, 57, 58, 51, 63, 64, 80, 81, 25, 82, 83, 84, 85, 86, 6, 87, 88, 89, 90, 91, 92, 93, 94, 95, 96, 97, 98, 99, 100, 101, 102, 103, 104, 105, 14, 106, 107, 108, 109, 110, 111, 112, 113, 114, 115, 116, 117, 118, 119, 120, 121, 122, 123, 59, 60, 61, 62, 124, 125, 126, 127, 128, 129, 130, 131, 132, 133, 134, 135, 136, 137, 138, 139, 140, 141, 142, 143, 144, 145, 146, 147, 148, 149, 150, 151, 152, 153, 154, 155, 156, 157, 158, 159, 160, 161, 162, 163, 164, 165, 166, 167, 168, 169, 170, 171, 172, 173, 174, 175, 176, 177, 178, 179, 180, 181, 182, 183, 184, 185, 186, 187, 188, 189, 190, 191, 192, 193, 194, 195, 196, 197, 198, 199, 200, 201, 202, 203, 204, 205, 52, 53, 54, 55, 206, 207, 208, 209, 210, 211, 212, 213, 214, 215, 216, 217, 218, 46, 47, 48, 49, 219, 220, 221, 222, 27, 28, 223, 224, 225, 226, 227, 228, 65, 237, 238, 239, 240, 241, 242, 243, 247, 248, 249, 250, 251, 252, 253, 254, 255, 256, 257, 258, 259, 260, 261, 262, 263, 264, 265, 244, 245, 246, 266, 267, 268, 269, 270, 271, 272, 273] (by decide +kernel) (by decide +kernel)
set_option maxRecDepth 20000 in
theorem gX7_most_X3_addHit_n196 : GoodIn wsX7_most (wsX3_addHit) := ggX7_most_X3_addHit
theorem dX7_most_0 : decode cX7_most 0 = .ok (.aload_n 0, 1) := by decide +kernel
theorem dX7_most_1 : decode cX7_most 1 = .ok (.iload_n 1, 1) := by decide +kernel
theorem dX7_most_2 : decode cX7_most 2 = .ok (.invokevirtual 84, 3) := by decide +kernel
theorem dX7_most_5 : decode cX7_most 5 = .ok (.iload_n 2, 1) := by decide +kernel
theorem dX7_most_6 : decode cX7_most 6 = .ok (.iconst 1, 1) := by decide +kernel
theorem dX7_most_7 : decode cX7_most 7 = .ok (.iconst 4, 1) := by decide +kernel
theorem dX7_most_8 : decode cX7_most 8 = .ok (.invokestatic 56, 3) := by decide +kernel
theorem dX7_most_11 : decode cX7_most 11 = .ok (.iload_n 3, 1) := by decide +kernel
theorem dX7_most_12 : decode cX7_most 12 = .ok (.iconst 0, 1) := by decide +kernel
theorem dX7_most_13 : decode cX7_most 13 = .ok (.bipush 100, 2) := by decide +kernel
theorem dX7_most_15 : decode cX7_most 15 = .ok (.invokestatic 56, 3) := by decide +kernel
theorem dX7_most_18 : decode cX7_most 18 = .ok (.aload_n 0, 1) := by decide +kernel
theorem dX7_most_19 : decode cX7_most 19 = .ok (.getfield 48, 3) := by decide +kernel
theorem dX7_most_22 : decode cX7_most 22 = .ok (.iload_n 3, 1) := by decide +kernel
theorem dX7_most_23 : decode cX7_most 23 = .ok (.invokevirtual 193, 3) := by decide +kernel
theorem dX7_most_26 : decode cX7_most 26 = .ok (.aload_n 0, 1) := by decide +kernel
theorem dX7_most_27 : decode cX7_most 27 = .ok (.getfield 48, 3) := by decide +kernel
theorem dX7_most_30 : decode cX7_most 30 = .ok (.iload_n 1, 1) := by decide +kernel
theorem dX7_most_31 : decode cX7_most 31 = .ok (.iconst 0, 1) := by decide +kernel
theorem dX7_most_32 : decode cX7_most 32 = .ok (.iload_n 2, 1) := by decide +kernel
theorem dX7_most_33 : decode cX7_most 33 = .ok (.invokestatic 196, 3) := by decide +kernel
theorem dX7_most_36 : decode cX7_most 36 = .ok (.aload_n 0, 1) := by decide +kernel
theorem dX7_most_37 : decode cX7_most 37 = .ok (.getfield 48, 3) := by decide +kernel
theorem dX7_most_40 : decode cX7_most 40 = .ok (.getfield 200, 3) := by decide +kernel
theorem dX7_most_43 : decode cX7_most 43 = .ok (.ireturn, 1) := by decide +kernel
set_option maxRecDepth 20000 in
theorem ggX7_mostAt_X7_needMove : GoodIn wsX7_mostAt wsX7_needMove := goodIn_ca (goodIn_r _ [8, 1, 2, 9, 10, 11, 12, 13, 14, 15, 232, 233, 234, 235, 236, 237, 238, 239, 240, 241, 242] (by decide +kernel) (by decide +kernel)) (goodIn_sub (fun _ h => List.mem_cons_of_mem _ (List.mem_append_left _ (List.mem_append_right _ h))) (by decide +kernel))
set_option maxRecDepth 20000 in
theorem gX7_mostAt_X7_needMove : GoodIn wsX7_mostAt (wsV RX7 84 RX7 yX7_needMove wsX7_needMove) := goodIn_app (goodIn_of _ (by decide +kernel)) ggX7_mostAt_X7_needMove
set_option maxRecDepth 20000 in
theorem ggX7_mostAt_X7_needWithin : GoodIn wsX7_mostAt wsX7_needWithin := goodIn_ca (goodIn_r _ [18, 19, 20] (by decide +kernel) (by decide +kernel)) (goodIn_sub (fun _ h => List.mem_cons_of_mem _ (List.mem_append_right _ h)) (by decide +kernel))
set_option maxRecDepth 20000 in
theorem gX7_mostAt_X7_needWithin : GoodIn wsX7_mostAt (va_wsS RX7 56 yX7_needWithin wsX7_needWithin) := goodIn_app (goodIn_of _ (by decide +kernel)) ggX7_mostAt_X7_needWithin
set_option maxRecDepth 20000 in
theorem ggX7_mostAt_X3_clearRows : GoodIn wsX7_mostAt wsX3_clearRows := goodIn_r _ [25, 26, 27, 28, 29, 30, 31, 32, 33, 34, 35, 36, 37, 38, 39, 40, 41, 42, 43, 44, 45, 46, 47, 48, 49, 50, 51, 52, 53, 54, 55, 56, 57, 58, 59, 60, 61, 62, 63, 243, 244, 245, 246, 247, 248, 249, 250, 251, 252, 253, 254, 255, 256, 257, 258, 259, 260, 261, 262, 263, 264, 265, 266, 267, 268] (by decide +kernel) (by decide +kernel)
set_option maxRecDepth 20000 in
theorem gX7_mostAt_X3_clearRows : GoodIn wsX7_mostAt (wsV RX7 193 RX3 yX3_clearRows wsX3_clearRows) := goodIn_app (goodIn_of _ (by decide +kernel)) ggX7_mostAt_X3_clearRows
set_option maxRecDepth 20000 in
theorem ggX7_mostAt_X3_addHit : GoodIn wsX7_mostAt wsX3_addHit := goodIn_r _ [65, 28, 66, 67, 68, 69, 70, 71, 72, 73, 32, 74, 34, 35, 75, 76, 77, 39, 78, 41, 43, 42, 49, 44, 55, 56, 57, 50, 62, 63, 79, 80, 24, 81, 82, 83, 84, 85, 7, 86, 87, 88, 89, 90, 91, 92, 93, 94, 95, 96, 97, 98, 99, 100, 101, 102, 103, 104, 13, 105, 106, 107, 108, 109, 110, 111, 112, 113, 114, 115, 116, 117, 118, 119, 120, 121, 122, 58, 59, 60, 61, 123, 124, 125, 126, 127, 128, 129, 130, 131, 132, 133, 134, 135, 136, 137, 138, 139, 140, 141, 142, 143, 144, 145, 146, 147, 148, 149, 150, 151, 152, 153, 154, 155, 156, 157, 158, 159, 160, 161, 162, 163, 164, 165, 166, 167, 168, 169, 170, 171, 172, 173, 174, 175, 176, 177, 178, 179, 180, 181, 182, 183, 184, 185, 186, 187, 188, 189, 190, 191, 192, 193, 194, 195, 196, 197, 198, 199, 200, 201, 202, 203, 204, 51, 52, 53, 54, 205, 206, 207, 208, 209, 210, 211, 212, 213, 214, 215, 216, 217, 45, 46, 47, 48, 218, 219, 220, 221, 26, 27, 222, 223, 224, 225, 226, 227, 64, 243, 244, 245, 246, 247, 248, 249, 250, 251, 252, 253, 254, 255, 256, 257, 258, 259, 260, 261, 262, 263, 264, 265, 266, 267, 268, 240, 241, 242, 269, 270, 271, 272, 273, 274, 275, 276] (by decide +kernel) (by decide +kernel)
set_option maxRecDepth 20000 in
theorem gX7_mostAt_X3_addHit_n196 : GoodIn wsX7_mostAt (wsX3_addHit) := ggX7_mostAt_X3_addHit
set_option maxRecDepth 20000 in
theorem ggX7_mostAt_X3_bestAt : GoodIn wsX7_mostAt wsX3_bestAt := goodIn_r _ [231, 27, 222, 243, 244, 245, 246, 247, 248, 249] (by decide +kernel) (by decide +kernel)
set_option maxRecDepth 20000 in
theorem gX7_mostAt_X3_bestAt : GoodIn wsX7_mostAt (wsV RX7 205 RX3 yX3_bestAt wsX3_bestAt) := goodIn_app (goodIn_of _ (by decide +kernel)) ggX7_mostAt_X3_bestAt
theorem dX7_mostAt_0 : decode cX7_mostAt 0 = .ok (.aload_n 0, 1) := by decide +kernel
theorem dX7_mostAt_1 : decode cX7_mostAt 1 = .ok (.iload_n 1, 1) := by decide +kernel
theorem dX7_mostAt_2 : decode cX7_mostAt 2 = .ok (.invokevirtual 84, 3) := by decide +kernel
theorem dX7_mostAt_5 : decode cX7_mostAt 5 = .ok (.iload 4, 2) := by decide +kernel
theorem dX7_mostAt_7 : decode cX7_mostAt 7 = .ok (.ifCond .ge 13, 3) := by decide +kernel
theorem dX7_mostAt_10 : decode cX7_mostAt 10 = .ok (.new 170, 3) := by decide +kernel
theorem dX7_mostAt_13 : decode cX7_mostAt 13 = .ok (.dup, 1) := by decide +kernel
theorem dX7_mostAt_14 : decode cX7_mostAt 14 = .ok (.ldc 203, 2) := by decide +kernel
theorem dX7_mostAt_16 : decode cX7_mostAt 16 = .ok (.invokespecial 174, 3) := by decide +kernel
theorem dX7_mostAt_19 : decode cX7_mostAt 19 = .ok (.athrow, 1) := by decide +kernel
theorem dX7_mostAt_20 : decode cX7_mostAt 20 = .ok (.iload_n 2, 1) := by decide +kernel
theorem dX7_mostAt_21 : decode cX7_mostAt 21 = .ok (.iconst 1, 1) := by decide +kernel
theorem dX7_mostAt_22 : decode cX7_mostAt 22 = .ok (.iconst 4, 1) := by decide +kernel
theorem dX7_mostAt_23 : decode cX7_mostAt 23 = .ok (.invokestatic 56, 3) := by decide +kernel
theorem dX7_mostAt_26 : decode cX7_mostAt 26 = .ok (.iload_n 3, 1) := by decide +kernel
theorem dX7_mostAt_27 : decode cX7_mostAt 27 = .ok (.iconst 0, 1) := by decide +kernel
theorem dX7_mostAt_28 : decode cX7_mostAt 28 = .ok (.bipush 100, 2) := by decide +kernel
theorem dX7_mostAt_30 : decode cX7_mostAt 30 = .ok (.invokestatic 56, 3) := by decide +kernel
theorem dX7_mostAt_33 : decode cX7_mostAt 33 = .ok (.aload_n 0, 1) := by decide +kernel
theorem dX7_mostAt_34 : decode cX7_mostAt 34 = .ok (.getfield 48, 3) := by decide +kernel
theorem dX7_mostAt_37 : decode cX7_mostAt 37 = .ok (.iload_n 3, 1) := by decide +kernel
theorem dX7_mostAt_38 : decode cX7_mostAt 38 = .ok (.invokevirtual 193, 3) := by decide +kernel
theorem dX7_mostAt_41 : decode cX7_mostAt 41 = .ok (.aload_n 0, 1) := by decide +kernel
theorem dX7_mostAt_42 : decode cX7_mostAt 42 = .ok (.getfield 48, 3) := by decide +kernel
theorem dX7_mostAt_45 : decode cX7_mostAt 45 = .ok (.iload_n 1, 1) := by decide +kernel
theorem dX7_mostAt_46 : decode cX7_mostAt 46 = .ok (.iconst 0, 1) := by decide +kernel
theorem dX7_mostAt_47 : decode cX7_mostAt 47 = .ok (.iload_n 2, 1) := by decide +kernel
theorem dX7_mostAt_48 : decode cX7_mostAt 48 = .ok (.invokestatic 196, 3) := by decide +kernel
theorem dX7_mostAt_51 : decode cX7_mostAt 51 = .ok (.aload_n 0, 1) := by decide +kernel
theorem dX7_mostAt_52 : decode cX7_mostAt 52 = .ok (.getfield 48, 3) := by decide +kernel
theorem dX7_mostAt_55 : decode cX7_mostAt 55 = .ok (.iload 4, 2) := by decide +kernel
theorem dX7_mostAt_57 : decode cX7_mostAt 57 = .ok (.invokevirtual 205, 3) := by decide +kernel
theorem dX7_mostAt_60 : decode cX7_mostAt 60 = .ok (.ireturn, 1) := by decide +kernel
set_option maxRecDepth 20000 in
theorem ggX7_endRoundIfOver_X0_count : GoodIn wsX7_endRoundIfOver wsX0_count := goodIn_r _ [13, 14, 15, 49, 50, 51] (by decide +kernel) (by decide +kernel)
set_option maxRecDepth 20000 in
theorem gX7_endRoundIfOver_X0_count : GoodIn wsX7_endRoundIfOver (wsV RX7 211 RX0 yX0_count wsX0_count) := goodIn_app (goodIn_of _ (by decide +kernel)) ggX7_endRoundIfOver_X0_count
theorem dX7_endRoundIfOver_0 : decode cX7_endRoundIfOver 0 = .ok (.aload_n 0, 1) := by decide +kernel
theorem dX7_endRoundIfOver_1 : decode cX7_endRoundIfOver 1 = .ok (.getfield 24, 3) := by decide +kernel
theorem dX7_endRoundIfOver_4 : decode cX7_endRoundIfOver 4 = .ok (.getfield 122, 3) := by decide +kernel
theorem dX7_endRoundIfOver_7 : decode cX7_endRoundIfOver 7 = .ok (.getfield 208, 3) := by decide +kernel
theorem dX7_endRoundIfOver_10 : decode cX7_endRoundIfOver 10 = .ok (.istore_n 1, 1) := by decide +kernel
theorem dX7_endRoundIfOver_11 : decode cX7_endRoundIfOver 11 = .ok (.aload_n 0, 1) := by decide +kernel
theorem dX7_endRoundIfOver_12 : decode cX7_endRoundIfOver 12 = .ok (.getfield 24, 3) := by decide +kernel
theorem dX7_endRoundIfOver_15 : decode cX7_endRoundIfOver 15 = .ok (.getfield 131, 3) := by decide +kernel
theorem dX7_endRoundIfOver_18 : decode cX7_endRoundIfOver 18 = .ok (.getfield 208, 3) := by decide +kernel
theorem dX7_endRoundIfOver_21 : decode cX7_endRoundIfOver 21 = .ok (.istore_n 2, 1) := by decide +kernel
theorem dX7_endRoundIfOver_22 : decode cX7_endRoundIfOver 22 = .ok (.iload_n 1, 1) := by decide +kernel
theorem dX7_endRoundIfOver_23 : decode cX7_endRoundIfOver 23 = .ok (.ifCond .le 21, 3) := by decide +kernel
theorem dX7_endRoundIfOver_26 : decode cX7_endRoundIfOver 26 = .ok (.iload_n 2, 1) := by decide +kernel
theorem dX7_endRoundIfOver_27 : decode cX7_endRoundIfOver 27 = .ok (.ifCond .le 17, 3) := by decide +kernel
theorem dX7_endRoundIfOver_30 : decode cX7_endRoundIfOver 30 = .ok (.aload_n 0, 1) := by decide +kernel
theorem dX7_endRoundIfOver_31 : decode cX7_endRoundIfOver 31 = .ok (.getfield 34, 3) := by decide +kernel
theorem dX7_endRoundIfOver_34 : decode cX7_endRoundIfOver 34 = .ok (.getfield 154, 3) := by decide +kernel
theorem dX7_endRoundIfOver_37 : decode cX7_endRoundIfOver 37 = .ok (.sipush 600, 3) := by decide +kernel
theorem dX7_endRoundIfOver_40 : decode cX7_endRoundIfOver 40 = .ok (.if_icmp .ge 4, 3) := by decide +kernel
theorem dX7_endRoundIfOver_43 : decode cX7_endRoundIfOver 43 = .ok (.return_, 1) := by decide +kernel
theorem dX7_endRoundIfOver_44 : decode cX7_endRoundIfOver 44 = .ok (.aload_n 0, 1) := by decide +kernel
theorem dX7_endRoundIfOver_45 : decode cX7_endRoundIfOver 45 = .ok (.iconst 0, 1) := by decide +kernel
theorem dX7_endRoundIfOver_46 : decode cX7_endRoundIfOver 46 = .ok (.putfield 52, 3) := by decide +kernel
theorem dX7_endRoundIfOver_49 : decode cX7_endRoundIfOver 49 = .ok (.aload_n 0, 1) := by decide +kernel
theorem dX7_endRoundIfOver_50 : decode cX7_endRoundIfOver 50 = .ok (.getfield 41, 3) := by decide +kernel
theorem dX7_endRoundIfOver_53 : decode cX7_endRoundIfOver 53 = .ok (.iload_n 1, 1) := by decide +kernel
theorem dX7_endRoundIfOver_54 : decode cX7_endRoundIfOver 54 = .ok (.iload_n 2, 1) := by decide +kernel
theorem dX7_endRoundIfOver_55 : decode cX7_endRoundIfOver 55 = .ok (.invokevirtual 211, 3) := by decide +kernel
theorem dX7_endRoundIfOver_58 : decode cX7_endRoundIfOver 58 = .ok (.return_, 1) := by decide +kernel
set_option maxRecDepth 20000 in
theorem ggX7_needMove_X5_has : GoodIn wsX7_needMove wsX5_has := goodIn_r _ [8, 9, 18, 19, 20] (by decide +kernel) (by decide +kernel)
set_option maxRecDepth 20000 in
theorem gX7_needMove_X5_has : GoodIn wsX7_needMove (wsV RX7 213 RX5 yX5_has wsX5_has) := goodIn_app (goodIn_of _ (by decide +kernel)) ggX7_needMove_X5_has
theorem dX7_needMove_0 : decode cX7_needMove 0 = .ok (.aload_n 0, 1) := by decide +kernel
theorem dX7_needMove_1 : decode cX7_needMove 1 = .ok (.getfield 10, 3) := by decide +kernel
theorem dX7_needMove_4 : decode cX7_needMove 4 = .ok (.iload_n 1, 1) := by decide +kernel
theorem dX7_needMove_5 : decode cX7_needMove 5 = .ok (.invokevirtual 213, 3) := by decide +kernel
theorem dX7_needMove_8 : decode cX7_needMove 8 = .ok (.ifCond .ne 13, 3) := by decide +kernel
theorem dX7_needMove_11 : decode cX7_needMove 11 = .ok (.new 170, 3) := by decide +kernel
theorem dX7_needMove_14 : decode cX7_needMove 14 = .ok (.dup, 1) := by decide +kernel
theorem dX7_needMove_15 : decode cX7_needMove 15 = .ok (.ldc 216, 2) := by decide +kernel
theorem dX7_needMove_17 : decode cX7_needMove 17 = .ok (.invokespecial 174, 3) := by decide +kernel
theorem dX7_needMove_20 : decode cX7_needMove 20 = .ok (.athrow, 1) := by decide +kernel
theorem dX7_needMove_21 : decode cX7_needMove 21 = .ok (.return_, 1) := by decide +kernel
set_option maxRecDepth 20000 in
theorem ggX7_needInput_X5_has : GoodIn wsX7_needInput wsX5_has := goodIn_r _ [8, 9, 18, 19, 20] (by decide +kernel) (by decide +kernel)
set_option maxRecDepth 20000 in
theorem gX7_needInput_X5_has : GoodIn wsX7_needInput (wsV RX7 213 RX5 yX5_has wsX5_has) := goodIn_app (goodIn_of _ (by decide +kernel)) ggX7_needInput_X5_has
theorem dX7_needInput_0 : decode cX7_needInput 0 = .ok (.iload_n 1, 1) := by decide +kernel
theorem dX7_needInput_1 : decode cX7_needInput 1 = .ok (.ifCond .lt 12, 3) := by decide +kernel
theorem dX7_needInput_4 : decode cX7_needInput 4 = .ok (.iload_n 1, 1) := by decide +kernel
theorem dX7_needInput_5 : decode cX7_needInput 5 = .ok (.iconst 4, 1) := by decide +kernel
theorem dX7_needInput_6 : decode cX7_needInput 6 = .ok (.if_icmp .gt 7, 3) := by decide +kernel
theorem dX7_needInput_9 : decode cX7_needInput 9 = .ok (.iconst 1, 1) := by decide +kernel
theorem dX7_needInput_10 : decode cX7_needInput 10 = .ok (.goto 4, 3) := by decide +kernel
theorem dX7_needInput_13 : decode cX7_needInput 13 = .ok (.iconst 0, 1) := by decide +kernel
theorem dX7_needInput_14 : decode cX7_needInput 14 = .ok (.istore_n 2, 1) := by decide +kernel
theorem dX7_needInput_15 : decode cX7_needInput 15 = .ok (.iload_n 1, 1) := by decide +kernel
theorem dX7_needInput_16 : decode cX7_needInput 16 = .ok (.bipush 10, 2) := by decide +kernel
theorem dX7_needInput_18 : decode cX7_needInput 18 = .ok (.if_icmp .lt 21, 3) := by decide +kernel
theorem dX7_needInput_21 : decode cX7_needInput 21 = .ok (.aload_n 0, 1) := by decide +kernel
theorem dX7_needInput_22 : decode cX7_needInput 22 = .ok (.getfield 10, 3) := by decide +kernel
theorem dX7_needInput_25 : decode cX7_needInput 25 = .ok (.iload_n 1, 1) := by decide +kernel
theorem dX7_needInput_26 : decode cX7_needInput 26 = .ok (.bipush 10, 2) := by decide +kernel
theorem dX7_needInput_28 : decode cX7_needInput 28 = .ok (.isub, 1) := by decide +kernel
theorem dX7_needInput_29 : decode cX7_needInput 29 = .ok (.invokevirtual 213, 3) := by decide +kernel
theorem dX7_needInput_32 : decode cX7_needInput 32 = .ok (.ifCond .eq 7, 3) := by decide +kernel
theorem dX7_needInput_35 : decode cX7_needInput 35 = .ok (.iconst 1, 1) := by decide +kernel
theorem dX7_needInput_36 : decode cX7_needInput 36 = .ok (.goto 4, 3) := by decide +kernel
theorem dX7_needInput_39 : decode cX7_needInput 39 = .ok (.iconst 0, 1) := by decide +kernel
theorem dX7_needInput_40 : decode cX7_needInput 40 = .ok (.istore_n 3, 1) := by decide +kernel
theorem dX7_needInput_41 : decode cX7_needInput 41 = .ok (.iload_n 2, 1) := by decide +kernel
theorem dX7_needInput_42 : decode cX7_needInput 42 = .ok (.ifCond .ne 17, 3) := by decide +kernel
theorem dX7_needInput_45 : decode cX7_needInput 45 = .ok (.iload_n 3, 1) := by decide +kernel
theorem dX7_needInput_46 : decode cX7_needInput 46 = .ok (.ifCond .ne 13, 3) := by decide +kernel
theorem dX7_needInput_49 : decode cX7_needInput 49 = .ok (.new 104, 3) := by decide +kernel
theorem dX7_needInput_52 : decode cX7_needInput 52 = .ok (.dup, 1) := by decide +kernel
theorem dX7_needInput_53 : decode cX7_needInput 53 = .ok (.ldc 218, 2) := by decide +kernel
theorem dX7_needInput_55 : decode cX7_needInput 55 = .ok (.invokespecial 108, 3) := by decide +kernel
theorem dX7_needInput_58 : decode cX7_needInput 58 = .ok (.athrow, 1) := by decide +kernel
theorem dX7_needInput_59 : decode cX7_needInput 59 = .ok (.return_, 1) := by decide +kernel
theorem dX7_needNoRound_0 : decode cX7_needNoRound 0 = .ok (.aload_n 0, 1) := by decide +kernel
theorem dX7_needNoRound_1 : decode cX7_needNoRound 1 = .ok (.getfield 52, 3) := by decide +kernel
theorem dX7_needNoRound_4 : decode cX7_needNoRound 4 = .ok (.ifCond .eq 13, 3) := by decide +kernel
theorem dX7_needNoRound_7 : decode cX7_needNoRound 7 = .ok (.new 67, 3) := by decide +kernel
theorem dX7_needNoRound_10 : decode cX7_needNoRound 10 = .ok (.dup, 1) := by decide +kernel
theorem dX7_needNoRound_11 : decode cX7_needNoRound 11 = .ok (.ldc 220, 2) := by decide +kernel
theorem dX7_needNoRound_13 : decode cX7_needNoRound 13 = .ok (.invokespecial 71, 3) := by decide +kernel
theorem dX7_needNoRound_16 : decode cX7_needNoRound 16 = .ok (.athrow, 1) := by decide +kernel
theorem dX7_needNoRound_17 : decode cX7_needNoRound 17 = .ok (.return_, 1) := by decide +kernel
theorem dX7_needFigure_0 : decode cX7_needFigure 0 = .ok (.iload_n 0, 1) := by decide +kernel
theorem dX7_needFigure_1 : decode cX7_needFigure 1 = .ok (.ifCond .eq 18, 3) := by decide +kernel
theorem dX7_needFigure_4 : decode cX7_needFigure 4 = .ok (.iload_n 0, 1) := by decide +kernel
theorem dX7_needFigure_5 : decode cX7_needFigure 5 = .ok (.iconst 1, 1) := by decide +kernel
theorem dX7_needFigure_6 : decode cX7_needFigure 6 = .ok (.if_icmp .eq 13, 3) := by decide +kernel
theorem dX7_needFigure_9 : decode cX7_needFigure 9 = .ok (.new 170, 3) := by decide +kernel
theorem dX7_needFigure_12 : decode cX7_needFigure 12 = .ok (.dup, 1) := by decide +kernel
theorem dX7_needFigure_13 : decode cX7_needFigure 13 = .ok (.ldc 222, 2) := by decide +kernel
theorem dX7_needFigure_15 : decode cX7_needFigure 15 = .ok (.invokespecial 174, 3) := by decide +kernel
theorem dX7_needFigure_18 : decode cX7_needFigure 18 = .ok (.athrow, 1) := by decide +kernel
theorem dX7_needFigure_19 : decode cX7_needFigure 19 = .ok (.return_, 1) := by decide +kernel
theorem dX7_needWithin_0 : decode cX7_needWithin 0 = .ok (.iload_n 0, 1) := by decide +kernel
theorem dX7_needWithin_1 : decode cX7_needWithin 1 = .ok (.iload_n 1, 1) := by decide +kernel
theorem dX7_needWithin_2 : decode cX7_needWithin 2 = .ok (.if_icmp .lt 8, 3) := by decide +kernel
theorem dX7_needWithin_5 : decode cX7_needWithin 5 = .ok (.iload_n 0, 1) := by decide +kernel
theorem dX7_needWithin_6 : decode cX7_needWithin 6 = .ok (.iload_n 2, 1) := by decide +kernel
theorem dX7_needWithin_7 : decode cX7_needWithin 7 = .ok (.if_icmp .le 13, 3) := by decide +kernel
theorem dX7_needWithin_10 : decode cX7_needWithin 10 = .ok (.new 104, 3) := by decide +kernel
theorem dX7_needWithin_13 : decode cX7_needWithin 13 = .ok (.dup, 1) := by decide +kernel
theorem dX7_needWithin_14 : decode cX7_needWithin 14 = .ok (.ldc 224, 2) := by decide +kernel
theorem dX7_needWithin_16 : decode cX7_needWithin 16 = .ok (.invokespecial 108, 3) := by decide +kernel
theorem dX7_needWithin_19 : decode cX7_needWithin 19 = .ok (.athrow, 1) := by decide +kernel
theorem dX7_needWithin_20 : decode cX7_needWithin 20 = .ok (.return_, 1) := by decide +kernel
theorem dX7_inputOf_0 : decode cX7_inputOf 0 = .ok (.bipush 10, 2) := by decide +kernel
theorem dX7_inputOf_2 : decode cX7_inputOf 2 = .ok (.iload_n 0, 1) := by decide +kernel
theorem dX7_inputOf_3 : decode cX7_inputOf 3 = .ok (.iadd, 1) := by decide +kernel
theorem dX7_inputOf_4 : decode cX7_inputOf 4 = .ok (.ireturn, 1) := by decide +kernel
theorem dJ9_max_7cf53_0 : decode cJ9_max_7cf53 0 = .ok (.iload_n 0, 1) := by decide +kernel
theorem dJ9_max_7cf53_1 : decode cJ9_max_7cf53 1 = .ok (.iload_n 1, 1) := by decide +kernel
theorem dJ9_max_7cf53_2 : decode cJ9_max_7cf53 2 = .ok (.if_icmp .lt 7, 3) := by decide +kernel
theorem dJ9_max_7cf53_5 : decode cJ9_max_7cf53 5 = .ok (.iload_n 0, 1) := by decide +kernel
theorem dJ9_max_7cf53_6 : decode cJ9_max_7cf53 6 = .ok (.goto 4, 3) := by decide +kernel
theorem dJ9_max_7cf53_9 : decode cJ9_max_7cf53 9 = .ok (.iload_n 1, 1) := by decide +kernel
theorem dJ9_max_7cf53_10 : decode cJ9_max_7cf53 10 = .ok (.ireturn, 1) := by decide +kernel
theorem dJ9_min_7cf53_0 : decode cJ9_min_7cf53 0 = .ok (.iload_n 0, 1) := by decide +kernel
theorem dJ9_min_7cf53_1 : decode cJ9_min_7cf53 1 = .ok (.iload_n 1, 1) := by decide +kernel
theorem dJ9_min_7cf53_2 : decode cJ9_min_7cf53 2 = .ok (.if_icmp .gt 7, 3) := by decide +kernel
theorem dJ9_min_7cf53_5 : decode cJ9_min_7cf53 5 = .ok (.iload_n 0, 1) := by decide +kernel
theorem dJ9_min_7cf53_6 : decode cJ9_min_7cf53 6 = .ok (.goto 4, 3) := by decide +kernel
theorem dJ9_min_7cf53_9 : decode cJ9_min_7cf53 9 = .ok (.iload_n 1, 1) := by decide +kernel
theorem dJ9_min_7cf53_10 : decode cJ9_min_7cf53 10 = .ok (.ireturn, 1) := by decide +kernel
