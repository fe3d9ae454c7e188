theorem dX2_endFrameOfMove_2 : decode cX2_endFrameOfMove 2 = .ok (.getfield 30, 3) := by decide +kernel
theorem dX2_endFrameOfMove_5 : decode cX2_endFrameOfMove 5 = .ok (.iconst 1, 1) := by decide +kernel
theorem dX2_endFrameOfMove_6 : decode cX2_endFrameOfMove 6 = .ok (.iadd, 1) := by decide +kernel
theorem dX2_endFrameOfMove_7 : decode cX2_endFrameOfMove 7 = .ok (.putfield 30, 3) := by decide +kernel
theorem dX2_endFrameOfMove_10 : decode cX2_endFrameOfMove 10 = .ok (.aload_n 0, 1) := by decide +kernel
theorem dX2_endFrameOfMove_11 : decode cX2_endFrameOfMove 11 = .ok (.getfield 33, 3) := by decide +kernel
theorem dX2_endFrameOfMove_14 : decode cX2_endFrameOfMove 14 = .ok (.iconst (-1), 1) := by decide +kernel
theorem dX2_endFrameOfMove_15 : decode cX2_endFrameOfMove 15 = .ok (.if_icmp .eq 13, 3) := by decide +kernel
theorem dX2_endFrameOfMove_18 : decode cX2_endFrameOfMove 18 = .ok (.aload_n 0, 1) := by decide +kernel
theorem dX2_endFrameOfMove_19 : decode cX2_endFrameOfMove 19 = .ok (.dup, 1) := by decide +kernel
theorem dX2_endFrameOfMove_20 : decode cX2_endFrameOfMove 20 = .ok (.getfield 33, 3) := by decide +kernel
theorem dX2_endFrameOfMove_23 : decode cX2_endFrameOfMove 23 = .ok (.iconst 1, 1) := by decide +kernel
theorem dX2_endFrameOfMove_24 : decode cX2_endFrameOfMove 24 = .ok (.iadd, 1) := by decide +kernel
theorem dX2_endFrameOfMove_25 : decode cX2_endFrameOfMove 25 = .ok (.putfield 33, 3) := by decide +kernel
theorem dX2_endFrameOfMove_28 : decode cX2_endFrameOfMove 28 = .ok (.aload_n 0, 1) := by decide +kernel
theorem dX2_endFrameOfMove_29 : decode cX2_endFrameOfMove 29 = .ok (.getfield 30, 3) := by decide +kernel
theorem dX2_endFrameOfMove_32 : decode cX2_endFrameOfMove 32 = .ok (.iload_n 1, 1) := by decide +kernel
theorem dX2_endFrameOfMove_33 : decode cX2_endFrameOfMove 33 = .ok (.if_icmp .lt 7, 3) := by decide +kernel
theorem dX2_endFrameOfMove_36 : decode cX2_endFrameOfMove 36 = .ok (.aload_n 0, 1) := by decide +kernel
theorem dX2_endFrameOfMove_37 : decode cX2_endFrameOfMove 37 = .ok (.invokevirtual 61, 3) := by decide +kernel
theorem dX2_endFrameOfMove_40 : decode cX2_endFrameOfMove 40 = .ok (.return_, 1) := by decide +kernel
set_option maxRecDepth 20000 in
theorem ggX3_init_X1_init : GoodIn wsX3_init wsX1_init := goodIn_r _ [17, 18, 2, 3, 19, 20, 21, 22, 23, 24, 25, 26, 27, 28, 29, 30, 31, 32, 33, 34, 35, 36, 37, 38, 39, 40, 41, 42, 43, 44, 55, 56, 57, 58, 59, 60, 61, 62, 63, 64, 65, 66, 67, 68, 69, 70, 52, 53, 54] (by decide +kernel) (by decide +kernel)
set_option maxRecDepth 20000 in
theorem gX3_init_X1_init : GoodIn wsX3_init (wsX1_init) := ggX3_init_X1_init
theorem dX3_init_0 : decode cX3_init 0 = .ok (.aload_n 0, 1) := by decide +kernel
theorem dX3_init_1 : decode cX3_init 1 = .ok (.invokespecial 3, 3) := by decide +kernel
theorem dX3_init_4 : decode cX3_init 4 = .ok (.aload_n 0, 1) := by decide +kernel
theorem dX3_init_5 : decode cX3_init 5 = .ok (.iconst 0, 1) := by decide +kernel
theorem dX3_init_6 : decode cX3_init 6 = .ok (.putfield 9, 3) := by decide +kernel
theorem dX3_init_9 : decode cX3_init 9 = .ok (.aload_n 0, 1) := by decide +kernel
theorem dX3_init_10 : decode cX3_init 10 = .ok (.iconst 5, 1) := by decide +kernel
theorem dX3_init_11 : decode cX3_init 11 = .ok (.anewarray 15, 3) := by decide +kernel
theorem dX3_init_14 : decode cX3_init 14 = .ok (.putfield 17, 3) := by decide +kernel
theorem dX3_init_17 : decode cX3_init 17 = .ok (.aload_n 0, 1) := by decide +kernel
theorem dX3_init_18 : decode cX3_init 18 = .ok (.iconst 4, 1) := by decide +kernel
theorem dX3_init_19 : decode cX3_init 19 = .ok (.newarray .int, 2) := by decide +kernel
theorem dX3_init_21 : decode cX3_init 21 = .ok (.putfield 21, 3) := by decide +kernel
theorem dX3_init_24 : decode cX3_init 24 = .ok (.aload_n 0, 1) := by decide +kernel
theorem dX3_init_25 : decode cX3_init 25 = .ok (.iconst 4, 1) := by decide +kernel
theorem dX3_init_26 : decode cX3_init 26 = .ok (.newarray .int, 2) := by decide +kernel
theorem dX3_init_28 : decode cX3_init 28 = .ok (.putfield 25, 3) := by decide +kernel
theorem dX3_init_31 : decode cX3_init 31 = .ok (.aload_n 0, 1) := by decide +kernel
theorem dX3_init_32 : decode cX3_init 32 = .ok (.iconst 0, 1) := by decide +kernel
theorem dX3_init_33 : decode cX3_init 33 = .ok (.putfield 28, 3) := by decide +kernel
theorem dX3_init_36 : decode cX3_init 36 = .ok (.aload_n 0, 1) := by decide +kernel
theorem dX3_init_37 : decode cX3_init 37 = .ok (.aload_n 1, 1) := by decide +kernel
theorem dX3_init_38 : decode cX3_init 38 = .ok (.putfield 31, 3) := by decide +kernel
theorem dX3_init_41 : decode cX3_init 41 = .ok (.aload_n 0, 1) := by decide +kernel
theorem dX3_init_42 : decode cX3_init 42 = .ok (.new 15, 3) := by decide +kernel
theorem dX3_init_45 : decode cX3_init 45 = .ok (.dup, 1) := by decide +kernel
theorem dX3_init_46 : decode cX3_init 46 = .ok (.aload_n 1, 1) := by decide +kernel
theorem dX3_init_47 : decode cX3_init 47 = .ok (.invokespecial 35, 3) := by decide +kernel
theorem dX3_init_50 : decode cX3_init 50 = .ok (.putfield 38, 3) := by decide +kernel
theorem dX3_init_53 : decode cX3_init 53 = .ok (.iconst 0, 1) := by decide +kernel
theorem dX3_init_54 : decode cX3_init 54 = .ok (.istore_n 2, 1) := by decide +kernel
theorem dX3_init_55 : decode cX3_init 55 = .ok (.iload_n 2, 1) := by decide +kernel
theorem dX3_init_56 : decode cX3_init 56 = .ok (.iconst 4, 1) := by decide +kernel
theorem dX3_init_57 : decode cX3_init 57 = .ok (.if_icmp .gt 23, 3) := by decide +kernel
theorem dX3_init_60 : decode cX3_init 60 = .ok (.aload_n 0, 1) := by decide +kernel
theorem dX3_init_61 : decode cX3_init 61 = .ok (.getfield 17, 3) := by decide +kernel
theorem dX3_init_64 : decode cX3_init 64 = .ok (.iload_n 2, 1) := by decide +kernel
theorem dX3_init_65 : decode cX3_init 65 = .ok (.new 15, 3) := by decide +kernel
theorem dX3_init_68 : decode cX3_init 68 = .ok (.dup, 1) := by decide +kernel
theorem dX3_init_69 : decode cX3_init 69 = .ok (.aload_n 1, 1) := by decide +kernel
theorem dX3_init_70 : decode cX3_init 70 = .ok (.invokespecial 35, 3) := by decide +kernel
theorem dX3_init_73 : decode cX3_init 73 = .ok (.aastore, 1) := by decide +kernel
theorem dX3_init_74 : decode cX3_init 74 = .ok (.iinc 2 1, 3) := by decide +kernel
theorem dX3_init_77 : decode cX3_init 77 = .ok (.goto (-22), 3) := by decide +kernel
theorem dX3_init_80 : decode cX3_init 80 = .ok (.return_, 1) := by decide +kernel
set_option maxRecDepth 20000 in
theorem ggX3_inputToBlock_X5_at : GoodIn wsX3_inputToBlock wsX5_at := goodIn_r _ [8, 9, 10, 26, 27, 28] (by decide +kernel) (by decide +kernel)
set_option maxRecDepth 20000 in
theorem gX3_inputToBlock_X5_at : GoodIn wsX3_inputToBlock (wsV RX3 70 RX5 yX5_at wsX5_at) := goodIn_app (goodIn_of _ (by decide +kernel)) ggX3_inputToBlock_X5_at
theorem dX3_inputToBlock_0 : decode cX3_inputToBlock 0 = .ok (.iload_n 2, 1) := by decide +kernel
theorem dX3_inputToBlock_1 : decode cX3_inputToBlock 1 = .ok (.aload_n 0, 1) := by decide +kernel
theorem dX3_inputToBlock_2 : decode cX3_inputToBlock 2 = .ok (.getfield 31, 3) := by decide +kernel
theorem dX3_inputToBlock_5 : decode cX3_inputToBlock 5 = .ok (.iload_n 1, 1) := by decide +kernel
theorem dX3_inputToBlock_6 : decode cX3_inputToBlock 6 = .ok (.invokevirtual 70, 3) := by decide +kernel
theorem dX3_inputToBlock_9 : decode cX3_inputToBlock 9 = .ok (.getfield 76, 3) := by decide +kernel
theorem dX3_inputToBlock_12 : decode cX3_inputToBlock 12 = .ok (.if_icmp .gt 5, 3) := by decide +kernel
theorem dX3_inputToBlock_15 : decode cX3_inputToBlock 15 = .ok (.iconst 0, 1) := by decide +kernel
theorem dX3_inputToBlock_16 : decode cX3_inputToBlock 16 = .ok (.ireturn, 1) := by decide +kernel
theorem dX3_inputToBlock_17 : decode cX3_inputToBlock 17 = .ok (.aload_n 0, 1) := by decide +kernel
theorem dX3_inputToBlock_18 : decode cX3_inputToBlock 18 = .ok (.getfield 31, 3) := by decide +kernel
theorem dX3_inputToBlock_21 : decode cX3_inputToBlock 21 = .ok (.iload_n 1, 1) := by decide +kernel
theorem dX3_inputToBlock_22 : decode cX3_inputToBlock 22 = .ok (.invokevirtual 70, 3) := by decide +kernel
theorem dX3_inputToBlock_25 : decode cX3_inputToBlock 25 = .ok (.getfield 81, 3) := by decide +kernel
theorem dX3_inputToBlock_28 : decode cX3_inputToBlock 28 = .ok (.iconst 1, 1) := by decide +kernel
theorem dX3_inputToBlock_29 : decode cX3_inputToBlock 29 = .ok (.if_icmp .ne 7, 3) := by decide +kernel
theorem dX3_inputToBlock_32 : decode cX3_inputToBlock 32 = .ok (.iconst 4, 1) := by decide +kernel
theorem dX3_inputToBlock_33 : decode cX3_inputToBlock 33 = .ok (.goto 4, 3) := by decide +kernel
theorem dX3_inputToBlock_36 : decode cX3_inputToBlock 36 = .ok (.iconst 2, 1) := by decide +kernel
theorem dX3_inputToBlock_37 : decode cX3_inputToBlock 37 = .ok (.ireturn, 1) := by decide +kernel
set_option maxRecDepth 20000 in
theorem ggX3_lossOfPunished_X1_prepare : GoodIn wsX3_lossOfPunished wsX1_prepare := goodIn_r _ [10, 11, 12, 13, 14, 15, 16, 17, 18, 19, 20, 21, 22, 23, 24, 25, 26, 27, 28, 29, 30, 31, 32, 33, 34, 35, 36, 37, 38, 39, 40, 192, 193, 194, 195, 196, 197, 198, 199, 200, 201, 202, 203, 204, 205, 206, 207, 208, 209, 210] (by decide +kernel) (by decide +kernel)
set_option maxRecDepth 20000 in
theorem gX3_lossOfPunished_X1_prepare : GoodIn wsX3_lossOfPunished (wsV RX3 42 RX1 yX1_prepare wsX1_prepare) := goodIn_app (goodIn_of _ (by decide +kernel)) ggX3_lossOfPunished_X1_prepare
set_option maxRecDepth 20000 in
theorem ggX3_lossOfPunished_X3_inputToBlock : GoodIn wsX3_lossOfPunished wsX3_inputToBlock := goodIn_r _ [45, 46, 47, 48, 49, 50, 51, 52, 53, 54, 55, 185, 186, 187, 188, 189, 190, 191, 211, 212, 213, 214, 215, 216, 217, 218, 219, 220, 221] (by decide +kernel) (by decide +kernel)
set_option maxRecDepth 20000 in
theorem gX3_lossOfPunished_X3_inputToBlock : GoodIn wsX3_lossOfPunished (wsV RX3 50 RX3 yX3_inputToBlock wsX3_inputToBlock) := goodIn_app (goodIn_of _ (by decide +kernel)) ggX3_lossOfPunished_X3_inputToBlock
set_option maxRecDepth 20000 in
theorem ggX3_lossOfPunished_X7_inputOf : GoodIn wsX3_lossOfPunished wsX7_inputOf := goodIn_r _ [58] (by decide +kernel) (by decide +kernel)
set_option maxRecDepth 20000 in
theorem gX3_lossOfPunished_X7_inputOf_n46 : GoodIn wsX3_lossOfPunished (wsX7_inputOf) := ggX3_lossOfPunished_X7_inputOf
set_option maxRecDepth 20000 in
theorem ggX3_lossOfPunished_X1_playFrame : GoodIn wsX3_lossOfPunished wsX1_playFrame := goodIn_r _ [62, 11, 12, 63, 64, 65, 66, 16, 67, 68, 69, 39, 40, 70, 71, 72, 73, 19, 26, 32, 33, 34, 74, 50, 51, 52, 53, 54, 55, 75, 76, 77, 78, 79, 80, 81, 82, 83, 84, 85, 86, 87, 88, 89, 35, 36, 37, 38, 90, 91, 92, 9, 93, 94, 95, 96, 97, 98, 99, 100, 101, 102, 103, 104, 105, 18, 106, 107, 108, 109, 110, 111, 112, 113, 114, 115, 116, 117, 118, 119, 120, 121, 122, 123, 124, 125, 126, 127, 128, 129, 130, 131, 132, 133, 134, 135, 136, 137, 138, 139, 140, 141, 142, 143, 144, 145, 146, 147, 148, 21, 149, 150, 151, 152, 153, 154, 155, 156, 157, 158, 159, 160, 161, 162, 163, 164, 165, 166, 20, 167, 27, 168, 169, 170, 171, 28, 29, 30, 31, 172, 173, 174, 175, 176, 177, 178, 179, 180, 181, 182, 183, 184, 22, 23, 24, 25, 192, 193, 194, 195, 196, 197, 198, 199, 200, 201, 202, 203, 204, 205, 206, 207, 208, 209, 210, 219, 220, 221, 211, 212, 213, 214, 215, 216, 217, 218] (by decide +kernel) (by decide +kernel)
set_option maxRecDepth 20000 in
theorem gX3_lossOfPunished_X1_playFrame : GoodIn wsX3_lossOfPunished (wsV RX3 54 RX1 yX1_playFrame wsX1_playFrame) := goodIn_app (goodIn_of _ (by decide +kernel)) ggX3_lossOfPunished_X1_playFrame
theorem dX3_lossOfPunished_0 : decode cX3_lossOfPunished 0 = .ok (.iconst 0, 1) := by decide +kernel
theorem dX3_lossOfPunished_1 : decode cX3_lossOfPunished 1 = .ok (.istore 4, 2) := by decide +kernel
theorem dX3_lossOfPunished_3 : decode cX3_lossOfPunished 3 = .ok (.iconst 0, 1) := by decide +kernel
theorem dX3_lossOfPunished_4 : decode cX3_lossOfPunished 4 = .ok (.istore 5, 2) := by decide +kernel
theorem dX3_lossOfPunished_6 : decode cX3_lossOfPunished 6 = .ok (.aload_n 0, 1) := by decide +kernel
theorem dX3_lossOfPunished_7 : decode cX3_lossOfPunished 7 = .ok (.getfield 38, 3) := by decide +kernel
theorem dX3_lossOfPunished_10 : decode cX3_lossOfPunished 10 = .ok (.bipush 20, 2) := by decide +kernel
theorem dX3_lossOfPunished_12 : decode cX3_lossOfPunished 12 = .ok (.bipush 100, 2) := by decide +kernel
theorem dX3_lossOfPunished_14 : decode cX3_lossOfPunished 14 = .ok (.bipush 100, 2) := by decide +kernel
theorem dX3_lossOfPunished_16 : decode cX3_lossOfPunished 16 = .ok (.invokevirtual 42, 3) := by decide +kernel
theorem dX3_lossOfPunished_19 : decode cX3_lossOfPunished 19 = .ok (.iconst 1, 1) := by decide +kernel
theorem dX3_lossOfPunished_20 : decode cX3_lossOfPunished 20 = .ok (.istore 6, 2) := by decide +kernel
theorem dX3_lossOfPunished_22 : decode cX3_lossOfPunished 22 = .ok (.iload 6, 2) := by decide +kernel
theorem dX3_lossOfPunished_24 : decode cX3_lossOfPunished 24 = .ok (.sipush 200, 3) := by decide +kernel
theorem dX3_lossOfPunished_27 : decode cX3_lossOfPunished 27 = .ok (.if_icmp .gt 108, 3) := by decide +kernel
theorem dX3_lossOfPunished_30 : decode cX3_lossOfPunished 30 = .ok (.iload 5, 2) := by decide +kernel
theorem dX3_lossOfPunished_32 : decode cX3_lossOfPunished 32 = .ok (.ifCond .eq 7, 3) := by decide +kernel
theorem dX3_lossOfPunished_35 : decode cX3_lossOfPunished 35 = .ok (.iconst 0, 1) := by decide +kernel
theorem dX3_lossOfPunished_36 : decode cX3_lossOfPunished 36 = .ok (.goto 10, 3) := by decide +kernel
theorem dX3_lossOfPunished_39 : decode cX3_lossOfPunished 39 = .ok (.aload_n 0, 1) := by decide +kernel
theorem dX3_lossOfPunished_40 : decode cX3_lossOfPunished 40 = .ok (.iload_n 1, 1) := by decide +kernel
theorem dX3_lossOfPunished_41 : decode cX3_lossOfPunished 41 = .ok (.iload 6, 2) := by decide +kernel
theorem dX3_lossOfPunished_43 : decode cX3_lossOfPunished 43 = .ok (.invokevirtual 50, 3) := by decide +kernel
theorem dX3_lossOfPunished_46 : decode cX3_lossOfPunished 46 = .ok (.istore 7, 2) := by decide +kernel
theorem dX3_lossOfPunished_48 : decode cX3_lossOfPunished 48 = .ok (.iload 4, 2) := by decide +kernel
theorem dX3_lossOfPunished_50 : decode cX3_lossOfPunished 50 = .ok (.ifCond .eq 30, 3) := by decide +kernel
theorem dX3_lossOfPunished_53 : decode cX3_lossOfPunished 53 = .ok (.iload 5, 2) := by decide +kernel
theorem dX3_lossOfPunished_55 : decode cX3_lossOfPunished 55 = .ok (.ifCond .ne 25, 3) := by decide +kernel
theorem dX3_lossOfPunished_58 : decode cX3_lossOfPunished 58 = .ok (.aload_n 0, 1) := by decide +kernel
theorem dX3_lossOfPunished_59 : decode cX3_lossOfPunished 59 = .ok (.getfield 38, 3) := by decide +kernel
theorem dX3_lossOfPunished_62 : decode cX3_lossOfPunished 62 = .ok (.getfield 67, 3) := by decide +kernel
theorem dX3_lossOfPunished_65 : decode cX3_lossOfPunished 65 = .ok (.getfield 62, 3) := by decide +kernel
theorem dX3_lossOfPunished_68 : decode cX3_lossOfPunished 68 = .ok (.ifCond .ne 12, 3) := by decide +kernel
theorem dX3_lossOfPunished_71 : decode cX3_lossOfPunished 71 = .ok (.iload_n 2, 1) := by decide +kernel
theorem dX3_lossOfPunished_72 : decode cX3_lossOfPunished 72 = .ok (.invokestatic 46, 3) := by decide +kernel
theorem dX3_lossOfPunished_75 : decode cX3_lossOfPunished 75 = .ok (.istore 7, 2) := by decide +kernel
theorem dX3_lossOfPunished_77 : decode cX3_lossOfPunished 77 = .ok (.iconst 1, 1) := by decide +kernel
theorem dX3_lossOfPunished_78 : decode cX3_lossOfPunished 78 = .ok (.istore 5, 2) := by decide +kernel
theorem dX3_lossOfPunished_80 : decode cX3_lossOfPunished 80 = .ok (.aload_n 0, 1) := by decide +kernel
theorem dX3_lossOfPunished_81 : decode cX3_lossOfPunished 81 = .ok (.getfield 38, 3) := by decide +kernel
theorem dX3_lossOfPunished_84 : decode cX3_lossOfPunished 84 = .ok (.iload 6, 2) := by decide +kernel
theorem dX3_lossOfPunished_86 : decode cX3_lossOfPunished 86 = .ok (.iconst 1, 1) := by decide +kernel
theorem dX3_lossOfPunished_87 : decode cX3_lossOfPunished 87 = .ok (.if_icmp .ne 10, 3) := by decide +kernel
theorem dX3_lossOfPunished_90 : decode cX3_lossOfPunished 90 = .ok (.iload_n 1, 1) := by decide +kernel
theorem dX3_lossOfPunished_91 : decode cX3_lossOfPunished 91 = .ok (.invokestatic 46, 3) := by decide +kernel
theorem dX3_lossOfPunished_94 : decode cX3_lossOfPunished 94 = .ok (.goto 4, 3) := by decide +kernel
theorem dX3_lossOfPunished_97 : decode cX3_lossOfPunished 97 = .ok (.iload_n 3, 1) := by decide +kernel
theorem dX3_lossOfPunished_98 : decode cX3_lossOfPunished 98 = .ok (.iload 7, 2) := by decide +kernel
theorem dX3_lossOfPunished_100 : decode cX3_lossOfPunished 100 = .ok (.invokevirtual 54, 3) := by decide +kernel
theorem dX3_lossOfPunished_103 : decode cX3_lossOfPunished 103 = .ok (.iload 4, 2) := by decide +kernel
theorem dX3_lossOfPunished_105 : decode cX3_lossOfPunished 105 = .ok (.ifCond .ne 17, 3) := by decide +kernel
theorem dX3_lossOfPunished_108 : decode cX3_lossOfPunished 108 = .ok (.aload_n 0, 1) := by decide +kernel
theorem dX3_lossOfPunished_109 : decode cX3_lossOfPunished 109 = .ok (.getfield 38, 3) := by decide +kernel
theorem dX3_lossOfPunished_112 : decode cX3_lossOfPunished 112 = .ok (.getfield 67, 3) := by decide +kernel
theorem dX3_lossOfPunished_115 : decode cX3_lossOfPunished 115 = .ok (.getfield 62, 3) := by decide +kernel
theorem dX3_lossOfPunished_118 : decode cX3_lossOfPunished 118 = .ok (.iconst 3, 1) := by decide +kernel
theorem dX3_lossOfPunished_119 : decode cX3_lossOfPunished 119 = .ok (.if_icmp .ne 7, 3) := by decide +kernel
theorem dX3_lossOfPunished_122 : decode cX3_lossOfPunished 122 = .ok (.iconst 1, 1) := by decide +kernel
theorem dX3_lossOfPunished_123 : decode cX3_lossOfPunished 123 = .ok (.goto 4, 3) := by decide +kernel
theorem dX3_lossOfPunished_126 : decode cX3_lossOfPunished 126 = .ok (.iconst 0, 1) := by decide +kernel
theorem dX3_lossOfPunished_127 : decode cX3_lossOfPunished 127 = .ok (.istore 4, 2) := by decide +kernel
theorem dX3_lossOfPunished_129 : decode cX3_lossOfPunished 129 = .ok (.iinc 6 1, 3) := by decide +kernel
theorem dX3_lossOfPunished_132 : decode cX3_lossOfPunished 132 = .ok (.goto (-110), 3) := by decide +kernel
theorem dX3_lossOfPunished_135 : decode cX3_lossOfPunished 135 = .ok (.sipush 1000, 3) := by decide +kernel
theorem dX3_lossOfPunished_138 : decode cX3_lossOfPunished 138 = .ok (.aload_n 0, 1) := by decide +kernel
theorem dX3_lossOfPunished_139 : decode cX3_lossOfPunished 139 = .ok (.getfield 38, 3) := by decide +kernel
theorem dX3_lossOfPunished_142 : decode cX3_lossOfPunished 142 = .ok (.getfield 58, 3) := by decide +kernel
theorem dX3_lossOfPunished_145 : decode cX3_lossOfPunished 145 = .ok (.getfield 84, 3) := by decide +kernel
theorem dX3_lossOfPunished_148 : decode cX3_lossOfPunished 148 = .ok (.isub, 1) := by decide +kernel
theorem dX3_lossOfPunished_149 : decode cX3_lossOfPunished 149 = .ok (.ireturn, 1) := by decide +kernel
set_option maxRecDepth 20000 in
theorem ggX3_clearRows_X1_prepare : GoodIn wsX3_clearRows wsX1_prepare := goodIn_r _ [8, 9, 10, 11, 12, 13, 14, 15, 16, 17, 18, 19, 20, 21, 22, 23, 24, 25, 26, 27, 28, 29, 30, 31, 32, 33, 34, 35, 36, 37, 38, 46, 47, 48, 49, 50, 51, 52, 53, 54, 55, 56, 57, 58, 59, 60, 61, 62, 63, 64] (by decide +kernel) (by decide +kernel)
set_option maxRecDepth 20000 in
theorem gX3_clearRows_X1_prepare : GoodIn wsX3_clearRows (wsV RX3 42 RX1 yX1_prepare wsX1_prepare) := goodIn_app (goodIn_of _ (by decide +kernel)) ggX3_clearRows_X1_prepare
theorem dX3_clearRows_0 : decode cX3_clearRows 0 = .ok (.aload_n 0, 1) := by decide +kernel
theorem dX3_clearRows_1 : decode cX3_clearRows 1 = .ok (.iconst 0, 1) := by decide +kernel
theorem dX3_clearRows_2 : decode cX3_clearRows 2 = .ok (.putfield 9, 3) := by decide +kernel
theorem dX3_clearRows_5 : decode cX3_clearRows 5 = .ok (.aload_n 0, 1) := by decide +kernel
theorem dX3_clearRows_6 : decode cX3_clearRows 6 = .ok (.iconst 0, 1) := by decide +kernel
theorem dX3_clearRows_7 : decode cX3_clearRows 7 = .ok (.putfield 28, 3) := by decide +kernel
theorem dX3_clearRows_10 : decode cX3_clearRows 10 = .ok (.aload_n 0, 1) := by decide +kernel
theorem dX3_clearRows_11 : decode cX3_clearRows 11 = .ok (.getfield 17, 3) := by decide +kernel
theorem dX3_clearRows_14 : decode cX3_clearRows 14 = .ok (.iconst 0, 1) := by decide +kernel
theorem dX3_clearRows_15 : decode cX3_clearRows 15 = .ok (.aaload, 1) := by decide +kernel
theorem dX3_clearRows_16 : decode cX3_clearRows 16 = .ok (.bipush 20, 2) := by decide +kernel
theorem dX3_clearRows_18 : decode cX3_clearRows 18 = .ok (.iload_n 1, 1) := by decide +kernel
theorem dX3_clearRows_19 : decode cX3_clearRows 19 = .ok (.bipush 100, 2) := by decide +kernel
theorem dX3_clearRows_21 : decode cX3_clearRows 21 = .ok (.invokevirtual 42, 3) := by decide +kernel
theorem dX3_clearRows_24 : decode cX3_clearRows 24 = .ok (.return_, 1) := by decide +kernel
set_option maxRecDepth 20000 in
theorem ggX3_addHit_X1_copy : GoodIn wsX3_addHit wsX1_copy := goodIn_r _ [11, 12, 13, 14, 15, 16, 17, 18, 19, 20, 21, 22, 23, 24, 25, 26, 27, 28, 29, 204, 205, 206, 207, 208, 209, 210, 211, 212, 213, 214, 215, 216, 217, 218, 219, 220, 221, 222] (by decide +kernel) (by decide +kernel)
set_option maxRecDepth 20000 in
theorem gX3_addHit_X1_copy : GoodIn wsX3_addHit (wsV RX3 87 RX1 yX1_copy wsX1_copy) := goodIn_app (goodIn_of _ (by decide +kernel)) ggX3_addHit_X1_copy
set_option maxRecDepth 20000 in
theorem ggX3_addHit_X3_hitsWith : GoodIn wsX3_addHit wsX3_hitsWith := goodIn_r _ [33, 3, 34, 35, 36, 37, 38, 39, 40, 41, 42, 10, 43, 12, 13, 44, 45, 46, 47, 17, 48, 49, 50, 28, 29, 51, 52, 53, 54, 21, 22, 24, 25, 26, 55, 56, 57, 58, 59, 60, 61, 62, 63, 64, 65, 66, 67, 68, 69, 70, 71, 72, 73, 74, 75, 76, 77, 78, 79, 80, 81, 82, 83, 84, 85, 86, 87, 88, 89, 90, 91, 92, 93, 94, 95, 96, 19, 97, 98, 99, 100, 101, 102, 103, 104, 105, 106, 107, 108, 109, 110, 111, 112, 113, 114, 115, 116, 117, 118, 119, 120, 121, 122, 123, 124, 125, 126, 127, 128, 129, 130, 131, 132, 133, 134, 135, 136, 137, 138, 139, 23, 140, 141, 142, 143, 144, 145, 146, 147, 148, 149, 150, 151, 152, 153, 154, 155, 156, 157, 20, 158, 27, 159, 160, 161, 162, 163, 164, 165, 166, 167, 168, 169, 170, 171, 172, 173, 174, 175, 176, 177, 178, 179, 180, 181, 182, 183, 204, 205, 206, 207, 208, 209, 210, 211, 212, 213, 214, 215, 216, 217, 218, 219, 220, 221, 222, 223, 224, 225, 226, 227, 228, 229, 230, 231, 232, 233] (by decide +kernel) (by decide +kernel)
set_option maxRecDepth 20000 in
theorem gX3_addHit_X3_hitsWith : GoodIn wsX3_addHit (va_wsS RX3 91 yX3_hitsWith wsX3_hitsWith) := goodIn_app (goodIn_of _ (by decide +kernel)) ggX3_addHit_X3_hitsWith
set_option maxRecDepth 20000 in
theorem ggX3_addHit_X3_keepIfBest : GoodIn wsX3_addHit wsX3_keepIfBest := goodIn_r _ [187, 188, 189, 2, 190, 191, 192, 193, 194, 197, 198, 199, 200, 201, 202, 203] (by decide +kernel) (by decide +kernel)
set_option maxRecDepth 20000 in
theorem gX3_addHit_X3_keepIfBest : GoodIn wsX3_addHit (wsV RX3 95 RX3 yX3_keepIfBest wsX3_keepIfBest) := goodIn_app (goodIn_of _ (by decide +kernel)) ggX3_addHit_X3_keepIfBest
set_option maxRecDepth 20000 in
theorem ggX3_addHit_X3_addHit : GoodIn wsX3_addHit wsX3_addHit := goodIn_r _ [0, 1, 2, 3, 4, 5, 6, 7, 8, 9, 10, 11, 12, 13, 14, 15, 16, 17, 18, 19, 20, 21, 22, 23, 24, 25, 26, 27, 28, 29, 30, 31, 32, 33, 34, 35, 36, 37, 38, 39, 40, 41, 42, 43, 44, 45, 46, 47, 48, 49, 50, 51, 52, 53, 54, 55, 56, 57, 58, 59, 60, 61, 62, 63, 64, 65, 66, 67, 68, 69, 70, 71, 72, 73, 74, 75, 76, 77, 78, 79, 80, 81, 82, 83, 84, 85, 86, 87, 88, 89, 90, 91, 92, 93, 94, 95, 96, 97, 98, 99, 100, 101, 102, 103, 104, 105, 106, 107, 108, 109, 110, 111, 112, 113, 114, 115, 116, 117, 118, 119, 120, 121, 122, 123, 124, 125, 126, 127, 128, 129, 130, 131, 132, 133, 134, 135, 136, 137, 138, 139, 140, 141, 142, 143, 144, 145, 146, 147, 148, 149, 150, 151, 152, 153, 154, 155, 156, 157, 158, 159, 160, 161, 162, 163, 164, 165, 166, 167, 168, 169, 170, 171, 172, 173, 174, 175, 176, 177, 178, 179, 180, 181, 182, 183, 184, 185, 186, 187, 188, 189, 190, 191, 192, 193, 194, 195, 196, 197, 198, 199, 200, 201, 202, 203, 204, 205, 206, 207, 208, 209, 210, 211, 212, 213, 214, 215, 216, 217, 218, 219, 220, 221, 222, 223, 224, 225, 226, 227, 228, 229, 230, 231, 232, 233] (by decide +kernel) (by decide +kernel)
set_option maxRecDepth 20000 in
theorem gX3_addHit_X3_addHit : GoodIn wsX3_addHit (va_wsS RX3 101 yX3_addHit wsX3_addHit) := goodIn_app (goodIn_of _ (by decide +kernel)) ggX3_addHit_X3_addHit
theorem dX3_addHit_0 : decode cX3_addHit 0 = .ok (.iload_n 2, 1) := by decide +kernel
theorem dX3_addHit_1 : decode cX3_addHit 1 = .ok (.ifCond .lt 13, 3) := by decide +kernel
theorem dX3_addHit_4 : decode cX3_addHit 4 = .ok (.iload_n 2, 1) := by decide +kernel
theorem dX3_addHit_5 : decode cX3_addHit 5 = .ok (.iload_n 3, 1) := by decide +kernel
theorem dX3_addHit_6 : decode cX3_addHit 6 = .ok (.if_icmp .ge 8, 3) := by decide +kernel
theorem dX3_addHit_9 : decode cX3_addHit 9 = .ok (.iload_n 2, 1) := by decide +kernel
theorem dX3_addHit_10 : decode cX3_addHit 10 = .ok (.iconst 4, 1) := by decide +kernel
theorem dX3_addHit_11 : decode cX3_addHit 11 = .ok (.if_icmp .lt 4, 3) := by decide +kernel
theorem dX3_addHit_14 : decode cX3_addHit 14 = .ok (.return_, 1) := by decide +kernel
theorem dX3_addHit_15 : decode cX3_addHit 15 = .ok (.aload_n 0, 1) := by decide +kernel
theorem dX3_addHit_16 : decode cX3_addHit 16 = .ok (.getfield 17, 3) := by decide +kernel
theorem dX3_addHit_19 : decode cX3_addHit 19 = .ok (.iload_n 2, 1) := by decide +kernel
theorem dX3_addHit_20 : decode cX3_addHit 20 = .ok (.iconst 1, 1) := by decide +kernel
theorem dX3_addHit_21 : decode cX3_addHit 21 = .ok (.iadd, 1) := by decide +kernel
theorem dX3_addHit_22 : decode cX3_addHit 22 = .ok (.aaload, 1) := by decide +kernel
theorem dX3_addHit_23 : decode cX3_addHit 23 = .ok (.astore 4, 2) := by decide +kernel
theorem dX3_addHit_25 : decode cX3_addHit 25 = .ok (.aload 4, 2) := by decide +kernel
theorem dX3_addHit_27 : decode cX3_addHit 27 = .ok (.aload_n 0, 1) := by decide +kernel
theorem dX3_addHit_28 : decode cX3_addHit 28 = .ok (.getfield 17, 3) := by decide +kernel
theorem dX3_addHit_31 : decode cX3_addHit 31 = .ok (.iload_n 2, 1) := by decide +kernel
theorem dX3_addHit_32 : decode cX3_addHit 32 = .ok (.aaload, 1) := by decide +kernel
theorem dX3_addHit_33 : decode cX3_addHit 33 = .ok (.invokevirtual 87, 3) := by decide +kernel
theorem dX3_addHit_36 : decode cX3_addHit 36 = .ok (.aload 4, 2) := by decide +kernel
theorem dX3_addHit_38 : decode cX3_addHit 38 = .ok (.iload_n 1, 1) := by decide +kernel
theorem dX3_addHit_39 : decode cX3_addHit 39 = .ok (.invokestatic 91, 3) := by decide +kernel
theorem dX3_addHit_42 : decode cX3_addHit 42 = .ok (.ifCond .ne 4, 3) := by decide +kernel
theorem dX3_addHit_45 : decode cX3_addHit 45 = .ok (.return_, 1) := by decide +kernel
theorem dX3_addHit_46 : decode cX3_addHit 46 = .ok (.aload_n 0, 1) := by decide +kernel
theorem dX3_addHit_47 : decode cX3_addHit 47 = .ok (.getfield 21, 3) := by decide +kernel
theorem dX3_addHit_50 : decode cX3_addHit 50 = .ok (.iload_n 2, 1) := by decide +kernel
theorem dX3_addHit_51 : decode cX3_addHit 51 = .ok (.iload_n 1, 1) := by decide +kernel
theorem dX3_addHit_52 : decode cX3_addHit 52 = .ok (.iastore, 1) := by decide +kernel
theorem dX3_addHit_53 : decode cX3_addHit 53 = .ok (.aload_n 0, 1) := by decide +kernel
theorem dX3_addHit_54 : decode cX3_addHit 54 = .ok (.sipush 1000, 3) := by decide +kernel
theorem dX3_addHit_57 : decode cX3_addHit 57 = .ok (.aload 4, 2) := by decide +kernel
theorem dX3_addHit_59 : decode cX3_addHit 59 = .ok (.getfield 67, 3) := by decide +kernel
theorem dX3_addHit_62 : decode cX3_addHit 62 = .ok (.getfield 84, 3) := by decide +kernel
theorem dX3_addHit_65 : decode cX3_addHit 65 = .ok (.isub, 1) := by decide +kernel
theorem dX3_addHit_66 : decode cX3_addHit 66 = .ok (.iload_n 2, 1) := by decide +kernel
theorem dX3_addHit_67 : decode cX3_addHit 67 = .ok (.iconst 1, 1) := by decide +kernel
theorem dX3_addHit_68 : decode cX3_addHit 68 = .ok (.iadd, 1) := by decide +kernel
theorem dX3_addHit_69 : decode cX3_addHit 69 = .ok (.invokevirtual 95, 3) := by decide +kernel
theorem dX3_addHit_72 : decode cX3_addHit 72 = .ok (.iconst 0, 1) := by decide +kernel
theorem dX3_addHit_73 : decode cX3_addHit 73 = .ok (.istore 5, 2) := by decide +kernel
theorem dX3_addHit_75 : decode cX3_addHit 75 = .ok (.iload 5, 2) := by decide +kernel
theorem dX3_addHit_77 : decode cX3_addHit 77 = .ok (.aload_n 0, 1) := by decide +kernel
theorem dX3_addHit_78 : decode cX3_addHit 78 = .ok (.getfield 31, 3) := by decide +kernel
theorem dX3_addHit_81 : decode cX3_addHit 81 = .ok (.getfield 98, 3) := by decide +kernel
theorem dX3_addHit_84 : decode cX3_addHit 84 = .ok (.if_icmp .ge 19, 3) := by decide +kernel
theorem dX3_addHit_87 : decode cX3_addHit 87 = .ok (.aload_n 0, 1) := by decide +kernel
theorem dX3_addHit_88 : decode cX3_addHit 88 = .ok (.iload 5, 2) := by decide +kernel
theorem dX3_addHit_90 : decode cX3_addHit 90 = .ok (.iload_n 2, 1) := by decide +kernel
theorem dX3_addHit_91 : decode cX3_addHit 91 = .ok (.iconst 1, 1) := by decide +kernel
theorem dX3_addHit_92 : decode cX3_addHit 92 = .ok (.iadd, 1) := by decide +kernel
theorem dX3_addHit_93 : decode cX3_addHit 93 = .ok (.iload_n 3, 1) := by decide +kernel
theorem dX3_addHit_94 : decode cX3_addHit 94 = .ok (.invokestatic 101, 3) := by decide +kernel
theorem dX3_addHit_97 : decode cX3_addHit 97 = .ok (.iinc 5 1, 3) := by decide +kernel
theorem dX3_addHit_100 : decode cX3_addHit 100 = .ok (.goto (-25), 3) := by decide +kernel
theorem dX3_addHit_103 : decode cX3_addHit 103 = .ok (.return_, 1) := by decide +kernel
set_option maxRecDepth 20000 in
theorem ggX3_hitsWith_X7_inputOf : GoodIn wsX3_hitsWith wsX7_inputOf := goodIn_r _ [7] (by decide +kernel) (by decide +kernel)
set_option maxRecDepth 20000 in
theorem gX3_hitsWith_X7_inputOf_n46 : GoodIn wsX3_hitsWith (wsX7_inputOf) := ggX3_hitsWith_X7_inputOf
set_option maxRecDepth 20000 in
theorem ggX3_hitsWith_X1_playFrame : GoodIn wsX3_hitsWith wsX1_playFrame := goodIn_r _ [12, 13, 14, 15, 16, 17, 18, 19, 20, 21, 22, 23, 24, 25, 26, 27, 28, 29, 30, 31, 32, 33, 34, 35, 36, 37, 38, 39, 40, 41, 42, 43, 44, 45, 46, 47, 48, 49, 50, 51, 52, 53, 54, 55, 56, 57, 58, 59, 60, 61, 62, 11, 63, 64, 65, 66, 67, 68, 69, 70, 71, 72, 73, 74, 75, 76, 77, 78, 79, 80, 81, 82, 83, 84, 85, 86, 87, 88, 89, 90, 91, 92, 93, 94, 95, 96, 97, 98, 99, 100, 101, 102, 103, 104, 105, 106, 107, 108, 109, 110, 111, 112, 113, 114, 115, 116, 117, 118, 119, 120, 121, 122, 123, 124, 125, 126, 127, 128, 129, 130, 131, 132, 133, 134, 135, 136, 137, 138, 139, 140, 141, 142, 143, 144, 145, 146, 147, 148, 149, 150, 151, 152, 153, 154, 155, 156, 157, 158, 159, 160, 161, 162, 163, 164, 165, 166, 167, 168, 169, 170, 171, 172, 173, 174, 175, 176, 177, 178, 179, 180, 181, 182, 183, 184, 185, 186, 187, 188, 189, 190, 191, 192, 193, 194, 195, 196] (by decide +kernel) (by decide +kernel)
set_option maxRecDepth 20000 in
theorem gX3_hitsWith_X1_playFrame : GoodIn wsX3_hitsWith (wsV RX3 54 RX1 yX1_playFrame wsX1_playFrame) := goodIn_app (goodIn_of _ (by decide +kernel)) ggX3_hitsWith_X1_playFrame
theorem dX3_hitsWith_0 : decode cX3_hitsWith 0 = .ok (.aload_n 0, 1) := by decide +kernel
theorem dX3_hitsWith_1 : decode cX3_hitsWith 1 = .ok (.getfield 67, 3) := by decide +kernel
theorem dX3_hitsWith_4 : decode cX3_hitsWith 4 = .ok (.getfield 105, 3) := by decide +kernel
theorem dX3_hitsWith_7 : decode cX3_hitsWith 7 = .ok (.istore_n 2, 1) := by decide +kernel
theorem dX3_hitsWith_8 : decode cX3_hitsWith 8 = .ok (.iconst 0, 1) := by decide +kernel
theorem dX3_hitsWith_9 : decode cX3_hitsWith 9 = .ok (.istore_n 3, 1) := by decide +kernel
theorem dX3_hitsWith_10 : decode cX3_hitsWith 10 = .ok (.iconst 0, 1) := by decide +kernel
theorem dX3_hitsWith_11 : decode cX3_hitsWith 11 = .ok (.istore 4, 2) := by decide +kernel
theorem dX3_hitsWith_13 : decode cX3_hitsWith 13 = .ok (.iload 4, 2) := by decide +kernel
theorem dX3_hitsWith_15 : decode cX3_hitsWith 15 = .ok (.bipush 60, 2) := by decide +kernel
theorem dX3_hitsWith_17 : decode cX3_hitsWith 17 = .ok (.if_icmp .ge 74, 3) := by decide +kernel
theorem dX3_hitsWith_20 : decode cX3_hitsWith 20 = .ok (.aload_n 0, 1) := by decide +kernel
theorem dX3_hitsWith_21 : decode cX3_hitsWith 21 = .ok (.iload_n 3, 1) := by decide +kernel
theorem dX3_hitsWith_22 : decode cX3_hitsWith 22 = .ok (.ifCond .eq 7, 3) := by decide +kernel
theorem dX3_hitsWith_25 : decode cX3_hitsWith 25 = .ok (.iconst 0, 1) := by decide +kernel
theorem dX3_hitsWith_26 : decode cX3_hitsWith 26 = .ok (.goto 7, 3) := by decide +kernel
theorem dX3_hitsWith_29 : decode cX3_hitsWith 29 = .ok (.iload_n 1, 1) := by decide +kernel
theorem dX3_hitsWith_30 : decode cX3_hitsWith 30 = .ok (.invokestatic 46, 3) := by decide +kernel
theorem dX3_hitsWith_33 : decode cX3_hitsWith 33 = .ok (.iconst 0, 1) := by decide +kernel
theorem dX3_hitsWith_34 : decode cX3_hitsWith 34 = .ok (.invokevirtual 54, 3) := by decide +kernel
theorem dX3_hitsWith_37 : decode cX3_hitsWith 37 = .ok (.iload_n 3, 1) := by decide +kernel
theorem dX3_hitsWith_38 : decode cX3_hitsWith 38 = .ok (.ifCond .ne 13, 3) := by decide +kernel
theorem dX3_hitsWith_41 : decode cX3_hitsWith 41 = .ok (.aload_n 0, 1) := by decide +kernel
theorem dX3_hitsWith_42 : decode cX3_hitsWith 42 = .ok (.getfield 58, 3) := by decide +kernel
theorem dX3_hitsWith_45 : decode cX3_hitsWith 45 = .ok (.getfield 106, 3) := by decide +kernel
theorem dX3_hitsWith_48 : decode cX3_hitsWith 48 = .ok (.ifCond .eq 7, 3) := by decide +kernel
theorem dX3_hitsWith_51 : decode cX3_hitsWith 51 = .ok (.iconst 1, 1) := by decide +kernel
theorem dX3_hitsWith_52 : decode cX3_hitsWith 52 = .ok (.goto 4, 3) := by decide +kernel
theorem dX3_hitsWith_55 : decode cX3_hitsWith 55 = .ok (.iconst 0, 1) := by decide +kernel
theorem dX3_hitsWith_56 : decode cX3_hitsWith 56 = .ok (.istore_n 3, 1) := by decide +kernel
theorem dX3_hitsWith_57 : decode cX3_hitsWith 57 = .ok (.aload_n 0, 1) := by decide +kernel
theorem dX3_hitsWith_58 : decode cX3_hitsWith 58 = .ok (.getfield 67, 3) := by decide +kernel
theorem dX3_hitsWith_61 : decode cX3_hitsWith 61 = .ok (.getfield 105, 3) := by decide +kernel
theorem dX3_hitsWith_64 : decode cX3_hitsWith 64 = .ok (.iload_n 2, 1) := by decide +kernel
theorem dX3_hitsWith_65 : decode cX3_hitsWith 65 = .ok (.if_icmp .eq 20, 3) := by decide +kernel
theorem dX3_hitsWith_68 : decode cX3_hitsWith 68 = .ok (.aload_n 0, 1) := by decide +kernel
theorem dX3_hitsWith_69 : decode cX3_hitsWith 69 = .ok (.getfield 67, 3) := by decide +kernel
theorem dX3_hitsWith_72 : decode cX3_hitsWith 72 = .ok (.getfield 105, 3) := by decide +kernel
theorem dX3_hitsWith_75 : decode cX3_hitsWith 75 = .ok (.iload_n 2, 1) := by decide +kernel
theorem dX3_hitsWith_76 : decode cX3_hitsWith 76 = .ok (.if_icmp .le 7, 3) := by decide +kernel
theorem dX3_hitsWith_79 : decode cX3_hitsWith 79 = .ok (.iconst 1, 1) := by decide +kernel
theorem dX3_hitsWith_80 : decode cX3_hitsWith 80 = .ok (.goto 4, 3) := by decide +kernel
theorem dX3_hitsWith_83 : decode cX3_hitsWith 83 = .ok (.iconst 0, 1) := by decide +kernel
theorem dX3_hitsWith_84 : decode cX3_hitsWith 84 = .ok (.ireturn, 1) := by decide +kernel
theorem dX3_hitsWith_85 : decode cX3_hitsWith 85 = .ok (.iinc 4 1, 3) := by decide +kernel
theorem dX3_hitsWith_88 : decode cX3_hitsWith 88 = .ok (.goto (-75), 3) := by decide +kernel
theorem dX3_hitsWith_91 : decode cX3_hitsWith 91 = .ok (.iconst 0, 1) := by decide +kernel
theorem dX3_hitsWith_92 : decode cX3_hitsWith 92 = .ok (.ireturn, 1) := by decide +kernel
theorem dX3_keepIfBest_0 : decode cX3_keepIfBest 0 = .ok (.iload_n 1, 1) := by decide +kernel
theorem dX3_keepIfBest_1 : decode cX3_keepIfBest 1 = .ok (.aload_n 0, 1) := by decide +kernel
theorem dX3_keepIfBest_2 : decode cX3_keepIfBest 2 = .ok (.getfield 9, 3) := by decide +kernel
theorem dX3_keepIfBest_5 : decode cX3_keepIfBest 5 = .ok (.if_icmp .le 32, 3) := by decide +kernel
theorem dX3_keepIfBest_8 : decode cX3_keepIfBest 8 = .ok (.iload_n 2, 1) := by decide +kernel
theorem dX3_keepIfBest_9 : decode cX3_keepIfBest 9 = .ok (.iconst 4, 1) := by decide +kernel
theorem dX3_keepIfBest_10 : decode cX3_keepIfBest 10 = .ok (.if_icmp .gt 27, 3) := by decide +kernel
theorem dX3_keepIfBest_13 : decode cX3_keepIfBest 13 = .ok (.aload_n 0, 1) := by decide +kernel
theorem dX3_keepIfBest_14 : decode cX3_keepIfBest 14 = .ok (.iload_n 1, 1) := by decide +kernel
theorem dX3_keepIfBest_15 : decode cX3_keepIfBest 15 = .ok (.putfield 9, 3) := by decide +kernel
theorem dX3_keepIfBest_18 : decode cX3_keepIfBest 18 = .ok (.aload_n 0, 1) := by decide +kernel
theorem dX3_keepIfBest_19 : decode cX3_keepIfBest 19 = .ok (.iload_n 2, 1) := by decide +kernel
theorem dX3_keepIfBest_20 : decode cX3_keepIfBest 20 = .ok (.putfield 28, 3) := by decide +kernel
theorem dX3_keepIfBest_23 : decode cX3_keepIfBest 23 = .ok (.aload_n 0, 1) := by decide +kernel
theorem dX3_keepIfBest_24 : decode cX3_keepIfBest 24 = .ok (.getfield 21, 3) := by decide +kernel
theorem dX3_keepIfBest_27 : decode cX3_keepIfBest 27 = .ok (.iconst 0, 1) := by decide +kernel
theorem dX3_keepIfBest_28 : decode cX3_keepIfBest 28 = .ok (.aload_n 0, 1) := by decide +kernel
theorem dX3_keepIfBest_29 : decode cX3_keepIfBest 29 = .ok (.getfield 25, 3) := by decide +kernel
theorem dX3_keepIfBest_32 : decode cX3_keepIfBest 32 = .ok (.iconst 0, 1) := by decide +kernel
theorem dX3_keepIfBest_33 : decode cX3_keepIfBest 33 = .ok (.iload_n 2, 1) := by decide +kernel
theorem dX3_keepIfBest_34 : decode cX3_keepIfBest 34 = .ok (.invokestatic 110, 3) := by decide +kernel
theorem dX3_keepIfBest_37 : decode cX3_keepIfBest 37 = .ok (.return_, 1) := by decide +kernel
theorem dX3_bestAt_0 : decode cX3_bestAt 0 = .ok (.iload_n 1, 1) := by decide +kernel
theorem dX3_bestAt_1 : decode cX3_bestAt 1 = .ok (.ifCond .lt 25, 3) := by decide +kernel
theorem dX3_bestAt_4 : decode cX3_bestAt 4 = .ok (.iload_n 1, 1) := by decide +kernel
theorem dX3_bestAt_5 : decode cX3_bestAt 5 = .ok (.aload_n 0, 1) := by decide +kernel
theorem dX3_bestAt_6 : decode cX3_bestAt 6 = .ok (.getfield 28, 3) := by decide +kernel
theorem dX3_bestAt_9 : decode cX3_bestAt 9 = .ok (.if_icmp .ge 17, 3) := by decide +kernel
theorem dX3_bestAt_12 : decode cX3_bestAt 12 = .ok (.iload_n 1, 1) := by decide +kernel
theorem dX3_bestAt_13 : decode cX3_bestAt 13 = .ok (.iconst 4, 1) := by decide +kernel
theorem dX3_bestAt_14 : decode cX3_bestAt 14 = .ok (.if_icmp .ge 12, 3) := by decide +kernel
theorem dX3_bestAt_17 : decode cX3_bestAt 17 = .ok (.aload_n 0, 1) := by decide +kernel
theorem dX3_bestAt_18 : decode cX3_bestAt 18 = .ok (.getfield 25, 3) := by decide +kernel
theorem dX3_bestAt_21 : decode cX3_bestAt 21 = .ok (.iload_n 1, 1) := by decide +kernel
theorem dX3_bestAt_22 : decode cX3_bestAt 22 = .ok (.iaload, 1) := by decide +kernel
theorem dX3_bestAt_23 : decode cX3_bestAt 23 = .ok (.goto 4, 3) := by decide +kernel
theorem dX3_bestAt_26 : decode cX3_bestAt 26 = .ok (.iconst (-1), 1) := by decide +kernel
theorem dX3_bestAt_27 : decode cX3_bestAt 27 = .ok (.ireturn, 1) := by decide +kernel
theorem dX4_init_0 : decode cX4_init 0 = .ok (.aload_n 0, 1) := by decide +kernel
theorem dX4_init_1 : decode cX4_init 1 = .ok (.invokespecial 3, 3) := by decide +kernel
theorem dX4_init_4 : decode cX4_init 4 = .ok (.aload_n 0, 1) := by decide +kernel
theorem dX4_init_5 : decode cX4_init 5 = .ok (.iconst 0, 1) := by decide +kernel
theorem dX4_init_6 : decode cX4_init 6 = .ok (.putfield 9, 3) := by decide +kernel
theorem dX4_init_9 : decode cX4_init 9 = .ok (.aload_n 0, 1) := by decide +kernel
theorem dX4_init_10 : decode cX4_init 10 = .ok (.iconst 0, 1) := by decide +kernel
theorem dX4_init_11 : decode cX4_init 11 = .ok (.putfield 15, 3) := by decide +kernel
theorem dX4_init_14 : decode cX4_init 14 = .ok (.aload_n 0, 1) := by decide +kernel
theorem dX4_init_15 : decode cX4_init 15 = .ok (.iconst 0, 1) := by decide +kernel
theorem dX4_init_16 : decode cX4_init 16 = .ok (.putfield 18, 3) := by decide +kernel
theorem dX4_init_19 : decode cX4_init 19 = .ok (.aload_n 0, 1) := by decide +kernel
theorem dX4_init_20 : decode cX4_init 20 = .ok (.iconst 0, 1) := by decide +kernel
theorem dX4_init_21 : decode cX4_init 21 = .ok (.putfield 21, 3) := by decide +kernel
theorem dX4_init_24 : decode cX4_init 24 = .ok (.aload_n 0, 1) := by decide +kernel
theorem dX4_init_25 : decode cX4_init 25 = .ok (.iconst 0, 1) := by decide +kernel
theorem dX4_init_26 : decode cX4_init 26 = .ok (.putfield 24, 3) := by decide +kernel
theorem dX4_init_29 : decode cX4_init 29 = .ok (.aload_n 0, 1) := by decide +kernel
theorem dX4_init_30 : decode cX4_init 30 = .ok (.iconst 0, 1) := by decide +kernel
theorem dX4_init_31 : decode cX4_init 31 = .ok (.putfield 27, 3) := by decide +kernel
theorem dX4_init_34 : decode cX4_init 34 = .ok (.aload_n 0, 1) := by decide +kernel
theorem dX4_init_35 : decode cX4_init 35 = .ok (.iconst 5, 1) := by decide +kernel
theorem dX4_init_36 : decode cX4_init 36 = .ok (.newarray .int, 2) := by decide +kernel
theorem dX4_init_38 : decode cX4_init 38 = .ok (.putfield 30, 3) := by decide +kernel
theorem dX4_init_41 : decode cX4_init 41 = .ok (.aload_n 0, 1) := by decide +kernel
theorem dX4_init_42 : decode cX4_init 42 = .ok (.bipush 6, 2) := by decide +kernel
theorem dX4_init_44 : decode cX4_init 44 = .ok (.newarray .boolean, 2) := by decide +kernel
theorem dX4_init_46 : decode cX4_init 46 = .ok (.putfield 34, 3) := by decide +kernel
theorem dX4_init_49 : decode cX4_init 49 = .ok (.return_, 1) := by decide +kernel
set_option maxRecDepth 20000 in
theorem ggX4_make_X4_setTrait : GoodIn wsX4_make wsX4_setTrait := goodIn_r _ [11, 12, 13, 14, 15, 16, 17, 18, 19, 20] (by decide +kernel) (by decide +kernel)
set_option maxRecDepth 20000 in
theorem gX4_make_X4_setTrait : GoodIn wsX4_make (wsV RX4 38 RX4 yX4_setTrait wsX4_setTrait) := goodIn_app (goodIn_of _ (by decide +kernel)) ggX4_make_X4_setTrait
theorem dX4_make_0 : decode cX4_make 0 = .ok (.aload_n 0, 1) := by decide +kernel
theorem dX4_make_1 : decode cX4_make 1 = .ok (.iload_n 1, 1) := by decide +kernel
theorem dX4_make_2 : decode cX4_make 2 = .ok (.putfield 9, 3) := by decide +kernel
theorem dX4_make_5 : decode cX4_make 5 = .ok (.aload_n 0, 1) := by decide +kernel
theorem dX4_make_6 : decode cX4_make 6 = .ok (.iload_n 2, 1) := by decide +kernel
theorem dX4_make_7 : decode cX4_make 7 = .ok (.putfield 15, 3) := by decide +kernel
theorem dX4_make_10 : decode cX4_make 10 = .ok (.aload_n 0, 1) := by decide +kernel
theorem dX4_make_11 : decode cX4_make 11 = .ok (.iload_n 3, 1) := by decide +kernel
theorem dX4_make_12 : decode cX4_make 12 = .ok (.putfield 18, 3) := by decide +kernel
theorem dX4_make_15 : decode cX4_make 15 = .ok (.aload_n 0, 1) := by decide +kernel
theorem dX4_make_16 : decode cX4_make 16 = .ok (.iload 4, 2) := by decide +kernel
theorem dX4_make_18 : decode cX4_make 18 = .ok (.putfield 21, 3) := by decide +kernel
theorem dX4_make_21 : decode cX4_make 21 = .ok (.aload_n 0, 1) := by decide +kernel
theorem dX4_make_22 : decode cX4_make 22 = .ok (.iload 5, 2) := by decide +kernel
theorem dX4_make_24 : decode cX4_make 24 = .ok (.putfield 24, 3) := by decide +kernel
theorem dX4_make_27 : decode cX4_make 27 = .ok (.aload_n 0, 1) := by decide +kernel
theorem dX4_make_28 : decode cX4_make 28 = .ok (.iload 6, 2) := by decide +kernel
theorem dX4_make_30 : decode cX4_make 30 = .ok (.putfield 27, 3) := by decide +kernel
theorem dX4_make_33 : decode cX4_make 33 = .ok (.aload_n 0, 1) := by decide +kernel
theorem dX4_make_34 : decode cX4_make 34 = .ok (.iconst 0, 1) := by decide +kernel
theorem dX4_make_35 : decode cX4_make 35 = .ok (.bipush 20, 2) := by decide +kernel
theorem dX4_make_37 : decode cX4_make 37 = .ok (.invokevirtual 38, 3) := by decide +kernel
theorem dX4_make_40 : decode cX4_make 40 = .ok (.aload_n 0, 1) := by decide +kernel
theorem dX4_make_41 : decode cX4_make 41 = .ok (.iconst 1, 1) := by decide +kernel
theorem dX4_make_42 : decode cX4_make 42 = .ok (.bipush 12, 2) := by decide +kernel
theorem dX4_make_44 : decode cX4_make 44 = .ok (.invokevirtual 38, 3) := by decide +kernel
theorem dX4_make_47 : decode cX4_make 47 = .ok (.aload_n 0, 1) := by decide +kernel
theorem dX4_make_48 : decode cX4_make 48 = .ok (.iconst 2, 1) := by decide +kernel
theorem dX4_make_49 : decode cX4_make 49 = .ok (.bipush 10, 2) := by decide +kernel
theorem dX4_make_51 : decode cX4_make 51 = .ok (.invokevirtual 38, 3) := by decide +kernel
theorem dX4_make_54 : decode cX4_make 54 = .ok (.aload_n 0, 1) := by decide +kernel
theorem dX4_make_55 : decode cX4_make 55 = .ok (.iconst 3, 1) := by decide +kernel
theorem dX4_make_56 : decode cX4_make 56 = .ok (.iconst 0, 1) := by decide +kernel
theorem dX4_make_57 : decode cX4_make 57 = .ok (.invokevirtual 38, 3) := by decide +kernel
theorem dX4_make_60 : decode cX4_make 60 = .ok (.aload_n 0, 1) := by decide +kernel
theorem dX4_make_61 : decode cX4_make 61 = .ok (.iconst 4, 1) := by decide +kernel
theorem dX4_make_62 : decode cX4_make 62 = .ok (.iconst 5, 1) := by decide +kernel
theorem dX4_make_63 : decode cX4_make 63 = .ok (.invokevirtual 38, 3) := by decide +kernel
theorem dX4_make_66 : decode cX4_make 66 = .ok (.return_, 1) := by decide +kernel
theorem dX4_copy_0 : decode cX4_copy 0 = .ok (.aload_n 0, 1) := by decide +kernel
theorem dX4_copy_1 : decode cX4_copy 1 = .ok (.aload_n 1, 1) := by decide +kernel
theorem dX4_copy_2 : decode cX4_copy 2 = .ok (.getfield 9, 3) := by decide +kernel
theorem dX4_copy_5 : decode cX4_copy 5 = .ok (.putfield 9, 3) := by decide +kernel
theorem dX4_copy_8 : decode cX4_copy 8 = .ok (.aload_n 0, 1) := by decide +kernel
theorem dX4_copy_9 : decode cX4_copy 9 = .ok (.aload_n 1, 1) := by decide +kernel
theorem dX4_copy_10 : decode cX4_copy 10 = .ok (.getfield 15, 3) := by decide +kernel
theorem dX4_copy_13 : decode cX4_copy 13 = .ok (.putfield 15, 3) := by decide +kernel
theorem dX4_copy_16 : decode cX4_copy 16 = .ok (.aload_n 0, 1) := by decide +kernel
theorem dX4_copy_17 : decode cX4_copy 17 = .ok (.aload_n 1, 1) := by decide +kernel
theorem dX4_copy_18 : decode cX4_copy 18 = .ok (.getfield 18, 3) := by decide +kernel
theorem dX4_copy_21 : decode cX4_copy 21 = .ok (.putfield 18, 3) := by decide +kernel
theorem dX4_copy_24 : decode cX4_copy 24 = .ok (.aload_n 0, 1) := by decide +kernel
theorem dX4_copy_25 : decode cX4_copy 25 = .ok (.aload_n 1, 1) := by decide +kernel
theorem dX4_copy_26 : decode cX4_copy 26 = .ok (.getfield 21, 3) := by decide +kernel
theorem dX4_copy_29 : decode cX4_copy 29 = .ok (.putfield 21, 3) := by decide +kernel
theorem dX4_copy_32 : decode cX4_copy 32 = .ok (.aload_n 0, 1) := by decide +kernel
theorem dX4_copy_33 : decode cX4_copy 33 = .ok (.aload_n 1, 1) := by decide +kernel
theorem dX4_copy_34 : decode cX4_copy 34 = .ok (.getfield 24, 3) := by decide +kernel
theorem dX4_copy_37 : decode cX4_copy 37 = .ok (.putfield 24, 3) := by decide +kernel
theorem dX4_copy_40 : decode cX4_copy 40 = .ok (.aload_n 0, 1) := by decide +kernel
theorem dX4_copy_41 : decode cX4_copy 41 = .ok (.aload_n 1, 1) := by decide +kernel
theorem dX4_copy_42 : decode cX4_copy 42 = .ok (.getfield 27, 3) := by decide +kernel
theorem dX4_copy_45 : decode cX4_copy 45 = .ok (.putfield 27, 3) := by decide +kernel
theorem dX4_copy_48 : decode cX4_copy 48 = .ok (.aload_n 1, 1) := by decide +kernel
theorem dX4_copy_49 : decode cX4_copy 49 = .ok (.getfield 30, 3) := by decide +kernel
theorem dX4_copy_52 : decode cX4_copy 52 = .ok (.iconst 0, 1) := by decide +kernel
theorem dX4_copy_53 : decode cX4_copy 53 = .ok (.aload_n 0, 1) := by decide +kernel
theorem dX4_copy_54 : decode cX4_copy 54 = .ok (.getfield 30, 3) := by decide +kernel
theorem dX4_copy_57 : decode cX4_copy 57 = .ok (.iconst 0, 1) := by decide +kernel
theorem dX4_copy_58 : decode cX4_copy 58 = .ok (.iconst 5, 1) := by decide +kernel
theorem dX4_copy_59 : decode cX4_copy 59 = .ok (.invokestatic 42, 3) := by decide +kernel
theorem dX4_copy_62 : decode cX4_copy 62 = .ok (.iconst 0, 1) := by decide +kernel
theorem dX4_copy_63 : decode cX4_copy 63 = .ok (.istore_n 2, 1) := by decide +kernel
theorem dX4_copy_64 : decode cX4_copy 64 = .ok (.iload_n 2, 1) := by decide +kernel
theorem dX4_copy_65 : decode cX4_copy 65 = .ok (.bipush 6, 2) := by decide +kernel
theorem dX4_copy_67 : decode cX4_copy 67 = .ok (.if_icmp .ge 21, 3) := by decide +kernel
theorem dX4_copy_70 : decode cX4_copy 70 = .ok (.aload_n 0, 1) := by decide +kernel
theorem dX4_copy_71 : decode cX4_copy 71 = .ok (.getfield 34, 3) := by decide +kernel
theorem dX4_copy_74 : decode cX4_copy 74 = .ok (.iload_n 2, 1) := by decide +kernel
theorem dX4_copy_75 : decode cX4_copy 75 = .ok (.aload_n 1, 1) := by decide +kernel
theorem dX4_copy_76 : decode cX4_copy 76 = .ok (.getfield 34, 3) := by decide +kernel
theorem dX4_copy_79 : decode cX4_copy 79 = .ok (.iload_n 2, 1) := by decide +kernel
theorem dX4_copy_80 : decode cX4_copy 80 = .ok (.baload, 1) := by decide +kernel
theorem dX4_copy_81 : decode cX4_copy 81 = .ok (.bastore, 1) := by decide +kernel
theorem dX4_copy_82 : decode cX4_copy 82 = .ok (.iinc 2 1, 3) := by decide +kernel
theorem dX4_copy_85 : decode cX4_copy 85 = .ok (.goto (-21), 3) := by decide +kernel
theorem dX4_copy_88 : decode cX4_copy 88 = .ok (.return_, 1) := by decide +kernel
theorem dX4_trait_0 : decode cX4_trait 0 = .ok (.iload_n 1, 1) := by decide +kernel
theorem dX4_trait_1 : decode cX4_trait 1 = .ok (.ifCond .lt 17, 3) := by decide +kernel
theorem dX4_trait_4 : decode cX4_trait 4 = .ok (.iload_n 1, 1) := by decide +kernel
theorem dX4_trait_5 : decode cX4_trait 5 = .ok (.iconst 5, 1) := by decide +kernel
theorem dX4_trait_6 : decode cX4_trait 6 = .ok (.if_icmp .ge 12, 3) := by decide +kernel
theorem dX4_trait_9 : decode cX4_trait 9 = .ok (.aload_n 0, 1) := by decide +kernel
theorem dX4_trait_10 : decode cX4_trait 10 = .ok (.getfield 30, 3) := by decide +kernel
theorem dX4_trait_13 : decode cX4_trait 13 = .ok (.iload_n 1, 1) := by decide +kernel
theorem dX4_trait_14 : decode cX4_trait 14 = .ok (.iaload, 1) := by decide +kernel
theorem dX4_trait_15 : decode cX4_trait 15 = .ok (.goto 4, 3) := by decide +kernel
theorem dX4_trait_18 : decode cX4_trait 18 = .ok (.iconst 0, 1) := by decide +kernel
theorem dX4_trait_19 : decode cX4_trait 19 = .ok (.ireturn, 1) := by decide +kernel
theorem dX4_setTrait_0 : decode cX4_setTrait 0 = .ok (.iload_n 1, 1) := by decide +kernel
theorem dX4_setTrait_1 : decode cX4_setTrait 1 = .ok (.ifCond .lt 15, 3) := by decide +kernel
theorem dX4_setTrait_4 : decode cX4_setTrait 4 = .ok (.iload_n 1, 1) := by decide +kernel
theorem dX4_setTrait_5 : decode cX4_setTrait 5 = .ok (.iconst 5, 1) := by decide +kernel
theorem dX4_setTrait_6 : decode cX4_setTrait 6 = .ok (.if_icmp .ge 10, 3) := by decide +kernel
theorem dX4_setTrait_9 : decode cX4_setTrait 9 = .ok (.aload_n 0, 1) := by decide +kernel
theorem dX4_setTrait_10 : decode cX4_setTrait 10 = .ok (.getfield 30, 3) := by decide +kernel
theorem dX4_setTrait_13 : decode cX4_setTrait 13 = .ok (.iload_n 1, 1) := by decide +kernel
theorem dX4_setTrait_14 : decode cX4_setTrait 14 = .ok (.iload_n 2, 1) := by decide +kernel
theorem dX4_setTrait_15 : decode cX4_setTrait 15 = .ok (.iastore, 1) := by decide +kernel
theorem dX4_setTrait_16 : decode cX4_setTrait 16 = .ok (.return_, 1) := by decide +kernel
theorem dX4_goesInto_0 : decode cX4_goesInto 0 = .ok (.iload_n 1, 1) := by decide +kernel
theorem dX4_goesInto_1 : decode cX4_goesInto 1 = .ok (.ifCond .lt 22, 3) := by decide +kernel
theorem dX4_goesInto_4 : decode cX4_goesInto 4 = .ok (.iload_n 1, 1) := by decide +kernel
theorem dX4_goesInto_5 : decode cX4_goesInto 5 = .ok (.bipush 6, 2) := by decide +kernel
theorem dX4_goesInto_7 : decode cX4_goesInto 7 = .ok (.if_icmp .ge 16, 3) := by decide +kernel
theorem dX4_goesInto_10 : decode cX4_goesInto 10 = .ok (.aload_n 0, 1) := by decide +kernel
theorem dX4_goesInto_11 : decode cX4_goesInto 11 = .ok (.getfield 34, 3) := by decide +kernel
theorem dX4_goesInto_14 : decode cX4_goesInto 14 = .ok (.iload_n 1, 1) := by decide +kernel
theorem dX4_goesInto_15 : decode cX4_goesInto 15 = .ok (.baload, 1) := by decide +kernel
theorem dX4_goesInto_16 : decode cX4_goesInto 16 = .ok (.ifCond .eq 7, 3) := by decide +kernel
theorem dX4_goesInto_19 : decode cX4_goesInto 19 = .ok (.iconst 1, 1) := by decide +kernel
theorem dX4_goesInto_20 : decode cX4_goesInto 20 = .ok (.goto 4, 3) := by decide +kernel
theorem dX4_goesInto_23 : decode cX4_goesInto 23 = .ok (.iconst 0, 1) := by decide +kernel
theorem dX4_goesInto_24 : decode cX4_goesInto 24 = .ok (.ireturn, 1) := by decide +kernel
theorem dX4_letGoInto_0 : decode cX4_letGoInto 0 = .ok (.iload_n 1, 1) := by decide +kernel
theorem dX4_letGoInto_1 : decode cX4_letGoInto 1 = .ok (.ifCond .lt 16, 3) := by decide +kernel
theorem dX4_letGoInto_4 : decode cX4_letGoInto 4 = .ok (.iload_n 1, 1) := by decide +kernel
