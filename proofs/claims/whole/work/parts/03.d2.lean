theorem dX3_lossOfPunished_55 : decode cX3_lossOfPunished 55 = .ok (.ifCond .ne 25, 3) := by decide +kernel
theorem dX3_lossOfPunished_58 : decode cX3_lossOfPunished 58 = .ok (.aload_n 0, 1) := by decide +kernel
theorem dX3_lossOfPunished_59 : decode cX3_lossOfPunished 59 = .ok (.getfield 38, 3) := by decide +kernel
theorem dX3_lossOfPunished_62 : decode cX3_lossOfPunished 62 = .ok (.getfield 67, 3) := by decide +kernel
theorem dX3_lossOfPunished_65 : decode cX3_lossOfPunished 65 = .ok (.getfield 62, 3) := by decide +kernel
theorem dX3_lossOfPunished_68 : decode cX3_lossOfPunished 68 = .ok (.ifCond .ne 12, 3) := by decide +kernel
theorem dX3_lossOfPunished_71 : decode cX3_lossOfPunished 71 = .ok (.iload_n 2, 1) := by decide +kernel
theorem dX3_lossOfPunished_72 : decode cX3_lossOfPunished 72 = .ok (.invokestatic 46, 3) := by decide +kernel
theorem dX3_lossOfPunished_75 : decode cX3_lossOfPunished 75 = .ok (.istore 7, 2) := by decide +kernel
theorem dX3_lossOfPunished_77 : decode cX3_lossOfPunished 77 = .ok (.iconst 1, 1) := by decide +kernel
theorem dX3_lossOfPunished_78 : decode cX3_lossOfPunished 78 = .ok (.istore 5, 2) := by decide +kernel
theorem dX3_lossOfPunished_80 : decode cX3_lossOfPunished 80 = .ok (.aload_n 0, 1) := by decide +kernel
theorem dX3_lossOfPunished_81 : decode cX3_lossOfPunished 81 = .ok (.getfield 38, 3) := by decide +kernel
theorem dX3_lossOfPunished_84 : decode cX3_lossOfPunished 84 = .ok (.iload 6, 2) := by decide +kernel
theorem dX3_lossOfPunished_86 : decode cX3_lossOfPunished 86 = .ok (.iconst 1, 1) := by decide +kernel
theorem dX3_lossOfPunished_87 : decode cX3_lossOfPunished 87 = .ok (.if_icmp .ne 10, 3) := by decide +kernel
theorem dX3_lossOfPunished_90 : decode cX3_lossOfPunished 90 = .ok (.iload_n 1, 1) := by decide +kernel
theorem dX3_lossOfPunished_91 : decode cX3_lossOfPunished 91 = .ok (.invokestatic 46, 3) := by decide +kernel
theorem dX3_lossOfPunished_94 : decode cX3_lossOfPunished 94 = .ok (.goto 4, 3) := by decide +kernel
theorem dX3_lossOfPunished_97 : decode cX3_lossOfPunished 97 = .ok (.iload_n 3, 1) := by decide +kernel
theorem dX3_lossOfPunished_98 : decode cX3_lossOfPunished 98 = .ok (.iload 7, 2) := by decide +kernel
theorem dX3_lossOfPunished_100 : decode cX3_lossOfPunished 100 = .ok (.invokevirtual 54, 3) := by decide +kernel
theorem dX3_lossOfPunished_103 : decode cX3_lossOfPunished 103 = .ok (.iload 4, 2) := by decide +kernel
theorem dX3_lossOfPunished_105 : decode cX3_lossOfPunished 105 = .ok (.ifCond .ne 17, 3) := by decide +kernel
theorem dX3_lossOfPunished_108 : decode cX3_lossOfPunished 108 = .ok (.aload_n 0, 1) := by decide +kernel
theorem dX3_lossOfPunished_109 : decode cX3_lossOfPunished 109 = .ok (.getfield 38, 3) := by decide +kernel
theorem dX3_lossOfPunished_112 : decode cX3_lossOfPunished 112 = .ok (.getfield 67, 3) := by decide +kernel
theorem dX3_lossOfPunished_115 : decode cX3_lossOfPunished 115 = .ok (.getfield 62, 3) := by decide +kernel
theorem dX3_lossOfPunished_118 : decode cX3_lossOfPunished 118 = .ok (.iconst 3, 1) := by decide +kernel
theorem dX3_lossOfPunished_119 : decode cX3_lossOfPunished 119 = .ok (.if_icmp .ne 7, 3) := by decide +kernel
theorem dX3_lossOfPunished_122 : decode cX3_lossOfPunished 122 = .ok (.iconst 1, 1) := by decide +kernel
theorem dX3_lossOfPunished_123 : decode cX3_lossOfPunished 123 = .ok (.goto 4, 3) := by decide +kernel
theorem dX3_lossOfPunished_126 : decode cX3_lossOfPunished 126 = .ok (.iconst 0, 1) := by decide +kernel
theorem dX3_lossOfPunished_127 : decode cX3_lossOfPunished 127 = .ok (.istore 4, 2) := by decide +kernel
theorem dX3_lossOfPunished_129 : decode cX3_lossOfPunished 129 = .ok (.iinc 6 1, 3) := by decide +kernel
theorem dX3_lossOfPunished_132 : decode cX3_lossOfPunished 132 = .ok (.goto (-110), 3) := by decide +kernel
theorem dX3_lossOfPunished_135 : decode cX3_lossOfPunished 135 = .ok (.sipush 1000, 3) := by decide +kernel
theorem dX3_lossOfPunished_138 : decode cX3_lossOfPunished 138 = .ok (.aload_n 0, 1) := by decide +kernel
theorem dX3_lossOfPunished_139 : decode cX3_lossOfPunished 139 = .ok (.getfield 38, 3) := by decide +kernel
theorem dX3_lossOfPunished_142 : decode cX3_lossOfPunished 142 = .ok (.getfield 58, 3) := by decide +kernel
theorem dX3_lossOfPunished_145 : decode cX3_lossOfPunished 145 = .ok (.getfield 84, 3) := by decide +kernel
theorem dX3_lossOfPunished_148 : decode cX3_lossOfPunished 148 = .ok (.isub, 1) := by decide +kernel
theorem dX3_lossOfPunished_149 : decode cX3_lossOfPunished 149 = .ok (.ireturn, 1) := by decide +kernel
set_option maxRecDepth 20000 in
theorem ggX3_clearRows_X1_prepare : GoodIn wsX3_clearRows wsX1_prepare := goodIn_r _ [8, 9, 10, 11, 12, 13, 14, 15, 16, 17, 18, 19, 20, 21, 22, 23, 24, 25, 26, 27, 28, 29, 30, 31, 32, 33, 34, 35, 36, 37, 38, 46, 47, 48, 49, 50, 51, 52, 53, 54, 55, 56, 57, 58, 59, 60, 61, 62, 63, 64] (by decide +kernel) (by decide +kernel)
set_option maxRecDepth 20000 in
theorem gX3_clearRows_X1_prepare : GoodIn wsX3_clearRows (wsV RX3 42 RX1 yX1_prepare wsX1_prepare) := goodIn_app (goodIn_of _ (by decide +kernel)) ggX3_clearRows_X1_prepare
theorem dX3_clearRows_0 : decode cX3_clearRows 0 = .ok (.aload_n 0, 1) := by decide +kernel
theorem dX3_clearRows_1 : decode cX3_clearRows 1 = .ok (.iconst 0, 1) := by decide +kernel
theorem dX3_clearRows_2 : decode cX3_clearRows 2 = .ok (.putfield 9, 3) := by decide +kernel
theorem dX3_clearRows_5 : decode cX3_clearRows 5 = .ok (.aload_n 0, 1) := by decide +kernel
theorem dX3_clearRows_6 : decode cX3_clearRows 6 = .ok (.iconst 0, 1) := by decide +kernel
theorem dX3_clearRows_7 : decode cX3_clearRows 7 = .ok (.putfield 28, 3) := by decide +kernel
theorem dX3_clearRows_10 : decode cX3_clearRows 10 = .ok (.aload_n 0, 1) := by decide +kernel
theorem dX3_clearRows_11 : decode cX3_clearRows 11 = .ok (.getfield 17, 3) := by decide +kernel
theorem dX3_clearRows_14 : decode cX3_clearRows 14 = .ok (.iconst 0, 1) := by decide +kernel
theorem dX3_clearRows_15 : decode cX3_clearRows 15 = .ok (.aaload, 1) := by decide +kernel
theorem dX3_clearRows_16 : decode cX3_clearRows 16 = .ok (.bipush 20, 2) := by decide +kernel
theorem dX3_clearRows_18 : decode cX3_clearRows 18 = .ok (.iload_n 1, 1) := by decide +kernel
theorem dX3_clearRows_19 : decode cX3_clearRows 19 = .ok (.bipush 100, 2) := by decide +kernel
theorem dX3_clearRows_21 : decode cX3_clearRows 21 = .ok (.invokevirtual 42, 3) := by decide +kernel
theorem dX3_clearRows_24 : decode cX3_clearRows 24 = .ok (.return_, 1) := by decide +kernel
set_option maxRecDepth 20000 in
theorem ggX3_addHit_X1_copy : GoodIn wsX3_addHit wsX1_copy := goodIn_r _ [11, 12, 13, 14, 15, 16, 17, 18, 19, 20, 21, 22, 23, 24, 25, 26, 27, 28, 29, 204, 205, 206, 207, 208, 209, 210, 211, 212, 213, 214, 215, 216, 217, 218, 219, 220, 221, 222] (by decide +kernel) (by decide +kernel)
set_option maxRecDepth 20000 in
theorem gX3_addHit_X1_copy : GoodIn wsX3_addHit (wsV RX3 87 RX1 yX1_copy wsX1_copy) := goodIn_app (goodIn_of _ (by decide +kernel)) ggX3_addHit_X1_copy
set_option maxRecDepth 20000 in
theorem ggX3_addHit_X3_hitsWith : GoodIn wsX3_addHit wsX3_hitsWith := goodIn_r _ [33, 3, 34, 35, 36, 37, 38, 39, 40, 41, 42, 10, 43, 12, 13, 44, 45, 46, 47, 17, 48, 49, 50, 28, 29, 51, 52, 53, 54, 21, 22, 24, 25, 26, 55, 56, 57, 58, 59, 60, 61, 62, 63, 64, 65, 66, 67, 68, 69, 70, 71, 72, 73, 74, 75, 76, 77, 78, 79, 80, 81, 82, 83, 84, 85, 86, 87, 88, 89, 90, 91, 92, 93, 94, 95, 96, 19, 97, 98, 99, 100, 101, 102, 103, 104, 105, 106, 107, 108, 109, 110, 111, 112, 113, 114, 115, 116, 117, 118, 119, 120, 121, 122, 123, 124, 125, 126, 127, 128, 129, 130, 131, 132, 133, 134, 135, 136, 137, 138, 139, 23, 140, 141, 142, 143, 144, 145, 146, 147, 148, 149, 150, 151, 152, 153, 154, 155, 156, 157, 20, 158, 27, 159, 160, 161, 162, 163, 164, 165, 166, 167, 168, 169, 170, 171, 172, 173, 174, 175, 176, 177, 178, 179, 180, 181, 182, 183, 204, 205, 206, 207, 208, 209, 210, 211, 212, 213, 214, 215, 216, 217, 218, 219, 220, 221, 222, 223, 224, 225, 226, 227, 228, 229, 230, 231, 232, 233] (by decide +kernel) (by decide +kernel)
set_option maxRecDepth 20000 in
theorem gX3_addHit_X3_hitsWith : GoodIn wsX3_addHit (va_wsS RX3 91 yX3_hitsWith wsX3_hitsWith) := goodIn_app (goodIn_of _ (by decide +kernel)) ggX3_addHit_X3_hitsWith
set_option maxRecDepth 20000 in
theorem ggX3_addHit_X3_keepIfBest : GoodIn wsX3_addHit wsX3_keepIfBest := goodIn_r _ [187, 188, 189, 2, 190, 191, 192, 193, 194, 197, 198, 199, 200, 201, 202, 203] (by decide +kernel) (by decide +kernel)
set_option maxRecDepth 20000 in
theorem gX3_addHit_X3_keepIfBest : GoodIn wsX3_addHit (wsV RX3 95 RX3 yX3_keepIfBest wsX3_keepIfBest) := goodIn_app (goodIn_of _ (by decide +kernel)) ggX3_addHit_X3_keepIfBest
set_option maxRecDepth 20000 in
theorem ggX3_addHit_X3_addHit : GoodIn wsX3_addHit wsX3_addHit := goodIn_r _ [0, 1, 2, 3, 4, 5, 6, 7, 8, 9, 10, 11, 12, 13, 14, 15, 16, 17, 18, 19, 20, 21, 22, 23, 24, 25, 26, 27, 28, 29, 30, 31, 32, 33, 34, 35, 36, 37, 38, 39, 40, 41, 42, 43, 44, 45, 46, 47, 48, 49, 50, 51, 52, 53, 54, 55, 56, 57, 58, 59, 60, 61, 62, 63, 64, 65, 66, 67, 68, 69, 70, 71, 72, 73, 74, 75, 76, 77, 78, 79, 80, 81, 82, 83, 84, 85, 86, 87, 88, 89, 90, 91, 92, 93, 94, 95, 96, 97, 98, 99, 100, 101, 102, 103, 104, 105, 106, 107, 108, 109, 110, 111, 112, 113, 114, 115, 116, 117, 118, 119, 120, 121, 122, 123, 124, 125, 126, 127, 128, 129, 130, 131, 132, 133, 134, 135, 136, 137, 138, 139, 140, 141, 142, 143, 144, 145, 146, 147, 148, 149, 150, 151, 152, 153, 154, 155, 156, 157, 158, 159, 160, 161, 162, 163, 164, 165, 166, 167, 168, 169, 170, 171, 172, 173, 174, 175, 176, 177, 178, 179, 180, 181, 182, 183, 184, 185, 186, 187, 188, 189, 190, 191, 192, 193, 194, 195, 196, 197, 198, 199, 200, 201, 202, 203, 204, 205, 206, 207, 208, 209, 210, 211, 212, 213, 214, 215, 216, 217, 218, 219, 220, 221, 222, 223, 224, 225, 226, 227, 228, 229, 230, 231, 232, 233] (by decide +kernel) (by decide +kernel)
set_option maxRecDepth 20000 in
theorem gX3_addHit_X3_addHit : GoodIn wsX3_addHit (va_wsS RX3 101 yX3_addHit wsX3_addHit) := goodIn_app (goodIn_of _ (by decide +kernel)) ggX3_addHit_X3_addHit
theorem dX3_addHit_0 : decode cX3_addHit 0 = .ok (.iload_n 2, 1) := by decide +kernel
theorem dX3_addHit_1 : decode cX3_addHit 1 = .ok (.ifCond .lt 13, 3) := by decide +kernel
theorem dX3_addHit_4 : decode cX3_addHit 4 = .ok (.iload_n 2, 1) := by decide +kernel
theorem dX3_addHit_5 : decode cX3_addHit 5 = .ok (.iload_n 3, 1) := by decide +kernel
theorem dX3_addHit_6 : decode cX3_addHit 6 = .ok (.if_icmp .ge 8, 3) := by decide +kernel
theorem dX3_addHit_9 : decode cX3_addHit 9 = .ok (.iload_n 2, 1) := by decide +kernel
theorem dX3_addHit_10 : decode cX3_addHit 10 = .ok (.iconst 4, 1) := by decide +kernel
theorem dX3_addHit_11 : decode cX3_addHit 11 = .ok (.if_icmp .lt 4, 3) := by decide +kernel
theorem dX3_addHit_14 : decode cX3_addHit 14 = .ok (.return_, 1) := by decide +kernel
theorem dX3_addHit_15 : decode cX3_addHit 15 = .ok (.aload_n 0, 1) := by decide +kernel
theorem dX3_addHit_16 : decode cX3_addHit 16 = .ok (.getfield 17, 3) := by decide +kernel
theorem dX3_addHit_19 : decode cX3_addHit 19 = .ok (.iload_n 2, 1) := by decide +kernel
theorem dX3_addHit_20 : decode cX3_addHit 20 = .ok (.iconst 1, 1) := by decide +kernel
theorem dX3_addHit_21 : decode cX3_addHit 21 = .ok (.iadd, 1) := by decide +kernel
theorem dX3_addHit_22 : decode cX3_addHit 22 = .ok (.aaload, 1) := by decide +kernel
theorem dX3_addHit_23 : decode cX3_addHit 23 = .ok (.astore 4, 2) := by decide +kernel
theorem dX3_addHit_25 : decode cX3_addHit 25 = .ok (.aload 4, 2) := by decide +kernel
theorem dX3_addHit_27 : decode cX3_addHit 27 = .ok (.aload_n 0, 1) := by decide +kernel
theorem dX3_addHit_28 : decode cX3_addHit 28 = .ok (.getfield 17, 3) := by decide +kernel
theorem dX3_addHit_31 : decode cX3_addHit 31 = .ok (.iload_n 2, 1) := by decide +kernel
theorem dX3_addHit_32 : decode cX3_addHit 32 = .ok (.aaload, 1) := by decide +kernel
theorem dX3_addHit_33 : decode cX3_addHit 33 = .ok (.invokevirtual 87, 3) := by decide +kernel
theorem dX3_addHit_36 : decode cX3_addHit 36 = .ok (.aload 4, 2) := by decide +kernel
theorem dX3_addHit_38 : decode cX3_addHit 38 = .ok (.iload_n 1, 1) := by decide +kernel
theorem dX3_addHit_39 : decode cX3_addHit 39 = .ok (.invokestatic 91, 3) := by decide +kernel
theorem dX3_addHit_42 : decode cX3_addHit 42 = .ok (.ifCond .ne 4, 3) := by decide +kernel
theorem dX3_addHit_45 : decode cX3_addHit 45 = .ok (.return_, 1) := by decide +kernel
theorem dX3_addHit_46 : decode cX3_addHit 46 = .ok (.aload_n 0, 1) := by decide +kernel
theorem dX3_addHit_47 : decode cX3_addHit 47 = .ok (.getfield 21, 3) := by decide +kernel
theorem dX3_addHit_50 : decode cX3_addHit 50 = .ok (.iload_n 2, 1) := by decide +kernel
theorem dX3_addHit_51 : decode cX3_addHit 51 = .ok (.iload_n 1, 1) := by decide +kernel
theorem dX3_addHit_52 : decode cX3_addHit 52 = .ok (.iastore, 1) := by decide +kernel
theorem dX3_addHit_53 : decode cX3_addHit 53 = .ok (.aload_n 0, 1) := by decide +kernel
theorem dX3_addHit_54 : decode cX3_addHit 54 = .ok (.sipush 1000, 3) := by decide +kernel
theorem dX3_addHit_57 : decode cX3_addHit 57 = .ok (.aload 4, 2) := by decide +kernel
theorem dX3_addHit_59 : decode cX3_addHit 59 = .ok (.getfield 67, 3) := by decide +kernel
theorem dX3_addHit_62 : decode cX3_addHit 62 = .ok (.getfield 84, 3) := by decide +kernel
theorem dX3_addHit_65 : decode cX3_addHit 65 = .ok (.isub, 1) := by decide +kernel
theorem dX3_addHit_66 : decode cX3_addHit 66 = .ok (.iload_n 2, 1) := by decide +kernel
theorem dX3_addHit_67 : decode cX3_addHit 67 = .ok (.iconst 1, 1) := by decide +kernel
theorem dX3_addHit_68 : decode cX3_addHit 68 = .ok (.iadd, 1) := by decide +kernel
theorem dX3_addHit_69 : decode cX3_addHit 69 = .ok (.invokevirtual 95, 3) := by decide +kernel
theorem dX3_addHit_72 : decode cX3_addHit 72 = .ok (.iconst 0, 1) := by decide +kernel
theorem dX3_addHit_73 : decode cX3_addHit 73 = .ok (.istore 5, 2) := by decide +kernel
theorem dX3_addHit_75 : decode cX3_addHit 75 = .ok (.iload 5, 2) := by decide +kernel
theorem dX3_addHit_77 : decode cX3_addHit 77 = .ok (.aload_n 0, 1) := by decide +kernel
theorem dX3_addHit_78 : decode cX3_addHit 78 = .ok (.getfield 31, 3) := by decide +kernel
theorem dX3_addHit_81 : decode cX3_addHit 81 = .ok (.getfield 98, 3) := by decide +kernel
theorem dX3_addHit_84 : decode cX3_addHit 84 = .ok (.if_icmp .ge 19, 3) := by decide +kernel
theorem dX3_addHit_87 : decode cX3_addHit 87 = .ok (.aload_n 0, 1) := by decide +kernel
theorem dX3_addHit_88 : decode cX3_addHit 88 = .ok (.iload 5, 2) := by decide +kernel
theorem dX3_addHit_90 : decode cX3_addHit 90 = .ok (.iload_n 2, 1) := by decide +kernel
theorem dX3_addHit_91 : decode cX3_addHit 91 = .ok (.iconst 1, 1) := by decide +kernel
theorem dX3_addHit_92 : decode cX3_addHit 92 = .ok (.iadd, 1) := by decide +kernel
theorem dX3_addHit_93 : decode cX3_addHit 93 = .ok (.iload_n 3, 1) := by decide +kernel
theorem dX3_addHit_94 : decode cX3_addHit 94 = .ok (.invokestatic 101, 3) := by decide +kernel
theorem dX3_addHit_97 : decode cX3_addHit 97 = .ok (.iinc 5 1, 3) := by decide +kernel
theorem dX3_addHit_100 : decode cX3_addHit 100 = .ok (.goto (-25), 3) := by decide +kernel
theorem dX3_addHit_103 : decode cX3_addHit 103 = .ok (.return_, 1) := by decide +kernel
set_option maxRecDepth 20000 in
theorem ggX3_hitsWith_X7_inputOf : GoodIn wsX3_hitsWith wsX7_inputOf := goodIn_r _ [7] (by decide +kernel) (by decide +kernel)
set_option maxRecDepth 20000 in
theorem gX3_hitsWith_X7_inputOf_n46 : GoodIn wsX3_hitsWith (wsX7_inputOf) := ggX3_hitsWith_X7_inputOf
set_option maxRecDepth 20000 in
theorem ggX3_hitsWith_X1_playFrame : GoodIn wsX3_hitsWith wsX1_playFrame := goodIn_r _ [12, 13, 14, 15, 16, 17, 18, 19, 20, 21, 22, 23, 24, 25, 26, 27, 28, 29, 30, 31, 32, 33, 34, 35, 36, 37, 38, 39, 40, 41, 42, 43, 44, 45, 46, 47, 48, 49, 50, 51, 52, 53, 54, 55, 56, 57, 58, 59, 60, 61, 62, 11, 63, 64, 65, 66, 67, 68, 69, 70, 71, 72, 73, 74, 75, 76, 77, 78, 79, 80, 81, 82, 83, 84, 85, 86, 87, 88, 89, 90, 91, 92, 93, 94, 95, 96, 97, 98, 99, 100, 101, 102, 103, 104, 105, 106, 107, 108, 109, 110, 111, 112, 113, 114, 115, 116, 117, 118, 119, 120, 121, 122, 123, 124, 125, 126, 127, 128, 129, 130, 131, 132, 133, 134, 135, 136, 137, 138, 139, 140, 141, 142, 143, 144, 145, 146, 147, 148, 149, 150, 151, 152, 153, 154, 155, 156, 157, 158, 159, 160, 161, 162, 163, 164, 165, 166, 167, 168, 169, 170, 171, 172, 173, 174, 175, 176, 177, 178, 179, 180, 181, 182, 183, 184, 185, 186, 187, 188, 189, 190, 191, 192, 193, 194, 195, 196] (by decide +kernel) (by decide +kernel)
set_option maxRecDepth 20000 in
theorem gX3_hitsWith_X1_playFrame : GoodIn wsX3_hitsWith (wsV RX3 54 RX1 yX1_playFrame wsX1_playFrame) := goodIn_app (goodIn_of _ (by decide +kernel)) ggX3_hitsWith_X1_playFrame
theorem dX3_hitsWith_0 : decode cX3_hitsWith 0 = .ok (.aload_n 0, 1) := by decide +kernel
theorem dX3_hitsWith_1 : decode cX3_hitsWith 1 = .ok (.getfield 67, 3) := by decide +kernel
theorem dX3_hitsWith_4 : decode cX3_hitsWith 4 = .ok (.getfield 105, 3) := by decide +kernel
theorem dX3_hitsWith_7 : decode cX3_hitsWith 7 = .ok (.istore_n 2, 1) := by decide +kernel
theorem dX3_hitsWith_8 : decode cX3_hitsWith 8 = .ok (.iconst 0, 1) := by decide +kernel
theorem dX3_hitsWith_9 : decode cX3_hitsWith 9 = .ok (.istore_n 3, 1) := by decide +kernel
theorem dX3_hitsWith_10 : decode cX3_hitsWith 10 = .ok (.iconst 0, 1) := by decide +kernel
theorem dX3_hitsWith_11 : decode cX3_hitsWith 11 = .ok (.istore 4, 2) := by decide +kernel
theorem dX3_hitsWith_13 : decode cX3_hitsWith 13 = .ok (.iload 4, 2) := by decide +kernel
theorem dX3_hitsWith_15 : decode cX3_hitsWith 15 = .ok (.bipush 60, 2) := by decide +kernel
theorem dX3_hitsWith_17 : decode cX3_hitsWith 17 = .ok (.if_icmp .ge 74, 3) := by decide +kernel
theorem dX3_hitsWith_20 : decode cX3_hitsWith 20 = .ok (.aload_n 0, 1) := by decide +kernel
theorem dX3_hitsWith_21 : decode cX3_hitsWith 21 = .ok (.iload_n 3, 1) := by decide +kernel
theorem dX3_hitsWith_22 : decode cX3_hitsWith 22 = .ok (.ifCond .eq 7, 3) := by decide +kernel
theorem dX3_hitsWith_25 : decode cX3_hitsWith 25 = .ok (.iconst 0, 1) := by decide +kernel
theorem dX3_hitsWith_26 : decode cX3_hitsWith 26 = .ok (.goto 7, 3) := by decide +kernel
theorem dX3_hitsWith_29 : decode cX3_hitsWith 29 = .ok (.iload_n 1, 1) := by decide +kernel
theorem dX3_hitsWith_30 : decode cX3_hitsWith 30 = .ok (.invokestatic 46, 3) := by decide +kernel
theorem dX3_hitsWith_33 : decode cX3_hitsWith 33 = .ok (.iconst 0, 1) := by decide +kernel
theorem dX3_hitsWith_34 : decode cX3_hitsWith 34 = .ok (.invokevirtual 54, 3) := by decide +kernel
theorem dX3_hitsWith_37 : decode cX3_hitsWith 37 = .ok (.iload_n 3, 1) := by decide +kernel
theorem dX3_hitsWith_38 : decode cX3_hitsWith 38 = .ok (.ifCond .ne 13, 3) := by decide +kernel
theorem dX3_hitsWith_41 : decode cX3_hitsWith 41 = .ok (.aload_n 0, 1) := by decide +kernel
theorem dX3_hitsWith_42 : decode cX3_hitsWith 42 = .ok (.getfield 58, 3) := by decide +kernel
theorem dX3_hitsWith_45 : decode cX3_hitsWith 45 = .ok (.getfield 106, 3) := by decide +kernel
theorem dX3_hitsWith_48 : decode cX3_hitsWith 48 = .ok (.ifCond .eq 7, 3) := by decide +kernel
theorem dX3_hitsWith_51 : decode cX3_hitsWith 51 = .ok (.iconst 1, 1) := by decide +kernel
theorem dX3_hitsWith_52 : decode cX3_hitsWith 52 = .ok (.goto 4, 3) := by decide +kernel
theorem dX3_hitsWith_55 : decode cX3_hitsWith 55 = .ok (.iconst 0, 1) := by decide +kernel
theorem dX3_hitsWith_56 : decode cX3_hitsWith 56 = .ok (.istore_n 3, 1) := by decide +kernel
theorem dX3_hitsWith_57 : decode cX3_hitsWith 57 = .ok (.aload_n 0, 1) := by decide +kernel
theorem dX3_hitsWith_58 : decode cX3_hitsWith 58 = .ok (.getfield 67, 3) := by decide +kernel
theorem dX3_hitsWith_61 : decode cX3_hitsWith 61 = .ok (.getfield 105, 3) := by decide +kernel
theorem dX3_hitsWith_64 : decode cX3_hitsWith 64 = .ok (.iload_n 2, 1) := by decide +kernel
theorem dX3_hitsWith_65 : decode cX3_hitsWith 65 = .ok (.if_icmp .eq 20, 3) := by decide +kernel
theorem dX3_hitsWith_68 : decode cX3_hitsWith 68 = .ok (.aload_n 0, 1) := by decide +kernel
theorem dX3_hitsWith_69 : decode cX3_hitsWith 69 = .ok (.getfield 67, 3) := by decide +kernel
theorem dX3_hitsWith_72 : decode cX3_hitsWith 72 = .ok (.getfield 105, 3) := by decide +kernel
theorem dX3_hitsWith_75 : decode cX3_hitsWith 75 = .ok (.iload_n 2, 1) := by decide +kernel
theorem dX3_hitsWith_76 : decode cX3_hitsWith 76 = .ok (.if_icmp .le 7, 3) := by decide +kernel
theorem dX3_hitsWith_79 : decode cX3_hitsWith 79 = .ok (.iconst 1, 1) := by decide +kernel
theorem dX3_hitsWith_80 : decode cX3_hitsWith 80 = .ok (.goto 4, 3) := by decide +kernel
theorem dX3_hitsWith_83 : decode cX3_hitsWith 83 = .ok (.iconst 0, 1) := by decide +kernel
theorem dX3_hitsWith_84 : decode cX3_hitsWith 84 = .ok (.ireturn, 1) := by decide +kernel
theorem dX3_hitsWith_85 : decode cX3_hitsWith 85 = .ok (.iinc 4 1, 3) := by decide +kernel
theorem dX3_hitsWith_88 : decode cX3_hitsWith 88 = .ok (.goto (-75), 3) := by decide +kernel
theorem dX3_hitsWith_91 : decode cX3_hitsWith 91 = .ok (.iconst 0, 1) := by decide +kernel
theorem dX3_hitsWith_92 : decode cX3_hitsWith 92 = .ok (.ireturn, 1) := by decide +kernel
theorem dX3_keepIfBest_0 : decode cX3_keepIfBest 0 = .ok (.iload_n 1, 1) := by decide +kernel
theorem dX3_keepIfBest_1 : decode cX3_keepIfBest 1 = .ok (.aload_n 0, 1) := by decide +kernel
theorem dX3_keepIfBest_2 : decode cX3_keepIfBest 2 = .ok (.getfield 9, 3) := by decide +kernel
theorem dX3_keepIfBest_5 : decode cX3_keepIfBest 5 = .ok (.if_icmp .le 32, 3) := by decide +kernel
theorem dX3_keepIfBest_8 : decode cX3_keepIfBest 8 = .ok (.iload_n 2, 1) := by decide +kernel
theorem dX3_keepIfBest_9 : decode cX3_keepIfBest 9 = .ok (.iconst 4, 1) := by decide +kernel
theorem dX3_keepIfBest_10 : decode cX3_keepIfBest 10 = .ok (.if_icmp .gt 27, 3) := by decide +kernel
theorem dX3_keepIfBest_13 : decode cX3_keepIfBest 13 = .ok (.aload_n 0, 1) := by decide +kernel
theorem dX3_keepIfBest_14 : decode cX3_keepIfBest 14 = .ok (.iload_n 1, 1) := by decide +kernel
theorem dX3_keepIfBest_15 : decode cX3_keepIfBest 15 = .ok (.putfield 9, 3) := by decide +kernel
theorem dX3_keepIfBest_18 : decode cX3_keepIfBest 18 = .ok (.aload_n 0, 1) := by decide +kernel
theorem dX3_keepIfBest_19 : decode cX3_keepIfBest 19 = .ok (.iload_n 2, 1) := by decide +kernel
theorem dX3_keepIfBest_20 : decode cX3_keepIfBest 20 = .ok (.putfield 28, 3) := by decide +kernel
theorem dX3_keepIfBest_23 : decode cX3_keepIfBest 23 = .ok (.aload_n 0, 1) := by decide +kernel
theorem dX3_keepIfBest_24 : decode cX3_keepIfBest 24 = .ok (.getfield 21, 3) := by decide +kernel
theorem dX3_keepIfBest_27 : decode cX3_keepIfBest 27 = .ok (.iconst 0, 1) := by decide +kernel
theorem dX3_keepIfBest_28 : decode cX3_keepIfBest 28 = .ok (.aload_n 0, 1) := by decide +kernel
theorem dX3_keepIfBest_29 : decode cX3_keepIfBest 29 = .ok (.getfield 25, 3) := by decide +kernel
theorem dX3_keepIfBest_32 : decode cX3_keepIfBest 32 = .ok (.iconst 0, 1) := by decide +kernel
theorem dX3_keepIfBest_33 : decode cX3_keepIfBest 33 = .ok (.iload_n 2, 1) := by decide +kernel
theorem dX3_keepIfBest_34 : decode cX3_keepIfBest 34 = .ok (.invokestatic 110, 3) := by decide +kernel
theorem dX3_keepIfBest_37 : decode cX3_keepIfBest 37 = .ok (.return_, 1) := by decide +kernel
theorem dX3_bestAt_0 : decode cX3_bestAt 0 = .ok (.iload_n 1, 1) := by decide +kernel
theorem dX3_bestAt_1 : decode cX3_bestAt 1 = .ok (.ifCond .lt 25, 3) := by decide +kernel
theorem dX3_bestAt_4 : decode cX3_bestAt 4 = .ok (.iload_n 1, 1) := by decide +kernel
theorem dX3_bestAt_5 : decode cX3_bestAt 5 = .ok (.aload_n 0, 1) := by decide +kernel
theorem dX3_bestAt_6 : decode cX3_bestAt 6 = .ok (.getfield 28, 3) := by decide +kernel
theorem dX3_bestAt_9 : decode cX3_bestAt 9 = .ok (.if_icmp .ge 17, 3) := by decide +kernel
theorem dX3_bestAt_12 : decode cX3_bestAt 12 = .ok (.iload_n 1, 1) := by decide +kernel
theorem dX3_bestAt_13 : decode cX3_bestAt 13 = .ok (.iconst 4, 1) := by decide +kernel
theorem dX3_bestAt_14 : decode cX3_bestAt 14 = .ok (.if_icmp .ge 12, 3) := by decide +kernel
theorem dX3_bestAt_17 : decode cX3_bestAt 17 = .ok (.aload_n 0, 1) := by decide +kernel
theorem dX3_bestAt_18 : decode cX3_bestAt 18 = .ok (.getfield 25, 3) := by decide +kernel
theorem dX3_bestAt_21 : decode cX3_bestAt 21 = .ok (.iload_n 1, 1) := by decide +kernel
theorem dX3_bestAt_22 : decode cX3_bestAt 22 = .ok (.iaload, 1) := by decide +kernel
theorem dX3_bestAt_23 : decode cX3_bestAt 23 = .ok (.goto 4, 3) := by decide +kernel
theorem dX3_bestAt_26 : decode cX3_bestAt 26 = .ok (.iconst (-1), 1) := by decide +kernel
theorem dX3_bestAt_27 : decode cX3_bestAt 27 = .ok (.ireturn, 1) := by decide +kernel
theorem dX4_init_0 : decode cX4_init 0 = .ok (.aload_n 0, 1) := by decide +kernel
theorem dX4_init_1 : decode cX4_init 1 = .ok (.invokespecial 3, 3) := by decide +kernel
theorem dX4_init_4 : decode cX4_init 4 = .ok (.aload_n 0, 1) := by decide +kernel
theorem dX4_init_5 : decode cX4_init 5 = .ok (.iconst 0, 1) := by decide +kernel
theorem dX4_init_6 : decode cX4_init 6 = .ok (.putfield 9, 3) := by decide +kernel
theorem dX4_init_9 : decode cX4_init 9 = .ok (.aload_n 0, 1) := by decide +kernel
theorem dX4_init_10 : decode cX4_init 10 = .ok (.iconst 0, 1) := by decide +kernel
theorem dX4_init_11 : decode cX4_init 11 = .ok (.putfield 15, 3) := by decide +kernel
theorem dX4_init_14 : decode cX4_init 14 = .ok (.aload_n 0, 1) := by decide +kernel
theorem dX4_init_15 : decode cX4_init 15 = .ok (.iconst 0, 1) := by decide +kernel
theorem dX4_init_16 : decode cX4_init 16 = .ok (.putfield 18, 3) := by decide +kernel
theorem dX4_init_19 : decode cX4_init 19 = .ok (.aload_n 0, 1) := by decide +kernel
theorem dX4_init_20 : decode cX4_init 20 = .ok (.iconst 0, 1) := by decide +kernel
theorem dX4_init_21 : decode cX4_init 21 = .ok (.putfield 21, 3) := by decide +kernel
theorem dX4_init_24 : decode cX4_init 24 = .ok (.aload_n 0, 1) := by decide +kernel
theorem dX4_init_25 : decode cX4_init 25 = .ok (.iconst 0, 1) := by decide +kernel
theorem dX4_init_26 : decode cX4_init 26 = .ok (.putfield 24, 3) := by decide +kernel
theorem dX4_init_29 : decode cX4_init 29 = .ok (.aload_n 0, 1) := by decide +kernel
theorem dX4_init_30 : decode cX4_init 30 = .ok (.iconst 0, 1) := by decide +kernel
theorem dX4_init_31 : decode cX4_init 31 = .ok (.putfield 27, 3) := by decide +kernel
theorem dX4_init_34 : decode cX4_init 34 = .ok (.aload_n 0, 1) := by decide +kernel
theorem dX4_init_35 : decode cX4_init 35 = .ok (.iconst 5, 1) := by decide +kernel
theorem dX4_init_36 : decode cX4_init 36 = .ok (.newarray .int, 2) := by decide +kernel
theorem dX4_init_38 : decode cX4_init 38 = .ok (.putfield 30, 3) := by decide +kernel
theorem dX4_init_41 : decode cX4_init 41 = .ok (.aload_n 0, 1) := by decide +kernel
theorem dX4_init_42 : decode cX4_init 42 = .ok (.bipush 6, 2) := by decide +kernel
theorem dX4_init_44 : decode cX4_init 44 = .ok (.newarray .boolean, 2) := by decide +kernel
theorem dX4_init_46 : decode cX4_init 46 = .ok (.putfield 34, 3) := by decide +kernel
theorem dX4_init_49 : decode cX4_init 49 = .ok (.return_, 1) := by decide +kernel
set_option maxRecDepth 20000 in
theorem ggX4_make_X4_setTrait : GoodIn wsX4_make wsX4_setTrait := goodIn_r _ [11, 12, 13, 14, 15, 16, 17, 18, 19, 20] (by decide +kernel) (by decide +kernel)
set_option maxRecDepth 20000 in
theorem gX4_make_X4_setTrait : GoodIn wsX4_make (wsV RX4 38 RX4 yX4_setTrait wsX4_setTrait) := goodIn_app (goodIn_of _ (by decide +kernel)) ggX4_make_X4_setTrait
theorem dX4_make_0 : decode cX4_make 0 = .ok (.aload_n 0, 1) := by decide +kernel
theorem dX4_make_1 : decode cX4_make 1 = .ok (.iload_n 1, 1) := by decide +kernel
theorem dX4_make_2 : decode cX4_make 2 = .ok (.putfield 9, 3) := by decide +kernel
theorem dX4_make_5 : decode cX4_make 5 = .ok (.aload_n 0, 1) := by decide +kernel
theorem dX4_make_6 : decode cX4_make 6 = .ok (.iload_n 2, 1) := by decide +kernel
theorem dX4_make_7 : decode cX4_make 7 = .ok (.putfield 15, 3) := by decide +kernel
theorem dX4_make_10 : decode cX4_make 10 = .ok (.aload_n 0, 1) := by decide +kernel
theorem dX4_make_11 : decode cX4_make 11 = .ok (.iload_n 3, 1) := by decide +kernel
theorem dX4_make_12 : decode cX4_make 12 = .ok (.putfield 18, 3) := by decide +kernel
theorem dX4_make_15 : decode cX4_make 15 = .ok (.aload_n 0, 1) := by decide +kernel
theorem dX4_make_16 : decode cX4_make 16 = .ok (.iload 4, 2) := by decide +kernel
theorem dX4_make_18 : decode cX4_make 18 = .ok (.putfield 21, 3) := by decide +kernel
theorem dX4_make_21 : decode cX4_make 21 = .ok (.aload_n 0, 1) := by decide +kernel
theorem dX4_make_22 : decode cX4_make 22 = .ok (.iload 5, 2) := by decide +kernel
theorem dX4_make_24 : decode cX4_make 24 = .ok (.putfield 24, 3) := by decide +kernel
theorem dX4_make_27 : decode cX4_make 27 = .ok (.aload_n 0, 1) := by decide +kernel
theorem dX4_make_28 : decode cX4_make 28 = .ok (.iload 6, 2) := by decide +kernel
theorem dX4_make_30 : decode cX4_make 30 = .ok (.putfield 27, 3) := by decide +kernel
theorem dX4_make_33 : decode cX4_make 33 = .ok (.aload_n 0, 1) := by decide +kernel
theorem dX4_make_34 : decode cX4_make 34 = .ok (.iconst 0, 1) := by decide +kernel
theorem dX4_make_35 : decode cX4_make 35 = .ok (.bipush 20, 2) := by decide +kernel
theorem dX4_make_37 : decode cX4_make 37 = .ok (.invokevirtual 38, 3) := by decide +kernel
theorem dX4_make_40 : decode cX4_make 40 = .ok (.aload_n 0, 1) := by decide +kernel
theorem dX4_make_41 : decode cX4_make 41 = .ok (.iconst 1, 1) := by decide +kernel
theorem dX4_make_42 : decode cX4_make 42 = .ok (.bipush 12, 2) := by decide +kernel
theorem dX4_make_44 : decode cX4_make 44 = .ok (.invokevirtual 38, 3) := by decide +kernel
theorem dX4_make_47 : decode cX4_make 47 = .ok (.aload_n 0, 1) := by decide +kernel
theorem dX4_make_48 : decode cX4_make 48 = .ok (.iconst 2, 1) := by decide +kernel
theorem dX4_make_49 : decode cX4_make 49 = .ok (.bipush 10, 2) := by decide +kernel
theorem dX4_make_51 : decode cX4_make 51 = .ok (.invokevirtual 38, 3) := by decide +kernel
theorem dX4_make_54 : decode cX4_make 54 = .ok (.aload_n 0, 1) := by decide +kernel
theorem dX4_make_55 : decode cX4_make 55 = .ok (.iconst 3, 1) := by decide +kernel
theorem dX4_make_56 : decode cX4_make 56 = .ok (.iconst 0, 1) := by decide +kernel
theorem dX4_make_57 : decode cX4_make 57 = .ok (.invokevirtual 38, 3) := by decide +kernel
theorem dX4_make_60 : decode cX4_make 60 = .ok (.aload_n 0, 1) := by decide +kernel
theorem dX4_make_61 : decode cX4_make 61 = .ok (.iconst 4, 1) := by decide +kernel
theorem dX4_make_62 : decode cX4_make 62 = .ok (.iconst 5, 1) := by decide +kernel
theorem dX4_make_63 : decode cX4_make 63 = .ok (.invokevirtual 38, 3) := by decide +kernel
theorem dX4_make_66 : decode cX4_make 66 = .ok (.return_, 1) := by decide +kernel
theorem dX4_copy_0 : decode cX4_copy 0 = .ok (.aload_n 0, 1) := by decide +kernel
theorem dX4_copy_1 : decode cX4_copy 1 = .ok (.aload_n 1, 1) := by decide +kernel
theorem dX4_copy_2 : decode cX4_copy 2 = .ok (.getfield 9, 3) := by decide +kernel
theorem dX4_copy_5 : decode cX4_copy 5 = .ok (.putfield 9, 3) := by decide +kernel
theorem dX4_copy_8 : decode cX4_copy 8 = .ok (.aload_n 0, 1) := by decide +kernel
theorem dX4_copy_9 : decode cX4_copy 9 = .ok (.aload_n 1, 1) := by decide +kernel
theorem dX4_copy_10 : decode cX4_copy 10 = .ok (.getfield 15, 3) := by decide +kernel
theorem dX4_copy_13 : decode cX4_copy 13 = .ok (.putfield 15, 3) := by decide +kernel
theorem dX4_copy_16 : decode cX4_copy 16 = .ok (.aload_n 0, 1) := by decide +kernel
theorem dX4_copy_17 : decode cX4_copy 17 = .ok (.aload_n 1, 1) := by decide +kernel
theorem dX4_copy_18 : decode cX4_copy 18 = .ok (.getfield 18, 3) := by decide +kernel
theorem dX4_copy_21 : decode cX4_copy 21 = .ok (.putfield 18, 3) := by decide +kernel
theorem dX4_copy_24 : decode cX4_copy 24 = .ok (.aload_n 0, 1) := by decide +kernel
theorem dX4_copy_25 : decode cX4_copy 25 = .ok (.aload_n 1, 1) := by decide +kernel
theorem dX4_copy_26 : decode cX4_copy 26 = .ok (.getfield 21, 3) := by decide +kernel
theorem dX4_copy_29 : decode cX4_copy 29 = .ok (.putfield 21, 3) := by decide +kernel
theorem dX4_copy_32 : decode cX4_copy 32 = .ok (.aload_n 0, 1) := by decide +kernel
theorem dX4_copy_33 : decode cX4_copy 33 = .ok (.aload_n 1, 1) := by decide +kernel
theorem dX4_copy_34 : decode cX4_copy 34 = .ok (.getfield 24, 3) := by decide +kernel
theorem dX4_copy_37 : decode cX4_copy 37 = .ok (.putfield 24, 3) := by decide +kernel
theorem dX4_copy_40 : decode cX4_copy 40 = .ok (.aload_n 0, 1) := by decide +kernel
theorem dX4_copy_41 : decode cX4_copy 41 = .ok (.aload_n 1, 1) := by decide +kernel
theorem dX4_copy_42 : decode cX4_copy 42 = .ok (.getfield 27, 3) := by decide +kernel
theorem dX4_copy_45 : decode cX4_copy 45 = .ok (.putfield 27, 3) := by decide +kernel
theorem dX4_copy_48 : decode cX4_copy 48 = .ok (.aload_n 1, 1) := by decide +kernel
theorem dX4_copy_49 : decode cX4_copy 49 = .ok (.getfield 30, 3) := by decide +kernel
theorem dX4_copy_52 : decode cX4_copy 52 = .ok (.iconst 0, 1) := by decide +kernel
theorem dX4_copy_53 : decode cX4_copy 53 = .ok (.aload_n 0, 1) := by decide +kernel
theorem dX4_copy_54 : decode cX4_copy 54 = .ok (.getfield 30, 3) := by decide +kernel
theorem dX4_copy_57 : decode cX4_copy 57 = .ok (.iconst 0, 1) := by decide +kernel
theorem dX4_copy_58 : decode cX4_copy 58 = .ok (.iconst 5, 1) := by decide +kernel
theorem dX4_copy_59 : decode cX4_copy 59 = .ok (.invokestatic 42, 3) := by decide +kernel
theorem dX4_copy_62 : decode cX4_copy 62 = .ok (.iconst 0, 1) := by decide +kernel
theorem dX4_copy_63 : decode cX4_copy 63 = .ok (.istore_n 2, 1) := by decide +kernel
theorem dX4_copy_64 : decode cX4_copy 64 = .ok (.iload_n 2, 1) := by decide +kernel
theorem dX4_copy_65 : decode cX4_copy 65 = .ok (.bipush 6, 2) := by decide +kernel
theorem dX4_copy_67 : decode cX4_copy 67 = .ok (.if_icmp .ge 21, 3) := by decide +kernel
theorem dX4_copy_70 : decode cX4_copy 70 = .ok (.aload_n 0, 1) := by decide +kernel
theorem dX4_copy_71 : decode cX4_copy 71 = .ok (.getfield 34, 3) := by decide +kernel
theorem dX4_copy_74 : decode cX4_copy 74 = .ok (.iload_n 2, 1) := by decide +kernel
theorem dX4_copy_75 : decode cX4_copy 75 = .ok (.aload_n 1, 1) := by decide +kernel
theorem dX4_copy_76 : decode cX4_copy 76 = .ok (.getfield 34, 3) := by decide +kernel
theorem dX4_copy_79 : decode cX4_copy 79 = .ok (.iload_n 2, 1) := by decide +kernel
theorem dX4_copy_80 : decode cX4_copy 80 = .ok (.baload, 1) := by decide +kernel
theorem dX4_copy_81 : decode cX4_copy 81 = .ok (.bastore, 1) := by decide +kernel
theorem dX4_copy_82 : decode cX4_copy 82 = .ok (.iinc 2 1, 3) := by decide +kernel
theorem dX4_copy_85 : decode cX4_copy 85 = .ok (.goto (-21), 3) := by decide +kernel
theorem dX4_copy_88 : decode cX4_copy 88 = .ok (.return_, 1) := by decide +kernel
theorem dX4_trait_0 : decode cX4_trait 0 = .ok (.iload_n 1, 1) := by decide +kernel
theorem dX4_trait_1 : decode cX4_trait 1 = .ok (.ifCond .lt 17, 3) := by decide +kernel
theorem dX4_trait_4 : decode cX4_trait 4 = .ok (.iload_n 1, 1) := by decide +kernel
theorem dX4_trait_5 : decode cX4_trait 5 = .ok (.iconst 5, 1) := by decide +kernel
theorem dX4_trait_6 : decode cX4_trait 6 = .ok (.if_icmp .ge 12, 3) := by decide +kernel
theorem dX4_trait_9 : decode cX4_trait 9 = .ok (.aload_n 0, 1) := by decide +kernel
theorem dX4_trait_10 : decode cX4_trait 10 = .ok (.getfield 30, 3) := by decide +kernel
theorem dX4_trait_13 : decode cX4_trait 13 = .ok (.iload_n 1, 1) := by decide +kernel
theorem dX4_trait_14 : decode cX4_trait 14 = .ok (.iaload, 1) := by decide +kernel
theorem dX4_trait_15 : decode cX4_trait 15 = .ok (.goto 4, 3) := by decide +kernel
theorem dX4_trait_18 : decode cX4_trait 18 = .ok (.iconst 0, 1) := by decide +kernel
theorem dX4_trait_19 : decode cX4_trait 19 = .ok (.ireturn, 1) := by decide +kernel
theorem dX4_setTrait_0 : decode cX4_setTrait 0 = .ok (.iload_n 1, 1) := by decide +kernel
theorem dX4_setTrait_1 : decode cX4_setTrait 1 = .ok (.ifCond .lt 15, 3) := by decide +kernel
theorem dX4_setTrait_4 : decode cX4_setTrait 4 = .ok (.iload_n 1, 1) := by decide +kernel
theorem dX4_setTrait_5 : decode cX4_setTrait 5 = .ok (.iconst 5, 1) := by decide +kernel
theorem dX4_setTrait_6 : decode cX4_setTrait 6 = .ok (.if_icmp .ge 10, 3) := by decide +kernel
theorem dX4_setTrait_9 : decode cX4_setTrait 9 = .ok (.aload_n 0, 1) := by decide +kernel
theorem dX4_setTrait_10 : decode cX4_setTrait 10 = .ok (.getfield 30, 3) := by decide +kernel
theorem dX4_setTrait_13 : decode cX4_setTrait 13 = .ok (.iload_n 1, 1) := by decide +kernel
theorem dX4_setTrait_14 : decode cX4_setTrait 14 = .ok (.iload_n 2, 1) := by decide +kernel
theorem dX4_setTrait_15 : decode cX4_setTrait 15 = .ok (.iastore, 1) := by decide +kernel
theorem dX4_setTrait_16 : decode cX4_setTrait 16 = .ok (.return_, 1) := by decide +kernel
theorem dX4_goesInto_0 : decode cX4_goesInto 0 = .ok (.iload_n 1, 1) := by decide +kernel
theorem dX4_goesInto_1 : decode cX4_goesInto 1 = .ok (.ifCond .lt 22, 3) := by decide +kernel
theorem dX4_goesInto_4 : decode cX4_goesInto 4 = .ok (.iload_n 1, 1) := by decide +kernel
theorem dX4_goesInto_5 : decode cX4_goesInto 5 = .ok (.bipush 6, 2) := by decide +kernel
theorem dX4_goesInto_7 : decode cX4_goesInto 7 = .ok (.if_icmp .ge 16, 3) := by decide +kernel
theorem dX4_goesInto_10 : decode cX4_goesInto 10 = .ok (.aload_n 0, 1) := by decide +kernel
theorem dX4_goesInto_11 : decode cX4_goesInto 11 = .ok (.getfield 34, 3) := by decide +kernel
theorem dX4_goesInto_14 : decode cX4_goesInto 14 = .ok (.iload_n 1, 1) := by decide +kernel
theorem dX4_goesInto_15 : decode cX4_goesInto 15 = .ok (.baload, 1) := by decide +kernel
theorem dX4_goesInto_16 : decode cX4_goesInto 16 = .ok (.ifCond .eq 7, 3) := by decide +kernel
theorem dX4_goesInto_19 : decode cX4_goesInto 19 = .ok (.iconst 1, 1) := by decide +kernel
theorem dX4_goesInto_20 : decode cX4_goesInto 20 = .ok (.goto 4, 3) := by decide +kernel
theorem dX4_goesInto_23 : decode cX4_goesInto 23 = .ok (.iconst 0, 1) := by decide +kernel
theorem dX4_goesInto_24 : decode cX4_goesInto 24 = .ok (.ireturn, 1) := by decide +kernel
theorem dX4_letGoInto_0 : decode cX4_letGoInto 0 = .ok (.iload_n 1, 1) := by decide +kernel
theorem dX4_letGoInto_1 : decode cX4_letGoInto 1 = .ok (.ifCond .lt 16, 3) := by decide +kernel
theorem dX4_letGoInto_4 : decode cX4_letGoInto 4 = .ok (.iload_n 1, 1) := by decide +kernel
theorem dX4_letGoInto_5 : decode cX4_letGoInto 5 = .ok (.bipush 6, 2) := by decide +kernel
theorem dX4_letGoInto_7 : decode cX4_letGoInto 7 = .ok (.if_icmp .ge 10, 3) := by decide +kernel
theorem dX4_letGoInto_10 : decode cX4_letGoInto 10 = .ok (.aload_n 0, 1) := by decide +kernel
theorem dX4_letGoInto_11 : decode cX4_letGoInto 11 = .ok (.getfield 34, 3) := by decide +kernel
theorem dX4_letGoInto_14 : decode cX4_letGoInto 14 = .ok (.iload_n 1, 1) := by decide +kernel
theorem dX4_letGoInto_15 : decode cX4_letGoInto 15 = .ok (.iload_n 2, 1) := by decide +kernel
theorem dX4_letGoInto_16 : decode cX4_letGoInto 16 = .ok (.bastore, 1) := by decide +kernel
theorem dX4_letGoInto_17 : decode cX4_letGoInto 17 = .ok (.return_, 1) := by decide +kernel
theorem dX4_frames_0 : decode cX4_frames 0 = .ok (.aload_n 0, 1) := by decide +kernel
theorem dX4_frames_1 : decode cX4_frames 1 = .ok (.getfield 9, 3) := by decide +kernel
theorem dX4_frames_4 : decode cX4_frames 4 = .ok (.aload_n 0, 1) := by decide +kernel
theorem dX4_frames_5 : decode cX4_frames 5 = .ok (.getfield 15, 3) := by decide +kernel
theorem dX4_frames_8 : decode cX4_frames 8 = .ok (.iadd, 1) := by decide +kernel
theorem dX4_frames_9 : decode cX4_frames 9 = .ok (.aload_n 0, 1) := by decide +kernel
theorem dX4_frames_10 : decode cX4_frames 10 = .ok (.getfield 18, 3) := by decide +kernel
theorem dX4_frames_13 : decode cX4_frames 13 = .ok (.iadd, 1) := by decide +kernel
theorem dX4_frames_14 : decode cX4_frames 14 = .ok (.ireturn, 1) := by decide +kernel
theorem dX4_isActiveIn_0 : decode cX4_isActiveIn 0 = .ok (.iload_n 1, 1) := by decide +kernel
theorem dX4_isActiveIn_1 : decode cX4_isActiveIn 1 = .ok (.aload_n 0, 1) := by decide +kernel
theorem dX4_isActiveIn_2 : decode cX4_isActiveIn 2 = .ok (.getfield 9, 3) := by decide +kernel
theorem dX4_isActiveIn_5 : decode cX4_isActiveIn 5 = .ok (.if_icmp .lt 20, 3) := by decide +kernel
theorem dX4_isActiveIn_8 : decode cX4_isActiveIn 8 = .ok (.iload_n 1, 1) := by decide +kernel
theorem dX4_isActiveIn_9 : decode cX4_isActiveIn 9 = .ok (.aload_n 0, 1) := by decide +kernel
theorem dX4_isActiveIn_10 : decode cX4_isActiveIn 10 = .ok (.getfield 9, 3) := by decide +kernel
theorem dX4_isActiveIn_13 : decode cX4_isActiveIn 13 = .ok (.aload_n 0, 1) := by decide +kernel
theorem dX4_isActiveIn_14 : decode cX4_isActiveIn 14 = .ok (.getfield 15, 3) := by decide +kernel
theorem dX4_isActiveIn_17 : decode cX4_isActiveIn 17 = .ok (.iadd, 1) := by decide +kernel
theorem dX4_isActiveIn_18 : decode cX4_isActiveIn 18 = .ok (.if_icmp .ge 7, 3) := by decide +kernel
theorem dX4_isActiveIn_21 : decode cX4_isActiveIn 21 = .ok (.iconst 1, 1) := by decide +kernel
theorem dX4_isActiveIn_22 : decode cX4_isActiveIn 22 = .ok (.goto 4, 3) := by decide +kernel
theorem dX4_isActiveIn_25 : decode cX4_isActiveIn 25 = .ok (.iconst 0, 1) := by decide +kernel
theorem dX4_isActiveIn_26 : decode cX4_isActiveIn 26 = .ok (.ireturn, 1) := by decide +kernel
theorem dX4_isBlockedWith_0 : decode cX4_isBlockedWith 0 = .ok (.iload_n 1, 1) := by decide +kernel
theorem dX4_isBlockedWith_1 : decode cX4_isBlockedWith 1 = .ok (.iconst 2, 1) := by decide +kernel
theorem dX4_isBlockedWith_2 : decode cX4_isBlockedWith 2 = .ok (.if_icmp .ne 22, 3) := by decide +kernel
theorem dX4_isBlockedWith_5 : decode cX4_isBlockedWith 5 = .ok (.aload_n 0, 1) := by decide +kernel
theorem dX4_isBlockedWith_6 : decode cX4_isBlockedWith 6 = .ok (.getfield 24, 3) := by decide +kernel
theorem dX4_isBlockedWith_9 : decode cX4_isBlockedWith 9 = .ok (.ifCond .eq 11, 3) := by decide +kernel
theorem dX4_isBlockedWith_12 : decode cX4_isBlockedWith 12 = .ok (.aload_n 0, 1) := by decide +kernel
theorem dX4_isBlockedWith_13 : decode cX4_isBlockedWith 13 = .ok (.getfield 24, 3) := by decide +kernel
theorem dX4_isBlockedWith_16 : decode cX4_isBlockedWith 16 = .ok (.iconst 2, 1) := by decide +kernel
theorem dX4_isBlockedWith_17 : decode cX4_isBlockedWith 17 = .ok (.if_icmp .ne 7, 3) := by decide +kernel
theorem dX4_isBlockedWith_20 : decode cX4_isBlockedWith 20 = .ok (.iconst 1, 1) := by decide +kernel
theorem dX4_isBlockedWith_21 : decode cX4_isBlockedWith 21 = .ok (.goto 4, 3) := by decide +kernel
theorem dX4_isBlockedWith_24 : decode cX4_isBlockedWith 24 = .ok (.iconst 0, 1) := by decide +kernel
theorem dX4_isBlockedWith_25 : decode cX4_isBlockedWith 25 = .ok (.istore_n 2, 1) := by decide +kernel
theorem dX4_isBlockedWith_26 : decode cX4_isBlockedWith 26 = .ok (.iload_n 1, 1) := by decide +kernel
theorem dX4_isBlockedWith_27 : decode cX4_isBlockedWith 27 = .ok (.iconst 4, 1) := by decide +kernel
theorem dX4_isBlockedWith_28 : decode cX4_isBlockedWith 28 = .ok (.if_icmp .ne 23, 3) := by decide +kernel
theorem dX4_isBlockedWith_31 : decode cX4_isBlockedWith 31 = .ok (.aload_n 0, 1) := by decide +kernel
theorem dX4_isBlockedWith_32 : decode cX4_isBlockedWith 32 = .ok (.getfield 24, 3) := by decide +kernel
theorem dX4_isBlockedWith_35 : decode cX4_isBlockedWith 35 = .ok (.iconst 1, 1) := by decide +kernel
theorem dX4_isBlockedWith_36 : decode cX4_isBlockedWith 36 = .ok (.if_icmp .eq 11, 3) := by decide +kernel
theorem dX4_isBlockedWith_39 : decode cX4_isBlockedWith 39 = .ok (.aload_n 0, 1) := by decide +kernel
theorem dX4_isBlockedWith_40 : decode cX4_isBlockedWith 40 = .ok (.getfield 24, 3) := by decide +kernel
theorem dX4_isBlockedWith_43 : decode cX4_isBlockedWith 43 = .ok (.iconst 2, 1) := by decide +kernel
theorem dX4_isBlockedWith_44 : decode cX4_isBlockedWith 44 = .ok (.if_icmp .ne 7, 3) := by decide +kernel
theorem dX4_isBlockedWith_47 : decode cX4_isBlockedWith 47 = .ok (.iconst 1, 1) := by decide +kernel
theorem dX4_isBlockedWith_48 : decode cX4_isBlockedWith 48 = .ok (.goto 4, 3) := by decide +kernel
theorem dX4_isBlockedWith_51 : decode cX4_isBlockedWith 51 = .ok (.iconst 0, 1) := by decide +kernel
theorem dX4_isBlockedWith_52 : decode cX4_isBlockedWith 52 = .ok (.istore_n 3, 1) := by decide +kernel
theorem dX4_isBlockedWith_53 : decode cX4_isBlockedWith 53 = .ok (.iload_n 2, 1) := by decide +kernel
theorem dX4_isBlockedWith_54 : decode cX4_isBlockedWith 54 = .ok (.ifCond .ne 7, 3) := by decide +kernel
theorem dX4_isBlockedWith_57 : decode cX4_isBlockedWith 57 = .ok (.iload_n 3, 1) := by decide +kernel
theorem dX4_isBlockedWith_58 : decode cX4_isBlockedWith 58 = .ok (.ifCond .eq 7, 3) := by decide +kernel
theorem dX4_isBlockedWith_61 : decode cX4_isBlockedWith 61 = .ok (.iconst 1, 1) := by decide +kernel
theorem dX4_isBlockedWith_62 : decode cX4_isBlockedWith 62 = .ok (.goto 4, 3) := by decide +kernel
theorem dX4_isBlockedWith_65 : decode cX4_isBlockedWith 65 = .ok (.iconst 0, 1) := by decide +kernel
theorem dX4_isBlockedWith_66 : decode cX4_isBlockedWith 66 = .ok (.ireturn, 1) := by decide +kernel
set_option maxRecDepth 20000 in
theorem ggX5_init_X4_init : GoodIn wsX5_init wsX4_init := goodIn_r _ [11, 12, 2, 3, 13, 14, 15, 16, 17, 18, 19, 20, 21, 22, 26, 27, 28, 29, 30, 31, 32, 33] (by decide +kernel) (by decide +kernel)
set_option maxRecDepth 20000 in
theorem gX5_init_X4_init_n21 : GoodIn wsX5_init (wsX4_init) := ggX5_init_X4_init
theorem dX5_init_0 : decode cX5_init 0 = .ok (.aload_n 0, 1) := by decide +kernel
theorem dX5_init_1 : decode cX5_init 1 = .ok (.invokespecial 3, 3) := by decide +kernel
theorem dX5_init_4 : decode cX5_init 4 = .ok (.aload_n 0, 1) := by decide +kernel
theorem dX5_init_5 : decode cX5_init 5 = .ok (.iconst 0, 1) := by decide +kernel
theorem dX5_init_6 : decode cX5_init 6 = .ok (.putfield 9, 3) := by decide +kernel
theorem dX5_init_9 : decode cX5_init 9 = .ok (.aload_n 0, 1) := by decide +kernel
theorem dX5_init_10 : decode cX5_init 10 = .ok (.bipush 6, 2) := by decide +kernel
theorem dX5_init_12 : decode cX5_init 12 = .ok (.anewarray 15, 3) := by decide +kernel
theorem dX5_init_15 : decode cX5_init 15 = .ok (.putfield 17, 3) := by decide +kernel
theorem dX5_init_18 : decode cX5_init 18 = .ok (.aload_n 0, 1) := by decide +kernel
theorem dX5_init_19 : decode cX5_init 19 = .ok (.new 15, 3) := by decide +kernel
theorem dX5_init_22 : decode cX5_init 22 = .ok (.dup, 1) := by decide +kernel
theorem dX5_init_23 : decode cX5_init 23 = .ok (.invokespecial 21, 3) := by decide +kernel
theorem dX5_init_26 : decode cX5_init 26 = .ok (.putfield 22, 3) := by decide +kernel
theorem dX5_init_29 : decode cX5_init 29 = .ok (.iconst 0, 1) := by decide +kernel
theorem dX5_init_30 : decode cX5_init 30 = .ok (.istore_n 1, 1) := by decide +kernel
theorem dX5_init_31 : decode cX5_init 31 = .ok (.iload_n 1, 1) := by decide +kernel
theorem dX5_init_32 : decode cX5_init 32 = .ok (.bipush 6, 2) := by decide +kernel
theorem dX5_init_34 : decode cX5_init 34 = .ok (.if_icmp .ge 22, 3) := by decide +kernel
theorem dX5_init_37 : decode cX5_init 37 = .ok (.aload_n 0, 1) := by decide +kernel
theorem dX5_init_38 : decode cX5_init 38 = .ok (.getfield 17, 3) := by decide +kernel
theorem dX5_init_41 : decode cX5_init 41 = .ok (.iload_n 1, 1) := by decide +kernel
theorem dX5_init_42 : decode cX5_init 42 = .ok (.new 15, 3) := by decide +kernel
theorem dX5_init_45 : decode cX5_init 45 = .ok (.dup, 1) := by decide +kernel
theorem dX5_init_46 : decode cX5_init 46 = .ok (.invokespecial 21, 3) := by decide +kernel
theorem dX5_init_49 : decode cX5_init 49 = .ok (.aastore, 1) := by decide +kernel
theorem dX5_init_50 : decode cX5_init 50 = .ok (.iinc 1 1, 3) := by decide +kernel
theorem dX5_init_53 : decode cX5_init 53 = .ok (.goto (-22), 3) := by decide +kernel
theorem dX5_init_56 : decode cX5_init 56 = .ok (.return_, 1) := by decide +kernel
theorem dX5_has_0 : decode cX5_has 0 = .ok (.iload_n 1, 1) := by decide +kernel
theorem dX5_has_1 : decode cX5_has 1 = .ok (.ifCond .lt 15, 3) := by decide +kernel
theorem dX5_has_4 : decode cX5_has 4 = .ok (.iload_n 1, 1) := by decide +kernel
theorem dX5_has_5 : decode cX5_has 5 = .ok (.aload_n 0, 1) := by decide +kernel
theorem dX5_has_6 : decode cX5_has 6 = .ok (.getfield 9, 3) := by decide +kernel
theorem dX5_has_9 : decode cX5_has 9 = .ok (.if_icmp .ge 7, 3) := by decide +kernel
theorem dX5_has_12 : decode cX5_has 12 = .ok (.iconst 1, 1) := by decide +kernel
theorem dX5_has_13 : decode cX5_has 13 = .ok (.goto 4, 3) := by decide +kernel
theorem dX5_has_16 : decode cX5_has 16 = .ok (.iconst 0, 1) := by decide +kernel
theorem dX5_has_17 : decode cX5_has 17 = .ok (.ireturn, 1) := by decide +kernel
theorem dX5_at_0 : decode cX5_at 0 = .ok (.iload_n 1, 1) := by decide +kernel
theorem dX5_at_1 : decode cX5_at 1 = .ok (.ifCond .lt 18, 3) := by decide +kernel
theorem dX5_at_4 : decode cX5_at 4 = .ok (.iload_n 1, 1) := by decide +kernel
theorem dX5_at_5 : decode cX5_at 5 = .ok (.bipush 6, 2) := by decide +kernel
theorem dX5_at_7 : decode cX5_at 7 = .ok (.if_icmp .ge 12, 3) := by decide +kernel
theorem dX5_at_10 : decode cX5_at 10 = .ok (.aload_n 0, 1) := by decide +kernel
theorem dX5_at_11 : decode cX5_at 11 = .ok (.getfield 17, 3) := by decide +kernel
theorem dX5_at_14 : decode cX5_at 14 = .ok (.iload_n 1, 1) := by decide +kernel
theorem dX5_at_15 : decode cX5_at 15 = .ok (.aaload, 1) := by decide +kernel
theorem dX5_at_16 : decode cX5_at 16 = .ok (.goto 7, 3) := by decide +kernel
theorem dX5_at_19 : decode cX5_at 19 = .ok (.aload_n 0, 1) := by decide +kernel
theorem dX5_at_20 : decode cX5_at 20 = .ok (.getfield 22, 3) := by decide +kernel
theorem dX5_at_23 : decode cX5_at 23 = .ok (.areturn, 1) := by decide +kernel
set_option maxRecDepth 20000 in
theorem ggX5_copy_X4_copy : GoodIn wsX5_copy wsX4_copy := goodIn_r _ [7, 8, 9, 10, 11, 12, 13, 14, 15, 16, 17, 18, 19, 23, 24, 25, 26, 27, 28, 29, 30] (by decide +kernel) (by decide +kernel)
set_option maxRecDepth 20000 in
theorem gX5_copy_X4_copy : GoodIn wsX5_copy (wsV RX5 26 RX4 yX4_copy wsX4_copy) := goodIn_app (goodIn_of _ (by decide +kernel)) ggX5_copy_X4_copy
theorem dX5_copy_0 : decode cX5_copy 0 = .ok (.aload_n 0, 1) := by decide +kernel
theorem dX5_copy_1 : decode cX5_copy 1 = .ok (.aload_n 1, 1) := by decide +kernel
theorem dX5_copy_2 : decode cX5_copy 2 = .ok (.getfield 9, 3) := by decide +kernel
theorem dX5_copy_5 : decode cX5_copy 5 = .ok (.putfield 9, 3) := by decide +kernel
theorem dX5_copy_8 : decode cX5_copy 8 = .ok (.iconst 0, 1) := by decide +kernel
theorem dX5_copy_9 : decode cX5_copy 9 = .ok (.istore_n 2, 1) := by decide +kernel
theorem dX5_copy_10 : decode cX5_copy 10 = .ok (.iload_n 2, 1) := by decide +kernel
theorem dX5_copy_11 : decode cX5_copy 11 = .ok (.bipush 6, 2) := by decide +kernel
theorem dX5_copy_13 : decode cX5_copy 13 = .ok (.if_icmp .ge 24, 3) := by decide +kernel
theorem dX5_copy_16 : decode cX5_copy 16 = .ok (.aload_n 0, 1) := by decide +kernel
theorem dX5_copy_17 : decode cX5_copy 17 = .ok (.getfield 17, 3) := by decide +kernel
theorem dX5_copy_20 : decode cX5_copy 20 = .ok (.iload_n 2, 1) := by decide +kernel
theorem dX5_copy_21 : decode cX5_copy 21 = .ok (.aaload, 1) := by decide +kernel
theorem dX5_copy_22 : decode cX5_copy 22 = .ok (.aload_n 1, 1) := by decide +kernel
theorem dX5_copy_23 : decode cX5_copy 23 = .ok (.getfield 17, 3) := by decide +kernel
theorem dX5_copy_26 : decode cX5_copy 26 = .ok (.iload_n 2, 1) := by decide +kernel
theorem dX5_copy_27 : decode cX5_copy 27 = .ok (.aaload, 1) := by decide +kernel
theorem dX5_copy_28 : decode cX5_copy 28 = .ok (.invokevirtual 26, 3) := by decide +kernel
theorem dX5_copy_31 : decode cX5_copy 31 = .ok (.iinc 2 1, 3) := by decide +kernel
theorem dX5_copy_34 : decode cX5_copy 34 = .ok (.goto (-24), 3) := by decide +kernel
theorem dX5_copy_37 : decode cX5_copy 37 = .ok (.return_, 1) := by decide +kernel
theorem dX6_init_0 : decode cX6_init 0 = .ok (.aload_n 0, 1) := by decide +kernel
theorem dX6_init_1 : decode cX6_init 1 = .ok (.invokespecial 3, 3) := by decide +kernel
theorem dX6_init_4 : decode cX6_init 4 = .ok (.aload_n 0, 1) := by decide +kernel
theorem dX6_init_5 : decode cX6_init 5 = .ok (.iconst 0, 1) := by decide +kernel
theorem dX6_init_6 : decode cX6_init 6 = .ok (.putfield 9, 3) := by decide +kernel
theorem dX6_init_9 : decode cX6_init 9 = .ok (.aload_n 0, 1) := by decide +kernel
theorem dX6_init_10 : decode cX6_init 10 = .ok (.iconst 0, 1) := by decide +kernel
theorem dX6_init_11 : decode cX6_init 11 = .ok (.putfield 15, 3) := by decide +kernel
theorem dX6_init_14 : decode cX6_init 14 = .ok (.aload_n 0, 1) := by decide +kernel
theorem dX6_init_15 : decode cX6_init 15 = .ok (.iconst 0, 1) := by decide +kernel
theorem dX6_init_16 : decode cX6_init 16 = .ok (.putfield 18, 3) := by decide +kernel
theorem dX6_init_19 : decode cX6_init 19 = .ok (.aload_n 0, 1) := by decide +kernel
theorem dX6_init_20 : decode cX6_init 20 = .ok (.iconst 0, 1) := by decide +kernel
theorem dX6_init_21 : decode cX6_init 21 = .ok (.putfield 21, 3) := by decide +kernel
theorem dX6_init_24 : decode cX6_init 24 = .ok (.aload_n 0, 1) := by decide +kernel
theorem dX6_init_25 : decode cX6_init 25 = .ok (.sipush 600, 3) := by decide +kernel
theorem dX6_init_28 : decode cX6_init 28 = .ok (.newarray .int, 2) := by decide +kernel
theorem dX6_init_30 : decode cX6_init 30 = .ok (.putfield 24, 3) := by decide +kernel
theorem dX6_init_33 : decode cX6_init 33 = .ok (.aload_n 0, 1) := by decide +kernel
theorem dX6_init_34 : decode cX6_init 34 = .ok (.sipush 600, 3) := by decide +kernel
theorem dX6_init_37 : decode cX6_init 37 = .ok (.newarray .int, 2) := by decide +kernel
theorem dX6_init_39 : decode cX6_init 39 = .ok (.putfield 28, 3) := by decide +kernel
theorem dX6_init_42 : decode cX6_init 42 = .ok (.return_, 1) := by decide +kernel
theorem dX6_clear_0 : decode cX6_clear 0 = .ok (.aload_n 0, 1) := by decide +kernel
theorem dX6_clear_1 : decode cX6_clear 1 = .ok (.iload_n 1, 1) := by decide +kernel
theorem dX6_clear_2 : decode cX6_clear 2 = .ok (.putfield 15, 3) := by decide +kernel
theorem dX6_clear_5 : decode cX6_clear 5 = .ok (.aload_n 0, 1) := by decide +kernel
theorem dX6_clear_6 : decode cX6_clear 6 = .ok (.iload_n 2, 1) := by decide +kernel
theorem dX6_clear_7 : decode cX6_clear 7 = .ok (.putfield 18, 3) := by decide +kernel
theorem dX6_clear_10 : decode cX6_clear 10 = .ok (.aload_n 0, 1) := by decide +kernel
theorem dX6_clear_11 : decode cX6_clear 11 = .ok (.iload_n 3, 1) := by decide +kernel
theorem dX6_clear_12 : decode cX6_clear 12 = .ok (.putfield 21, 3) := by decide +kernel
theorem dX6_clear_15 : decode cX6_clear 15 = .ok (.aload_n 0, 1) := by decide +kernel
theorem dX6_clear_16 : decode cX6_clear 16 = .ok (.iconst 0, 1) := by decide +kernel
theorem dX6_clear_17 : decode cX6_clear 17 = .ok (.putfield 9, 3) := by decide +kernel
theorem dX6_clear_20 : decode cX6_clear 20 = .ok (.return_, 1) := by decide +kernel
theorem dX6_add_0 : decode cX6_add 0 = .ok (.aload_n 0, 1) := by decide +kernel
theorem dX6_add_1 : decode cX6_add 1 = .ok (.getfield 9, 3) := by decide +kernel
theorem dX6_add_4 : decode cX6_add 4 = .ok (.sipush 600, 3) := by decide +kernel
theorem dX6_add_7 : decode cX6_add 7 = .ok (.if_icmp .ge 33, 3) := by decide +kernel
theorem dX6_add_10 : decode cX6_add 10 = .ok (.aload_n 0, 1) := by decide +kernel
theorem dX6_add_11 : decode cX6_add 11 = .ok (.getfield 24, 3) := by decide +kernel
theorem dX6_add_14 : decode cX6_add 14 = .ok (.aload_n 0, 1) := by decide +kernel
theorem dX6_add_15 : decode cX6_add 15 = .ok (.getfield 9, 3) := by decide +kernel
theorem dX6_add_18 : decode cX6_add 18 = .ok (.iload_n 1, 1) := by decide +kernel
theorem dX6_add_19 : decode cX6_add 19 = .ok (.iastore, 1) := by decide +kernel
theorem dX6_add_20 : decode cX6_add 20 = .ok (.aload_n 0, 1) := by decide +kernel
theorem dX6_add_21 : decode cX6_add 21 = .ok (.getfield 28, 3) := by decide +kernel
theorem dX6_add_24 : decode cX6_add 24 = .ok (.aload_n 0, 1) := by decide +kernel
theorem dX6_add_25 : decode cX6_add 25 = .ok (.getfield 9, 3) := by decide +kernel
theorem dX6_add_28 : decode cX6_add 28 = .ok (.iload_n 2, 1) := by decide +kernel
theorem dX6_add_29 : decode cX6_add 29 = .ok (.iastore, 1) := by decide +kernel
theorem dX6_add_30 : decode cX6_add 30 = .ok (.aload_n 0, 1) := by decide +kernel
theorem dX6_add_31 : decode cX6_add 31 = .ok (.dup, 1) := by decide +kernel
theorem dX6_add_32 : decode cX6_add 32 = .ok (.getfield 9, 3) := by decide +kernel
theorem dX6_add_35 : decode cX6_add 35 = .ok (.iconst 1, 1) := by decide +kernel
theorem dX6_add_36 : decode cX6_add 36 = .ok (.iadd, 1) := by decide +kernel
theorem dX6_add_37 : decode cX6_add 37 = .ok (.putfield 9, 3) := by decide +kernel
theorem dX6_add_40 : decode cX6_add 40 = .ok (.return_, 1) := by decide +kernel
set_option maxRecDepth 20000 in
theorem ggX6_prepare_X1_prepare : GoodIn wsX6_prepare wsX1_prepare := goodIn_r _ [8, 9, 10, 11, 12, 13, 14, 15, 16, 17, 18, 19, 20, 21, 22, 23, 24, 25, 26, 27, 28, 29, 30, 31, 32, 33, 34, 35, 36, 37, 38, 45, 46, 47, 48, 49, 50, 51, 52, 53, 54, 55, 56, 57, 58, 59, 60, 61, 62, 63] (by decide +kernel) (by decide +kernel)
set_option maxRecDepth 20000 in
theorem gX6_prepare_X1_prepare : GoodIn wsX6_prepare (wsV RX6 31 RX1 yX1_prepare wsX1_prepare) := goodIn_app (goodIn_of _ (by decide +kernel)) ggX6_prepare_X1_prepare
theorem dX6_prepare_0 : decode cX6_prepare 0 = .ok (.aload_n 1, 1) := by decide +kernel
theorem dX6_prepare_1 : decode cX6_prepare 1 = .ok (.aload_n 0, 1) := by decide +kernel
theorem dX6_prepare_2 : decode cX6_prepare 2 = .ok (.getfield 15, 3) := by decide +kernel
theorem dX6_prepare_5 : decode cX6_prepare 5 = .ok (.aload_n 0, 1) := by decide +kernel
theorem dX6_prepare_6 : decode cX6_prepare 6 = .ok (.getfield 18, 3) := by decide +kernel
theorem dX6_prepare_9 : decode cX6_prepare 9 = .ok (.aload_n 0, 1) := by decide +kernel
theorem dX6_prepare_10 : decode cX6_prepare 10 = .ok (.getfield 21, 3) := by decide +kernel
theorem dX6_prepare_13 : decode cX6_prepare 13 = .ok (.invokevirtual 31, 3) := by decide +kernel
theorem dX6_prepare_16 : decode cX6_prepare 16 = .ok (.return_, 1) := by decide +kernel
set_option maxRecDepth 20000 in
theorem ggX6_playInto_X6_prepare : GoodIn wsX6_playInto wsX6_prepare := goodIn_r _ [8, 9, 10, 11, 12, 13, 14, 15, 16, 17, 18, 19, 20, 21, 22, 23, 24, 25, 26, 27, 28, 29, 30, 31, 32, 33, 34, 35, 36, 37, 38, 39, 40, 41, 42, 43, 44, 45, 46, 179, 180, 181, 182, 183, 184, 185, 186, 187, 188, 189, 190, 191, 192, 193, 194, 195, 196, 197, 198, 199, 200, 201, 202, 203] (by decide +kernel) (by decide +kernel)
set_option maxRecDepth 20000 in
theorem gX6_playInto_X6_prepare : GoodIn wsX6_playInto (wsV RX6 37 RX6 yX6_prepare wsX6_prepare) := goodIn_app (goodIn_of _ (by decide +kernel)) ggX6_playInto_X6_prepare
set_option maxRecDepth 20000 in
theorem ggX6_playInto_X1_playFrame : GoodIn wsX6_playInto wsX1_playFrame := goodIn_r _ [50, 17, 18, 51, 52, 53, 54, 22, 55, 56, 57, 45, 46, 58, 59, 60, 61, 25, 32, 38, 39, 40, 62, 63, 64, 65, 66, 67, 68, 69, 70, 71, 72, 73, 74, 75, 76, 77, 78, 79, 80, 81, 82, 83, 41, 42, 43, 44, 84, 85, 86, 15, 87, 88, 89, 90, 91, 92, 93, 94, 95, 96, 97, 98, 99, 24, 100, 101, 102, 103, 104, 105, 106, 107, 108, 109, 110, 111, 112, 113, 114, 115, 116, 117, 118, 119, 120, 121, 122, 123, 124, 125, 126, 127, 128, 129, 130, 131, 132, 133, 134, 135, 136, 137, 138, 139, 140, 141, 142, 27, 143, 144, 145, 146, 147, 148, 149, 150, 151, 152, 153, 154, 155, 156, 157, 158, 159, 160, 26, 161, 33, 162, 163, 164, 165, 34, 35, 36, 37, 166, 167, 168, 169, 170, 171, 172, 173, 174, 175, 176, 177, 178, 28, 29, 30, 31, 185, 186, 187, 188, 189, 190, 191, 192, 193, 194, 195, 196, 197, 198, 199, 200, 201, 202, 203, 204, 205, 206, 207, 208, 209, 210, 211, 212, 213, 214] (by decide +kernel) (by decide +kernel)
set_option maxRecDepth 20000 in
theorem gX6_playInto_X1_playFrame : GoodIn wsX6_playInto (wsV RX6 40 RX1 yX1_playFrame wsX1_playFrame) := goodIn_app (goodIn_of _ (by decide +kernel)) ggX6_playInto_X1_playFrame
theorem dX6_playInto_0 : decode cX6_playInto 0 = .ok (.aload_n 0, 1) := by decide +kernel
theorem dX6_playInto_1 : decode cX6_playInto 1 = .ok (.aload_n 1, 1) := by decide +kernel
theorem dX6_playInto_2 : decode cX6_playInto 2 = .ok (.invokevirtual 37, 3) := by decide +kernel
theorem dX6_playInto_5 : decode cX6_playInto 5 = .ok (.iconst 0, 1) := by decide +kernel
theorem dX6_playInto_6 : decode cX6_playInto 6 = .ok (.istore_n 3, 1) := by decide +kernel
theorem dX6_playInto_7 : decode cX6_playInto 7 = .ok (.iload_n 3, 1) := by decide +kernel
theorem dX6_playInto_8 : decode cX6_playInto 8 = .ok (.iload_n 2, 1) := by decide +kernel
theorem dX6_playInto_9 : decode cX6_playInto 9 = .ok (.if_icmp .ge 40, 3) := by decide +kernel
theorem dX6_playInto_12 : decode cX6_playInto 12 = .ok (.iload_n 3, 1) := by decide +kernel
theorem dX6_playInto_13 : decode cX6_playInto 13 = .ok (.aload_n 0, 1) := by decide +kernel
theorem dX6_playInto_14 : decode cX6_playInto 14 = .ok (.getfield 9, 3) := by decide +kernel
theorem dX6_playInto_17 : decode cX6_playInto 17 = .ok (.if_icmp .ge 32, 3) := by decide +kernel
theorem dX6_playInto_20 : decode cX6_playInto 20 = .ok (.iload_n 3, 1) := by decide +kernel
theorem dX6_playInto_21 : decode cX6_playInto 21 = .ok (.sipush 600, 3) := by decide +kernel
theorem dX6_playInto_24 : decode cX6_playInto 24 = .ok (.if_icmp .ge 25, 3) := by decide +kernel
theorem dX6_playInto_27 : decode cX6_playInto 27 = .ok (.aload_n 1, 1) := by decide +kernel
theorem dX6_playInto_28 : decode cX6_playInto 28 = .ok (.aload_n 0, 1) := by decide +kernel
theorem dX6_playInto_29 : decode cX6_playInto 29 = .ok (.getfield 24, 3) := by decide +kernel
theorem dX6_playInto_32 : decode cX6_playInto 32 = .ok (.iload_n 3, 1) := by decide +kernel
theorem dX6_playInto_33 : decode cX6_playInto 33 = .ok (.iaload, 1) := by decide +kernel
theorem dX6_playInto_34 : decode cX6_playInto 34 = .ok (.aload_n 0, 1) := by decide +kernel
theorem dX6_playInto_35 : decode cX6_playInto 35 = .ok (.getfield 28, 3) := by decide +kernel
theorem dX6_playInto_38 : decode cX6_playInto 38 = .ok (.iload_n 3, 1) := by decide +kernel
theorem dX6_playInto_39 : decode cX6_playInto 39 = .ok (.iaload, 1) := by decide +kernel
theorem dX6_playInto_40 : decode cX6_playInto 40 = .ok (.invokevirtual 40, 3) := by decide +kernel
theorem dX6_playInto_43 : decode cX6_playInto 43 = .ok (.iinc 3 1, 3) := by decide +kernel
theorem dX6_playInto_46 : decode cX6_playInto 46 = .ok (.goto (-39), 3) := by decide +kernel
theorem dX6_playInto_49 : decode cX6_playInto 49 = .ok (.return_, 1) := by decide +kernel
set_option maxRecDepth 20000 in
theorem ggX7_init_X5_init : GoodIn wsX7_init wsX5_init := goodIn_r _ [29, 30, 2, 3, 31, 32, 33, 34, 35, 36, 37, 38, 39, 40, 41, 42, 43, 44, 45, 46, 47, 48, 49, 108, 109, 110, 138, 139, 140, 141, 142, 143, 144, 145] (by decide +kernel) (by decide +kernel)
set_option maxRecDepth 20000 in
theorem gX7_init_X5_init : GoodIn wsX7_init (wsX5_init) := ggX7_init_X5_init
set_option maxRecDepth 20000 in
theorem ggX7_init_X1_init : GoodIn wsX7_init wsX1_init := goodIn_r _ [52, 53, 2, 3, 54, 55, 56, 57, 58, 59, 60, 61, 62, 63, 64, 65, 66, 67, 68, 69, 70, 71, 72, 73, 74, 75, 76, 77, 78, 79, 146, 147, 148, 149, 150, 151, 152, 153, 154, 155, 156, 157, 158, 159, 160, 161, 119, 120, 121] (by decide +kernel) (by decide +kernel)
set_option maxRecDepth 20000 in
theorem gX7_init_X1_init : GoodIn wsX7_init (wsX1_init) := ggX7_init_X1_init
set_option maxRecDepth 20000 in
theorem ggX7_init_X6_init : GoodIn wsX7_init wsX6_init := goodIn_r _ [81, 82, 2, 3, 83, 84, 85, 86, 46, 87, 88, 122, 123, 124, 125, 126, 127] (by decide +kernel) (by decide +kernel)
set_option maxRecDepth 20000 in
theorem gX7_init_X6_init_n33 : GoodIn wsX7_init (wsX6_init) := ggX7_init_X6_init
set_option maxRecDepth 20000 in
theorem ggX7_init_X0_init : GoodIn wsX7_init wsX0_init := goodIn_r _ [90, 91, 2, 3, 92, 93, 94, 128, 129, 130] (by decide +kernel) (by decide +kernel)
set_option maxRecDepth 20000 in
theorem gX7_init_X0_init_n40 : GoodIn wsX7_init (wsX0_init) := ggX7_init_X0_init
set_option maxRecDepth 20000 in
theorem ggX7_init_X3_init : GoodIn wsX7_init wsX3_init := goodIn_r _ [97, 98, 2, 3, 99, 100, 101, 46, 102, 103, 104, 105, 10, 11, 106, 107, 51, 52, 53, 54, 55, 56, 57, 58, 59, 60, 61, 62, 63, 64, 65, 66, 67, 68, 69, 70, 71, 72, 73, 74, 75, 76, 77, 78, 79, 131, 132, 133, 134, 135, 136, 137, 119, 120, 121, 146, 147, 148, 149, 150, 151, 152, 153, 154, 155, 156, 157, 158, 159, 160, 161] (by decide +kernel) (by decide +kernel)
set_option maxRecDepth 20000 in
theorem gX7_init_X3_init : GoodIn wsX7_init (wsX3_init) := ggX7_init_X3_init
theorem dX7_init_0 : decode cX7_init 0 = .ok (.aload_n 0, 1) := by decide +kernel
theorem dX7_init_1 : decode cX7_init 1 = .ok (.invokespecial 1, 3) := by decide +kernel
theorem dX7_init_4 : decode cX7_init 4 = .ok (.aload_n 0, 1) := by decide +kernel
theorem dX7_init_5 : decode cX7_init 5 = .ok (.new 7, 3) := by decide +kernel
theorem dX7_init_8 : decode cX7_init 8 = .ok (.dup, 1) := by decide +kernel
theorem dX7_init_9 : decode cX7_init 9 = .ok (.invokespecial 9, 3) := by decide +kernel
theorem dX7_init_12 : decode cX7_init 12 = .ok (.putfield 10, 3) := by decide +kernel
theorem dX7_init_15 : decode cX7_init 15 = .ok (.aload_n 0, 1) := by decide +kernel
theorem dX7_init_16 : decode cX7_init 16 = .ok (.new 7, 3) := by decide +kernel
theorem dX7_init_19 : decode cX7_init 19 = .ok (.dup, 1) := by decide +kernel
theorem dX7_init_20 : decode cX7_init 20 = .ok (.invokespecial 9, 3) := by decide +kernel
theorem dX7_init_23 : decode cX7_init 23 = .ok (.putfield 16, 3) := by decide +kernel
theorem dX7_init_26 : decode cX7_init 26 = .ok (.aload_n 0, 1) := by decide +kernel
theorem dX7_init_27 : decode cX7_init 27 = .ok (.new 19, 3) := by decide +kernel
theorem dX7_init_30 : decode cX7_init 30 = .ok (.dup, 1) := by decide +kernel
theorem dX7_init_31 : decode cX7_init 31 = .ok (.aload_n 0, 1) := by decide +kernel
theorem dX7_init_32 : decode cX7_init 32 = .ok (.getfield 16, 3) := by decide +kernel
theorem dX7_init_35 : decode cX7_init 35 = .ok (.invokespecial 21, 3) := by decide +kernel
theorem dX7_init_38 : decode cX7_init 38 = .ok (.putfield 24, 3) := by decide +kernel
theorem dX7_init_41 : decode cX7_init 41 = .ok (.aload_n 0, 1) := by decide +kernel
theorem dX7_init_42 : decode cX7_init 42 = .ok (.new 19, 3) := by decide +kernel
theorem dX7_init_45 : decode cX7_init 45 = .ok (.dup, 1) := by decide +kernel
theorem dX7_init_46 : decode cX7_init 46 = .ok (.aload_n 0, 1) := by decide +kernel
theorem dX7_init_47 : decode cX7_init 47 = .ok (.getfield 16, 3) := by decide +kernel
theorem dX7_init_50 : decode cX7_init 50 = .ok (.invokespecial 21, 3) := by decide +kernel
theorem dX7_init_53 : decode cX7_init 53 = .ok (.putfield 28, 3) := by decide +kernel
theorem dX7_init_56 : decode cX7_init 56 = .ok (.aload_n 0, 1) := by decide +kernel
theorem dX7_init_57 : decode cX7_init 57 = .ok (.new 31, 3) := by decide +kernel
theorem dX7_init_60 : decode cX7_init 60 = .ok (.dup, 1) := by decide +kernel
theorem dX7_init_61 : decode cX7_init 61 = .ok (.invokespecial 33, 3) := by decide +kernel
theorem dX7_init_64 : decode cX7_init 64 = .ok (.putfield 34, 3) := by decide +kernel
theorem dX7_init_67 : decode cX7_init 67 = .ok (.aload_n 0, 1) := by decide +kernel
theorem dX7_init_68 : decode cX7_init 68 = .ok (.new 38, 3) := by decide +kernel
theorem dX7_init_71 : decode cX7_init 71 = .ok (.dup, 1) := by decide +kernel
theorem dX7_init_72 : decode cX7_init 72 = .ok (.invokespecial 40, 3) := by decide +kernel
theorem dX7_init_75 : decode cX7_init 75 = .ok (.putfield 41, 3) := by decide +kernel
theorem dX7_init_78 : decode cX7_init 78 = .ok (.aload_n 0, 1) := by decide +kernel
theorem dX7_init_79 : decode cX7_init 79 = .ok (.new 45, 3) := by decide +kernel
theorem dX7_init_82 : decode cX7_init 82 = .ok (.dup, 1) := by decide +kernel
theorem dX7_init_83 : decode cX7_init 83 = .ok (.aload_n 0, 1) := by decide +kernel
theorem dX7_init_84 : decode cX7_init 84 = .ok (.getfield 10, 3) := by decide +kernel
theorem dX7_init_87 : decode cX7_init 87 = .ok (.invokespecial 47, 3) := by decide +kernel
theorem dX7_init_90 : decode cX7_init 90 = .ok (.putfield 48, 3) := by decide +kernel
theorem dX7_init_93 : decode cX7_init 93 = .ok (.aload_n 0, 1) := by decide +kernel
theorem dX7_init_94 : decode cX7_init 94 = .ok (.iconst 0, 1) := by decide +kernel
theorem dX7_init_95 : decode cX7_init 95 = .ok (.putfield 52, 3) := by decide +kernel
theorem dX7_init_98 : decode cX7_init 98 = .ok (.return_, 1) := by decide +kernel
set_option maxRecDepth 20000 in
theorem ggX7_move_X7_needWithin : GoodIn wsX7_move wsX7_needWithin := goodIn_ca (goodIn_r _ [8, 9, 10] (by decide +kernel) (by decide +kernel)) (goodIn_sub (fun _ h => List.mem_cons_of_mem _ (List.mem_append_right _ h)) (by decide +kernel))
set_option maxRecDepth 20000 in
theorem gX7_move_X7_needWithin : GoodIn wsX7_move (va_wsS RX7 56 yX7_needWithin wsX7_needWithin) := goodIn_app (goodIn_of _ (by decide +kernel)) ggX7_move_X7_needWithin
set_option maxRecDepth 20000 in
theorem ggX7_move_X7_needNoRound : GoodIn wsX7_move wsX7_needNoRound := goodIn_ca (goodIn_r _ [14, 1, 2, 15, 39, 40, 41, 42, 43, 44, 45, 46] (by decide +kernel) (by decide +kernel)) (goodIn_sub (fun _ h => List.mem_cons_of_mem _ (List.mem_append_left _ (List.mem_append_right _ h))) (by decide +kernel))
set_option maxRecDepth 20000 in
theorem gX7_move_X7_needNoRound : GoodIn wsX7_move (wsV RX7 60 RX7 yX7_needNoRound wsX7_needNoRound) := goodIn_app (goodIn_of _ (by decide +kernel)) ggX7_move_X7_needNoRound
set_option maxRecDepth 20000 in
theorem ggX7_move_X5_at : GoodIn wsX7_move wsX5_at := goodIn_r _ [20, 21, 22, 47, 48, 49] (by decide +kernel) (by decide +kernel)
set_option maxRecDepth 20000 in
theorem gX7_move_X5_at : GoodIn wsX7_move (wsV RX7 74 RX5 yX5_at wsX5_at) := goodIn_app (goodIn_of _ (by decide +kernel)) ggX7_move_X5_at
set_option maxRecDepth 20000 in
theorem ggX7_move_X4_make : GoodIn wsX7_move wsX4_make := goodIn_r _ [27, 28, 29, 30, 31, 32, 33, 34, 35, 36, 26, 37, 38, 50, 51, 52, 53, 54, 55, 56, 57] (by decide +kernel) (by decide +kernel)
set_option maxRecDepth 20000 in
theorem gX7_move_X4_make : GoodIn wsX7_move (wsV RX7 78 RX4 yX4_make wsX4_make) := goodIn_app (goodIn_of _ (by decide +kernel)) ggX7_move_X4_make
theorem dX7_move_0 : decode cX7_move 0 = .ok (.iload_n 1, 1) := by decide +kernel
theorem dX7_move_1 : decode cX7_move 1 = .ok (.iconst 1, 1) := by decide +kernel
theorem dX7_move_2 : decode cX7_move 2 = .ok (.bipush 30, 2) := by decide +kernel
theorem dX7_move_4 : decode cX7_move 4 = .ok (.invokestatic 56, 3) := by decide +kernel
theorem dX7_move_7 : decode cX7_move 7 = .ok (.iload_n 2, 1) := by decide +kernel
theorem dX7_move_8 : decode cX7_move 8 = .ok (.iconst 1, 1) := by decide +kernel
theorem dX7_move_9 : decode cX7_move 9 = .ok (.bipush 10, 2) := by decide +kernel
theorem dX7_move_11 : decode cX7_move 11 = .ok (.invokestatic 56, 3) := by decide +kernel
theorem dX7_move_14 : decode cX7_move 14 = .ok (.iload_n 3, 1) := by decide +kernel
theorem dX7_move_15 : decode cX7_move 15 = .ok (.iconst 1, 1) := by decide +kernel
theorem dX7_move_16 : decode cX7_move 16 = .ok (.bipush 40, 2) := by decide +kernel
theorem dX7_move_18 : decode cX7_move 18 = .ok (.invokestatic 56, 3) := by decide +kernel
theorem dX7_move_21 : decode cX7_move 21 = .ok (.iload 4, 2) := by decide +kernel
theorem dX7_move_23 : decode cX7_move 23 = .ok (.iconst 1, 1) := by decide +kernel
theorem dX7_move_24 : decode cX7_move 24 = .ok (.sipush 150, 3) := by decide +kernel
theorem dX7_move_27 : decode cX7_move 27 = .ok (.invokestatic 56, 3) := by decide +kernel
theorem dX7_move_30 : decode cX7_move 30 = .ok (.iload 5, 2) := by decide +kernel
theorem dX7_move_32 : decode cX7_move 32 = .ok (.iconst 0, 1) := by decide +kernel
theorem dX7_move_33 : decode cX7_move 33 = .ok (.iconst 3, 1) := by decide +kernel
theorem dX7_move_34 : decode cX7_move 34 = .ok (.invokestatic 56, 3) := by decide +kernel
theorem dX7_move_37 : decode cX7_move 37 = .ok (.iload 6, 2) := by decide +kernel
theorem dX7_move_39 : decode cX7_move 39 = .ok (.iconst 1, 1) := by decide +kernel
theorem dX7_move_40 : decode cX7_move 40 = .ok (.sipush 200, 3) := by decide +kernel
theorem dX7_move_43 : decode cX7_move 43 = .ok (.invokestatic 56, 3) := by decide +kernel
theorem dX7_move_46 : decode cX7_move 46 = .ok (.aload_n 0, 1) := by decide +kernel
theorem dX7_move_47 : decode cX7_move 47 = .ok (.invokevirtual 60, 3) := by decide +kernel
theorem dX7_move_50 : decode cX7_move 50 = .ok (.aload_n 0, 1) := by decide +kernel
theorem dX7_move_51 : decode cX7_move 51 = .ok (.getfield 10, 3) := by decide +kernel
theorem dX7_move_54 : decode cX7_move 54 = .ok (.getfield 63, 3) := by decide +kernel
theorem dX7_move_57 : decode cX7_move 57 = .ok (.bipush 6, 2) := by decide +kernel
theorem dX7_move_59 : decode cX7_move 59 = .ok (.if_icmp .lt 13, 3) := by decide +kernel
theorem dX7_move_62 : decode cX7_move 62 = .ok (.new 67, 3) := by decide +kernel
theorem dX7_move_65 : decode cX7_move 65 = .ok (.dup, 1) := by decide +kernel
theorem dX7_move_66 : decode cX7_move 66 = .ok (.ldc 69, 2) := by decide +kernel
theorem dX7_move_68 : decode cX7_move 68 = .ok (.invokespecial 71, 3) := by decide +kernel
theorem dX7_move_71 : decode cX7_move 71 = .ok (.athrow, 1) := by decide +kernel
theorem dX7_move_72 : decode cX7_move 72 = .ok (.aload_n 0, 1) := by decide +kernel
theorem dX7_move_73 : decode cX7_move 73 = .ok (.getfield 10, 3) := by decide +kernel
theorem dX7_move_76 : decode cX7_move 76 = .ok (.getfield 63, 3) := by decide +kernel
theorem dX7_move_79 : decode cX7_move 79 = .ok (.istore 7, 2) := by decide +kernel
theorem dX7_move_81 : decode cX7_move 81 = .ok (.aload_n 0, 1) := by decide +kernel
theorem dX7_move_82 : decode cX7_move 82 = .ok (.getfield 10, 3) := by decide +kernel
theorem dX7_move_85 : decode cX7_move 85 = .ok (.iload 7, 2) := by decide +kernel
theorem dX7_move_87 : decode cX7_move 87 = .ok (.invokevirtual 74, 3) := by decide +kernel
theorem dX7_move_90 : decode cX7_move 90 = .ok (.iload_n 1, 1) := by decide +kernel
theorem dX7_move_91 : decode cX7_move 91 = .ok (.iload_n 2, 1) := by decide +kernel
theorem dX7_move_92 : decode cX7_move 92 = .ok (.iload_n 3, 1) := by decide +kernel
theorem dX7_move_93 : decode cX7_move 93 = .ok (.iload 4, 2) := by decide +kernel
theorem dX7_move_95 : decode cX7_move 95 = .ok (.iload 5, 2) := by decide +kernel
theorem dX7_move_97 : decode cX7_move 97 = .ok (.iload 6, 2) := by decide +kernel
theorem dX7_move_99 : decode cX7_move 99 = .ok (.invokevirtual 78, 3) := by decide +kernel
theorem dX7_move_102 : decode cX7_move 102 = .ok (.aload_n 0, 1) := by decide +kernel
theorem dX7_move_103 : decode cX7_move 103 = .ok (.getfield 10, 3) := by decide +kernel
theorem dX7_move_106 : decode cX7_move 106 = .ok (.iload 7, 2) := by decide +kernel
theorem dX7_move_108 : decode cX7_move 108 = .ok (.iconst 1, 1) := by decide +kernel
theorem dX7_move_109 : decode cX7_move 109 = .ok (.iadd, 1) := by decide +kernel
theorem dX7_move_110 : decode cX7_move 110 = .ok (.putfield 63, 3) := by decide +kernel
theorem dX7_move_113 : decode cX7_move 113 = .ok (.iload 7, 2) := by decide +kernel
theorem dX7_move_115 : decode cX7_move 115 = .ok (.ireturn, 1) := by decide +kernel
set_option maxRecDepth 20000 in
theorem ggX7_patch_X7_needMove : GoodIn wsX7_patch wsX7_needMove := goodIn_ca (goodIn_r _ [6, 7, 8, 1, 9, 10, 11, 12, 13, 14, 43, 44, 45, 46, 47, 48, 49, 50, 51, 52, 53] (by decide +kernel) (by decide +kernel)) (goodIn_sub (fun _ h => List.mem_cons_of_mem _ (List.mem_append_left _ (List.mem_append_left _ (List.mem_append_right _ h)))) (by decide +kernel))
set_option maxRecDepth 20000 in
theorem gX7_patch_X7_needMove : GoodIn wsX7_patch (wsV RX7 84 RX7 yX7_needMove wsX7_needMove) := goodIn_app (goodIn_of _ (by decide +kernel)) ggX7_patch_X7_needMove
set_option maxRecDepth 20000 in
theorem ggX7_patch_X7_needWithin : GoodIn wsX7_patch wsX7_needWithin := goodIn_ca (goodIn_r _ [17, 18, 19] (by decide +kernel) (by decide +kernel)) (goodIn_sub (fun _ h => List.mem_cons_of_mem _ (List.mem_append_left _ (List.mem_append_right _ h))) (by decide +kernel))
set_option maxRecDepth 20000 in
theorem gX7_patch_X7_needWithin : GoodIn wsX7_patch (va_wsS RX7 56 yX7_needWithin wsX7_needWithin) := goodIn_app (goodIn_of _ (by decide +kernel)) ggX7_patch_X7_needWithin
set_option maxRecDepth 20000 in
theorem ggX7_patch_X7_needNoRound : GoodIn wsX7_patch wsX7_needNoRound := goodIn_ca (goodIn_r _ [23, 24, 25, 26, 43, 44, 45, 46, 47, 48, 49, 50] (by decide +kernel) (by decide +kernel)) (goodIn_sub (fun _ h => List.mem_cons_of_mem _ (List.mem_append_right _ h)) (by decide +kernel))
set_option maxRecDepth 20000 in
theorem gX7_patch_X7_needNoRound : GoodIn wsX7_patch (wsV RX7 60 RX7 yX7_needNoRound wsX7_needNoRound) := goodIn_app (goodIn_of _ (by decide +kernel)) ggX7_patch_X7_needNoRound
set_option maxRecDepth 20000 in
theorem ggX7_patch_X5_at : GoodIn wsX7_patch wsX5_at := goodIn_r _ [30, 31, 32, 51, 52, 53] (by decide +kernel) (by decide +kernel)
set_option maxRecDepth 20000 in
theorem gX7_patch_X5_at : GoodIn wsX7_patch (wsV RX7 74 RX5 yX5_at wsX5_at) := goodIn_app (goodIn_of _ (by decide +kernel)) ggX7_patch_X5_at
set_option maxRecDepth 20000 in
theorem ggX7_patch_X4_trait : GoodIn wsX7_patch wsX4_trait := goodIn_r _ [37, 38, 54, 55, 56, 57, 58, 59, 60, 61] (by decide +kernel) (by decide +kernel)
set_option maxRecDepth 20000 in
theorem gX7_patch_X4_trait : GoodIn wsX7_patch (wsV RX7 88 RX4 yX4_trait wsX4_trait) := goodIn_app (goodIn_of _ (by decide +kernel)) ggX7_patch_X4_trait
set_option maxRecDepth 20000 in
theorem ggX7_patch_X4_setTrait : GoodIn wsX7_patch wsX4_setTrait := goodIn_r _ [42, 38, 54, 55, 56, 57, 58, 59, 60, 61] (by decide +kernel) (by decide +kernel)
set_option maxRecDepth 20000 in
theorem gX7_patch_X4_setTrait : GoodIn wsX7_patch (wsV RX7 92 RX4 yX4_setTrait wsX4_setTrait) := goodIn_app (goodIn_of _ (by decide +kernel)) ggX7_patch_X4_setTrait
theorem dX7_patch_0 : decode cX7_patch 0 = .ok (.aload_n 0, 1) := by decide +kernel
theorem dX7_patch_1 : decode cX7_patch 1 = .ok (.iload_n 1, 1) := by decide +kernel
theorem dX7_patch_2 : decode cX7_patch 2 = .ok (.invokevirtual 84, 3) := by decide +kernel
theorem dX7_patch_5 : decode cX7_patch 5 = .ok (.iload_n 2, 1) := by decide +kernel
theorem dX7_patch_6 : decode cX7_patch 6 = .ok (.iconst 0, 1) := by decide +kernel
theorem dX7_patch_7 : decode cX7_patch 7 = .ok (.iconst 4, 1) := by decide +kernel
theorem dX7_patch_8 : decode cX7_patch 8 = .ok (.invokestatic 56, 3) := by decide +kernel
theorem dX7_patch_11 : decode cX7_patch 11 = .ok (.iload_n 3, 1) := by decide +kernel
theorem dX7_patch_12 : decode cX7_patch 12 = .ok (.iconst 0, 1) := by decide +kernel
theorem dX7_patch_13 : decode cX7_patch 13 = .ok (.bipush 60, 2) := by decide +kernel
theorem dX7_patch_15 : decode cX7_patch 15 = .ok (.invokestatic 56, 3) := by decide +kernel
theorem dX7_patch_18 : decode cX7_patch 18 = .ok (.aload_n 0, 1) := by decide +kernel
theorem dX7_patch_19 : decode cX7_patch 19 = .ok (.invokevirtual 60, 3) := by decide +kernel
theorem dX7_patch_22 : decode cX7_patch 22 = .ok (.aload_n 0, 1) := by decide +kernel
theorem dX7_patch_23 : decode cX7_patch 23 = .ok (.getfield 10, 3) := by decide +kernel
theorem dX7_patch_26 : decode cX7_patch 26 = .ok (.iload_n 1, 1) := by decide +kernel
theorem dX7_patch_27 : decode cX7_patch 27 = .ok (.invokevirtual 74, 3) := by decide +kernel
theorem dX7_patch_30 : decode cX7_patch 30 = .ok (.iload_n 2, 1) := by decide +kernel
theorem dX7_patch_31 : decode cX7_patch 31 = .ok (.invokevirtual 88, 3) := by decide +kernel
theorem dX7_patch_34 : decode cX7_patch 34 = .ok (.istore 4, 2) := by decide +kernel
theorem dX7_patch_36 : decode cX7_patch 36 = .ok (.aload_n 0, 1) := by decide +kernel
theorem dX7_patch_37 : decode cX7_patch 37 = .ok (.getfield 10, 3) := by decide +kernel
theorem dX7_patch_40 : decode cX7_patch 40 = .ok (.iload_n 1, 1) := by decide +kernel
theorem dX7_patch_41 : decode cX7_patch 41 = .ok (.invokevirtual 74, 3) := by decide +kernel
theorem dX7_patch_44 : decode cX7_patch 44 = .ok (.iload_n 2, 1) := by decide +kernel
theorem dX7_patch_45 : decode cX7_patch 45 = .ok (.iload_n 3, 1) := by decide +kernel
theorem dX7_patch_46 : decode cX7_patch 46 = .ok (.invokevirtual 92, 3) := by decide +kernel
theorem dX7_patch_49 : decode cX7_patch 49 = .ok (.iload 4, 2) := by decide +kernel
theorem dX7_patch_51 : decode cX7_patch 51 = .ok (.ireturn, 1) := by decide +kernel
set_option maxRecDepth 20000 in
theorem ggX7_cancel_X7_needMove : GoodIn wsX7_cancel wsX7_needMove := goodIn_ca (goodIn_r _ [6, 7, 8, 1, 9, 10, 11, 12, 13, 14, 38, 39, 40, 41, 42, 43, 44, 45, 46, 47, 48] (by decide +kernel) (by decide +kernel)) (goodIn_sub (fun _ h => List.mem_cons_of_mem _ (List.mem_append_left _ (List.mem_append_right _ h))) (by decide +kernel))
set_option maxRecDepth 20000 in
theorem gX7_cancel_X7_needMove : GoodIn wsX7_cancel (wsV RX7 84 RX7 yX7_needMove wsX7_needMove) := goodIn_app (goodIn_of _ (by decide +kernel)) ggX7_cancel_X7_needMove
set_option maxRecDepth 20000 in
theorem ggX7_cancel_X7_needNoRound : GoodIn wsX7_cancel wsX7_needNoRound := goodIn_ca (goodIn_r _ [18, 19, 20, 21, 38, 39, 40, 41, 42, 43, 44, 45] (by decide +kernel) (by decide +kernel)) (goodIn_sub (fun _ h => List.mem_cons_of_mem _ (List.mem_append_right _ h)) (by decide +kernel))
set_option maxRecDepth 20000 in
theorem gX7_cancel_X7_needNoRound : GoodIn wsX7_cancel (wsV RX7 60 RX7 yX7_needNoRound wsX7_needNoRound) := goodIn_app (goodIn_of _ (by decide +kernel)) ggX7_cancel_X7_needNoRound
set_option maxRecDepth 20000 in
theorem ggX7_cancel_X5_at : GoodIn wsX7_cancel wsX5_at := goodIn_r _ [25, 26, 27, 46, 47, 48] (by decide +kernel) (by decide +kernel)
set_option maxRecDepth 20000 in
theorem gX7_cancel_X5_at : GoodIn wsX7_cancel (wsV RX7 74 RX5 yX5_at wsX5_at) := goodIn_app (goodIn_of _ (by decide +kernel)) ggX7_cancel_X5_at
set_option maxRecDepth 20000 in
theorem ggX7_cancel_X4_goesInto : GoodIn wsX7_cancel wsX4_goesInto := goodIn_r _ [32, 33, 49, 50, 51, 52, 53, 54, 55, 56] (by decide +kernel) (by decide +kernel)
set_option maxRecDepth 20000 in
theorem gX7_cancel_X4_goesInto : GoodIn wsX7_cancel (wsV RX7 96 RX4 yX4_goesInto wsX4_goesInto) := goodIn_app (goodIn_of _ (by decide +kernel)) ggX7_cancel_X4_goesInto
set_option maxRecDepth 20000 in
theorem ggX7_cancel_X4_letGoInto : GoodIn wsX7_cancel wsX4_letGoInto := goodIn_r _ [37, 33, 49, 50, 51, 52, 53, 54, 55, 56] (by decide +kernel) (by decide +kernel)
set_option maxRecDepth 20000 in
theorem gX7_cancel_X4_letGoInto : GoodIn wsX7_cancel (wsV RX7 100 RX4 yX4_letGoInto wsX4_letGoInto) := goodIn_app (goodIn_of _ (by decide +kernel)) ggX7_cancel_X4_letGoInto
theorem dX7_cancel_0 : decode cX7_cancel 0 = .ok (.aload_n 0, 1) := by decide +kernel
theorem dX7_cancel_1 : decode cX7_cancel 1 = .ok (.iload_n 1, 1) := by decide +kernel
theorem dX7_cancel_2 : decode cX7_cancel 2 = .ok (.invokevirtual 84, 3) := by decide +kernel
theorem dX7_cancel_5 : decode cX7_cancel 5 = .ok (.aload_n 0, 1) := by decide +kernel
theorem dX7_cancel_6 : decode cX7_cancel 6 = .ok (.iload_n 2, 1) := by decide +kernel
theorem dX7_cancel_7 : decode cX7_cancel 7 = .ok (.invokevirtual 84, 3) := by decide +kernel
theorem dX7_cancel_10 : decode cX7_cancel 10 = .ok (.aload_n 0, 1) := by decide +kernel
theorem dX7_cancel_11 : decode cX7_cancel 11 = .ok (.invokevirtual 60, 3) := by decide +kernel
theorem dX7_cancel_14 : decode cX7_cancel 14 = .ok (.aload_n 0, 1) := by decide +kernel
theorem dX7_cancel_15 : decode cX7_cancel 15 = .ok (.getfield 10, 3) := by decide +kernel
theorem dX7_cancel_18 : decode cX7_cancel 18 = .ok (.iload_n 1, 1) := by decide +kernel
theorem dX7_cancel_19 : decode cX7_cancel 19 = .ok (.invokevirtual 74, 3) := by decide +kernel
theorem dX7_cancel_22 : decode cX7_cancel 22 = .ok (.iload_n 2, 1) := by decide +kernel
theorem dX7_cancel_23 : decode cX7_cancel 23 = .ok (.invokevirtual 96, 3) := by decide +kernel
theorem dX7_cancel_26 : decode cX7_cancel 26 = .ok (.istore 4, 2) := by decide +kernel
theorem dX7_cancel_28 : decode cX7_cancel 28 = .ok (.aload_n 0, 1) := by decide +kernel
theorem dX7_cancel_29 : decode cX7_cancel 29 = .ok (.getfield 10, 3) := by decide +kernel
theorem dX7_cancel_32 : decode cX7_cancel 32 = .ok (.iload_n 1, 1) := by decide +kernel
theorem dX7_cancel_33 : decode cX7_cancel 33 = .ok (.invokevirtual 74, 3) := by decide +kernel
theorem dX7_cancel_36 : decode cX7_cancel 36 = .ok (.iload_n 2, 1) := by decide +kernel
theorem dX7_cancel_37 : decode cX7_cancel 37 = .ok (.iload_n 3, 1) := by decide +kernel
theorem dX7_cancel_38 : decode cX7_cancel 38 = .ok (.invokevirtual 100, 3) := by decide +kernel
theorem dX7_cancel_41 : decode cX7_cancel 41 = .ok (.iload 4, 2) := by decide +kernel
theorem dX7_cancel_43 : decode cX7_cancel 43 = .ok (.ireturn, 1) := by decide +kernel
set_option maxRecDepth 20000 in
theorem ggX7_begin_X7_needWithin : GoodIn wsX7_begin wsX7_needWithin := goodIn_ca (goodIn_r _ [16, 1, 2] (by decide +kernel) (by decide +kernel)) (goodIn_sub (fun _ h => List.mem_cons_of_mem _ (List.mem_append_left _ (List.mem_append_right _ h))) (by decide +kernel))
set_option maxRecDepth 20000 in
theorem gX7_begin_X7_needWithin : GoodIn wsX7_begin (va_wsS RX7 56 yX7_needWithin wsX7_needWithin) := goodIn_app (goodIn_of _ (by decide +kernel)) ggX7_begin_X7_needWithin
set_option maxRecDepth 20000 in
theorem ggX7_begin_X7_needNoRound : GoodIn wsX7_begin wsX7_needNoRound := goodIn_ca (goodIn_r _ [20, 21, 22, 12, 107, 108, 109, 110, 111, 112, 113, 114] (by decide +kernel) (by decide +kernel)) (goodIn_sub (fun _ h => List.mem_cons_of_mem _ (List.mem_append_right _ h)) (by decide +kernel))
set_option maxRecDepth 20000 in
theorem gX7_begin_X7_needNoRound : GoodIn wsX7_begin (wsV RX7 60 RX7 yX7_needNoRound wsX7_needNoRound) := goodIn_app (goodIn_of _ (by decide +kernel)) ggX7_begin_X7_needNoRound
set_option maxRecDepth 20000 in
theorem ggX7_begin_X0_wonBy : GoodIn wsX7_begin wsX0_wonBy := goodIn_r _ [27, 28, 29, 115, 116, 117] (by decide +kernel) (by decide +kernel)
set_option maxRecDepth 20000 in
theorem gX7_begin_X0_wonBy : GoodIn wsX7_begin (wsV RX7 112 RX0 yX0_wonBy wsX0_wonBy) := goodIn_app (goodIn_of _ (by decide +kernel)) ggX7_begin_X0_wonBy
set_option maxRecDepth 20000 in
theorem ggX7_begin_X0_clear : GoodIn wsX7_begin wsX0_clear := goodIn_r _ [33, 34, 28, 29, 115, 116, 117] (by decide +kernel) (by decide +kernel)
set_option maxRecDepth 20000 in
theorem gX7_begin_X0_clear : GoodIn wsX7_begin (wsV RX7 116 RX0 yX0_clear wsX0_clear) := goodIn_app (goodIn_of _ (by decide +kernel)) ggX7_begin_X0_clear
set_option maxRecDepth 20000 in
theorem ggX7_begin_X5_copy : GoodIn wsX7_begin wsX5_copy := goodIn_r _ [39, 40, 41, 42, 43, 44, 45, 46, 47, 48, 49, 50, 51, 52, 53, 54, 55, 56, 57, 58, 137, 138, 139, 140, 141, 142, 143, 144, 145, 146, 147] (by decide +kernel) (by decide +kernel)
set_option maxRecDepth 20000 in
theorem gX7_begin_X5_copy : GoodIn wsX7_begin (wsV RX7 119 RX5 yX5_copy wsX5_copy) := goodIn_app (goodIn_of _ (by decide +kernel)) ggX7_begin_X5_copy
set_option maxRecDepth 20000 in
theorem ggX7_begin_X6_clear : GoodIn wsX7_begin wsX6_clear := goodIn_r _ [63, 64, 65, 66, 67, 148, 149, 150, 151, 152, 153] (by decide +kernel) (by decide +kernel)
set_option maxRecDepth 20000 in
theorem gX7_begin_X6_clear : GoodIn wsX7_begin (wsV RX7 134 RX6 yX6_clear wsX6_clear) := goodIn_app (goodIn_of _ (by decide +kernel)) ggX7_begin_X6_clear
set_option maxRecDepth 20000 in
theorem ggX7_begin_X6_prepare : GoodIn wsX7_begin wsX6_prepare := goodIn_r _ [71, 64, 65, 66, 72, 73, 74, 75, 76, 77, 78, 79, 80, 81, 82, 83, 84, 85, 86, 87, 88, 89, 90, 91, 92, 93, 94, 95, 96, 97, 98, 99, 100, 101, 102, 103, 104, 105, 106, 148, 149, 150, 151, 152, 153, 118, 119, 120, 121, 122, 123, 124, 125, 126, 127, 128, 129, 130, 131, 132, 133, 134, 135, 136] (by decide +kernel) (by decide +kernel)
set_option maxRecDepth 20000 in
theorem gX7_begin_X6_prepare : GoodIn wsX7_begin (wsV RX7 136 RX6 yX6_prepare wsX6_prepare) := goodIn_app (goodIn_of _ (by decide +kernel)) ggX7_begin_X6_prepare
theorem dX7_begin_0 : decode cX7_begin 0 = .ok (.iload_n 1, 1) := by decide +kernel
theorem dX7_begin_1 : decode cX7_begin 1 = .ok (.bipush 20, 2) := by decide +kernel
theorem dX7_begin_3 : decode cX7_begin 3 = .ok (.sipush 300, 3) := by decide +kernel
theorem dX7_begin_6 : decode cX7_begin 6 = .ok (.invokestatic 56, 3) := by decide +kernel
theorem dX7_begin_9 : decode cX7_begin 9 = .ok (.iload_n 1, 1) := by decide +kernel
theorem dX7_begin_10 : decode cX7_begin 10 = .ok (.iconst 2, 1) := by decide +kernel
theorem dX7_begin_11 : decode cX7_begin 11 = .ok (.irem, 1) := by decide +kernel
theorem dX7_begin_12 : decode cX7_begin 12 = .ok (.ifCond .eq 13, 3) := by decide +kernel
theorem dX7_begin_15 : decode cX7_begin 15 = .ok (.new 104, 3) := by decide +kernel
theorem dX7_begin_18 : decode cX7_begin 18 = .ok (.dup, 1) := by decide +kernel
theorem dX7_begin_19 : decode cX7_begin 19 = .ok (.ldc 106, 2) := by decide +kernel
theorem dX7_begin_21 : decode cX7_begin 21 = .ok (.invokespecial 108, 3) := by decide +kernel
theorem dX7_begin_24 : decode cX7_begin 24 = .ok (.athrow, 1) := by decide +kernel
theorem dX7_begin_25 : decode cX7_begin 25 = .ok (.aload_n 0, 1) := by decide +kernel
theorem dX7_begin_26 : decode cX7_begin 26 = .ok (.invokevirtual 60, 3) := by decide +kernel
theorem dX7_begin_29 : decode cX7_begin 29 = .ok (.aload_n 0, 1) := by decide +kernel
theorem dX7_begin_30 : decode cX7_begin 30 = .ok (.getfield 41, 3) := by decide +kernel
theorem dX7_begin_33 : decode cX7_begin 33 = .ok (.getfield 109, 3) := by decide +kernel
theorem dX7_begin_36 : decode cX7_begin 36 = .ok (.ifCond .eq 14, 3) := by decide +kernel
theorem dX7_begin_39 : decode cX7_begin 39 = .ok (.aload_n 0, 1) := by decide +kernel
theorem dX7_begin_40 : decode cX7_begin 40 = .ok (.getfield 41, 3) := by decide +kernel
theorem dX7_begin_43 : decode cX7_begin 43 = .ok (.invokevirtual 112, 3) := by decide +kernel
theorem dX7_begin_46 : decode cX7_begin 46 = .ok (.iconst (-1), 1) := by decide +kernel
theorem dX7_begin_47 : decode cX7_begin 47 = .ok (.if_icmp .eq 7, 3) := by decide +kernel
theorem dX7_begin_50 : decode cX7_begin 50 = .ok (.iconst 1, 1) := by decide +kernel
theorem dX7_begin_51 : decode cX7_begin 51 = .ok (.goto 4, 3) := by decide +kernel
theorem dX7_begin_54 : decode cX7_begin 54 = .ok (.iconst 0, 1) := by decide +kernel
theorem dX7_begin_55 : decode cX7_begin 55 = .ok (.istore_n 2, 1) := by decide +kernel
theorem dX7_begin_56 : decode cX7_begin 56 = .ok (.iload_n 2, 1) := by decide +kernel
theorem dX7_begin_57 : decode cX7_begin 57 = .ok (.ifCond .eq 10, 3) := by decide +kernel
theorem dX7_begin_60 : decode cX7_begin 60 = .ok (.aload_n 0, 1) := by decide +kernel
theorem dX7_begin_61 : decode cX7_begin 61 = .ok (.getfield 41, 3) := by decide +kernel
theorem dX7_begin_64 : decode cX7_begin 64 = .ok (.invokevirtual 116, 3) := by decide +kernel
theorem dX7_begin_67 : decode cX7_begin 67 = .ok (.aload_n 0, 1) := by decide +kernel
theorem dX7_begin_68 : decode cX7_begin 68 = .ok (.getfield 16, 3) := by decide +kernel
theorem dX7_begin_71 : decode cX7_begin 71 = .ok (.aload_n 0, 1) := by decide +kernel
theorem dX7_begin_72 : decode cX7_begin 72 = .ok (.getfield 10, 3) := by decide +kernel
theorem dX7_begin_75 : decode cX7_begin 75 = .ok (.invokevirtual 119, 3) := by decide +kernel
theorem dX7_begin_78 : decode cX7_begin 78 = .ok (.aload_n 0, 1) := by decide +kernel
theorem dX7_begin_79 : decode cX7_begin 79 = .ok (.getfield 34, 3) := by decide +kernel
theorem dX7_begin_82 : decode cX7_begin 82 = .ok (.iload_n 1, 1) := by decide +kernel
theorem dX7_begin_83 : decode cX7_begin 83 = .ok (.iload_n 2, 1) := by decide +kernel
theorem dX7_begin_84 : decode cX7_begin 84 = .ok (.ifCond .eq 7, 3) := by decide +kernel
theorem dX7_begin_87 : decode cX7_begin 87 = .ok (.iconst 0, 1) := by decide +kernel
theorem dX7_begin_88 : decode cX7_begin 88 = .ok (.goto 13, 3) := by decide +kernel
theorem dX7_begin_91 : decode cX7_begin 91 = .ok (.aload_n 0, 1) := by decide +kernel
theorem dX7_begin_92 : decode cX7_begin 92 = .ok (.getfield 24, 3) := by decide +kernel
theorem dX7_begin_95 : decode cX7_begin 95 = .ok (.getfield 122, 3) := by decide +kernel
theorem dX7_begin_98 : decode cX7_begin 98 = .ok (.getfield 126, 3) := by decide +kernel
theorem dX7_begin_101 : decode cX7_begin 101 = .ok (.iload_n 2, 1) := by decide +kernel
theorem dX7_begin_102 : decode cX7_begin 102 = .ok (.ifCond .eq 7, 3) := by decide +kernel
theorem dX7_begin_105 : decode cX7_begin 105 = .ok (.iconst 0, 1) := by decide +kernel
theorem dX7_begin_106 : decode cX7_begin 106 = .ok (.goto 13, 3) := by decide +kernel
theorem dX7_begin_109 : decode cX7_begin 109 = .ok (.aload_n 0, 1) := by decide +kernel
theorem dX7_begin_110 : decode cX7_begin 110 = .ok (.getfield 24, 3) := by decide +kernel
theorem dX7_begin_113 : decode cX7_begin 113 = .ok (.getfield 131, 3) := by decide +kernel
theorem dX7_begin_116 : decode cX7_begin 116 = .ok (.getfield 126, 3) := by decide +kernel
theorem dX7_begin_119 : decode cX7_begin 119 = .ok (.invokevirtual 134, 3) := by decide +kernel
theorem dX7_begin_122 : decode cX7_begin 122 = .ok (.aload_n 0, 1) := by decide +kernel
theorem dX7_begin_123 : decode cX7_begin 123 = .ok (.getfield 34, 3) := by decide +kernel
theorem dX7_begin_126 : decode cX7_begin 126 = .ok (.aload_n 0, 1) := by decide +kernel
theorem dX7_begin_127 : decode cX7_begin 127 = .ok (.getfield 24, 3) := by decide +kernel
theorem dX7_begin_130 : decode cX7_begin 130 = .ok (.invokevirtual 136, 3) := by decide +kernel
theorem dX7_begin_133 : decode cX7_begin 133 = .ok (.aload_n 0, 1) := by decide +kernel
theorem dX7_begin_134 : decode cX7_begin 134 = .ok (.iconst 1, 1) := by decide +kernel
theorem dX7_begin_135 : decode cX7_begin 135 = .ok (.putfield 52, 3) := by decide +kernel
theorem dX7_begin_138 : decode cX7_begin 138 = .ok (.aload_n 0, 1) := by decide +kernel
theorem dX7_begin_139 : decode cX7_begin 139 = .ok (.getfield 41, 3) := by decide +kernel
theorem dX7_begin_142 : decode cX7_begin 142 = .ok (.dup, 1) := by decide +kernel
theorem dX7_begin_143 : decode cX7_begin 143 = .ok (.getfield 109, 3) := by decide +kernel
theorem dX7_begin_146 : decode cX7_begin 146 = .ok (.iconst 1, 1) := by decide +kernel
theorem dX7_begin_147 : decode cX7_begin 147 = .ok (.iadd, 1) := by decide +kernel
theorem dX7_begin_148 : decode cX7_begin 148 = .ok (.putfield 109, 3) := by decide +kernel
theorem dX7_begin_151 : decode cX7_begin 151 = .ok (.aload_n 0, 1) := by decide +kernel
theorem dX7_begin_152 : decode cX7_begin 152 = .ok (.getfield 41, 3) := by decide +kernel
theorem dX7_begin_155 : decode cX7_begin 155 = .ok (.getfield 109, 3) := by decide +kernel
theorem dX7_begin_158 : decode cX7_begin 158 = .ok (.ireturn, 1) := by decide +kernel
set_option maxRecDepth 20000 in
theorem ggX7_play_X7_needWithin : GoodIn wsX7_play wsX7_needWithin := goodIn_ca (goodIn_r _ [10, 11, 12] (by decide +kernel) (by decide +kernel)) (goodIn_sub (fun _ h => List.mem_cons_of_mem _ (List.mem_append_right _ h)) (by decide +kernel))
set_option maxRecDepth 20000 in
theorem gX7_play_X7_needWithin : GoodIn wsX7_play (va_wsS RX7 56 yX7_needWithin wsX7_needWithin) := goodIn_app (goodIn_of _ (by decide +kernel)) ggX7_play_X7_needWithin
set_option maxRecDepth 20000 in
theorem ggX7_play_X7_needInput : GoodIn wsX7_play wsX7_needInput := goodIn_ca (goodIn_r _ [16, 11, 12, 17, 18, 19, 20, 21, 22, 23, 205, 206, 207, 208, 209, 210, 211, 212, 219, 220, 221] (by decide +kernel) (by decide +kernel)) (goodIn_sub (fun _ h => List.mem_cons_of_mem _ (List.mem_append_right _ h)) (by decide +kernel))
set_option maxRecDepth 20000 in
theorem gX7_play_X7_needInput : GoodIn wsX7_play (wsV RX7 140 RX7 yX7_needInput wsX7_needInput) := goodIn_app (goodIn_of _ (by decide +kernel)) ggX7_play_X7_needInput
set_option maxRecDepth 20000 in
theorem ggX7_play_X6_add : GoodIn wsX7_play wsX6_add := goodIn_r _ [28, 29, 30, 31, 213, 214, 215, 216, 217, 218] (by decide +kernel) (by decide +kernel)
set_option maxRecDepth 20000 in
theorem gX7_play_X6_add : GoodIn wsX7_play (wsV RX7 145 RX6 yX6_add wsX6_add) := goodIn_app (goodIn_of _ (by decide +kernel)) ggX7_play_X6_add
set_option maxRecDepth 20000 in
theorem ggX7_play_X1_playFrame : GoodIn wsX7_play wsX1_playFrame := goodIn_r _ [36, 37, 38, 39, 40, 41, 42, 43, 44, 45, 46, 47, 48, 49, 50, 51, 52, 53, 54, 55, 56, 57, 58, 59, 60, 21, 61, 62, 63, 64, 65, 66, 67, 68, 69, 70, 71, 72, 73, 74, 75, 76, 77, 78, 79, 80, 81, 82, 83, 84, 85, 35, 86, 87, 88, 89, 90, 91, 92, 93, 94, 95, 96, 97, 98, 99, 100, 101, 102, 103, 104, 105, 106, 107, 108, 109, 110, 111, 112, 113, 114, 115, 116, 117, 118, 119, 120, 121, 122, 123, 124, 125, 126, 127, 128, 129, 130, 131, 132, 133, 134, 135, 136, 137, 138, 139, 140, 141, 142, 143, 144, 145, 146, 147, 148, 149, 150, 151, 152, 153, 154, 155, 156, 157, 158, 159, 160, 161, 162, 163, 164, 165, 166, 167, 168, 169, 170, 171, 172, 173, 174, 175, 176, 177, 178, 179, 180, 181, 182, 183, 184, 185, 186, 187, 188, 189, 222, 223, 224, 225, 226, 227, 228, 229, 230, 231, 232, 233, 234, 235, 236, 237, 238, 239, 240, 219, 220, 221, 241, 242, 243, 244, 245, 246, 247, 248] (by decide +kernel) (by decide +kernel)
set_option maxRecDepth 20000 in
theorem gX7_play_X1_playFrame : GoodIn wsX7_play (wsV RX7 148 RX1 yX1_playFrame wsX1_playFrame) := goodIn_app (goodIn_of _ (by decide +kernel)) ggX7_play_X1_playFrame
set_option maxRecDepth 20000 in
theorem ggX7_play_X7_endRoundIfOver : GoodIn wsX7_play wsX7_endRoundIfOver := goodIn_r _ [193, 5, 194, 195, 196, 4, 6, 3, 197, 198, 199, 200, 201, 202, 203, 204, 205, 206, 207, 208, 209, 210, 211, 212, 222, 223, 224, 225, 226, 227, 228, 229, 230, 231, 232, 233, 234, 235, 236, 237, 238, 239, 240, 213, 214, 215, 216, 217, 218, 249, 250, 251] (by decide +kernel) (by decide +kernel)
set_option maxRecDepth 20000 in
theorem gX7_play_X7_endRoundIfOver : GoodIn wsX7_play (wsV RX7 151 RX7 yX7_endRoundIfOver wsX7_endRoundIfOver) := goodIn_app (goodIn_of _ (by decide +kernel)) ggX7_play_X7_endRoundIfOver
theorem dX7_play_0 : decode cX7_play 0 = .ok (.iload_n 1, 1) := by decide +kernel
theorem dX7_play_1 : decode cX7_play 1 = .ok (.iconst 1, 1) := by decide +kernel
theorem dX7_play_2 : decode cX7_play 2 = .ok (.bipush 60, 2) := by decide +kernel
theorem dX7_play_4 : decode cX7_play 4 = .ok (.invokestatic 56, 3) := by decide +kernel
theorem dX7_play_7 : decode cX7_play 7 = .ok (.aload_n 0, 1) := by decide +kernel
theorem dX7_play_8 : decode cX7_play 8 = .ok (.iload_n 2, 1) := by decide +kernel
theorem dX7_play_9 : decode cX7_play 9 = .ok (.invokevirtual 140, 3) := by decide +kernel
theorem dX7_play_12 : decode cX7_play 12 = .ok (.aload_n 0, 1) := by decide +kernel
theorem dX7_play_13 : decode cX7_play 13 = .ok (.iload_n 3, 1) := by decide +kernel
theorem dX7_play_14 : decode cX7_play 14 = .ok (.invokevirtual 140, 3) := by decide +kernel
theorem dX7_play_17 : decode cX7_play 17 = .ok (.aload_n 0, 1) := by decide +kernel
theorem dX7_play_18 : decode cX7_play 18 = .ok (.getfield 52, 3) := by decide +kernel
theorem dX7_play_21 : decode cX7_play 21 = .ok (.ifCond .ne 13, 3) := by decide +kernel
theorem dX7_play_24 : decode cX7_play 24 = .ok (.new 67, 3) := by decide +kernel
theorem dX7_play_27 : decode cX7_play 27 = .ok (.dup, 1) := by decide +kernel
theorem dX7_play_28 : decode cX7_play 28 = .ok (.ldc 143, 2) := by decide +kernel
theorem dX7_play_30 : decode cX7_play 30 = .ok (.invokespecial 71, 3) := by decide +kernel
theorem dX7_play_33 : decode cX7_play 33 = .ok (.athrow, 1) := by decide +kernel
theorem dX7_play_34 : decode cX7_play 34 = .ok (.iconst 0, 1) := by decide +kernel
theorem dX7_play_35 : decode cX7_play 35 = .ok (.istore 4, 2) := by decide +kernel
theorem dX7_play_37 : decode cX7_play 37 = .ok (.iload 4, 2) := by decide +kernel
theorem dX7_play_39 : decode cX7_play 39 = .ok (.iload_n 1, 1) := by decide +kernel
theorem dX7_play_40 : decode cX7_play 40 = .ok (.if_icmp .ge 38, 3) := by decide +kernel
theorem dX7_play_43 : decode cX7_play 43 = .ok (.aload_n 0, 1) := by decide +kernel
theorem dX7_play_44 : decode cX7_play 44 = .ok (.getfield 52, 3) := by decide +kernel
theorem dX7_play_47 : decode cX7_play 47 = .ok (.ifCond .eq 31, 3) := by decide +kernel
theorem dX7_play_50 : decode cX7_play 50 = .ok (.aload_n 0, 1) := by decide +kernel
theorem dX7_play_51 : decode cX7_play 51 = .ok (.getfield 34, 3) := by decide +kernel
theorem dX7_play_54 : decode cX7_play 54 = .ok (.iload_n 2, 1) := by decide +kernel
theorem dX7_play_55 : decode cX7_play 55 = .ok (.iload_n 3, 1) := by decide +kernel
theorem dX7_play_56 : decode cX7_play 56 = .ok (.invokevirtual 145, 3) := by decide +kernel
theorem dX7_play_59 : decode cX7_play 59 = .ok (.aload_n 0, 1) := by decide +kernel
theorem dX7_play_60 : decode cX7_play 60 = .ok (.getfield 24, 3) := by decide +kernel
theorem dX7_play_63 : decode cX7_play 63 = .ok (.iload_n 2, 1) := by decide +kernel
theorem dX7_play_64 : decode cX7_play 64 = .ok (.iload_n 3, 1) := by decide +kernel
theorem dX7_play_65 : decode cX7_play 65 = .ok (.invokevirtual 148, 3) := by decide +kernel
theorem dX7_play_68 : decode cX7_play 68 = .ok (.aload_n 0, 1) := by decide +kernel
theorem dX7_play_69 : decode cX7_play 69 = .ok (.invokevirtual 151, 3) := by decide +kernel
theorem dX7_play_72 : decode cX7_play 72 = .ok (.iinc 4 1, 3) := by decide +kernel
theorem dX7_play_75 : decode cX7_play 75 = .ok (.goto (-38), 3) := by decide +kernel
theorem dX7_play_78 : decode cX7_play 78 = .ok (.aload_n 0, 1) := by decide +kernel
theorem dX7_play_79 : decode cX7_play 79 = .ok (.getfield 34, 3) := by decide +kernel
theorem dX7_play_82 : decode cX7_play 82 = .ok (.getfield 154, 3) := by decide +kernel
theorem dX7_play_85 : decode cX7_play 85 = .ok (.ireturn, 1) := by decide +kernel
set_option maxRecDepth 20000 in
theorem ggX7_of_X7_needFigure : GoodIn wsX7_of wsX7_needFigure := goodIn_ca (goodIn_r _ [6, 7, 8] (by decide +kernel) (by decide +kernel)) (goodIn_sub (fun _ h => List.mem_cons_of_mem _ (List.mem_append_left _ (List.mem_append_right _ h))) (by decide +kernel))
set_option maxRecDepth 20000 in
theorem gX7_of_X7_needFigure : GoodIn wsX7_of (va_wsS RX7 157 yX7_needFigure wsX7_needFigure) := goodIn_app (goodIn_of _ (by decide +kernel)) ggX7_of_X7_needFigure
set_option maxRecDepth 20000 in
theorem ggX7_of_X7_needWithin : GoodIn wsX7_of wsX7_needWithin := goodIn_ca (goodIn_r _ [11, 12, 13] (by decide +kernel) (by decide +kernel)) (goodIn_sub (fun _ h => List.mem_cons_of_mem _ (List.mem_append_right _ h)) (by decide +kernel))
set_option maxRecDepth 20000 in
theorem gX7_of_X7_needWithin : GoodIn wsX7_of (va_wsS RX7 56 yX7_needWithin wsX7_needWithin) := goodIn_app (goodIn_of _ (by decide +kernel)) ggX7_of_X7_needWithin
set_option maxRecDepth 20000 in
theorem ggX7_of_X0_wins : GoodIn wsX7_of wsX0_wins := goodIn_r _ [18, 19, 20, 49, 50, 51] (by decide +kernel) (by decide +kernel)
set_option maxRecDepth 20000 in
theorem gX7_of_X0_wins : GoodIn wsX7_of (wsV RX7 160 RX0 yX0_wins wsX0_wins) := goodIn_app (goodIn_of _ (by decide +kernel)) ggX7_of_X0_wins
set_option maxRecDepth 20000 in
theorem ggX7_of_X1_figure : GoodIn wsX7_of wsX1_figure := goodIn_r _ [25, 26, 27, 52, 53, 54] (by decide +kernel) (by decide +kernel)
set_option maxRecDepth 20000 in
theorem gX7_of_X1_figure : GoodIn wsX7_of (wsV RX7 163 RX1 yX1_figure wsX1_figure) := goodIn_app (goodIn_of _ (by decide +kernel)) ggX7_of_X1_figure
set_option maxRecDepth 20000 in
theorem ggX7_of_X2_tell : GoodIn wsX7_of wsX2_tell := goodIn_r _ [32, 33, 34, 35, 36, 37, 38, 39, 40, 55, 56, 57, 58, 59, 60, 61, 62, 63, 64, 65, 66, 67, 68, 69, 70] (by decide +kernel) (by decide +kernel)
set_option maxRecDepth 20000 in
theorem gX7_of_X2_tell : GoodIn wsX7_of (wsV RX7 167 RX2 yX2_tell wsX2_tell) := goodIn_app (goodIn_of _ (by decide +kernel)) ggX7_of_X2_tell
theorem dX7_of_0 : decode cX7_of 0 = .ok (.iload_n 1, 1) := by decide +kernel
theorem dX7_of_1 : decode cX7_of 1 = .ok (.invokestatic 157, 3) := by decide +kernel
theorem dX7_of_4 : decode cX7_of 4 = .ok (.iload_n 2, 1) := by decide +kernel
theorem dX7_of_5 : decode cX7_of 5 = .ok (.iconst 0, 1) := by decide +kernel
theorem dX7_of_6 : decode cX7_of 6 = .ok (.bipush 7, 2) := by decide +kernel
theorem dX7_of_8 : decode cX7_of 8 = .ok (.invokestatic 56, 3) := by decide +kernel
theorem dX7_of_11 : decode cX7_of 11 = .ok (.iload_n 2, 1) := by decide +kernel
theorem dX7_of_12 : decode cX7_of 12 = .ok (.bipush 7, 2) := by decide +kernel
theorem dX7_of_14 : decode cX7_of 14 = .ok (.if_icmp .ne 14, 3) := by decide +kernel
theorem dX7_of_17 : decode cX7_of 17 = .ok (.aload_n 0, 1) := by decide +kernel
theorem dX7_of_18 : decode cX7_of 18 = .ok (.getfield 41, 3) := by decide +kernel
theorem dX7_of_21 : decode cX7_of 21 = .ok (.iload_n 1, 1) := by decide +kernel
theorem dX7_of_22 : decode cX7_of 22 = .ok (.invokevirtual 160, 3) := by decide +kernel
theorem dX7_of_25 : decode cX7_of 25 = .ok (.goto 15, 3) := by decide +kernel
theorem dX7_of_28 : decode cX7_of 28 = .ok (.aload_n 0, 1) := by decide +kernel
theorem dX7_of_29 : decode cX7_of 29 = .ok (.getfield 24, 3) := by decide +kernel
theorem dX7_of_32 : decode cX7_of 32 = .ok (.iload_n 1, 1) := by decide +kernel
theorem dX7_of_33 : decode cX7_of 33 = .ok (.invokevirtual 163, 3) := by decide +kernel
theorem dX7_of_36 : decode cX7_of 36 = .ok (.iload_n 2, 1) := by decide +kernel
theorem dX7_of_37 : decode cX7_of 37 = .ok (.invokevirtual 167, 3) := by decide +kernel
theorem dX7_of_40 : decode cX7_of 40 = .ok (.ireturn, 1) := by decide +kernel
set_option maxRecDepth 20000 in
theorem ggX7_again_X7_needFigure : GoodIn wsX7_again wsX7_needFigure := goodIn_ca (goodIn_r _ [11, 1, 2] (by decide +kernel) (by decide +kernel)) (goodIn_sub (fun _ h => List.mem_cons_of_mem _ (List.mem_append_left _ (List.mem_append_right _ h))) (by decide +kernel))
set_option maxRecDepth 20000 in
theorem gX7_again_X7_needFigure : GoodIn wsX7_again (va_wsS RX7 157 yX7_needFigure wsX7_needFigure) := goodIn_app (goodIn_of _ (by decide +kernel)) ggX7_again_X7_needFigure
set_option maxRecDepth 20000 in
theorem ggX7_again_X7_needWithin : GoodIn wsX7_again wsX7_needWithin := goodIn_ca (goodIn_r _ [14, 15, 16] (by decide +kernel) (by decide +kernel)) (goodIn_sub (fun _ h => List.mem_cons_of_mem _ (List.mem_append_right _ h)) (by decide +kernel))
set_option maxRecDepth 20000 in
theorem gX7_again_X7_needWithin : GoodIn wsX7_again (va_wsS RX7 56 yX7_needWithin wsX7_needWithin) := goodIn_app (goodIn_of _ (by decide +kernel)) ggX7_again_X7_needWithin
set_option maxRecDepth 20000 in
theorem ggX7_again_X6_playInto : GoodIn wsX7_again wsX6_playInto := goodIn_r _ [21, 22, 23, 24, 25, 26, 27, 20, 28, 29, 30, 31, 32, 33, 34, 35, 36, 37, 38, 39, 40, 41, 42, 43, 44, 45, 46, 47, 48, 49, 50, 51, 52, 53, 54, 55, 56, 57, 58, 59, 60, 61, 62, 63, 64, 65, 66, 67, 68, 69, 70, 71, 72, 73, 74, 75, 76, 77, 78, 79, 80, 81, 82, 83, 84, 85, 86, 87, 88, 89, 90, 91, 92, 93, 94, 95, 96, 97, 98, 99, 100, 101, 102, 103, 104, 105, 106, 107, 108, 109, 110, 111, 112, 113, 114, 115, 116, 117, 118, 119, 120, 121, 122, 123, 124, 125, 126, 127, 128, 129, 130, 131, 132, 133, 134, 135, 136, 137, 138, 139, 140, 141, 142, 143, 144, 145, 146, 147, 148, 149, 150, 151, 152, 153, 154, 155, 156, 157, 158, 159, 160, 161, 162, 163, 164, 165, 166, 167, 168, 169, 170, 171, 172, 173, 174, 175, 176, 177, 178, 179, 180, 181, 182, 183, 184, 185, 186, 187, 188, 189, 190, 191, 192, 193, 194, 195, 196, 197, 198, 218, 219, 220, 221, 222, 223, 224, 225, 226, 227, 228, 229, 230, 231, 232, 233, 234, 235, 236, 237, 238, 239, 240, 241, 242, 243, 244, 245, 246, 247, 248, 249, 250, 251, 252, 253] (by decide +kernel) (by decide +kernel)
set_option maxRecDepth 20000 in
theorem gX7_again_X6_playInto : GoodIn wsX7_again (wsV RX7 175 RX6 yX6_playInto wsX6_playInto) := goodIn_app (goodIn_of _ (by decide +kernel)) ggX7_again_X6_playInto
set_option maxRecDepth 20000 in
theorem ggX7_again_X1_figure : GoodIn wsX7_again wsX1_figure := goodIn_r _ [202, 37, 38, 224, 225, 226] (by decide +kernel) (by decide +kernel)
set_option maxRecDepth 20000 in
theorem gX7_again_X1_figure : GoodIn wsX7_again (wsV RX7 163 RX1 yX1_figure wsX1_figure) := goodIn_app (goodIn_of _ (by decide +kernel)) ggX7_again_X1_figure
set_option maxRecDepth 20000 in
theorem ggX7_again_X2_tell : GoodIn wsX7_again wsX2_tell := goodIn_r _ [206, 44, 46, 45, 52, 58, 59, 53, 47, 227, 228, 229, 230, 231, 232, 233, 234, 235, 236, 237, 238, 239, 240, 241, 242] (by decide +kernel) (by decide +kernel)
set_option maxRecDepth 20000 in
theorem gX7_again_X2_tell : GoodIn wsX7_again (wsV RX7 167 RX2 yX2_tell wsX2_tell) := goodIn_app (goodIn_of _ (by decide +kernel)) ggX7_again_X2_tell
theorem dX7_again_0 : decode cX7_again 0 = .ok (.aload_n 0, 1) := by decide +kernel
theorem dX7_again_1 : decode cX7_again 1 = .ok (.getfield 41, 3) := by decide +kernel
theorem dX7_again_4 : decode cX7_again 4 = .ok (.getfield 109, 3) := by decide +kernel
theorem dX7_again_7 : decode cX7_again 7 = .ok (.ifCond .eq 18, 3) := by decide +kernel
theorem dX7_again_10 : decode cX7_again 10 = .ok (.iload_n 1, 1) := by decide +kernel
theorem dX7_again_11 : decode cX7_again 11 = .ok (.ifCond .lt 14, 3) := by decide +kernel
theorem dX7_again_14 : decode cX7_again 14 = .ok (.iload_n 1, 1) := by decide +kernel
theorem dX7_again_15 : decode cX7_again 15 = .ok (.aload_n 0, 1) := by decide +kernel
theorem dX7_again_16 : decode cX7_again 16 = .ok (.getfield 34, 3) := by decide +kernel
theorem dX7_again_19 : decode cX7_again 19 = .ok (.getfield 154, 3) := by decide +kernel
theorem dX7_again_22 : decode cX7_again 22 = .ok (.if_icmp .le 13, 3) := by decide +kernel
theorem dX7_again_25 : decode cX7_again 25 = .ok (.new 170, 3) := by decide +kernel
theorem dX7_again_28 : decode cX7_again 28 = .ok (.dup, 1) := by decide +kernel
theorem dX7_again_29 : decode cX7_again 29 = .ok (.ldc 172, 2) := by decide +kernel
theorem dX7_again_31 : decode cX7_again 31 = .ok (.invokespecial 174, 3) := by decide +kernel
theorem dX7_again_34 : decode cX7_again 34 = .ok (.athrow, 1) := by decide +kernel
theorem dX7_again_35 : decode cX7_again 35 = .ok (.iload_n 2, 1) := by decide +kernel
theorem dX7_again_36 : decode cX7_again 36 = .ok (.invokestatic 157, 3) := by decide +kernel
theorem dX7_again_39 : decode cX7_again 39 = .ok (.iload_n 3, 1) := by decide +kernel
theorem dX7_again_40 : decode cX7_again 40 = .ok (.iconst 0, 1) := by decide +kernel
theorem dX7_again_41 : decode cX7_again 41 = .ok (.bipush 6, 2) := by decide +kernel
theorem dX7_again_43 : decode cX7_again 43 = .ok (.invokestatic 56, 3) := by decide +kernel
theorem dX7_again_46 : decode cX7_again 46 = .ok (.aload_n 0, 1) := by decide +kernel
theorem dX7_again_47 : decode cX7_again 47 = .ok (.getfield 34, 3) := by decide +kernel
theorem dX7_again_50 : decode cX7_again 50 = .ok (.aload_n 0, 1) := by decide +kernel
theorem dX7_again_51 : decode cX7_again 51 = .ok (.getfield 28, 3) := by decide +kernel
theorem dX7_again_54 : decode cX7_again 54 = .ok (.iload_n 1, 1) := by decide +kernel
theorem dX7_again_55 : decode cX7_again 55 = .ok (.invokevirtual 175, 3) := by decide +kernel
theorem dX7_again_58 : decode cX7_again 58 = .ok (.aload_n 0, 1) := by decide +kernel
theorem dX7_again_59 : decode cX7_again 59 = .ok (.getfield 28, 3) := by decide +kernel
theorem dX7_again_62 : decode cX7_again 62 = .ok (.iload_n 2, 1) := by decide +kernel
theorem dX7_again_63 : decode cX7_again 63 = .ok (.invokevirtual 163, 3) := by decide +kernel
theorem dX7_again_66 : decode cX7_again 66 = .ok (.iload_n 3, 1) := by decide +kernel
theorem dX7_again_67 : decode cX7_again 67 = .ok (.invokevirtual 167, 3) := by decide +kernel
theorem dX7_again_70 : decode cX7_again 70 = .ok (.ireturn, 1) := by decide +kernel
theorem dX7_goesOn_0 : decode cX7_goesOn 0 = .ok (.aload_n 0, 1) := by decide +kernel
theorem dX7_goesOn_1 : decode cX7_goesOn 1 = .ok (.getfield 52, 3) := by decide +kernel
theorem dX7_goesOn_4 : decode cX7_goesOn 4 = .ok (.ireturn, 1) := by decide +kernel
set_option maxRecDepth 20000 in
theorem ggX7_winner_X0_wonBy : GoodIn wsX7_winner wsX0_wonBy := goodIn_r _ [6, 7, 8, 17, 18, 19] (by decide +kernel) (by decide +kernel)
set_option maxRecDepth 20000 in
theorem gX7_winner_X0_wonBy : GoodIn wsX7_winner (wsV RX7 112 RX0 yX0_wonBy wsX0_wonBy) := goodIn_app (goodIn_of _ (by decide +kernel)) ggX7_winner_X0_wonBy
theorem dX7_winner_0 : decode cX7_winner 0 = .ok (.aload_n 0, 1) := by decide +kernel
theorem dX7_winner_1 : decode cX7_winner 1 = .ok (.getfield 41, 3) := by decide +kernel
theorem dX7_winner_4 : decode cX7_winner 4 = .ok (.invokevirtual 112, 3) := by decide +kernel
theorem dX7_winner_7 : decode cX7_winner 7 = .ok (.ireturn, 1) := by decide +kernel
set_option maxRecDepth 20000 in
theorem ggX7_advantage_X7_needMove : GoodIn wsX7_advantage wsX7_needMove := goodIn_ca (goodIn_r _ [6, 7, 8, 9, 10, 11, 12, 13, 14, 15, 201, 202, 203, 204, 205, 206, 207, 208, 209, 210, 211] (by decide +kernel) (by decide +kernel)) (goodIn_sub (fun _ h => List.mem_cons_of_mem _ (List.mem_append_right _ h)) (by decide +kernel))
set_option maxRecDepth 20000 in
theorem gX7_advantage_X7_needMove : GoodIn wsX7_advantage (wsV RX7 84 RX7 yX7_needMove wsX7_needMove) := goodIn_app (goodIn_of _ (by decide +kernel)) ggX7_advantage_X7_needMove
set_option maxRecDepth 20000 in
theorem ggX7_advantage_X3_framesAhead : GoodIn wsX7_advantage wsX3_framesAhead := goodIn_r _ [20, 21, 22, 23, 24, 25, 26, 27, 28, 29, 30, 31, 32, 33, 34, 35, 36, 37, 38, 39, 40, 41, 42, 43, 44, 45, 46, 47, 48, 49, 50, 51, 52, 53, 54, 55, 56, 57, 58, 59, 60, 5, 61, 62, 63, 64, 19, 65, 66, 67, 68, 69, 70, 71, 13, 72, 73, 74, 75, 76, 77, 78, 79, 80, 81, 82, 83, 84, 85, 86, 87, 88, 89, 90, 91, 92, 93, 94, 95, 96, 97, 98, 99, 100, 101, 102, 103, 104, 105, 106, 107, 108, 109, 110, 111, 112, 113, 114, 115, 116, 117, 118, 119, 120, 121, 122, 123, 124, 125, 126, 127, 128, 129, 130, 131, 132, 133, 134, 135, 136, 137, 138, 139, 140, 141, 142, 143, 144, 145, 146, 147, 148, 149, 150, 151, 152, 153, 154, 155, 156, 157, 158, 159, 160, 161, 162, 163, 164, 165, 166, 167, 168, 169, 170, 171, 172, 173, 174, 175, 176, 177, 178, 179, 180, 181, 182, 183, 184, 185, 186, 187, 188, 189, 190, 191, 192, 193, 194, 195, 196, 197, 198, 199, 200, 212, 213, 214, 215, 216, 217, 218, 219, 220, 221, 222, 223, 224, 225, 226, 227, 228, 229, 230, 231, 232, 233, 234, 235, 236, 237, 238, 239, 240, 241, 242, 243, 244, 245, 209, 210, 211] (by decide +kernel) (by decide +kernel)
set_option maxRecDepth 20000 in
theorem gX7_advantage_X3_framesAhead : GoodIn wsX7_advantage (wsV RX7 179 RX3 yX3_framesAhead wsX3_framesAhead) := goodIn_app (goodIn_of _ (by decide +kernel)) ggX7_advantage_X3_framesAhead
theorem dX7_advantage_0 : decode cX7_advantage 0 = .ok (.aload_n 0, 1) := by decide +kernel
theorem dX7_advantage_1 : decode cX7_advantage 1 = .ok (.iload_n 1, 1) := by decide +kernel
theorem dX7_advantage_2 : decode cX7_advantage 2 = .ok (.invokevirtual 84, 3) := by decide +kernel
theorem dX7_advantage_5 : decode cX7_advantage 5 = .ok (.aload_n 0, 1) := by decide +kernel
theorem dX7_advantage_6 : decode cX7_advantage 6 = .ok (.getfield 48, 3) := by decide +kernel
theorem dX7_advantage_9 : decode cX7_advantage 9 = .ok (.iload_n 1, 1) := by decide +kernel
theorem dX7_advantage_10 : decode cX7_advantage 10 = .ok (.iload_n 2, 1) := by decide +kernel
theorem dX7_advantage_11 : decode cX7_advantage 11 = .ok (.invokevirtual 179, 3) := by decide +kernel
theorem dX7_advantage_14 : decode cX7_advantage 14 = .ok (.ireturn, 1) := by decide +kernel
set_option maxRecDepth 20000 in
theorem ggX7_punish_X7_needMove : GoodIn wsX7_punish wsX7_needMove := goodIn_ca (goodIn_r _ [10, 11, 12, 13, 14, 15, 16, 17, 18, 19, 203, 204, 205, 206, 207, 208, 209, 210, 211, 212, 213] (by decide +kernel) (by decide +kernel)) (goodIn_sub (fun _ h => List.mem_cons_of_mem _ (List.mem_append_right _ h)) (by decide +kernel))
set_option maxRecDepth 20000 in
theorem gX7_punish_X7_needMove : GoodIn wsX7_punish (wsV RX7 84 RX7 yX7_needMove wsX7_needMove) := goodIn_app (goodIn_of _ (by decide +kernel)) ggX7_punish_X7_needMove
set_option maxRecDepth 20000 in
theorem ggX7_punish_X3_lossOfPunished : GoodIn wsX7_punish wsX3_lossOfPunished := goodIn_r _ [24, 25, 26, 27, 28, 29, 30, 31, 32, 33, 34, 35, 36, 37, 38, 39, 40, 41, 42, 43, 44, 45, 46, 47, 48, 49, 50, 51, 52, 53, 54, 55, 56, 57, 58, 59, 60, 61, 62, 63, 64, 65, 66, 67, 23, 68, 69, 70, 71, 72, 73, 74, 17, 75, 76, 77, 78, 9, 79, 80, 81, 82, 83, 84, 85, 86, 87, 88, 89, 90, 91, 92, 93, 94, 95, 96, 97, 98, 99, 100, 101, 102, 103, 104, 105, 106, 107, 108, 109, 110, 111, 112, 113, 114, 115, 116, 117, 4, 118, 119, 3, 5, 120, 121, 122, 123, 124, 125, 126, 127, 128, 129, 130, 131, 132, 133, 134, 135, 136, 137, 138, 139, 140, 141, 142, 143, 144, 145, 146, 147, 148, 149, 150, 151, 152, 153, 154, 155, 156, 157, 158, 159, 160, 161, 162, 163, 164, 165, 166, 167, 168, 169, 170, 171, 172, 173, 174, 175, 176, 177, 178, 179, 180, 181, 182, 183, 184, 185, 186, 187, 188, 189, 190, 191, 192, 193, 194, 195, 196, 197, 198, 199, 200, 201, 202, 214, 215, 216, 217, 218, 219, 220, 221, 222, 223, 224, 225, 226, 227, 228, 229, 230, 231, 232, 233, 234, 235, 236, 237, 238, 239, 240, 241, 242, 243, 244, 245, 246, 247, 211, 212, 213] (by decide +kernel) (by decide +kernel)
set_option maxRecDepth 20000 in
theorem gX7_punish_X3_lossOfPunished : GoodIn wsX7_punish (wsV RX7 183 RX3 yX3_lossOfPunished wsX3_lossOfPunished) := goodIn_app (goodIn_of _ (by decide +kernel)) ggX7_punish_X3_lossOfPunished
theorem dX7_punish_0 : decode cX7_punish 0 = .ok (.aload_n 0, 1) := by decide +kernel
theorem dX7_punish_1 : decode cX7_punish 1 = .ok (.iload_n 1, 1) := by decide +kernel
theorem dX7_punish_2 : decode cX7_punish 2 = .ok (.invokevirtual 84, 3) := by decide +kernel
theorem dX7_punish_5 : decode cX7_punish 5 = .ok (.aload_n 0, 1) := by decide +kernel
theorem dX7_punish_6 : decode cX7_punish 6 = .ok (.iload_n 2, 1) := by decide +kernel
theorem dX7_punish_7 : decode cX7_punish 7 = .ok (.invokevirtual 84, 3) := by decide +kernel
theorem dX7_punish_10 : decode cX7_punish 10 = .ok (.aload_n 0, 1) := by decide +kernel
theorem dX7_punish_11 : decode cX7_punish 11 = .ok (.getfield 48, 3) := by decide +kernel
theorem dX7_punish_14 : decode cX7_punish 14 = .ok (.iload_n 1, 1) := by decide +kernel
theorem dX7_punish_15 : decode cX7_punish 15 = .ok (.iload_n 2, 1) := by decide +kernel
theorem dX7_punish_16 : decode cX7_punish 16 = .ok (.iconst 2, 1) := by decide +kernel
theorem dX7_punish_17 : decode cX7_punish 17 = .ok (.invokevirtual 183, 3) := by decide +kernel
theorem dX7_punish_20 : decode cX7_punish 20 = .ok (.aload_n 0, 1) := by decide +kernel
theorem dX7_punish_21 : decode cX7_punish 21 = .ok (.getfield 48, 3) := by decide +kernel
theorem dX7_punish_24 : decode cX7_punish 24 = .ok (.iload_n 1, 1) := by decide +kernel
theorem dX7_punish_25 : decode cX7_punish 25 = .ok (.iload_n 2, 1) := by decide +kernel
theorem dX7_punish_26 : decode cX7_punish 26 = .ok (.iconst 4, 1) := by decide +kernel
theorem dX7_punish_27 : decode cX7_punish 27 = .ok (.invokevirtual 183, 3) := by decide +kernel
theorem dX7_punish_30 : decode cX7_punish 30 = .ok (.invokestatic 187, 3) := by decide +kernel
theorem dX7_punish_33 : decode cX7_punish 33 = .ok (.ireturn, 1) := by decide +kernel
set_option maxRecDepth 20000 in
theorem ggX7_most_X7_needMove : GoodIn wsX7_most wsX7_needMove := goodIn_ca (goodIn_r _ [7, 8, 9, 10, 11, 12, 13, 14, 15, 16, 229, 230, 231, 232, 233, 234, 235, 236, 244, 245, 246] (by decide +kernel) (by decide +kernel)) (goodIn_sub (fun _ h => List.mem_cons_of_mem _ (List.mem_append_left _ (List.mem_append_right _ h))) (by decide +kernel))
set_option maxRecDepth 20000 in
theorem gX7_most_X7_needMove : GoodIn wsX7_most (wsV RX7 84 RX7 yX7_needMove wsX7_needMove) := goodIn_app (goodIn_of _ (by decide +kernel)) ggX7_most_X7_needMove
set_option maxRecDepth 20000 in
theorem ggX7_most_X7_needWithin : GoodIn wsX7_most wsX7_needWithin := goodIn_ca (goodIn_r _ [19, 20, 21] (by decide +kernel) (by decide +kernel)) (goodIn_sub (fun _ h => List.mem_cons_of_mem _ (List.mem_append_right _ h)) (by decide +kernel))
set_option maxRecDepth 20000 in
theorem gX7_most_X7_needWithin : GoodIn wsX7_most (va_wsS RX7 56 yX7_needWithin wsX7_needWithin) := goodIn_app (goodIn_of _ (by decide +kernel)) ggX7_most_X7_needWithin
set_option maxRecDepth 20000 in
theorem ggX7_most_X3_clearRows : GoodIn wsX7_most wsX3_clearRows := goodIn_r _ [26, 27, 28, 29, 30, 31, 32, 33, 34, 35, 36, 37, 38, 39, 40, 41, 42, 43, 44, 45, 46, 47, 48, 49, 50, 51, 52, 53, 54, 55, 56, 57, 58, 59, 60, 61, 62, 63, 64, 237, 238, 239, 240, 241, 242, 243, 247, 248, 249, 250, 251, 252, 253, 254, 255, 256, 257, 258, 259, 260, 261, 262, 263, 264, 265] (by decide +kernel) (by decide +kernel)
set_option maxRecDepth 20000 in
theorem gX7_most_X3_clearRows : GoodIn wsX7_most (wsV RX7 193 RX3 yX3_clearRows wsX3_clearRows) := goodIn_app (goodIn_of _ (by decide +kernel)) ggX7_most_X3_clearRows
set_option maxRecDepth 20000 in
theorem ggX7_most_X3_addHit : GoodIn wsX7_most wsX3_addHit := goodIn_r _ [66, 29, 67, 68, 69, 70, 71, 72, 73, 74, 33, 75, 35, 36, 76, 77, 78, 40, 79, 42, 44, 43, 50, 45, 56, 57, 58, 51, 63, 64, 80, 81, 25, 82, 83, 84, 85, 86, 6, 87, 88, 89, 90, 91, 92, 93, 94, 95, 96, 97, 98, 99, 100, 101, 102, 103, 104, 105, 14, 106, 107, 108, 109, 110, 111, 112, 113, 114, 115, 116, 117, 118, 119, 120, 121, 122, 123, 59, 60, 61, 62, 124, 125, 126, 127, 128, 129, 130, 131, 132, 133, 134, 135, 136, 137, 138, 139, 140, 141, 142, 143, 144, 145, 146, 147, 148, 149, 150, 151, 152, 153, 154, 155, 156, 157, 158, 159, 160, 161, 162, 163, 164, 165, 166, 167, 168, 169, 170, 171, 172, 173, 174, 175, 176, 177, 178, 179, 180, 181, 182, 183, 184, 185, 186, 187, 188, 189, 190, 191, 192, 193, 194, 195, 196, 197, 198, 199, 200, 201, 202, 203, 204, 205, 52, 53, 54, 55, 206, 207, 208, 209, 210, 211, 212, 213, 214, 215, 216, 217, 218, 46, 47, 48, 49, 219, 220, 221, 222, 27, 28, 223, 224, 225, 226, 227, 228, 65, 237, 238, 239, 240, 241, 242, 243, 247, 248, 249, 250, 251, 252, 253, 254, 255, 256, 257, 258, 259, 260, 261, 262, 263, 264, 265, 244, 245, 246, 266, 267, 268, 269, 270, 271, 272, 273] (by decide +kernel) (by decide +kernel)
set_option maxRecDepth 20000 in
theorem gX7_most_X3_addHit_n196 : GoodIn wsX7_most (wsX3_addHit) := ggX7_most_X3_addHit
theorem dX7_most_0 : decode cX7_most 0 = .ok (.aload_n 0, 1) := by decide +kernel
theorem dX7_most_1 : decode cX7_most 1 = .ok (.iload_n 1, 1) := by decide +kernel
theorem dX7_most_2 : decode cX7_most 2 = .ok (.invokevirtual 84, 3) := by decide +kernel
theorem dX7_most_5 : decode cX7_most 5 = .ok (.iload_n 2, 1) := by decide +kernel
theorem dX7_most_6 : decode cX7_most 6 = .ok (.iconst 1, 1) := by decide +kernel
theorem dX7_most_7 : decode cX7_most 7 = .ok (.iconst 4, 1) := by decide +kernel
theorem dX7_most_8 : decode cX7_most 8 = .ok (.invokestatic 56, 3) := by decide +kernel
theorem dX7_most_11 : decode cX7_most 11 = .ok (.iload_n 3, 1) := by decide +kernel
theorem dX7_most_12 : decode cX7_most 12 = .ok (.iconst 0, 1) := by decide +kernel
theorem dX7_most_13 : decode cX7_most 13 = .ok (.bipush 100, 2) := by decide +kernel
theorem dX7_most_15 : decode cX7_most 15 = .ok (.invokestatic 56, 3) := by decide +kernel
theorem dX7_most_18 : decode cX7_most 18 = .ok (.aload_n 0, 1) := by decide +kernel
theorem dX7_most_19 : decode cX7_most 19 = .ok (.getfield 48, 3) := by decide +kernel
theorem dX7_most_22 : decode cX7_most 22 = .ok (.iload_n 3, 1) := by decide +kernel
theorem dX7_most_23 : decode cX7_most 23 = .ok (.invokevirtual 193, 3) := by decide +kernel
theorem dX7_most_26 : decode cX7_most 26 = .ok (.aload_n 0, 1) := by decide +kernel
theorem dX7_most_27 : decode cX7_most 27 = .ok (.getfield 48, 3) := by decide +kernel
theorem dX7_most_30 : decode cX7_most 30 = .ok (.iload_n 1, 1) := by decide +kernel
theorem dX7_most_31 : decode cX7_most 31 = .ok (.iconst 0, 1) := by decide +kernel
theorem dX7_most_32 : decode cX7_most 32 = .ok (.iload_n 2, 1) := by decide +kernel
theorem dX7_most_33 : decode cX7_most 33 = .ok (.invokestatic 196, 3) := by decide +kernel
theorem dX7_most_36 : decode cX7_most 36 = .ok (.aload_n 0, 1) := by decide +kernel
theorem dX7_most_37 : decode cX7_most 37 = .ok (.getfield 48, 3) := by decide +kernel
theorem dX7_most_40 : decode cX7_most 40 = .ok (.getfield 200, 3) := by decide +kernel
theorem dX7_most_43 : decode cX7_most 43 = .ok (.ireturn, 1) := by decide +kernel
set_option maxRecDepth 20000 in
theorem ggX7_mostAt_X7_needMove : GoodIn wsX7_mostAt wsX7_needMove := goodIn_ca (goodIn_r _ [8, 1, 2, 9, 10, 11, 12, 13, 14, 15, 232, 233, 234, 235, 236, 237, 238, 239, 240, 241, 242] (by decide +kernel) (by decide +kernel)) (goodIn_sub (fun _ h => List.mem_cons_of_mem _ (List.mem_append_left _ (List.mem_append_right _ h))) (by decide +kernel))
set_option maxRecDepth 20000 in
theorem gX7_mostAt_X7_needMove : GoodIn wsX7_mostAt (wsV RX7 84 RX7 yX7_needMove wsX7_needMove) := goodIn_app (goodIn_of _ (by decide +kernel)) ggX7_mostAt_X7_needMove
set_option maxRecDepth 20000 in
theorem ggX7_mostAt_X7_needWithin : GoodIn wsX7_mostAt wsX7_needWithin := goodIn_ca (goodIn_r _ [18, 19, 20] (by decide +kernel) (by decide +kernel)) (goodIn_sub (fun _ h => List.mem_cons_of_mem _ (List.mem_append_right _ h)) (by decide +kernel))
set_option maxRecDepth 20000 in
theorem gX7_mostAt_X7_needWithin : GoodIn wsX7_mostAt (va_wsS RX7 56 yX7_needWithin wsX7_needWithin) := goodIn_app (goodIn_of _ (by decide +kernel)) ggX7_mostAt_X7_needWithin
set_option maxRecDepth 20000 in
theorem ggX7_mostAt_X3_clearRows : GoodIn wsX7_mostAt wsX3_clearRows := goodIn_r _ [25, 26, 27, 28, 29, 30, 31, 32, 33, 34, 35, 36, 37, 38, 39, 40, 41, 42, 43, 44, 45, 46, 47, 48, 49, 50, 51, 52, 53, 54, 55, 56, 57, 58, 59, 60, 61, 62, 63, 243, 244, 245, 246, 247, 248, 249, 250, 251, 252, 253, 254, 255, 256, 257, 258, 259, 260, 261, 262, 263, 264, 265, 266, 267, 268] (by decide +kernel) (by decide +kernel)
set_option maxRecDepth 20000 in
theorem gX7_mostAt_X3_clearRows : GoodIn wsX7_mostAt (wsV RX7 193 RX3 yX3_clearRows wsX3_clearRows) := goodIn_app (goodIn_of _ (by decide +kernel)) ggX7_mostAt_X3_clearRows
set_option maxRecDepth 20000 in
theorem ggX7_mostAt_X3_addHit : GoodIn wsX7_mostAt wsX3_addHit := goodIn_r _ [65, 28, 66, 67, 68, 69, 70, 71, 72, 73, 32, 74, 34, 35, 75, 76, 77, 39, 78, 41, 43, 42, 49, 44, 55, 56, 57, 50, 62, 63, 79, 80, 24, 81, 82, 83, 84, 85, 7, 86, 87, 88, 89, 90, 91, 92, 93, 94, 95, 96, 97, 98, 99, 100, 101, 102, 103, 104, 13, 105, 106, 107, 108, 109, 110, 111, 112, 113, 114, 115, 116, 117, 118, 119, 120, 121, 122, 58, 59, 60, 61, 123, 124, 125, 126, 127, 128, 129, 130, 131, 132, 133, 134, 135, 136, 137, 138, 139, 140, 141, 142, 143, 144, 145, 146, 147, 148, 149, 150, 151, 152, 153, 154, 155, 156, 157, 158, 159, 160, 161, 162, 163, 164, 165, 166, 167, 168, 169, 170, 171, 172, 173, 174, 175, 176, 177, 178, 179, 180, 181, 182, 183, 184, 185, 186, 187, 188, 189, 190, 191, 192, 193, 194, 195, 196, 197, 198, 199, 200, 201, 202, 203, 204, 51, 52, 53, 54, 205, 206, 207, 208, 209, 210, 211, 212, 213, 214, 215, 216, 217, 45, 46, 47, 48, 218, 219, 220, 221, 26, 27, 222, 223, 224, 225, 226, 227, 64, 243, 244, 245, 246, 247, 248, 249, 250, 251, 252, 253, 254, 255, 256, 257, 258, 259, 260, 261, 262, 263, 264, 265, 266, 267, 268, 240, 241, 242, 269, 270, 271, 272, 273, 274, 275, 276] (by decide +kernel) (by decide +kernel)
set_option maxRecDepth 20000 in
theorem gX7_mostAt_X3_addHit_n196 : GoodIn wsX7_mostAt (wsX3_addHit) := ggX7_mostAt_X3_addHit
set_option maxRecDepth 20000 in
theorem ggX7_mostAt_X3_bestAt : GoodIn wsX7_mostAt wsX3_bestAt := goodIn_r _ [231, 27, 222, 243, 244, 245, 246, 247, 248, 249] (by decide +kernel) (by decide +kernel)
set_option maxRecDepth 20000 in
theorem gX7_mostAt_X3_bestAt : GoodIn wsX7_mostAt (wsV RX7 205 RX3 yX3_bestAt wsX3_bestAt) := goodIn_app (goodIn_of _ (by decide +kernel)) ggX7_mostAt_X3_bestAt
theorem dX7_mostAt_0 : decode cX7_mostAt 0 = .ok (.aload_n 0, 1) := by decide +kernel
theorem dX7_mostAt_1 : decode cX7_mostAt 1 = .ok (.iload_n 1, 1) := by decide +kernel
theorem dX7_mostAt_2 : decode cX7_mostAt 2 = .ok (.invokevirtual 84, 3) := by decide +kernel
theorem dX7_mostAt_5 : decode cX7_mostAt 5 = .ok (.iload 4, 2) := by decide +kernel
theorem dX7_mostAt_7 : decode cX7_mostAt 7 = .ok (.ifCond .ge 13, 3) := by decide +kernel
theorem dX7_mostAt_10 : decode cX7_mostAt 10 = .ok (.new 170, 3) := by decide +kernel
theorem dX7_mostAt_13 : decode cX7_mostAt 13 = .ok (.dup, 1) := by decide +kernel
theorem dX7_mostAt_14 : decode cX7_mostAt 14 = .ok (.ldc 203, 2) := by decide +kernel
theorem dX7_mostAt_16 : decode cX7_mostAt 16 = .ok (.invokespecial 174, 3) := by decide +kernel
theorem dX7_mostAt_19 : decode cX7_mostAt 19 = .ok (.athrow, 1) := by decide +kernel
theorem dX7_mostAt_20 : decode cX7_mostAt 20 = .ok (.iload_n 2, 1) := by decide +kernel
theorem dX7_mostAt_21 : decode cX7_mostAt 21 = .ok (.iconst 1, 1) := by decide +kernel
theorem dX7_mostAt_22 : decode cX7_mostAt 22 = .ok (.iconst 4, 1) := by decide +kernel
theorem dX7_mostAt_23 : decode cX7_mostAt 23 = .ok (.invokestatic 56, 3) := by decide +kernel
theorem dX7_mostAt_26 : decode cX7_mostAt 26 = .ok (.iload_n 3, 1) := by decide +kernel
theorem dX7_mostAt_27 : decode cX7_mostAt 27 = .ok (.iconst 0, 1) := by decide +kernel
theorem dX7_mostAt_28 : decode cX7_mostAt 28 = .ok (.bipush 100, 2) := by decide +kernel
theorem dX7_mostAt_30 : decode cX7_mostAt 30 = .ok (.invokestatic 56, 3) := by decide +kernel
theorem dX7_mostAt_33 : decode cX7_mostAt 33 = .ok (.aload_n 0, 1) := by decide +kernel
theorem dX7_mostAt_34 : decode cX7_mostAt 34 = .ok (.getfield 48, 3) := by decide +kernel
theorem dX7_mostAt_37 : decode cX7_mostAt 37 = .ok (.iload_n 3, 1) := by decide +kernel
theorem dX7_mostAt_38 : decode cX7_mostAt 38 = .ok (.invokevirtual 193, 3) := by decide +kernel
theorem dX7_mostAt_41 : decode cX7_mostAt 41 = .ok (.aload_n 0, 1) := by decide +kernel
theorem dX7_mostAt_42 : decode cX7_mostAt 42 = .ok (.getfield 48, 3) := by decide +kernel
theorem dX7_mostAt_45 : decode cX7_mostAt 45 = .ok (.iload_n 1, 1) := by decide +kernel
theorem dX7_mostAt_46 : decode cX7_mostAt 46 = .ok (.iconst 0, 1) := by decide +kernel
theorem dX7_mostAt_47 : decode cX7_mostAt 47 = .ok (.iload_n 2, 1) := by decide +kernel
theorem dX7_mostAt_48 : decode cX7_mostAt 48 = .ok (.invokestatic 196, 3) := by decide +kernel
theorem dX7_mostAt_51 : decode cX7_mostAt 51 = .ok (.aload_n 0, 1) := by decide +kernel
theorem dX7_mostAt_52 : decode cX7_mostAt 52 = .ok (.getfield 48, 3) := by decide +kernel
