theorem dX8_lossBy_153 : decode cX8_lossBy 153 = .ok (.sipush 1000, 3) := by decide +kernel
theorem dX8_lossBy_156 : decode cX8_lossBy 156 = .ok (.aload_n 0, 1) := by decide +kernel
theorem dX8_lossBy_157 : decode cX8_lossBy 157 = .ok (.getfield 13, 3) := by decide +kernel
theorem dX8_lossBy_160 : decode cX8_lossBy 160 = .ok (.iconst 1, 1) := by decide +kernel
theorem dX8_lossBy_161 : decode cX8_lossBy 161 = .ok (.iaload, 1) := by decide +kernel
theorem dX8_lossBy_162 : decode cX8_lossBy 162 = .ok (.isub, 1) := by decide +kernel
theorem dX8_lossBy_163 : decode cX8_lossBy 163 = .ok (.ireturn, 1) := by decide +kernel
set_option maxRecDepth 20000 in
theorem ggX8_punish_X8_isMove : GoodIn wsX8_punish wsX8_isMove := goodIn_r _ [5, 6, 7, 8, 4, 9, 70, 71, 72, 73, 74, 75, 76, 77, 78, 79, 80, 81, 82, 83, 84, 85, 86] rfl (by decide +kernel)
set_option maxRecDepth 20000 in
theorem gX8_punish_X8_isMove : GoodIn wsX8_punish (wsV RX8 59 RX8 yX8_isMove wsX8_isMove) := goodIn_app (goodIn_of _ (by decide +kernel)) ggX8_punish_X8_isMove
set_option maxRecDepth 20000 in
theorem ggX8_punish_X8_isFine : GoodIn wsX8_punish wsX8_isFine := goodIn_r _ [13, 14, 70, 71, 72, 73, 74, 75, 76, 77, 78, 79, 80, 81, 82, 83, 84, 85, 86] rfl (by decide +kernel)
set_option maxRecDepth 20000 in
theorem gX8_punish_X8_isFine : GoodIn wsX8_punish (wsV RX8 55 RX8 yX8_isFine wsX8_isFine) := goodIn_app (goodIn_of _ (by decide +kernel)) ggX8_punish_X8_isFine
