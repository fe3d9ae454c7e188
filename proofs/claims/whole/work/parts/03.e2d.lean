theorem dX8_play_101 : decode cX8_play 101 = .ok (.getfield 13, 3) := by decide +kernel
theorem dX8_play_104 : decode cX8_play 104 = .ok (.bipush 12, 2) := by decide +kernel
theorem dX8_play_106 : decode cX8_play 106 = .ok (.iaload, 1) := by decide +kernel
theorem dX8_play_107 : decode cX8_play 107 = .ok (.ifCond .le 13, 3) := by decide +kernel
theorem dX8_play_110 : decode cX8_play 110 = .ok (.aload_n 0, 1) := by decide +kernel
theorem dX8_play_111 : decode cX8_play 111 = .ok (.getfield 28, 3) := by decide +kernel
theorem dX8_play_114 : decode cX8_play 114 = .ok (.sipush 600, 3) := by decide +kernel
theorem dX8_play_117 : decode cX8_play 117 = .ok (.if_icmp .ne 7, 3) := by decide +kernel
theorem dX8_play_120 : decode cX8_play 120 = .ok (.aload_n 0, 1) := by decide +kernel
theorem dX8_play_121 : decode cX8_play 121 = .ok (.invokevirtual 115, 3) := by decide +kernel
theorem dX8_play_124 : decode cX8_play 124 = .ok (.iinc 4 1, 3) := by decide +kernel
theorem dX8_play_127 : decode cX8_play 127 = .ok (.goto (-69), 3) := by decide +kernel
theorem dX8_play_130 : decode cX8_play 130 = .ok (.aload_n 0, 1) := by decide +kernel
theorem dX8_play_131 : decode cX8_play 131 = .ok (.getfield 28, 3) := by decide +kernel
theorem dX8_play_134 : decode cX8_play 134 = .ok (.ireturn, 1) := by decide +kernel
