theorem dX8_comeOn_37 : decode cX8_comeOn 37 = .ok (.iload_n 1, 1) := by decide +kernel
theorem dX8_comeOn_38 : decode cX8_comeOn 38 = .ok (.bipush 9, 2) := by decide +kernel
theorem dX8_comeOn_40 : decode cX8_comeOn 40 = .ok (.iadd, 1) := by decide +kernel
theorem dX8_comeOn_41 : decode cX8_comeOn 41 = .ok (.dup2, 1) := by decide +kernel
theorem dX8_comeOn_42 : decode cX8_comeOn 42 = .ok (.iaload, 1) := by decide +kernel
theorem dX8_comeOn_43 : decode cX8_comeOn 43 = .ok (.aload_n 0, 1) := by decide +kernel
theorem dX8_comeOn_44 : decode cX8_comeOn 44 = .ok (.getfield 13, 3) := by decide +kernel
theorem dX8_comeOn_47 : decode cX8_comeOn 47 = .ok (.iload_n 1, 1) := by decide +kernel
theorem dX8_comeOn_48 : decode cX8_comeOn 48 = .ok (.bipush 9, 2) := by decide +kernel
theorem dX8_comeOn_50 : decode cX8_comeOn 50 = .ok (.iadd, 1) := by decide +kernel
theorem dX8_comeOn_51 : decode cX8_comeOn 51 = .ok (.iaload, 1) := by decide +kernel
theorem dX8_comeOn_52 : decode cX8_comeOn 52 = .ok (.iconst (-1), 1) := by decide +kernel
theorem dX8_comeOn_53 : decode cX8_comeOn 53 = .ok (.if_icmp .ne 7, 3) := by decide +kernel
theorem dX8_comeOn_56 : decode cX8_comeOn 56 = .ok (.iconst 0, 1) := by decide +kernel
theorem dX8_comeOn_57 : decode cX8_comeOn 57 = .ok (.goto 4, 3) := by decide +kernel
theorem dX8_comeOn_60 : decode cX8_comeOn 60 = .ok (.iconst 1, 1) := by decide +kernel
theorem dX8_comeOn_61 : decode cX8_comeOn 61 = .ok (.iadd, 1) := by decide +kernel
theorem dX8_comeOn_62 : decode cX8_comeOn 62 = .ok (.iastore, 1) := by decide +kernel
theorem dX8_comeOn_63 : decode cX8_comeOn 63 = .ok (.aload_n 0, 1) := by decide +kernel
theorem dX8_comeOn_64 : decode cX8_comeOn 64 = .ok (.getfield 13, 3) := by decide +kernel
theorem dX8_comeOn_67 : decode cX8_comeOn 67 = .ok (.iload_n 1, 1) := by decide +kernel
theorem dX8_comeOn_68 : decode cX8_comeOn 68 = .ok (.iconst 5, 1) := by decide +kernel
theorem dX8_comeOn_69 : decode cX8_comeOn 69 = .ok (.iadd, 1) := by decide +kernel
theorem dX8_comeOn_70 : decode cX8_comeOn 70 = .ok (.iaload, 1) := by decide +kernel
theorem dX8_comeOn_71 : decode cX8_comeOn 71 = .ok (.aload_n 0, 1) := by decide +kernel
theorem dX8_comeOn_72 : decode cX8_comeOn 72 = .ok (.iload_n 2, 1) := by decide +kernel
theorem dX8_comeOn_73 : decode cX8_comeOn 73 = .ok (.iconst 0, 1) := by decide +kernel
theorem dX8_comeOn_74 : decode cX8_comeOn 74 = .ok (.invokevirtual 62, 3) := by decide +kernel
theorem dX8_comeOn_77 : decode cX8_comeOn 77 = .ok (.aload_n 0, 1) := by decide +kernel
theorem dX8_comeOn_78 : decode cX8_comeOn 78 = .ok (.iload_n 2, 1) := by decide +kernel
theorem dX8_comeOn_79 : decode cX8_comeOn 79 = .ok (.iconst 1, 1) := by decide +kernel
theorem dX8_comeOn_80 : decode cX8_comeOn 80 = .ok (.invokevirtual 62, 3) := by decide +kernel
theorem dX8_comeOn_83 : decode cX8_comeOn 83 = .ok (.iadd, 1) := by decide +kernel
theorem dX8_comeOn_84 : decode cX8_comeOn 84 = .ok (.aload_n 0, 1) := by decide +kernel
theorem dX8_comeOn_85 : decode cX8_comeOn 85 = .ok (.iload_n 2, 1) := by decide +kernel
theorem dX8_comeOn_86 : decode cX8_comeOn 86 = .ok (.iconst 2, 1) := by decide +kernel
theorem dX8_comeOn_87 : decode cX8_comeOn 87 = .ok (.invokevirtual 62, 3) := by decide +kernel
theorem dX8_comeOn_90 : decode cX8_comeOn 90 = .ok (.iadd, 1) := by decide +kernel
theorem dX8_comeOn_91 : decode cX8_comeOn 91 = .ok (.if_icmp .ne 12, 3) := by decide +kernel
theorem dX8_comeOn_94 : decode cX8_comeOn 94 = .ok (.aload_n 0, 1) := by decide +kernel
theorem dX8_comeOn_95 : decode cX8_comeOn 95 = .ok (.getfield 13, 3) := by decide +kernel
theorem dX8_comeOn_98 : decode cX8_comeOn 98 = .ok (.iload_n 1, 1) := by decide +kernel
theorem dX8_comeOn_99 : decode cX8_comeOn 99 = .ok (.iconst 3, 1) := by decide +kernel
theorem dX8_comeOn_100 : decode cX8_comeOn 100 = .ok (.iadd, 1) := by decide +kernel
theorem dX8_comeOn_101 : decode cX8_comeOn 101 = .ok (.iconst 0, 1) := by decide +kernel
theorem dX8_comeOn_102 : decode cX8_comeOn 102 = .ok (.iastore, 1) := by decide +kernel
theorem dX8_comeOn_103 : decode cX8_comeOn 103 = .ok (.goto 57, 3) := by decide +kernel
theorem dX8_comeOn_106 : decode cX8_comeOn 106 = .ok (.aload_n 0, 1) := by decide +kernel
theorem dX8_comeOn_107 : decode cX8_comeOn 107 = .ok (.getfield 13, 3) := by decide +kernel
theorem dX8_comeOn_110 : decode cX8_comeOn 110 = .ok (.iload_n 1, 1) := by decide +kernel
theorem dX8_comeOn_111 : decode cX8_comeOn 111 = .ok (.iconst 3, 1) := by decide +kernel
theorem dX8_comeOn_112 : decode cX8_comeOn 112 = .ok (.iadd, 1) := by decide +kernel
theorem dX8_comeOn_113 : decode cX8_comeOn 113 = .ok (.iaload, 1) := by decide +kernel
theorem dX8_comeOn_114 : decode cX8_comeOn 114 = .ok (.ifCond .eq 46, 3) := by decide +kernel
theorem dX8_comeOn_117 : decode cX8_comeOn 117 = .ok (.aload_n 0, 1) := by decide +kernel
theorem dX8_comeOn_118 : decode cX8_comeOn 118 = .ok (.getfield 13, 3) := by decide +kernel
theorem dX8_comeOn_121 : decode cX8_comeOn 121 = .ok (.iload_n 1, 1) := by decide +kernel
theorem dX8_comeOn_122 : decode cX8_comeOn 122 = .ok (.iconst 5, 1) := by decide +kernel
theorem dX8_comeOn_123 : decode cX8_comeOn 123 = .ok (.iadd, 1) := by decide +kernel
theorem dX8_comeOn_124 : decode cX8_comeOn 124 = .ok (.dup2, 1) := by decide +kernel
theorem dX8_comeOn_125 : decode cX8_comeOn 125 = .ok (.iaload, 1) := by decide +kernel
theorem dX8_comeOn_126 : decode cX8_comeOn 126 = .ok (.iconst 1, 1) := by decide +kernel
theorem dX8_comeOn_127 : decode cX8_comeOn 127 = .ok (.isub, 1) := by decide +kernel
theorem dX8_comeOn_128 : decode cX8_comeOn 128 = .ok (.iastore, 1) := by decide +kernel
theorem dX8_comeOn_129 : decode cX8_comeOn 129 = .ok (.aload_n 0, 1) := by decide +kernel
theorem dX8_comeOn_130 : decode cX8_comeOn 130 = .ok (.getfield 13, 3) := by decide +kernel
theorem dX8_comeOn_133 : decode cX8_comeOn 133 = .ok (.iload_n 1, 1) := by decide +kernel
theorem dX8_comeOn_134 : decode cX8_comeOn 134 = .ok (.iconst 3, 1) := by decide +kernel
theorem dX8_comeOn_135 : decode cX8_comeOn 135 = .ok (.iadd, 1) := by decide +kernel
theorem dX8_comeOn_136 : decode cX8_comeOn 136 = .ok (.aload_n 0, 1) := by decide +kernel
theorem dX8_comeOn_137 : decode cX8_comeOn 137 = .ok (.getfield 13, 3) := by decide +kernel
theorem dX8_comeOn_140 : decode cX8_comeOn 140 = .ok (.iload_n 1, 1) := by decide +kernel
theorem dX8_comeOn_141 : decode cX8_comeOn 141 = .ok (.iconst 5, 1) := by decide +kernel
theorem dX8_comeOn_142 : decode cX8_comeOn 142 = .ok (.iadd, 1) := by decide +kernel
theorem dX8_comeOn_143 : decode cX8_comeOn 143 = .ok (.iaload, 1) := by decide +kernel
theorem dX8_comeOn_144 : decode cX8_comeOn 144 = .ok (.ifCond .gt 7, 3) := by decide +kernel
theorem dX8_comeOn_147 : decode cX8_comeOn 147 = .ok (.iconst 0, 1) := by decide +kernel
theorem dX8_comeOn_148 : decode cX8_comeOn 148 = .ok (.goto 11, 3) := by decide +kernel
theorem dX8_comeOn_151 : decode cX8_comeOn 151 = .ok (.aload_n 0, 1) := by decide +kernel
theorem dX8_comeOn_152 : decode cX8_comeOn 152 = .ok (.getfield 13, 3) := by decide +kernel
theorem dX8_comeOn_155 : decode cX8_comeOn 155 = .ok (.iload_n 1, 1) := by decide +kernel
theorem dX8_comeOn_156 : decode cX8_comeOn 156 = .ok (.iconst 3, 1) := by decide +kernel
theorem dX8_comeOn_157 : decode cX8_comeOn 157 = .ok (.iadd, 1) := by decide +kernel
theorem dX8_comeOn_158 : decode cX8_comeOn 158 = .ok (.iaload, 1) := by decide +kernel
theorem dX8_comeOn_159 : decode cX8_comeOn 159 = .ok (.iastore, 1) := by decide +kernel
theorem dX8_comeOn_160 : decode cX8_comeOn 160 = .ok (.aload_n 0, 1) := by decide +kernel
theorem dX8_comeOn_161 : decode cX8_comeOn 161 = .ok (.getfield 13, 3) := by decide +kernel
theorem dX8_comeOn_164 : decode cX8_comeOn 164 = .ok (.iload_n 1, 1) := by decide +kernel
theorem dX8_comeOn_165 : decode cX8_comeOn 165 = .ok (.iconst 3, 1) := by decide +kernel
theorem dX8_comeOn_166 : decode cX8_comeOn 166 = .ok (.iadd, 1) := by decide +kernel
theorem dX8_comeOn_167 : decode cX8_comeOn 167 = .ok (.iaload, 1) := by decide +kernel
theorem dX8_comeOn_168 : decode cX8_comeOn 168 = .ok (.ifCond .ne 21, 3) := by decide +kernel
theorem dX8_comeOn_171 : decode cX8_comeOn 171 = .ok (.aload_n 0, 1) := by decide +kernel
theorem dX8_comeOn_172 : decode cX8_comeOn 172 = .ok (.getfield 13, 3) := by decide +kernel
theorem dX8_comeOn_175 : decode cX8_comeOn 175 = .ok (.iload_n 1, 1) := by decide +kernel
theorem dX8_comeOn_176 : decode cX8_comeOn 176 = .ok (.iconst 5, 1) := by decide +kernel
theorem dX8_comeOn_177 : decode cX8_comeOn 177 = .ok (.iadd, 1) := by decide +kernel
theorem dX8_comeOn_178 : decode cX8_comeOn 178 = .ok (.iconst 0, 1) := by decide +kernel
theorem dX8_comeOn_179 : decode cX8_comeOn 179 = .ok (.iastore, 1) := by decide +kernel
theorem dX8_comeOn_180 : decode cX8_comeOn 180 = .ok (.aload_n 0, 1) := by decide +kernel
theorem dX8_comeOn_181 : decode cX8_comeOn 181 = .ok (.getfield 13, 3) := by decide +kernel
theorem dX8_comeOn_184 : decode cX8_comeOn 184 = .ok (.iload_n 1, 1) := by decide +kernel
theorem dX8_comeOn_185 : decode cX8_comeOn 185 = .ok (.iconst 4, 1) := by decide +kernel
theorem dX8_comeOn_186 : decode cX8_comeOn 186 = .ok (.iadd, 1) := by decide +kernel
theorem dX8_comeOn_187 : decode cX8_comeOn 187 = .ok (.iconst (-1), 1) := by decide +kernel
