theorem dX8_comeOn_37 : decode cX8_comeOn 37 = .ok (.iload_n 1, 1) := by decide +kernel
theorem dX8_comeOn_38 : decode cX8_comeOn 38 = .ok (.bipush 9, 2) := by decide +kernel
theorem dX8_comeOn_40 : decode cX8_comeOn 40 = .ok (.iadd, 1) := by decide +kernel
theorem dX8_comeOn_41 : decode cX8_comeOn 41 = .ok (.dup2, 1) := by decide +kernel
theorem dX8_comeOn_42 : decode cX8_comeOn 42 = .ok (.iaload, 1) := by decide +kernel
theorem dX8_comeOn_43 : decode cX8_comeOn 43 = .ok (.aload_n 0, 1) := by decide +kernel
theorem dX8_comeOn_44 : decode cX8_comeOn 44 = .ok (.getfield 13, 3) := by decide +kernel
theorem dX8_comeOn_47 : decode cX8_comeOn 47 = .ok (.iload_n 1, 1) := by decide +kernel
theorem dX8_comeOn_48 : decode cX8_comeOn 48 = .ok (.bipush 9, 2) := by decide +kernel
theorem dX8_comeOn_50 : decode cX8_comeOn 50 = .ok (.iadd, 1) := by decide +kernel
theorem dX8_comeOn_51 : decode cX8_comeOn 51 = .ok (.iaload, 1) := by decide +kernel
theorem dX8_comeOn_52 : decode cX8_comeOn 52 = .ok (.iconst (-1), 1) := by decide +kernel
theorem dX8_comeOn_53 : decode cX8_comeOn 53 = .ok (.if_icmp .ne 7, 3) := by decide +kernel
theorem dX8_comeOn_56 : decode cX8_comeOn 56 = .ok (.iconst 0, 1) := by decide +kernel
theorem dX8_comeOn_57 : decode cX8_comeOn 57 = .ok (.goto 4, 3) := by decide +kernel
theorem dX8_comeOn_60 : decode cX8_comeOn 60 = .ok (.iconst 1, 1) := by decide +kernel
theorem dX8_comeOn_61 : decode cX8_comeOn 61 = .ok (.iadd, 1) := by decide +kernel
theorem dX8_comeOn_62 : decode cX8_comeOn 62 = .ok (.iastore, 1) := by decide +kernel
theorem dX8_comeOn_63 : decode cX8_comeOn 63 = .ok (.aload_n 0, 1) := by decide +kernel
theorem dX8_comeOn_64 : decode cX8_comeOn 64 = .ok (.getfield 13, 3) := by decide +kernel
theorem dX8_comeOn_67 : decode cX8_comeOn 67 = .ok (.iload_n 1, 1) := by decide +kernel
theorem dX8_comeOn_68 : decode cX8_comeOn 68 = .ok (.iconst 5, 1) := by decide +kernel
theorem dX8_comeOn_69 : decode cX8_comeOn 69 = .ok (.iadd, 1) := by decide +kernel
theorem dX8_comeOn_70 : decode cX8_comeOn 70 = .ok (.iaload, 1) := by decide +kernel
theorem dX8_comeOn_71 : decode cX8_comeOn 71 = .ok (.aload_n 0, 1) := by decide +kernel
theorem dX8_comeOn_72 : decode cX8_comeOn 72 = .ok (.iload_n 2, 1) := by decide +kernel
theorem dX8_comeOn_73 : decode cX8_comeOn 73 = .ok (.iconst 0, 1) := by decide +kernel
theorem dX8_comeOn_74 : decode cX8_comeOn 74 = .ok (.invokevirtual 62, 3) := by decide +kernel
theorem dX8_comeOn_77 : decode cX8_comeOn 77 = .ok (.aload_n 0, 1) := by decide +kernel
theorem dX8_comeOn_78 : decode cX8_comeOn 78 = .ok (.iload_n 2, 1) := by decide +kernel
theorem dX8_comeOn_79 : decode cX8_comeOn 79 = .ok (.iconst 1, 1) := by decide +kernel
theorem dX8_comeOn_80 : decode cX8_comeOn 80 = .ok (.invokevirtual 62, 3) := by decide +kernel
theorem dX8_comeOn_83 : decode cX8_comeOn 83 = .ok (.iadd, 1) := by decide +kernel
theorem dX8_comeOn_84 : decode cX8_comeOn 84 = .ok (.aload_n 0, 1) := by decide +kernel
theorem dX8_comeOn_85 : decode cX8_comeOn 85 = .ok (.iload_n 2, 1) := by decide +kernel
theorem dX8_comeOn_86 : decode cX8_comeOn 86 = .ok (.iconst 2, 1) := by decide +kernel
theorem dX8_comeOn_87 : decode cX8_comeOn 87 = .ok (.invokevirtual 62, 3) := by decide +kernel
theorem dX8_comeOn_90 : decode cX8_comeOn 90 = .ok (.iadd, 1) := by decide +kernel
theorem dX8_comeOn_91 : decode cX8_comeOn 91 = .ok (.if_icmp .ne 12, 3) := by decide +kernel
theorem dX8_comeOn_94 : decode cX8_comeOn 94 = .ok (.aload_n 0, 1) := by decide +kernel
theorem dX8_comeOn_95 : decode cX8_comeOn 95 = .ok (.getfield 13, 3) := by decide +kernel
theorem dX8_comeOn_98 : decode cX8_comeOn 98 = .ok (.iload_n 1, 1) := by decide +kernel
theorem dX8_comeOn_99 : decode cX8_comeOn 99 = .ok (.iconst 3, 1) := by decide +kernel
theorem dX8_comeOn_100 : decode cX8_comeOn 100 = .ok (.iadd, 1) := by decide +kernel
theorem dX8_comeOn_101 : decode cX8_comeOn 101 = .ok (.iconst 0, 1) := by decide +kernel
theorem dX8_comeOn_102 : decode cX8_comeOn 102 = .ok (.iastore, 1) := by decide +kernel
theorem dX8_comeOn_103 : decode cX8_comeOn 103 = .ok (.goto 57, 3) := by decide +kernel
theorem dX8_comeOn_106 : decode cX8_comeOn 106 = .ok (.aload_n 0, 1) := by decide +kernel
theorem dX8_comeOn_107 : decode cX8_comeOn 107 = .ok (.getfield 13, 3) := by decide +kernel
theorem dX8_comeOn_110 : decode cX8_comeOn 110 = .ok (.iload_n 1, 1) := by decide +kernel
theorem dX8_comeOn_111 : decode cX8_comeOn 111 = .ok (.iconst 3, 1) := by decide +kernel
theorem dX8_comeOn_112 : decode cX8_comeOn 112 = .ok (.iadd, 1) := by decide +kernel
theorem dX8_comeOn_113 : decode cX8_comeOn 113 = .ok (.iaload, 1) := by decide +kernel
theorem dX8_comeOn_114 : decode cX8_comeOn 114 = .ok (.ifCond .eq 46, 3) := by decide +kernel
theorem dX8_comeOn_117 : decode cX8_comeOn 117 = .ok (.aload_n 0, 1) := by decide +kernel
theorem dX8_comeOn_118 : decode cX8_comeOn 118 = .ok (.getfield 13, 3) := by decide +kernel
theorem dX8_comeOn_121 : decode cX8_comeOn 121 = .ok (.iload_n 1, 1) := by decide +kernel
theorem dX8_comeOn_122 : decode cX8_comeOn 122 = .ok (.iconst 5, 1) := by decide +kernel
theorem dX8_comeOn_123 : decode cX8_comeOn 123 = .ok (.iadd, 1) := by decide +kernel
theorem dX8_comeOn_124 : decode cX8_comeOn 124 = .ok (.dup2, 1) := by decide +kernel
theorem dX8_comeOn_125 : decode cX8_comeOn 125 = .ok (.iaload, 1) := by decide +kernel
theorem dX8_comeOn_126 : decode cX8_comeOn 126 = .ok (.iconst 1, 1) := by decide +kernel
theorem dX8_comeOn_127 : decode cX8_comeOn 127 = .ok (.isub, 1) := by decide +kernel
theorem dX8_comeOn_128 : decode cX8_comeOn 128 = .ok (.iastore, 1) := by decide +kernel
theorem dX8_comeOn_129 : decode cX8_comeOn 129 = .ok (.aload_n 0, 1) := by decide +kernel
theorem dX8_comeOn_130 : decode cX8_comeOn 130 = .ok (.getfield 13, 3) := by decide +kernel
theorem dX8_comeOn_133 : decode cX8_comeOn 133 = .ok (.iload_n 1, 1) := by decide +kernel
theorem dX8_comeOn_134 : decode cX8_comeOn 134 = .ok (.iconst 3, 1) := by decide +kernel
theorem dX8_comeOn_135 : decode cX8_comeOn 135 = .ok (.iadd, 1) := by decide +kernel
theorem dX8_comeOn_136 : decode cX8_comeOn 136 = .ok (.aload_n 0, 1) := by decide +kernel
theorem dX8_comeOn_137 : decode cX8_comeOn 137 = .ok (.getfield 13, 3) := by decide +kernel
theorem dX8_comeOn_140 : decode cX8_comeOn 140 = .ok (.iload_n 1, 1) := by decide +kernel
theorem dX8_comeOn_141 : decode cX8_comeOn 141 = .ok (.iconst 5, 1) := by decide +kernel
theorem dX8_comeOn_142 : decode cX8_comeOn 142 = .ok (.iadd, 1) := by decide +kernel
theorem dX8_comeOn_143 : decode cX8_comeOn 143 = .ok (.iaload, 1) := by decide +kernel
theorem dX8_comeOn_144 : decode cX8_comeOn 144 = .ok (.ifCond .gt 7, 3) := by decide +kernel
theorem dX8_comeOn_147 : decode cX8_comeOn 147 = .ok (.iconst 0, 1) := by decide +kernel
theorem dX8_comeOn_148 : decode cX8_comeOn 148 = .ok (.goto 11, 3) := by decide +kernel
theorem dX8_comeOn_151 : decode cX8_comeOn 151 = .ok (.aload_n 0, 1) := by decide +kernel
theorem dX8_comeOn_152 : decode cX8_comeOn 152 = .ok (.getfield 13, 3) := by decide +kernel
theorem dX8_comeOn_155 : decode cX8_comeOn 155 = .ok (.iload_n 1, 1) := by decide +kernel
theorem dX8_comeOn_156 : decode cX8_comeOn 156 = .ok (.iconst 3, 1) := by decide +kernel
theorem dX8_comeOn_157 : decode cX8_comeOn 157 = .ok (.iadd, 1) := by decide +kernel
theorem dX8_comeOn_158 : decode cX8_comeOn 158 = .ok (.iaload, 1) := by decide +kernel
theorem dX8_comeOn_159 : decode cX8_comeOn 159 = .ok (.iastore, 1) := by decide +kernel
theorem dX8_comeOn_160 : decode cX8_comeOn 160 = .ok (.aload_n 0, 1) := by decide +kernel
theorem dX8_comeOn_161 : decode cX8_comeOn 161 = .ok (.getfield 13, 3) := by decide +kernel
theorem dX8_comeOn_164 : decode cX8_comeOn 164 = .ok (.iload_n 1, 1) := by decide +kernel
theorem dX8_comeOn_165 : decode cX8_comeOn 165 = .ok (.iconst 3, 1) := by decide +kernel
theorem dX8_comeOn_166 : decode cX8_comeOn 166 = .ok (.iadd, 1) := by decide +kernel
theorem dX8_comeOn_167 : decode cX8_comeOn 167 = .ok (.iaload, 1) := by decide +kernel
theorem dX8_comeOn_168 : decode cX8_comeOn 168 = .ok (.ifCond .ne 21, 3) := by decide +kernel
theorem dX8_comeOn_171 : decode cX8_comeOn 171 = .ok (.aload_n 0, 1) := by decide +kernel
theorem dX8_comeOn_172 : decode cX8_comeOn 172 = .ok (.getfield 13, 3) := by decide +kernel
theorem dX8_comeOn_175 : decode cX8_comeOn 175 = .ok (.iload_n 1, 1) := by decide +kernel
theorem dX8_comeOn_176 : decode cX8_comeOn 176 = .ok (.iconst 5, 1) := by decide +kernel
theorem dX8_comeOn_177 : decode cX8_comeOn 177 = .ok (.iadd, 1) := by decide +kernel
theorem dX8_comeOn_178 : decode cX8_comeOn 178 = .ok (.iconst 0, 1) := by decide +kernel
theorem dX8_comeOn_179 : decode cX8_comeOn 179 = .ok (.iastore, 1) := by decide +kernel
theorem dX8_comeOn_180 : decode cX8_comeOn 180 = .ok (.aload_n 0, 1) := by decide +kernel
theorem dX8_comeOn_181 : decode cX8_comeOn 181 = .ok (.getfield 13, 3) := by decide +kernel
theorem dX8_comeOn_184 : decode cX8_comeOn 184 = .ok (.iload_n 1, 1) := by decide +kernel
theorem dX8_comeOn_185 : decode cX8_comeOn 185 = .ok (.iconst 4, 1) := by decide +kernel
theorem dX8_comeOn_186 : decode cX8_comeOn 186 = .ok (.iadd, 1) := by decide +kernel
theorem dX8_comeOn_187 : decode cX8_comeOn 187 = .ok (.iconst (-1), 1) := by decide +kernel
theorem dX8_comeOn_188 : decode cX8_comeOn 188 = .ok (.iastore, 1) := by decide +kernel
theorem dX8_comeOn_189 : decode cX8_comeOn 189 = .ok (.aload_n 0, 1) := by decide +kernel
theorem dX8_comeOn_190 : decode cX8_comeOn 190 = .ok (.getfield 13, 3) := by decide +kernel
theorem dX8_comeOn_193 : decode cX8_comeOn 193 = .ok (.iload_n 1, 1) := by decide +kernel
theorem dX8_comeOn_194 : decode cX8_comeOn 194 = .ok (.bipush 9, 2) := by decide +kernel
theorem dX8_comeOn_196 : decode cX8_comeOn 196 = .ok (.iadd, 1) := by decide +kernel
theorem dX8_comeOn_197 : decode cX8_comeOn 197 = .ok (.aload_n 0, 1) := by decide +kernel
theorem dX8_comeOn_198 : decode cX8_comeOn 198 = .ok (.getfield 13, 3) := by decide +kernel
theorem dX8_comeOn_201 : decode cX8_comeOn 201 = .ok (.iload_n 1, 1) := by decide +kernel
theorem dX8_comeOn_202 : decode cX8_comeOn 202 = .ok (.iconst 3, 1) := by decide +kernel
theorem dX8_comeOn_203 : decode cX8_comeOn 203 = .ok (.iadd, 1) := by decide +kernel
theorem dX8_comeOn_204 : decode cX8_comeOn 204 = .ok (.iaload, 1) := by decide +kernel
theorem dX8_comeOn_205 : decode cX8_comeOn 205 = .ok (.iconst 1, 1) := by decide +kernel
theorem dX8_comeOn_206 : decode cX8_comeOn 206 = .ok (.if_icmp .ne 15, 3) := by decide +kernel
theorem dX8_comeOn_209 : decode cX8_comeOn 209 = .ok (.aload_n 0, 1) := by decide +kernel
theorem dX8_comeOn_210 : decode cX8_comeOn 210 = .ok (.getfield 13, 3) := by decide +kernel
theorem dX8_comeOn_213 : decode cX8_comeOn 213 = .ok (.iload_n 1, 1) := by decide +kernel
theorem dX8_comeOn_214 : decode cX8_comeOn 214 = .ok (.bipush 9, 2) := by decide +kernel
theorem dX8_comeOn_216 : decode cX8_comeOn 216 = .ok (.iadd, 1) := by decide +kernel
theorem dX8_comeOn_217 : decode cX8_comeOn 217 = .ok (.iaload, 1) := by decide +kernel
theorem dX8_comeOn_218 : decode cX8_comeOn 218 = .ok (.goto 4, 3) := by decide +kernel
theorem dX8_comeOn_221 : decode cX8_comeOn 221 = .ok (.iconst (-1), 1) := by decide +kernel
theorem dX8_comeOn_222 : decode cX8_comeOn 222 = .ok (.iastore, 1) := by decide +kernel
theorem dX8_comeOn_223 : decode cX8_comeOn 223 = .ok (.aload_n 0, 1) := by decide +kernel
theorem dX8_comeOn_224 : decode cX8_comeOn 224 = .ok (.getfield 13, 3) := by decide +kernel
theorem dX8_comeOn_227 : decode cX8_comeOn 227 = .ok (.iload_n 1, 1) := by decide +kernel
theorem dX8_comeOn_228 : decode cX8_comeOn 228 = .ok (.bipush 6, 2) := by decide +kernel
theorem dX8_comeOn_230 : decode cX8_comeOn 230 = .ok (.iadd, 1) := by decide +kernel
theorem dX8_comeOn_231 : decode cX8_comeOn 231 = .ok (.aload_n 0, 1) := by decide +kernel
theorem dX8_comeOn_232 : decode cX8_comeOn 232 = .ok (.getfield 13, 3) := by decide +kernel
theorem dX8_comeOn_235 : decode cX8_comeOn 235 = .ok (.iload_n 1, 1) := by decide +kernel
theorem dX8_comeOn_236 : decode cX8_comeOn 236 = .ok (.iconst 3, 1) := by decide +kernel
theorem dX8_comeOn_237 : decode cX8_comeOn 237 = .ok (.iadd, 1) := by decide +kernel
theorem dX8_comeOn_238 : decode cX8_comeOn 238 = .ok (.iaload, 1) := by decide +kernel
theorem dX8_comeOn_239 : decode cX8_comeOn 239 = .ok (.iconst 2, 1) := by decide +kernel
theorem dX8_comeOn_240 : decode cX8_comeOn 240 = .ok (.if_icmp .ne 15, 3) := by decide +kernel
theorem dX8_comeOn_243 : decode cX8_comeOn 243 = .ok (.aload_n 0, 1) := by decide +kernel
theorem dX8_comeOn_244 : decode cX8_comeOn 244 = .ok (.getfield 13, 3) := by decide +kernel
theorem dX8_comeOn_247 : decode cX8_comeOn 247 = .ok (.iload_n 1, 1) := by decide +kernel
theorem dX8_comeOn_248 : decode cX8_comeOn 248 = .ok (.bipush 6, 2) := by decide +kernel
theorem dX8_comeOn_250 : decode cX8_comeOn 250 = .ok (.iadd, 1) := by decide +kernel
theorem dX8_comeOn_251 : decode cX8_comeOn 251 = .ok (.iaload, 1) := by decide +kernel
theorem dX8_comeOn_252 : decode cX8_comeOn 252 = .ok (.goto 4, 3) := by decide +kernel
theorem dX8_comeOn_255 : decode cX8_comeOn 255 = .ok (.iconst 0, 1) := by decide +kernel
theorem dX8_comeOn_256 : decode cX8_comeOn 256 = .ok (.iastore, 1) := by decide +kernel
theorem dX8_comeOn_257 : decode cX8_comeOn 257 = .ok (.aload_n 0, 1) := by decide +kernel
theorem dX8_comeOn_258 : decode cX8_comeOn 258 = .ok (.getfield 13, 3) := by decide +kernel
theorem dX8_comeOn_261 : decode cX8_comeOn 261 = .ok (.iload_n 1, 1) := by decide +kernel
theorem dX8_comeOn_262 : decode cX8_comeOn 262 = .ok (.bipush 8, 2) := by decide +kernel
theorem dX8_comeOn_264 : decode cX8_comeOn 264 = .ok (.iadd, 1) := by decide +kernel
theorem dX8_comeOn_265 : decode cX8_comeOn 265 = .ok (.dup2, 1) := by decide +kernel
theorem dX8_comeOn_266 : decode cX8_comeOn 266 = .ok (.iaload, 1) := by decide +kernel
theorem dX8_comeOn_267 : decode cX8_comeOn 267 = .ok (.aload_n 0, 1) := by decide +kernel
theorem dX8_comeOn_268 : decode cX8_comeOn 268 = .ok (.getfield 13, 3) := by decide +kernel
theorem dX8_comeOn_271 : decode cX8_comeOn 271 = .ok (.iload_n 1, 1) := by decide +kernel
theorem dX8_comeOn_272 : decode cX8_comeOn 272 = .ok (.bipush 8, 2) := by decide +kernel
theorem dX8_comeOn_274 : decode cX8_comeOn 274 = .ok (.iadd, 1) := by decide +kernel
theorem dX8_comeOn_275 : decode cX8_comeOn 275 = .ok (.iaload, 1) := by decide +kernel
theorem dX8_comeOn_276 : decode cX8_comeOn 276 = .ok (.ifCond .le 7, 3) := by decide +kernel
theorem dX8_comeOn_279 : decode cX8_comeOn 279 = .ok (.iconst 1, 1) := by decide +kernel
theorem dX8_comeOn_280 : decode cX8_comeOn 280 = .ok (.goto 4, 3) := by decide +kernel
theorem dX8_comeOn_283 : decode cX8_comeOn 283 = .ok (.iconst 0, 1) := by decide +kernel
theorem dX8_comeOn_284 : decode cX8_comeOn 284 = .ok (.isub, 1) := by decide +kernel
theorem dX8_comeOn_285 : decode cX8_comeOn 285 = .ok (.iastore, 1) := by decide +kernel
theorem dX8_comeOn_286 : decode cX8_comeOn 286 = .ok (.aload_n 0, 1) := by decide +kernel
theorem dX8_comeOn_287 : decode cX8_comeOn 287 = .ok (.getfield 13, 3) := by decide +kernel
theorem dX8_comeOn_290 : decode cX8_comeOn 290 = .ok (.iload_n 1, 1) := by decide +kernel
theorem dX8_comeOn_291 : decode cX8_comeOn 291 = .ok (.bipush 7, 2) := by decide +kernel
theorem dX8_comeOn_293 : decode cX8_comeOn 293 = .ok (.iadd, 1) := by decide +kernel
theorem dX8_comeOn_294 : decode cX8_comeOn 294 = .ok (.aload_n 0, 1) := by decide +kernel
theorem dX8_comeOn_295 : decode cX8_comeOn 295 = .ok (.getfield 13, 3) := by decide +kernel
theorem dX8_comeOn_298 : decode cX8_comeOn 298 = .ok (.iload_n 1, 1) := by decide +kernel
theorem dX8_comeOn_299 : decode cX8_comeOn 299 = .ok (.bipush 8, 2) := by decide +kernel
theorem dX8_comeOn_301 : decode cX8_comeOn 301 = .ok (.iadd, 1) := by decide +kernel
theorem dX8_comeOn_302 : decode cX8_comeOn 302 = .ok (.iaload, 1) := by decide +kernel
theorem dX8_comeOn_303 : decode cX8_comeOn 303 = .ok (.ifCond .le 15, 3) := by decide +kernel
theorem dX8_comeOn_306 : decode cX8_comeOn 306 = .ok (.aload_n 0, 1) := by decide +kernel
theorem dX8_comeOn_307 : decode cX8_comeOn 307 = .ok (.getfield 13, 3) := by decide +kernel
theorem dX8_comeOn_310 : decode cX8_comeOn 310 = .ok (.iload_n 1, 1) := by decide +kernel
theorem dX8_comeOn_311 : decode cX8_comeOn 311 = .ok (.bipush 7, 2) := by decide +kernel
theorem dX8_comeOn_313 : decode cX8_comeOn 313 = .ok (.iadd, 1) := by decide +kernel
theorem dX8_comeOn_314 : decode cX8_comeOn 314 = .ok (.iaload, 1) := by decide +kernel
theorem dX8_comeOn_315 : decode cX8_comeOn 315 = .ok (.goto 4, 3) := by decide +kernel
theorem dX8_comeOn_318 : decode cX8_comeOn 318 = .ok (.iconst (-1), 1) := by decide +kernel
theorem dX8_comeOn_319 : decode cX8_comeOn 319 = .ok (.iastore, 1) := by decide +kernel
theorem dX8_comeOn_320 : decode cX8_comeOn 320 = .ok (.return_, 1) := by decide +kernel
set_option maxRecDepth 20000 in
theorem ggX8_frame_X8_keepInput : GoodIn wsX8_frame wsX8_keepInput := goodIn_r _ [6, 7, 41, 42, 43, 44, 45, 46, 47, 48, 49, 50, 51, 52, 53, 54, 55, 56, 57] (by decide +kernel) (by decide +kernel)
set_option maxRecDepth 20000 in
theorem gX8_frame_X8_keepInput : GoodIn wsX8_frame (wsV RX8 76 RX8 yX8_keepInput wsX8_keepInput) := goodIn_app (goodIn_of _ (by decide +kernel)) ggX8_frame_X8_keepInput
set_option maxRecDepth 20000 in
theorem ggX8_frame_X8_beginKept : GoodIn wsX8_frame wsX8_beginKept := goodIn_r _ [11, 7, 12, 13, 14, 5, 15, 16, 41, 42, 43, 44, 45, 46, 47, 48, 49, 50, 51, 52, 53, 54, 55, 56, 57] (by decide +kernel) (by decide +kernel)
set_option maxRecDepth 20000 in
theorem gX8_frame_X8_beginKept : GoodIn wsX8_frame (wsV RX8 80 RX8 yX8_beginKept wsX8_beginKept) := goodIn_app (goodIn_of _ (by decide +kernel)) ggX8_frame_X8_beginKept
set_option maxRecDepth 20000 in
theorem ggX8_frame_X8_go : GoodIn wsX8_frame wsX8_go := goodIn_r _ [20, 7, 41, 42, 43, 44, 45, 46, 47, 48, 49, 50, 51, 52, 53, 54, 55, 56, 57] (by decide +kernel) (by decide +kernel)
set_option maxRecDepth 20000 in
theorem gX8_frame_X8_go : GoodIn wsX8_frame (wsV RX8 86 RX8 yX8_go wsX8_go) := goodIn_app (goodIn_of _ (by decide +kernel)) ggX8_frame_X8_go
set_option maxRecDepth 20000 in
theorem ggX8_frame_X8_hitBoth : GoodIn wsX8_frame wsX8_hitBoth := goodIn_r _ [24, 7, 25, 26, 27, 5, 28, 12, 13, 14, 15, 16, 29, 30, 31, 32, 33, 34, 35, 36, 41, 42, 43, 44, 45, 46, 47, 48, 49, 50, 51, 52, 53, 54, 55, 56, 57] (by decide +kernel) (by decide +kernel)
set_option maxRecDepth 20000 in
theorem gX8_frame_X8_hitBoth : GoodIn wsX8_frame (wsV RX8 89 RX8 yX8_hitBoth wsX8_hitBoth) := goodIn_app (goodIn_of _ (by decide +kernel)) ggX8_frame_X8_hitBoth
set_option maxRecDepth 20000 in
theorem ggX8_frame_X8_comeOn : GoodIn wsX8_frame wsX8_comeOn := goodIn_r _ [40, 7, 12, 13, 14, 5, 15, 16, 41, 42, 43, 44, 45, 46, 47, 48, 49, 50, 51, 52, 53, 54, 55, 56, 57] (by decide +kernel) (by decide +kernel)
set_option maxRecDepth 20000 in
theorem gX8_frame_X8_comeOn : GoodIn wsX8_frame (wsV RX8 92 RX8 yX8_comeOn wsX8_comeOn) := goodIn_app (goodIn_of _ (by decide +kernel)) ggX8_frame_X8_comeOn
theorem dX8_frame_0 : decode cX8_frame 0 = .ok (.aload_n 0, 1) := by decide +kernel
theorem dX8_frame_1 : decode cX8_frame 1 = .ok (.iconst 0, 1) := by decide +kernel
theorem dX8_frame_2 : decode cX8_frame 2 = .ok (.iload_n 1, 1) := by decide +kernel
theorem dX8_frame_3 : decode cX8_frame 3 = .ok (.invokevirtual 76, 3) := by decide +kernel
theorem dX8_frame_6 : decode cX8_frame 6 = .ok (.aload_n 0, 1) := by decide +kernel
theorem dX8_frame_7 : decode cX8_frame 7 = .ok (.bipush 11, 2) := by decide +kernel
theorem dX8_frame_9 : decode cX8_frame 9 = .ok (.iload_n 2, 1) := by decide +kernel
theorem dX8_frame_10 : decode cX8_frame 10 = .ok (.invokevirtual 76, 3) := by decide +kernel
theorem dX8_frame_13 : decode cX8_frame 13 = .ok (.aload_n 0, 1) := by decide +kernel
theorem dX8_frame_14 : decode cX8_frame 14 = .ok (.aload_n 0, 1) := by decide +kernel
theorem dX8_frame_15 : decode cX8_frame 15 = .ok (.iconst 0, 1) := by decide +kernel
theorem dX8_frame_16 : decode cX8_frame 16 = .ok (.invokevirtual 80, 3) := by decide +kernel
theorem dX8_frame_19 : decode cX8_frame 19 = .ok (.putfield 83, 3) := by decide +kernel
theorem dX8_frame_22 : decode cX8_frame 22 = .ok (.aload_n 0, 1) := by decide +kernel
theorem dX8_frame_23 : decode cX8_frame 23 = .ok (.bipush 11, 2) := by decide +kernel
theorem dX8_frame_25 : decode cX8_frame 25 = .ok (.invokevirtual 80, 3) := by decide +kernel
theorem dX8_frame_28 : decode cX8_frame 28 = .ok (.pop, 1) := by decide +kernel
theorem dX8_frame_29 : decode cX8_frame 29 = .ok (.aload_n 0, 1) := by decide +kernel
theorem dX8_frame_30 : decode cX8_frame 30 = .ok (.iload_n 1, 1) := by decide +kernel
theorem dX8_frame_31 : decode cX8_frame 31 = .ok (.iload_n 2, 1) := by decide +kernel
theorem dX8_frame_32 : decode cX8_frame 32 = .ok (.invokevirtual 86, 3) := by decide +kernel
theorem dX8_frame_35 : decode cX8_frame 35 = .ok (.aload_n 0, 1) := by decide +kernel
theorem dX8_frame_36 : decode cX8_frame 36 = .ok (.iload_n 1, 1) := by decide +kernel
theorem dX8_frame_37 : decode cX8_frame 37 = .ok (.iload_n 2, 1) := by decide +kernel
theorem dX8_frame_38 : decode cX8_frame 38 = .ok (.invokevirtual 89, 3) := by decide +kernel
theorem dX8_frame_41 : decode cX8_frame 41 = .ok (.aload_n 0, 1) := by decide +kernel
theorem dX8_frame_42 : decode cX8_frame 42 = .ok (.iconst 0, 1) := by decide +kernel
theorem dX8_frame_43 : decode cX8_frame 43 = .ok (.invokevirtual 92, 3) := by decide +kernel
theorem dX8_frame_46 : decode cX8_frame 46 = .ok (.aload_n 0, 1) := by decide +kernel
theorem dX8_frame_47 : decode cX8_frame 47 = .ok (.bipush 11, 2) := by decide +kernel
theorem dX8_frame_49 : decode cX8_frame 49 = .ok (.invokevirtual 92, 3) := by decide +kernel
theorem dX8_frame_52 : decode cX8_frame 52 = .ok (.return_, 1) := by decide +kernel
theorem dX8_lay_0 : decode cX8_lay 0 = .ok (.iconst 0, 1) := by decide +kernel
theorem dX8_lay_1 : decode cX8_lay 1 = .ok (.istore 5, 2) := by decide +kernel
theorem dX8_lay_3 : decode cX8_lay 3 = .ok (.iload 5, 2) := by decide +kernel
theorem dX8_lay_5 : decode cX8_lay 5 = .ok (.bipush 11, 2) := by decide +kernel
theorem dX8_lay_7 : decode cX8_lay 7 = .ok (.if_icmp .gt 119, 3) := by decide +kernel
theorem dX8_lay_10 : decode cX8_lay 10 = .ok (.iconst 0, 1) := by decide +kernel
theorem dX8_lay_11 : decode cX8_lay 11 = .ok (.istore 6, 2) := by decide +kernel
theorem dX8_lay_13 : decode cX8_lay 13 = .ok (.iload 6, 2) := by decide +kernel
theorem dX8_lay_15 : decode cX8_lay 15 = .ok (.bipush 11, 2) := by decide +kernel
theorem dX8_lay_17 : decode cX8_lay 17 = .ok (.if_icmp .ge 20, 3) := by decide +kernel
theorem dX8_lay_20 : decode cX8_lay 20 = .ok (.aload_n 0, 1) := by decide +kernel
theorem dX8_lay_21 : decode cX8_lay 21 = .ok (.getfield 13, 3) := by decide +kernel
theorem dX8_lay_24 : decode cX8_lay 24 = .ok (.iload 5, 2) := by decide +kernel
theorem dX8_lay_26 : decode cX8_lay 26 = .ok (.iload 6, 2) := by decide +kernel
theorem dX8_lay_28 : decode cX8_lay 28 = .ok (.iadd, 1) := by decide +kernel
theorem dX8_lay_29 : decode cX8_lay 29 = .ok (.iconst 0, 1) := by decide +kernel
theorem dX8_lay_30 : decode cX8_lay 30 = .ok (.iastore, 1) := by decide +kernel
theorem dX8_lay_31 : decode cX8_lay 31 = .ok (.iinc 6 1, 3) := by decide +kernel
theorem dX8_lay_34 : decode cX8_lay 34 = .ok (.goto (-21), 3) := by decide +kernel
theorem dX8_lay_37 : decode cX8_lay 37 = .ok (.aload_n 0, 1) := by decide +kernel
theorem dX8_lay_38 : decode cX8_lay 38 = .ok (.getfield 13, 3) := by decide +kernel
theorem dX8_lay_41 : decode cX8_lay 41 = .ok (.iload 5, 2) := by decide +kernel
theorem dX8_lay_43 : decode cX8_lay 43 = .ok (.iconst 0, 1) := by decide +kernel
theorem dX8_lay_44 : decode cX8_lay 44 = .ok (.iadd, 1) := by decide +kernel
theorem dX8_lay_45 : decode cX8_lay 45 = .ok (.iload 5, 2) := by decide +kernel
theorem dX8_lay_47 : decode cX8_lay 47 = .ok (.ifCond .ne 7, 3) := by decide +kernel
theorem dX8_lay_50 : decode cX8_lay 50 = .ok (.iload_n 1, 1) := by decide +kernel
theorem dX8_lay_51 : decode cX8_lay 51 = .ok (.goto 4, 3) := by decide +kernel
theorem dX8_lay_54 : decode cX8_lay 54 = .ok (.iload_n 2, 1) := by decide +kernel
theorem dX8_lay_55 : decode cX8_lay 55 = .ok (.iastore, 1) := by decide +kernel
theorem dX8_lay_56 : decode cX8_lay 56 = .ok (.aload_n 0, 1) := by decide +kernel
theorem dX8_lay_57 : decode cX8_lay 57 = .ok (.getfield 13, 3) := by decide +kernel
theorem dX8_lay_60 : decode cX8_lay 60 = .ok (.iload 5, 2) := by decide +kernel
theorem dX8_lay_62 : decode cX8_lay 62 = .ok (.iconst 1, 1) := by decide +kernel
theorem dX8_lay_63 : decode cX8_lay 63 = .ok (.iadd, 1) := by decide +kernel
theorem dX8_lay_64 : decode cX8_lay 64 = .ok (.sipush 1000, 3) := by decide +kernel
theorem dX8_lay_67 : decode cX8_lay 67 = .ok (.iastore, 1) := by decide +kernel
theorem dX8_lay_68 : decode cX8_lay 68 = .ok (.aload_n 0, 1) := by decide +kernel
theorem dX8_lay_69 : decode cX8_lay 69 = .ok (.getfield 13, 3) := by decide +kernel
theorem dX8_lay_72 : decode cX8_lay 72 = .ok (.iload 5, 2) := by decide +kernel
theorem dX8_lay_74 : decode cX8_lay 74 = .ok (.iconst 2, 1) := by decide +kernel
theorem dX8_lay_75 : decode cX8_lay 75 = .ok (.iadd, 1) := by decide +kernel
theorem dX8_lay_76 : decode cX8_lay 76 = .ok (.iload 5, 2) := by decide +kernel
theorem dX8_lay_78 : decode cX8_lay 78 = .ok (.ifCond .ne 7, 3) := by decide +kernel
theorem dX8_lay_81 : decode cX8_lay 81 = .ok (.iload_n 3, 1) := by decide +kernel
theorem dX8_lay_82 : decode cX8_lay 82 = .ok (.goto 5, 3) := by decide +kernel
theorem dX8_lay_85 : decode cX8_lay 85 = .ok (.iload 4, 2) := by decide +kernel
theorem dX8_lay_87 : decode cX8_lay 87 = .ok (.iastore, 1) := by decide +kernel
theorem dX8_lay_88 : decode cX8_lay 88 = .ok (.aload_n 0, 1) := by decide +kernel
theorem dX8_lay_89 : decode cX8_lay 89 = .ok (.getfield 13, 3) := by decide +kernel
theorem dX8_lay_92 : decode cX8_lay 92 = .ok (.iload 5, 2) := by decide +kernel
theorem dX8_lay_94 : decode cX8_lay 94 = .ok (.iconst 4, 1) := by decide +kernel
theorem dX8_lay_95 : decode cX8_lay 95 = .ok (.iadd, 1) := by decide +kernel
theorem dX8_lay_96 : decode cX8_lay 96 = .ok (.iconst (-1), 1) := by decide +kernel
theorem dX8_lay_97 : decode cX8_lay 97 = .ok (.iastore, 1) := by decide +kernel
theorem dX8_lay_98 : decode cX8_lay 98 = .ok (.aload_n 0, 1) := by decide +kernel
theorem dX8_lay_99 : decode cX8_lay 99 = .ok (.getfield 13, 3) := by decide +kernel
theorem dX8_lay_102 : decode cX8_lay 102 = .ok (.iload 5, 2) := by decide +kernel
theorem dX8_lay_104 : decode cX8_lay 104 = .ok (.bipush 7, 2) := by decide +kernel
theorem dX8_lay_106 : decode cX8_lay 106 = .ok (.iadd, 1) := by decide +kernel
theorem dX8_lay_107 : decode cX8_lay 107 = .ok (.iconst (-1), 1) := by decide +kernel
theorem dX8_lay_108 : decode cX8_lay 108 = .ok (.iastore, 1) := by decide +kernel
theorem dX8_lay_109 : decode cX8_lay 109 = .ok (.aload_n 0, 1) := by decide +kernel
theorem dX8_lay_110 : decode cX8_lay 110 = .ok (.getfield 13, 3) := by decide +kernel
theorem dX8_lay_113 : decode cX8_lay 113 = .ok (.iload 5, 2) := by decide +kernel
theorem dX8_lay_115 : decode cX8_lay 115 = .ok (.bipush 9, 2) := by decide +kernel
theorem dX8_lay_117 : decode cX8_lay 117 = .ok (.iadd, 1) := by decide +kernel
theorem dX8_lay_118 : decode cX8_lay 118 = .ok (.iconst (-1), 1) := by decide +kernel
theorem dX8_lay_119 : decode cX8_lay 119 = .ok (.iastore, 1) := by decide +kernel
theorem dX8_lay_120 : decode cX8_lay 120 = .ok (.iinc 5 11, 3) := by decide +kernel
theorem dX8_lay_123 : decode cX8_lay 123 = .ok (.goto (-120), 3) := by decide +kernel
theorem dX8_lay_126 : decode cX8_lay 126 = .ok (.return_, 1) := by decide +kernel
theorem dX8_load_0 : decode cX8_load 0 = .ok (.iconst 0, 1) := by decide +kernel
theorem dX8_load_1 : decode cX8_load 1 = .ok (.istore_n 1, 1) := by decide +kernel
theorem dX8_load_2 : decode cX8_load 2 = .ok (.iload_n 1, 1) := by decide +kernel
theorem dX8_load_3 : decode cX8_load 3 = .ok (.bipush 22, 2) := by decide +kernel
theorem dX8_load_5 : decode cX8_load 5 = .ok (.if_icmp .ge 21, 3) := by decide +kernel
theorem dX8_load_8 : decode cX8_load 8 = .ok (.aload_n 0, 1) := by decide +kernel
theorem dX8_load_9 : decode cX8_load 9 = .ok (.getfield 13, 3) := by decide +kernel
theorem dX8_load_12 : decode cX8_load 12 = .ok (.iload_n 1, 1) := by decide +kernel
theorem dX8_load_13 : decode cX8_load 13 = .ok (.aload_n 0, 1) := by decide +kernel
theorem dX8_load_14 : decode cX8_load 14 = .ok (.getfield 16, 3) := by decide +kernel
theorem dX8_load_17 : decode cX8_load 17 = .ok (.iload_n 1, 1) := by decide +kernel
theorem dX8_load_18 : decode cX8_load 18 = .ok (.iaload, 1) := by decide +kernel
theorem dX8_load_19 : decode cX8_load 19 = .ok (.iastore, 1) := by decide +kernel
theorem dX8_load_20 : decode cX8_load 20 = .ok (.iinc 1 1, 3) := by decide +kernel
theorem dX8_load_23 : decode cX8_load 23 = .ok (.goto (-21), 3) := by decide +kernel
theorem dX8_load_26 : decode cX8_load 26 = .ok (.return_, 1) := by decide +kernel
theorem dX8_store_0 : decode cX8_store 0 = .ok (.iconst 0, 1) := by decide +kernel
theorem dX8_store_1 : decode cX8_store 1 = .ok (.istore_n 1, 1) := by decide +kernel
theorem dX8_store_2 : decode cX8_store 2 = .ok (.iload_n 1, 1) := by decide +kernel
theorem dX8_store_3 : decode cX8_store 3 = .ok (.bipush 22, 2) := by decide +kernel
theorem dX8_store_5 : decode cX8_store 5 = .ok (.if_icmp .ge 21, 3) := by decide +kernel
theorem dX8_store_8 : decode cX8_store 8 = .ok (.aload_n 0, 1) := by decide +kernel
theorem dX8_store_9 : decode cX8_store 9 = .ok (.getfield 16, 3) := by decide +kernel
theorem dX8_store_12 : decode cX8_store 12 = .ok (.iload_n 1, 1) := by decide +kernel
theorem dX8_store_13 : decode cX8_store 13 = .ok (.aload_n 0, 1) := by decide +kernel
theorem dX8_store_14 : decode cX8_store 14 = .ok (.getfield 13, 3) := by decide +kernel
theorem dX8_store_17 : decode cX8_store 17 = .ok (.iload_n 1, 1) := by decide +kernel
theorem dX8_store_18 : decode cX8_store 18 = .ok (.iaload, 1) := by decide +kernel
theorem dX8_store_19 : decode cX8_store 19 = .ok (.iastore, 1) := by decide +kernel
theorem dX8_store_20 : decode cX8_store 20 = .ok (.iinc 1 1, 3) := by decide +kernel
theorem dX8_store_23 : decode cX8_store 23 = .ok (.goto (-21), 3) := by decide +kernel
theorem dX8_store_26 : decode cX8_store 26 = .ok (.iconst 0, 1) := by decide +kernel
theorem dX8_store_27 : decode cX8_store 27 = .ok (.istore_n 1, 1) := by decide +kernel
theorem dX8_store_28 : decode cX8_store 28 = .ok (.iload_n 1, 1) := by decide +kernel
theorem dX8_store_29 : decode cX8_store 29 = .ok (.bipush 7, 2) := by decide +kernel
theorem dX8_store_31 : decode cX8_store 31 = .ok (.if_icmp .ge 55, 3) := by decide +kernel
theorem dX8_store_34 : decode cX8_store 34 = .ok (.aload_n 0, 1) := by decide +kernel
theorem dX8_store_35 : decode cX8_store 35 = .ok (.getfield 22, 3) := by decide +kernel
theorem dX8_store_38 : decode cX8_store 38 = .ok (.bipush 14, 2) := by decide +kernel
theorem dX8_store_40 : decode cX8_store 40 = .ok (.aload_n 0, 1) := by decide +kernel
theorem dX8_store_41 : decode cX8_store 41 = .ok (.getfield 28, 3) := by decide +kernel
theorem dX8_store_44 : decode cX8_store 44 = .ok (.imul, 1) := by decide +kernel
theorem dX8_store_45 : decode cX8_store 45 = .ok (.iload_n 1, 1) := by decide +kernel
theorem dX8_store_46 : decode cX8_store 46 = .ok (.iadd, 1) := by decide +kernel
theorem dX8_store_47 : decode cX8_store 47 = .ok (.aload_n 0, 1) := by decide +kernel
theorem dX8_store_48 : decode cX8_store 48 = .ok (.getfield 13, 3) := by decide +kernel
theorem dX8_store_51 : decode cX8_store 51 = .ok (.iload_n 1, 1) := by decide +kernel
theorem dX8_store_52 : decode cX8_store 52 = .ok (.iaload, 1) := by decide +kernel
theorem dX8_store_53 : decode cX8_store 53 = .ok (.iastore, 1) := by decide +kernel
theorem dX8_store_54 : decode cX8_store 54 = .ok (.aload_n 0, 1) := by decide +kernel
theorem dX8_store_55 : decode cX8_store 55 = .ok (.getfield 22, 3) := by decide +kernel
theorem dX8_store_58 : decode cX8_store 58 = .ok (.bipush 14, 2) := by decide +kernel
theorem dX8_store_60 : decode cX8_store 60 = .ok (.aload_n 0, 1) := by decide +kernel
theorem dX8_store_61 : decode cX8_store 61 = .ok (.getfield 28, 3) := by decide +kernel
theorem dX8_store_64 : decode cX8_store 64 = .ok (.imul, 1) := by decide +kernel
theorem dX8_store_65 : decode cX8_store 65 = .ok (.bipush 7, 2) := by decide +kernel
theorem dX8_store_67 : decode cX8_store 67 = .ok (.iadd, 1) := by decide +kernel
theorem dX8_store_68 : decode cX8_store 68 = .ok (.iload_n 1, 1) := by decide +kernel
theorem dX8_store_69 : decode cX8_store 69 = .ok (.iadd, 1) := by decide +kernel
theorem dX8_store_70 : decode cX8_store 70 = .ok (.aload_n 0, 1) := by decide +kernel
theorem dX8_store_71 : decode cX8_store 71 = .ok (.getfield 13, 3) := by decide +kernel
theorem dX8_store_74 : decode cX8_store 74 = .ok (.bipush 11, 2) := by decide +kernel
theorem dX8_store_76 : decode cX8_store 76 = .ok (.iload_n 1, 1) := by decide +kernel
theorem dX8_store_77 : decode cX8_store 77 = .ok (.iadd, 1) := by decide +kernel
theorem dX8_store_78 : decode cX8_store 78 = .ok (.iaload, 1) := by decide +kernel
theorem dX8_store_79 : decode cX8_store 79 = .ok (.iastore, 1) := by decide +kernel
theorem dX8_store_80 : decode cX8_store 80 = .ok (.iinc 1 1, 3) := by decide +kernel
theorem dX8_store_83 : decode cX8_store 83 = .ok (.goto (-55), 3) := by decide +kernel
theorem dX8_store_86 : decode cX8_store 86 = .ok (.return_, 1) := by decide +kernel
set_option maxRecDepth 20000 in
theorem ggX8_begin_X8_in : GoodIn wsX8_begin wsX8_in := goodIn_r _ [10] (by decide +kernel) (by decide +kernel)
set_option maxRecDepth 20000 in
theorem gX8_begin_X8_in : GoodIn wsX8_begin (va_wsS RX8 47 yX8_in wsX8_in) := goodIn_app (goodIn_of _ (by decide +kernel)) ggX8_begin_X8_in
set_option maxRecDepth 20000 in
theorem ggX8_begin_X8_isFine : GoodIn wsX8_begin wsX8_isFine := goodIn_r _ [14, 15, 26, 27, 28, 29, 30, 31, 32, 33, 34, 35, 36, 37, 38, 39, 40, 41, 42] (by decide +kernel) (by decide +kernel)
set_option maxRecDepth 20000 in
theorem gX8_begin_X8_isFine : GoodIn wsX8_begin (wsV RX8 55 RX8 yX8_isFine wsX8_isFine) := goodIn_app (goodIn_of _ (by decide +kernel)) ggX8_begin_X8_isFine
set_option maxRecDepth 20000 in
theorem ggX8_begin_X8_lay : GoodIn wsX8_begin wsX8_lay := goodIn_r _ [19, 20, 26, 27, 28, 29, 30, 31, 32, 33, 34, 35, 36, 37, 38, 39, 40, 41, 42] (by decide +kernel) (by decide +kernel)
set_option maxRecDepth 20000 in
theorem gX8_begin_X8_lay : GoodIn wsX8_begin (wsV RX8 99 RX8 yX8_lay wsX8_lay) := goodIn_app (goodIn_of _ (by decide +kernel)) ggX8_begin_X8_lay
set_option maxRecDepth 20000 in
theorem ggX8_begin_X8_store : GoodIn wsX8_begin wsX8_store := goodIn_r _ [24, 5, 20, 25, 6, 26, 27, 28, 29, 30, 31, 32, 33, 34, 35, 36, 37, 38, 39, 40, 41, 42] (by decide +kernel) (by decide +kernel)
set_option maxRecDepth 20000 in
theorem gX8_begin_X8_store : GoodIn wsX8_begin (wsV RX8 103 RX8 yX8_store wsX8_store) := goodIn_app (goodIn_of _ (by decide +kernel)) ggX8_begin_X8_store
theorem dX8_begin_0 : decode cX8_begin 0 = .ok (.aload_n 0, 1) := by decide +kernel
theorem dX8_begin_1 : decode cX8_begin 1 = .ok (.iload_n 1, 1) := by decide +kernel
theorem dX8_begin_2 : decode cX8_begin 2 = .ok (.bipush 20, 2) := by decide +kernel
theorem dX8_begin_4 : decode cX8_begin 4 = .ok (.sipush 300, 3) := by decide +kernel
theorem dX8_begin_7 : decode cX8_begin 7 = .ok (.invokestatic 47, 3) := by decide +kernel
theorem dX8_begin_10 : decode cX8_begin 10 = .ok (.ifCond .eq 9, 3) := by decide +kernel
theorem dX8_begin_13 : decode cX8_begin 13 = .ok (.iload_n 1, 1) := by decide +kernel
theorem dX8_begin_14 : decode cX8_begin 14 = .ok (.iconst 2, 1) := by decide +kernel
theorem dX8_begin_15 : decode cX8_begin 15 = .ok (.irem, 1) := by decide +kernel
theorem dX8_begin_16 : decode cX8_begin 16 = .ok (.ifCond .eq 7, 3) := by decide +kernel
theorem dX8_begin_19 : decode cX8_begin 19 = .ok (.iconst 1, 1) := by decide +kernel
theorem dX8_begin_20 : decode cX8_begin 20 = .ok (.goto 15, 3) := by decide +kernel
theorem dX8_begin_23 : decode cX8_begin 23 = .ok (.aload_n 0, 1) := by decide +kernel
theorem dX8_begin_24 : decode cX8_begin 24 = .ok (.getfield 51, 3) := by decide +kernel
theorem dX8_begin_27 : decode cX8_begin 27 = .ok (.ifCond .eq 7, 3) := by decide +kernel
theorem dX8_begin_30 : decode cX8_begin 30 = .ok (.iconst 2, 1) := by decide +kernel
theorem dX8_begin_31 : decode cX8_begin 31 = .ok (.goto 4, 3) := by decide +kernel
theorem dX8_begin_34 : decode cX8_begin 34 = .ok (.iconst 0, 1) := by decide +kernel
theorem dX8_begin_35 : decode cX8_begin 35 = .ok (.invokevirtual 55, 3) := by decide +kernel
theorem dX8_begin_38 : decode cX8_begin 38 = .ok (.ifCond .ne 5, 3) := by decide +kernel
theorem dX8_begin_41 : decode cX8_begin 41 = .ok (.iconst 0, 1) := by decide +kernel
theorem dX8_begin_42 : decode cX8_begin 42 = .ok (.ireturn, 1) := by decide +kernel
theorem dX8_begin_43 : decode cX8_begin 43 = .ok (.aload_n 0, 1) := by decide +kernel
theorem dX8_begin_44 : decode cX8_begin 44 = .ok (.getfield 96, 3) := by decide +kernel
theorem dX8_begin_47 : decode cX8_begin 47 = .ok (.ifCond .eq 11, 3) := by decide +kernel
theorem dX8_begin_50 : decode cX8_begin 50 = .ok (.aload_n 0, 1) := by decide +kernel
theorem dX8_begin_51 : decode cX8_begin 51 = .ok (.getfield 32, 3) := by decide +kernel
theorem dX8_begin_54 : decode cX8_begin 54 = .ok (.iconst (-1), 1) := by decide +kernel
theorem dX8_begin_55 : decode cX8_begin 55 = .ok (.if_icmp .eq 42, 3) := by decide +kernel
theorem dX8_begin_58 : decode cX8_begin 58 = .ok (.aload_n 0, 1) := by decide +kernel
theorem dX8_begin_59 : decode cX8_begin 59 = .ok (.iconst 0, 1) := by decide +kernel
theorem dX8_begin_60 : decode cX8_begin 60 = .ok (.putfield 96, 3) := by decide +kernel
theorem dX8_begin_63 : decode cX8_begin 63 = .ok (.aload_n 0, 1) := by decide +kernel
theorem dX8_begin_64 : decode cX8_begin 64 = .ok (.iconst (-1), 1) := by decide +kernel
theorem dX8_begin_65 : decode cX8_begin 65 = .ok (.putfield 32, 3) := by decide +kernel
theorem dX8_begin_68 : decode cX8_begin 68 = .ok (.aload_n 0, 1) := by decide +kernel
theorem dX8_begin_69 : decode cX8_begin 69 = .ok (.getfield 25, 3) := by decide +kernel
theorem dX8_begin_72 : decode cX8_begin 72 = .ok (.iconst 0, 1) := by decide +kernel
theorem dX8_begin_73 : decode cX8_begin 73 = .ok (.iconst 0, 1) := by decide +kernel
theorem dX8_begin_74 : decode cX8_begin 74 = .ok (.iastore, 1) := by decide +kernel
theorem dX8_begin_75 : decode cX8_begin 75 = .ok (.aload_n 0, 1) := by decide +kernel
theorem dX8_begin_76 : decode cX8_begin 76 = .ok (.getfield 25, 3) := by decide +kernel
theorem dX8_begin_79 : decode cX8_begin 79 = .ok (.iconst 1, 1) := by decide +kernel
theorem dX8_begin_80 : decode cX8_begin 80 = .ok (.iconst 0, 1) := by decide +kernel
theorem dX8_begin_81 : decode cX8_begin 81 = .ok (.iastore, 1) := by decide +kernel
theorem dX8_begin_82 : decode cX8_begin 82 = .ok (.aload_n 0, 1) := by decide +kernel
theorem dX8_begin_83 : decode cX8_begin 83 = .ok (.getfield 16, 3) := by decide +kernel
theorem dX8_begin_86 : decode cX8_begin 86 = .ok (.iconst 2, 1) := by decide +kernel
theorem dX8_begin_87 : decode cX8_begin 87 = .ok (.iconst 0, 1) := by decide +kernel
theorem dX8_begin_88 : decode cX8_begin 88 = .ok (.iastore, 1) := by decide +kernel
theorem dX8_begin_89 : decode cX8_begin 89 = .ok (.aload_n 0, 1) := by decide +kernel
theorem dX8_begin_90 : decode cX8_begin 90 = .ok (.getfield 16, 3) := by decide +kernel
theorem dX8_begin_93 : decode cX8_begin 93 = .ok (.bipush 13, 2) := by decide +kernel
theorem dX8_begin_95 : decode cX8_begin 95 = .ok (.iconst 0, 1) := by decide +kernel
theorem dX8_begin_96 : decode cX8_begin 96 = .ok (.iastore, 1) := by decide +kernel
theorem dX8_begin_97 : decode cX8_begin 97 = .ok (.aload_n 0, 1) := by decide +kernel
theorem dX8_begin_98 : decode cX8_begin 98 = .ok (.dup, 1) := by decide +kernel
theorem dX8_begin_99 : decode cX8_begin 99 = .ok (.getfield 96, 3) := by decide +kernel
theorem dX8_begin_102 : decode cX8_begin 102 = .ok (.iconst 1, 1) := by decide +kernel
theorem dX8_begin_103 : decode cX8_begin 103 = .ok (.iadd, 1) := by decide +kernel
theorem dX8_begin_104 : decode cX8_begin 104 = .ok (.putfield 96, 3) := by decide +kernel
theorem dX8_begin_107 : decode cX8_begin 107 = .ok (.aload_n 0, 1) := by decide +kernel
theorem dX8_begin_108 : decode cX8_begin 108 = .ok (.iconst 1, 1) := by decide +kernel
theorem dX8_begin_109 : decode cX8_begin 109 = .ok (.putfield 51, 3) := by decide +kernel
theorem dX8_begin_112 : decode cX8_begin 112 = .ok (.aload_n 0, 1) := by decide +kernel
theorem dX8_begin_113 : decode cX8_begin 113 = .ok (.iconst 0, 1) := by decide +kernel
theorem dX8_begin_114 : decode cX8_begin 114 = .ok (.putfield 28, 3) := by decide +kernel
theorem dX8_begin_117 : decode cX8_begin 117 = .ok (.aload_n 0, 1) := by decide +kernel
theorem dX8_begin_118 : decode cX8_begin 118 = .ok (.sipush 300, 3) := by decide +kernel
theorem dX8_begin_121 : decode cX8_begin 121 = .ok (.iload_n 1, 1) := by decide +kernel
theorem dX8_begin_122 : decode cX8_begin 122 = .ok (.iconst 2, 1) := by decide +kernel
theorem dX8_begin_123 : decode cX8_begin 123 = .ok (.idiv, 1) := by decide +kernel
theorem dX8_begin_124 : decode cX8_begin 124 = .ok (.isub, 1) := by decide +kernel
theorem dX8_begin_125 : decode cX8_begin 125 = .ok (.sipush 300, 3) := by decide +kernel
theorem dX8_begin_128 : decode cX8_begin 128 = .ok (.iload_n 1, 1) := by decide +kernel
theorem dX8_begin_129 : decode cX8_begin 129 = .ok (.iconst 2, 1) := by decide +kernel
theorem dX8_begin_130 : decode cX8_begin 130 = .ok (.idiv, 1) := by decide +kernel
theorem dX8_begin_131 : decode cX8_begin 131 = .ok (.iadd, 1) := by decide +kernel
theorem dX8_begin_132 : decode cX8_begin 132 = .ok (.aload_n 0, 1) := by decide +kernel
theorem dX8_begin_133 : decode cX8_begin 133 = .ok (.getfield 16, 3) := by decide +kernel
theorem dX8_begin_136 : decode cX8_begin 136 = .ok (.iconst 2, 1) := by decide +kernel
theorem dX8_begin_137 : decode cX8_begin 137 = .ok (.iaload, 1) := by decide +kernel
theorem dX8_begin_138 : decode cX8_begin 138 = .ok (.aload_n 0, 1) := by decide +kernel
theorem dX8_begin_139 : decode cX8_begin 139 = .ok (.getfield 16, 3) := by decide +kernel
theorem dX8_begin_142 : decode cX8_begin 142 = .ok (.bipush 13, 2) := by decide +kernel
theorem dX8_begin_144 : decode cX8_begin 144 = .ok (.iaload, 1) := by decide +kernel
theorem dX8_begin_145 : decode cX8_begin 145 = .ok (.invokevirtual 99, 3) := by decide +kernel
theorem dX8_begin_148 : decode cX8_begin 148 = .ok (.aload_n 0, 1) := by decide +kernel
theorem dX8_begin_149 : decode cX8_begin 149 = .ok (.invokevirtual 103, 3) := by decide +kernel
theorem dX8_begin_152 : decode cX8_begin 152 = .ok (.aload_n 0, 1) := by decide +kernel
theorem dX8_begin_153 : decode cX8_begin 153 = .ok (.getfield 96, 3) := by decide +kernel
theorem dX8_begin_156 : decode cX8_begin 156 = .ok (.ireturn, 1) := by decide +kernel
set_option maxRecDepth 20000 in
theorem ggX8_isInput_X8_in : GoodIn wsX8_isInput wsX8_in := goodIn_r _ [5] (by decide +kernel) (by decide +kernel)
set_option maxRecDepth 20000 in
theorem gX8_isInput_X8_in : GoodIn wsX8_isInput (va_wsS RX8 47 yX8_in wsX8_in) := goodIn_app (goodIn_of _ (by decide +kernel)) ggX8_isInput_X8_in
theorem dX8_isInput_0 : decode cX8_isInput 0 = .ok (.iload_n 1, 1) := by decide +kernel
theorem dX8_isInput_1 : decode cX8_isInput 1 = .ok (.iconst 0, 1) := by decide +kernel
theorem dX8_isInput_2 : decode cX8_isInput 2 = .ok (.iconst 4, 1) := by decide +kernel
theorem dX8_isInput_3 : decode cX8_isInput 3 = .ok (.invokestatic 47, 3) := by decide +kernel
theorem dX8_isInput_6 : decode cX8_isInput 6 = .ok (.ifCond .ne 19, 3) := by decide +kernel
theorem dX8_isInput_9 : decode cX8_isInput 9 = .ok (.iload_n 1, 1) := by decide +kernel
theorem dX8_isInput_10 : decode cX8_isInput 10 = .ok (.bipush 10, 2) := by decide +kernel
theorem dX8_isInput_12 : decode cX8_isInput 12 = .ok (.bipush 9, 2) := by decide +kernel
theorem dX8_isInput_14 : decode cX8_isInput 14 = .ok (.aload_n 0, 1) := by decide +kernel
theorem dX8_isInput_15 : decode cX8_isInput 15 = .ok (.getfield 44, 3) := by decide +kernel
theorem dX8_isInput_18 : decode cX8_isInput 18 = .ok (.iadd, 1) := by decide +kernel
theorem dX8_isInput_19 : decode cX8_isInput 19 = .ok (.invokestatic 47, 3) := by decide +kernel
theorem dX8_isInput_22 : decode cX8_isInput 22 = .ok (.ifCond .eq 7, 3) := by decide +kernel
theorem dX8_isInput_25 : decode cX8_isInput 25 = .ok (.iconst 1, 1) := by decide +kernel
theorem dX8_isInput_26 : decode cX8_isInput 26 = .ok (.goto 4, 3) := by decide +kernel
theorem dX8_isInput_29 : decode cX8_isInput 29 = .ok (.iconst 0, 1) := by decide +kernel
theorem dX8_isInput_30 : decode cX8_isInput 30 = .ok (.ireturn, 1) := by decide +kernel
theorem dX8_endRound_0 : decode cX8_endRound 0 = .ok (.aload_n 0, 1) := by decide +kernel
theorem dX8_endRound_1 : decode cX8_endRound 1 = .ok (.iconst 0, 1) := by decide +kernel
theorem dX8_endRound_2 : decode cX8_endRound 2 = .ok (.putfield 51, 3) := by decide +kernel
theorem dX8_endRound_5 : decode cX8_endRound 5 = .ok (.aload_n 0, 1) := by decide +kernel
theorem dX8_endRound_6 : decode cX8_endRound 6 = .ok (.getfield 13, 3) := by decide +kernel
theorem dX8_endRound_9 : decode cX8_endRound 9 = .ok (.iconst 1, 1) := by decide +kernel
theorem dX8_endRound_10 : decode cX8_endRound 10 = .ok (.iaload, 1) := by decide +kernel
theorem dX8_endRound_11 : decode cX8_endRound 11 = .ok (.aload_n 0, 1) := by decide +kernel
theorem dX8_endRound_12 : decode cX8_endRound 12 = .ok (.getfield 13, 3) := by decide +kernel
theorem dX8_endRound_15 : decode cX8_endRound 15 = .ok (.bipush 12, 2) := by decide +kernel
theorem dX8_endRound_17 : decode cX8_endRound 17 = .ok (.iaload, 1) := by decide +kernel
theorem dX8_endRound_18 : decode cX8_endRound 18 = .ok (.if_icmp .le 7, 3) := by decide +kernel
theorem dX8_endRound_21 : decode cX8_endRound 21 = .ok (.iconst 0, 1) := by decide +kernel
theorem dX8_endRound_22 : decode cX8_endRound 22 = .ok (.goto 24, 3) := by decide +kernel
theorem dX8_endRound_25 : decode cX8_endRound 25 = .ok (.aload_n 0, 1) := by decide +kernel
theorem dX8_endRound_26 : decode cX8_endRound 26 = .ok (.getfield 13, 3) := by decide +kernel
theorem dX8_endRound_29 : decode cX8_endRound 29 = .ok (.iconst 1, 1) := by decide +kernel
theorem dX8_endRound_30 : decode cX8_endRound 30 = .ok (.iaload, 1) := by decide +kernel
theorem dX8_endRound_31 : decode cX8_endRound 31 = .ok (.aload_n 0, 1) := by decide +kernel
theorem dX8_endRound_32 : decode cX8_endRound 32 = .ok (.getfield 13, 3) := by decide +kernel
theorem dX8_endRound_35 : decode cX8_endRound 35 = .ok (.bipush 12, 2) := by decide +kernel
theorem dX8_endRound_37 : decode cX8_endRound 37 = .ok (.iaload, 1) := by decide +kernel
theorem dX8_endRound_38 : decode cX8_endRound 38 = .ok (.if_icmp .ge 7, 3) := by decide +kernel
theorem dX8_endRound_41 : decode cX8_endRound 41 = .ok (.iconst 1, 1) := by decide +kernel
theorem dX8_endRound_42 : decode cX8_endRound 42 = .ok (.goto 4, 3) := by decide +kernel
theorem dX8_endRound_45 : decode cX8_endRound 45 = .ok (.iconst (-1), 1) := by decide +kernel
theorem dX8_endRound_46 : decode cX8_endRound 46 = .ok (.istore_n 1, 1) := by decide +kernel
theorem dX8_endRound_47 : decode cX8_endRound 47 = .ok (.iload_n 1, 1) := by decide +kernel
theorem dX8_endRound_48 : decode cX8_endRound 48 = .ok (.iconst (-1), 1) := by decide +kernel
theorem dX8_endRound_49 : decode cX8_endRound 49 = .ok (.if_icmp .eq 32, 3) := by decide +kernel
theorem dX8_endRound_52 : decode cX8_endRound 52 = .ok (.aload_n 0, 1) := by decide +kernel
theorem dX8_endRound_53 : decode cX8_endRound 53 = .ok (.getfield 25, 3) := by decide +kernel
theorem dX8_endRound_56 : decode cX8_endRound 56 = .ok (.iload_n 1, 1) := by decide +kernel
theorem dX8_endRound_57 : decode cX8_endRound 57 = .ok (.dup2, 1) := by decide +kernel
theorem dX8_endRound_58 : decode cX8_endRound 58 = .ok (.iaload, 1) := by decide +kernel
theorem dX8_endRound_59 : decode cX8_endRound 59 = .ok (.iconst 1, 1) := by decide +kernel
theorem dX8_endRound_60 : decode cX8_endRound 60 = .ok (.iadd, 1) := by decide +kernel
theorem dX8_endRound_61 : decode cX8_endRound 61 = .ok (.iastore, 1) := by decide +kernel
theorem dX8_endRound_62 : decode cX8_endRound 62 = .ok (.aload_n 0, 1) := by decide +kernel
theorem dX8_endRound_63 : decode cX8_endRound 63 = .ok (.aload_n 0, 1) := by decide +kernel
theorem dX8_endRound_64 : decode cX8_endRound 64 = .ok (.getfield 25, 3) := by decide +kernel
theorem dX8_endRound_67 : decode cX8_endRound 67 = .ok (.iload_n 1, 1) := by decide +kernel
theorem dX8_endRound_68 : decode cX8_endRound 68 = .ok (.iaload, 1) := by decide +kernel
theorem dX8_endRound_69 : decode cX8_endRound 69 = .ok (.iconst 2, 1) := by decide +kernel
theorem dX8_endRound_70 : decode cX8_endRound 70 = .ok (.if_icmp .ne 7, 3) := by decide +kernel
theorem dX8_endRound_73 : decode cX8_endRound 73 = .ok (.iload_n 1, 1) := by decide +kernel
theorem dX8_endRound_74 : decode cX8_endRound 74 = .ok (.goto 4, 3) := by decide +kernel
theorem dX8_endRound_77 : decode cX8_endRound 77 = .ok (.iconst (-1), 1) := by decide +kernel
theorem dX8_endRound_78 : decode cX8_endRound 78 = .ok (.putfield 32, 3) := by decide +kernel
theorem dX8_endRound_81 : decode cX8_endRound 81 = .ok (.return_, 1) := by decide +kernel
set_option maxRecDepth 20000 in
theorem ggX8_play_X8_in : GoodIn wsX8_play wsX8_in := goodIn_r _ [7] (by decide +kernel) (by decide +kernel)
set_option maxRecDepth 20000 in
theorem gX8_play_X8_in : GoodIn wsX8_play (va_wsS RX8 47 yX8_in wsX8_in) := goodIn_app (goodIn_of _ (by decide +kernel)) ggX8_play_X8_in
set_option maxRecDepth 20000 in
theorem ggX8_play_X8_isInput : GoodIn wsX8_play wsX8_isInput := goodIn_r _ [11, 12, 4, 5, 6, 7, 76, 77, 78, 79, 80, 81, 82, 83, 84, 85, 86, 87, 88, 89, 90, 91, 92] (by decide +kernel) (by decide +kernel)
set_option maxRecDepth 20000 in
theorem gX8_play_X8_isInput : GoodIn wsX8_play (wsV RX8 106 RX8 yX8_isInput wsX8_isInput) := goodIn_app (goodIn_of _ (by decide +kernel)) ggX8_play_X8_isInput
set_option maxRecDepth 20000 in
theorem ggX8_play_X8_isFine : GoodIn wsX8_play wsX8_isFine := goodIn_r _ [16, 17, 76, 77, 78, 79, 80, 81, 82, 83, 84, 85, 86, 87, 88, 89, 90, 91, 92] (by decide +kernel) (by decide +kernel)
set_option maxRecDepth 20000 in
theorem gX8_play_X8_isFine : GoodIn wsX8_play (wsV RX8 55 RX8 yX8_isFine wsX8_isFine) := goodIn_app (goodIn_of _ (by decide +kernel)) ggX8_play_X8_isFine
set_option maxRecDepth 20000 in
theorem ggX8_play_X8_load : GoodIn wsX8_play wsX8_load := goodIn_r _ [21, 3, 22, 76, 77, 78, 79, 80, 81, 82, 83, 84, 85, 86, 87, 88, 89, 90, 91, 92] (by decide +kernel) (by decide +kernel)
set_option maxRecDepth 20000 in
theorem gX8_play_X8_load : GoodIn wsX8_play (wsV RX8 109 RX8 yX8_load wsX8_load) := goodIn_app (goodIn_of _ (by decide +kernel)) ggX8_play_X8_load
set_option maxRecDepth 20000 in
theorem ggX8_play_X8_frame : GoodIn wsX8_play wsX8_frame := goodIn_r _ [26, 27, 28, 29, 30, 6, 31, 3, 32, 33, 34, 35, 36, 37, 38, 39, 40, 41, 42, 43, 44, 45, 46, 47, 48, 49, 50, 51, 52, 53, 54, 55, 56, 57, 58, 59, 60, 61, 62, 63, 64, 76, 77, 78, 79, 80, 81, 82, 83, 84, 85, 86, 87, 88, 89, 90, 91, 92] (by decide +kernel) (by decide +kernel)
set_option maxRecDepth 20000 in
theorem gX8_play_X8_frame : GoodIn wsX8_play (wsV RX8 112 RX8 yX8_frame wsX8_frame) := goodIn_app (goodIn_of _ (by decide +kernel)) ggX8_play_X8_frame
set_option maxRecDepth 20000 in
theorem ggX8_play_X8_store : GoodIn wsX8_play wsX8_store := goodIn_r _ [68, 22, 3, 69, 2, 76, 77, 78, 79, 80, 81, 82, 83, 84, 85, 86, 87, 88, 89, 90, 91, 92] (by decide +kernel) (by decide +kernel)
set_option maxRecDepth 20000 in
theorem gX8_play_X8_store : GoodIn wsX8_play (wsV RX8 103 RX8 yX8_store wsX8_store) := goodIn_app (goodIn_of _ (by decide +kernel)) ggX8_play_X8_store
set_option maxRecDepth 20000 in
theorem ggX8_play_X8_endRound : GoodIn wsX8_play wsX8_endRound := goodIn_r _ [73, 1, 3, 74, 75, 76, 77, 78, 79, 80, 81, 82, 83, 84, 85, 86, 87, 88, 89, 90, 91, 92] (by decide +kernel) (by decide +kernel)
set_option maxRecDepth 20000 in
theorem gX8_play_X8_endRound : GoodIn wsX8_play (wsV RX8 115 RX8 yX8_endRound wsX8_endRound) := goodIn_app (goodIn_of _ (by decide +kernel)) ggX8_play_X8_endRound
theorem dX8_play_0 : decode cX8_play 0 = .ok (.aload_n 0, 1) := by decide +kernel
theorem dX8_play_1 : decode cX8_play 1 = .ok (.iload_n 1, 1) := by decide +kernel
theorem dX8_play_2 : decode cX8_play 2 = .ok (.iconst 1, 1) := by decide +kernel
theorem dX8_play_3 : decode cX8_play 3 = .ok (.bipush 60, 2) := by decide +kernel
theorem dX8_play_5 : decode cX8_play 5 = .ok (.invokestatic 47, 3) := by decide +kernel
theorem dX8_play_8 : decode cX8_play 8 = .ok (.ifCond .eq 19, 3) := by decide +kernel
theorem dX8_play_11 : decode cX8_play 11 = .ok (.aload_n 0, 1) := by decide +kernel
theorem dX8_play_12 : decode cX8_play 12 = .ok (.iload_n 2, 1) := by decide +kernel
theorem dX8_play_13 : decode cX8_play 13 = .ok (.invokevirtual 106, 3) := by decide +kernel
theorem dX8_play_16 : decode cX8_play 16 = .ok (.ifCond .eq 11, 3) := by decide +kernel
theorem dX8_play_19 : decode cX8_play 19 = .ok (.aload_n 0, 1) := by decide +kernel
theorem dX8_play_20 : decode cX8_play 20 = .ok (.iload_n 3, 1) := by decide +kernel
theorem dX8_play_21 : decode cX8_play 21 = .ok (.invokevirtual 106, 3) := by decide +kernel
theorem dX8_play_24 : decode cX8_play 24 = .ok (.ifCond .ne 7, 3) := by decide +kernel
theorem dX8_play_27 : decode cX8_play 27 = .ok (.iconst 1, 1) := by decide +kernel
theorem dX8_play_28 : decode cX8_play 28 = .ok (.goto 15, 3) := by decide +kernel
theorem dX8_play_31 : decode cX8_play 31 = .ok (.aload_n 0, 1) := by decide +kernel
theorem dX8_play_32 : decode cX8_play 32 = .ok (.getfield 51, 3) := by decide +kernel
theorem dX8_play_35 : decode cX8_play 35 = .ok (.ifCond .eq 7, 3) := by decide +kernel
theorem dX8_play_38 : decode cX8_play 38 = .ok (.iconst 0, 1) := by decide +kernel
theorem dX8_play_39 : decode cX8_play 39 = .ok (.goto 4, 3) := by decide +kernel
theorem dX8_play_42 : decode cX8_play 42 = .ok (.iconst 2, 1) := by decide +kernel
theorem dX8_play_43 : decode cX8_play 43 = .ok (.invokevirtual 55, 3) := by decide +kernel
theorem dX8_play_46 : decode cX8_play 46 = .ok (.ifCond .ne 5, 3) := by decide +kernel
theorem dX8_play_49 : decode cX8_play 49 = .ok (.iconst 0, 1) := by decide +kernel
theorem dX8_play_50 : decode cX8_play 50 = .ok (.ireturn, 1) := by decide +kernel
theorem dX8_play_51 : decode cX8_play 51 = .ok (.aload_n 0, 1) := by decide +kernel
theorem dX8_play_52 : decode cX8_play 52 = .ok (.invokevirtual 109, 3) := by decide +kernel
theorem dX8_play_55 : decode cX8_play 55 = .ok (.iconst 0, 1) := by decide +kernel
theorem dX8_play_56 : decode cX8_play 56 = .ok (.istore 4, 2) := by decide +kernel
theorem dX8_play_58 : decode cX8_play 58 = .ok (.iload 4, 2) := by decide +kernel
theorem dX8_play_60 : decode cX8_play 60 = .ok (.iload_n 1, 1) := by decide +kernel
theorem dX8_play_61 : decode cX8_play 61 = .ok (.if_icmp .ge 69, 3) := by decide +kernel
theorem dX8_play_64 : decode cX8_play 64 = .ok (.aload_n 0, 1) := by decide +kernel
theorem dX8_play_65 : decode cX8_play 65 = .ok (.getfield 51, 3) := by decide +kernel
theorem dX8_play_68 : decode cX8_play 68 = .ok (.ifCond .eq 62, 3) := by decide +kernel
theorem dX8_play_71 : decode cX8_play 71 = .ok (.aload_n 0, 1) := by decide +kernel
theorem dX8_play_72 : decode cX8_play 72 = .ok (.iload_n 2, 1) := by decide +kernel
theorem dX8_play_73 : decode cX8_play 73 = .ok (.iload_n 3, 1) := by decide +kernel
theorem dX8_play_74 : decode cX8_play 74 = .ok (.invokevirtual 112, 3) := by decide +kernel
theorem dX8_play_77 : decode cX8_play 77 = .ok (.aload_n 0, 1) := by decide +kernel
theorem dX8_play_78 : decode cX8_play 78 = .ok (.dup, 1) := by decide +kernel
theorem dX8_play_79 : decode cX8_play 79 = .ok (.getfield 28, 3) := by decide +kernel
theorem dX8_play_82 : decode cX8_play 82 = .ok (.iconst 1, 1) := by decide +kernel
theorem dX8_play_83 : decode cX8_play 83 = .ok (.iadd, 1) := by decide +kernel
theorem dX8_play_84 : decode cX8_play 84 = .ok (.putfield 28, 3) := by decide +kernel
theorem dX8_play_87 : decode cX8_play 87 = .ok (.aload_n 0, 1) := by decide +kernel
theorem dX8_play_88 : decode cX8_play 88 = .ok (.invokevirtual 103, 3) := by decide +kernel
theorem dX8_play_91 : decode cX8_play 91 = .ok (.aload_n 0, 1) := by decide +kernel
theorem dX8_play_92 : decode cX8_play 92 = .ok (.getfield 13, 3) := by decide +kernel
theorem dX8_play_95 : decode cX8_play 95 = .ok (.iconst 1, 1) := by decide +kernel
theorem dX8_play_96 : decode cX8_play 96 = .ok (.iaload, 1) := by decide +kernel
theorem dX8_play_97 : decode cX8_play 97 = .ok (.ifCond .le 23, 3) := by decide +kernel
theorem dX8_play_100 : decode cX8_play 100 = .ok (.aload_n 0, 1) := by decide +kernel
theorem dX8_play_101 : decode cX8_play 101 = .ok (.getfield 13, 3) := by decide +kernel
theorem dX8_play_104 : decode cX8_play 104 = .ok (.bipush 12, 2) := by decide +kernel
theorem dX8_play_106 : decode cX8_play 106 = .ok (.iaload, 1) := by decide +kernel
theorem dX8_play_107 : decode cX8_play 107 = .ok (.ifCond .le 13, 3) := by decide +kernel
theorem dX8_play_110 : decode cX8_play 110 = .ok (.aload_n 0, 1) := by decide +kernel
theorem dX8_play_111 : decode cX8_play 111 = .ok (.getfield 28, 3) := by decide +kernel
theorem dX8_play_114 : decode cX8_play 114 = .ok (.sipush 600, 3) := by decide +kernel
theorem dX8_play_117 : decode cX8_play 117 = .ok (.if_icmp .ne 7, 3) := by decide +kernel
theorem dX8_play_120 : decode cX8_play 120 = .ok (.aload_n 0, 1) := by decide +kernel
theorem dX8_play_121 : decode cX8_play 121 = .ok (.invokevirtual 115, 3) := by decide +kernel
theorem dX8_play_124 : decode cX8_play 124 = .ok (.iinc 4 1, 3) := by decide +kernel
theorem dX8_play_127 : decode cX8_play 127 = .ok (.goto (-69), 3) := by decide +kernel
theorem dX8_play_130 : decode cX8_play 130 = .ok (.aload_n 0, 1) := by decide +kernel
theorem dX8_play_131 : decode cX8_play 131 = .ok (.getfield 28, 3) := by decide +kernel
theorem dX8_play_134 : decode cX8_play 134 = .ok (.ireturn, 1) := by decide +kernel
set_option maxRecDepth 20000 in
theorem ggX8_of_X8_in : GoodIn wsX8_of wsX8_in := goodIn_r _ [6] (by decide +kernel) (by decide +kernel)
set_option maxRecDepth 20000 in
theorem gX8_of_X8_in : GoodIn wsX8_of (va_wsS RX8 47 yX8_in wsX8_in) := goodIn_app (goodIn_of _ (by decide +kernel)) ggX8_of_X8_in
set_option maxRecDepth 20000 in
theorem ggX8_of_X8_isFine : GoodIn wsX8_of wsX8_isFine := goodIn_r _ [10, 11, 12, 13, 14, 15, 16, 17, 18, 19, 20, 21, 22, 23, 24, 25, 26, 27, 28] (by decide +kernel) (by decide +kernel)
set_option maxRecDepth 20000 in
theorem gX8_of_X8_isFine : GoodIn wsX8_of (wsV RX8 55 RX8 yX8_isFine wsX8_isFine) := goodIn_app (goodIn_of _ (by decide +kernel)) ggX8_of_X8_isFine
theorem dX8_of_0 : decode cX8_of 0 = .ok (.aload_n 0, 1) := by decide +kernel
theorem dX8_of_1 : decode cX8_of 1 = .ok (.iload_n 1, 1) := by decide +kernel
theorem dX8_of_2 : decode cX8_of 2 = .ok (.iconst 0, 1) := by decide +kernel
theorem dX8_of_3 : decode cX8_of 3 = .ok (.iconst 1, 1) := by decide +kernel
theorem dX8_of_4 : decode cX8_of 4 = .ok (.invokestatic 47, 3) := by decide +kernel
theorem dX8_of_7 : decode cX8_of 7 = .ok (.ifCond .ne 7, 3) := by decide +kernel
theorem dX8_of_10 : decode cX8_of 10 = .ok (.iconst 1, 1) := by decide +kernel
theorem dX8_of_11 : decode cX8_of 11 = .ok (.goto 18, 3) := by decide +kernel
theorem dX8_of_14 : decode cX8_of 14 = .ok (.iload_n 2, 1) := by decide +kernel
theorem dX8_of_15 : decode cX8_of 15 = .ok (.iconst 0, 1) := by decide +kernel
theorem dX8_of_16 : decode cX8_of 16 = .ok (.bipush 7, 2) := by decide +kernel
theorem dX8_of_18 : decode cX8_of 18 = .ok (.invokestatic 47, 3) := by decide +kernel
theorem dX8_of_21 : decode cX8_of 21 = .ok (.ifCond .eq 7, 3) := by decide +kernel
theorem dX8_of_24 : decode cX8_of 24 = .ok (.iconst 0, 1) := by decide +kernel
theorem dX8_of_25 : decode cX8_of 25 = .ok (.goto 4, 3) := by decide +kernel
theorem dX8_of_28 : decode cX8_of 28 = .ok (.iconst 2, 1) := by decide +kernel
theorem dX8_of_29 : decode cX8_of 29 = .ok (.invokevirtual 55, 3) := by decide +kernel
theorem dX8_of_32 : decode cX8_of 32 = .ok (.ifCond .ne 5, 3) := by decide +kernel
theorem dX8_of_35 : decode cX8_of 35 = .ok (.iconst 0, 1) := by decide +kernel
theorem dX8_of_36 : decode cX8_of 36 = .ok (.ireturn, 1) := by decide +kernel
theorem dX8_of_37 : decode cX8_of 37 = .ok (.iload_n 2, 1) := by decide +kernel
theorem dX8_of_38 : decode cX8_of 38 = .ok (.bipush 7, 2) := by decide +kernel
theorem dX8_of_40 : decode cX8_of 40 = .ok (.if_icmp .ne 12, 3) := by decide +kernel
theorem dX8_of_43 : decode cX8_of 43 = .ok (.aload_n 0, 1) := by decide +kernel
theorem dX8_of_44 : decode cX8_of 44 = .ok (.getfield 25, 3) := by decide +kernel
theorem dX8_of_47 : decode cX8_of 47 = .ok (.iload_n 1, 1) := by decide +kernel
theorem dX8_of_48 : decode cX8_of 48 = .ok (.iaload, 1) := by decide +kernel
theorem dX8_of_49 : decode cX8_of 49 = .ok (.goto 14, 3) := by decide +kernel
theorem dX8_of_52 : decode cX8_of 52 = .ok (.aload_n 0, 1) := by decide +kernel
theorem dX8_of_53 : decode cX8_of 53 = .ok (.getfield 16, 3) := by decide +kernel
theorem dX8_of_56 : decode cX8_of 56 = .ok (.bipush 11, 2) := by decide +kernel
theorem dX8_of_58 : decode cX8_of 58 = .ok (.iload_n 1, 1) := by decide +kernel
theorem dX8_of_59 : decode cX8_of 59 = .ok (.imul, 1) := by decide +kernel
theorem dX8_of_60 : decode cX8_of 60 = .ok (.iload_n 2, 1) := by decide +kernel
theorem dX8_of_61 : decode cX8_of 61 = .ok (.iadd, 1) := by decide +kernel
theorem dX8_of_62 : decode cX8_of 62 = .ok (.iaload, 1) := by decide +kernel
theorem dX8_of_63 : decode cX8_of 63 = .ok (.ireturn, 1) := by decide +kernel
set_option maxRecDepth 20000 in
theorem ggX8_again_X8_in : GoodIn wsX8_again wsX8_in := goodIn_r _ [6] (by decide +kernel) (by decide +kernel)
set_option maxRecDepth 20000 in
theorem gX8_again_X8_in : GoodIn wsX8_again (va_wsS RX8 47 yX8_in wsX8_in) := goodIn_app (goodIn_of _ (by decide +kernel)) ggX8_again_X8_in
set_option maxRecDepth 20000 in
theorem ggX8_again_X8_isFine : GoodIn wsX8_again wsX8_isFine := goodIn_r _ [10, 11, 12, 13, 14, 15, 16, 17, 18, 19, 20, 21, 22, 23, 24, 25, 26, 27, 28] (by decide +kernel) (by decide +kernel)
set_option maxRecDepth 20000 in
theorem gX8_again_X8_isFine : GoodIn wsX8_again (wsV RX8 55 RX8 yX8_isFine wsX8_isFine) := goodIn_app (goodIn_of _ (by decide +kernel)) ggX8_again_X8_isFine
theorem dX8_again_0 : decode cX8_again 0 = .ok (.aload_n 0, 1) := by decide +kernel
theorem dX8_again_1 : decode cX8_again 1 = .ok (.iload_n 1, 1) := by decide +kernel
theorem dX8_again_2 : decode cX8_again 2 = .ok (.iconst 0, 1) := by decide +kernel
theorem dX8_again_3 : decode cX8_again 3 = .ok (.aload_n 0, 1) := by decide +kernel
theorem dX8_again_4 : decode cX8_again 4 = .ok (.getfield 28, 3) := by decide +kernel
theorem dX8_again_7 : decode cX8_again 7 = .ok (.invokestatic 47, 3) := by decide +kernel
theorem dX8_again_10 : decode cX8_again 10 = .ok (.ifCond .eq 12, 3) := by decide +kernel
theorem dX8_again_13 : decode cX8_again 13 = .ok (.iload_n 2, 1) := by decide +kernel
theorem dX8_again_14 : decode cX8_again 14 = .ok (.iconst 0, 1) := by decide +kernel
theorem dX8_again_15 : decode cX8_again 15 = .ok (.iconst 1, 1) := by decide +kernel
theorem dX8_again_16 : decode cX8_again 16 = .ok (.invokestatic 47, 3) := by decide +kernel
theorem dX8_again_19 : decode cX8_again 19 = .ok (.ifCond .ne 7, 3) := by decide +kernel
theorem dX8_again_22 : decode cX8_again 22 = .ok (.iconst 1, 1) := by decide +kernel
theorem dX8_again_23 : decode cX8_again 23 = .ok (.goto 18, 3) := by decide +kernel
theorem dX8_again_26 : decode cX8_again 26 = .ok (.iload_n 3, 1) := by decide +kernel
theorem dX8_again_27 : decode cX8_again 27 = .ok (.iconst 0, 1) := by decide +kernel
theorem dX8_again_28 : decode cX8_again 28 = .ok (.bipush 6, 2) := by decide +kernel
theorem dX8_again_30 : decode cX8_again 30 = .ok (.invokestatic 47, 3) := by decide +kernel
theorem dX8_again_33 : decode cX8_again 33 = .ok (.ifCond .eq 7, 3) := by decide +kernel
theorem dX8_again_36 : decode cX8_again 36 = .ok (.iconst 0, 1) := by decide +kernel
theorem dX8_again_37 : decode cX8_again 37 = .ok (.goto 4, 3) := by decide +kernel
theorem dX8_again_40 : decode cX8_again 40 = .ok (.iconst 2, 1) := by decide +kernel
theorem dX8_again_41 : decode cX8_again 41 = .ok (.invokevirtual 55, 3) := by decide +kernel
theorem dX8_again_44 : decode cX8_again 44 = .ok (.ifCond .ne 5, 3) := by decide +kernel
theorem dX8_again_47 : decode cX8_again 47 = .ok (.iconst 0, 1) := by decide +kernel
theorem dX8_again_48 : decode cX8_again 48 = .ok (.ireturn, 1) := by decide +kernel
theorem dX8_again_49 : decode cX8_again 49 = .ok (.aload_n 0, 1) := by decide +kernel
theorem dX8_again_50 : decode cX8_again 50 = .ok (.getfield 22, 3) := by decide +kernel
theorem dX8_again_53 : decode cX8_again 53 = .ok (.bipush 14, 2) := by decide +kernel
theorem dX8_again_55 : decode cX8_again 55 = .ok (.iload_n 1, 1) := by decide +kernel
theorem dX8_again_56 : decode cX8_again 56 = .ok (.imul, 1) := by decide +kernel
theorem dX8_again_57 : decode cX8_again 57 = .ok (.bipush 7, 2) := by decide +kernel
theorem dX8_again_59 : decode cX8_again 59 = .ok (.iload_n 2, 1) := by decide +kernel
theorem dX8_again_60 : decode cX8_again 60 = .ok (.imul, 1) := by decide +kernel
theorem dX8_again_61 : decode cX8_again 61 = .ok (.iadd, 1) := by decide +kernel
theorem dX8_again_62 : decode cX8_again 62 = .ok (.iload_n 3, 1) := by decide +kernel
theorem dX8_again_63 : decode cX8_again 63 = .ok (.iadd, 1) := by decide +kernel
theorem dX8_again_64 : decode cX8_again 64 = .ok (.iaload, 1) := by decide +kernel
theorem dX8_again_65 : decode cX8_again 65 = .ok (.ireturn, 1) := by decide +kernel
set_option maxRecDepth 20000 in
theorem ggX8_goesOn_X8_isFine : GoodIn wsX8_goesOn wsX8_isFine := goodIn_r _ [6, 7, 8, 9, 10, 11, 12, 13, 14, 15, 16, 17, 18, 19, 20, 21, 22, 23, 24] (by decide +kernel) (by decide +kernel)
set_option maxRecDepth 20000 in
theorem gX8_goesOn_X8_isFine : GoodIn wsX8_goesOn (wsV RX8 55 RX8 yX8_isFine wsX8_isFine) := goodIn_app (goodIn_of _ (by decide +kernel)) ggX8_goesOn_X8_isFine
theorem dX8_goesOn_0 : decode cX8_goesOn 0 = .ok (.aload_n 0, 1) := by decide +kernel
theorem dX8_goesOn_1 : decode cX8_goesOn 1 = .ok (.iconst 0, 1) := by decide +kernel
theorem dX8_goesOn_2 : decode cX8_goesOn 2 = .ok (.invokevirtual 55, 3) := by decide +kernel
theorem dX8_goesOn_5 : decode cX8_goesOn 5 = .ok (.pop, 1) := by decide +kernel
theorem dX8_goesOn_6 : decode cX8_goesOn 6 = .ok (.aload_n 0, 1) := by decide +kernel
theorem dX8_goesOn_7 : decode cX8_goesOn 7 = .ok (.getfield 51, 3) := by decide +kernel
theorem dX8_goesOn_10 : decode cX8_goesOn 10 = .ok (.ireturn, 1) := by decide +kernel
set_option maxRecDepth 20000 in
theorem ggX8_winner_X8_isFine : GoodIn wsX8_winner wsX8_isFine := goodIn_r _ [6, 7, 8, 9, 10, 11, 12, 13, 14, 15, 16, 17, 18, 19, 20, 21, 22, 23, 24] (by decide +kernel) (by decide +kernel)
set_option maxRecDepth 20000 in
theorem gX8_winner_X8_isFine : GoodIn wsX8_winner (wsV RX8 55 RX8 yX8_isFine wsX8_isFine) := goodIn_app (goodIn_of _ (by decide +kernel)) ggX8_winner_X8_isFine
theorem dX8_winner_0 : decode cX8_winner 0 = .ok (.aload_n 0, 1) := by decide +kernel
theorem dX8_winner_1 : decode cX8_winner 1 = .ok (.iconst 0, 1) := by decide +kernel
theorem dX8_winner_2 : decode cX8_winner 2 = .ok (.invokevirtual 55, 3) := by decide +kernel
theorem dX8_winner_5 : decode cX8_winner 5 = .ok (.pop, 1) := by decide +kernel
theorem dX8_winner_6 : decode cX8_winner 6 = .ok (.aload_n 0, 1) := by decide +kernel
theorem dX8_winner_7 : decode cX8_winner 7 = .ok (.getfield 32, 3) := by decide +kernel
theorem dX8_winner_10 : decode cX8_winner 10 = .ok (.ireturn, 1) := by decide +kernel
set_option maxRecDepth 20000 in
theorem ggX8_blocking_X8_ofMove : GoodIn wsX8_blocking wsX8_ofMove := goodIn_r _ [5, 6, 7, 8, 9, 10, 11, 12, 13, 14, 15, 16, 17, 18, 19, 20, 21, 22, 23] (by decide +kernel) (by decide +kernel)
set_option maxRecDepth 20000 in
theorem gX8_blocking_X8_ofMove : GoodIn wsX8_blocking (wsV RX8 62 RX8 yX8_ofMove wsX8_ofMove) := goodIn_app (goodIn_of _ (by decide +kernel)) ggX8_blocking_X8_ofMove
theorem dX8_blocking_0 : decode cX8_blocking 0 = .ok (.iload_n 2, 1) := by decide +kernel
theorem dX8_blocking_1 : decode cX8_blocking 1 = .ok (.aload_n 0, 1) := by decide +kernel
theorem dX8_blocking_2 : decode cX8_blocking 2 = .ok (.iload_n 1, 1) := by decide +kernel
theorem dX8_blocking_3 : decode cX8_blocking 3 = .ok (.iconst 0, 1) := by decide +kernel
theorem dX8_blocking_4 : decode cX8_blocking 4 = .ok (.invokevirtual 62, 3) := by decide +kernel
theorem dX8_blocking_7 : decode cX8_blocking 7 = .ok (.if_icmp .ge 7, 3) := by decide +kernel
theorem dX8_blocking_10 : decode cX8_blocking 10 = .ok (.iconst 0, 1) := by decide +kernel
theorem dX8_blocking_11 : decode cX8_blocking 11 = .ok (.goto 18, 3) := by decide +kernel
theorem dX8_blocking_14 : decode cX8_blocking 14 = .ok (.aload_n 0, 1) := by decide +kernel
theorem dX8_blocking_15 : decode cX8_blocking 15 = .ok (.iload_n 1, 1) := by decide +kernel
theorem dX8_blocking_16 : decode cX8_blocking 16 = .ok (.iconst 4, 1) := by decide +kernel
theorem dX8_blocking_17 : decode cX8_blocking 17 = .ok (.invokevirtual 62, 3) := by decide +kernel
theorem dX8_blocking_20 : decode cX8_blocking 20 = .ok (.iconst 1, 1) := by decide +kernel
theorem dX8_blocking_21 : decode cX8_blocking 21 = .ok (.if_icmp .ne 7, 3) := by decide +kernel
theorem dX8_blocking_24 : decode cX8_blocking 24 = .ok (.iconst 4, 1) := by decide +kernel
theorem dX8_blocking_25 : decode cX8_blocking 25 = .ok (.goto 4, 3) := by decide +kernel
theorem dX8_blocking_28 : decode cX8_blocking 28 = .ok (.iconst 2, 1) := by decide +kernel
theorem dX8_blocking_29 : decode cX8_blocking 29 = .ok (.ireturn, 1) := by decide +kernel
set_option maxRecDepth 20000 in
theorem ggX8_advantage_X8_isMove : GoodIn wsX8_advantage wsX8_isMove := goodIn_r _ [6, 7, 8, 9, 5, 10, 66, 67, 68, 69, 70, 71, 72, 73, 74, 75, 76, 77, 78, 79, 80, 81, 82] (by decide +kernel) (by decide +kernel)
set_option maxRecDepth 20000 in
theorem gX8_advantage_X8_isMove : GoodIn wsX8_advantage (wsV RX8 59 RX8 yX8_isMove wsX8_isMove) := goodIn_app (goodIn_of _ (by decide +kernel)) ggX8_advantage_X8_isMove
set_option maxRecDepth 20000 in
theorem ggX8_advantage_X8_isFine : GoodIn wsX8_advantage wsX8_isFine := goodIn_r _ [14, 15, 66, 67, 68, 69, 70, 71, 72, 73, 74, 75, 76, 77, 78, 79, 80, 81, 82] (by decide +kernel) (by decide +kernel)
set_option maxRecDepth 20000 in
theorem gX8_advantage_X8_isFine : GoodIn wsX8_advantage (wsV RX8 55 RX8 yX8_isFine wsX8_isFine) := goodIn_app (goodIn_of _ (by decide +kernel)) ggX8_advantage_X8_isFine
set_option maxRecDepth 20000 in
theorem ggX8_advantage_X8_lay : GoodIn wsX8_advantage wsX8_lay := goodIn_r _ [19, 1, 66, 67, 68, 69, 70, 71, 72, 73, 74, 75, 76, 77, 78, 79, 80, 81, 82] (by decide +kernel) (by decide +kernel)
set_option maxRecDepth 20000 in
theorem gX8_advantage_X8_lay : GoodIn wsX8_advantage (wsV RX8 99 RX8 yX8_lay wsX8_lay) := goodIn_app (goodIn_of _ (by decide +kernel)) ggX8_advantage_X8_lay
set_option maxRecDepth 20000 in
theorem ggX8_advantage_X8_blocking : GoodIn wsX8_advantage wsX8_blocking := goodIn_r _ [23, 24, 25, 26, 5, 27, 28, 66, 67, 68, 69, 70, 71, 72, 73, 74, 75, 76, 77, 78, 79, 80, 81, 82] (by decide +kernel) (by decide +kernel)
set_option maxRecDepth 20000 in
theorem gX8_advantage_X8_blocking : GoodIn wsX8_advantage (wsV RX8 118 RX8 yX8_blocking wsX8_blocking) := goodIn_app (goodIn_of _ (by decide +kernel)) ggX8_advantage_X8_blocking
set_option maxRecDepth 20000 in
theorem ggX8_advantage_X8_frame : GoodIn wsX8_advantage wsX8_frame := goodIn_r _ [32, 33, 34, 35, 36, 5, 37, 1, 38, 39, 40, 41, 24, 25, 26, 27, 28, 42, 43, 44, 45, 46, 47, 48, 49, 50, 51, 52, 53, 54, 55, 56, 57, 58, 59, 60, 61, 62, 63, 64, 65, 66, 67, 68, 69, 70, 71, 72, 73, 74, 75, 76, 77, 78, 79, 80, 81, 82] (by decide +kernel) (by decide +kernel)
set_option maxRecDepth 20000 in
theorem gX8_advantage_X8_frame : GoodIn wsX8_advantage (wsV RX8 112 RX8 yX8_frame wsX8_frame) := goodIn_app (goodIn_of _ (by decide +kernel)) ggX8_advantage_X8_frame
theorem dX8_advantage_0 : decode cX8_advantage 0 = .ok (.aload_n 0, 1) := by decide +kernel
theorem dX8_advantage_1 : decode cX8_advantage 1 = .ok (.aload_n 0, 1) := by decide +kernel
theorem dX8_advantage_2 : decode cX8_advantage 2 = .ok (.iload_n 1, 1) := by decide +kernel
theorem dX8_advantage_3 : decode cX8_advantage 3 = .ok (.invokevirtual 59, 3) := by decide +kernel
theorem dX8_advantage_6 : decode cX8_advantage 6 = .ok (.ifCond .eq 7, 3) := by decide +kernel
theorem dX8_advantage_9 : decode cX8_advantage 9 = .ok (.iconst 0, 1) := by decide +kernel
theorem dX8_advantage_10 : decode cX8_advantage 10 = .ok (.goto 4, 3) := by decide +kernel
theorem dX8_advantage_13 : decode cX8_advantage 13 = .ok (.iconst 1, 1) := by decide +kernel
theorem dX8_advantage_14 : decode cX8_advantage 14 = .ok (.invokevirtual 55, 3) := by decide +kernel
theorem dX8_advantage_17 : decode cX8_advantage 17 = .ok (.ifCond .ne 5, 3) := by decide +kernel
theorem dX8_advantage_20 : decode cX8_advantage 20 = .ok (.iconst 0, 1) := by decide +kernel
theorem dX8_advantage_21 : decode cX8_advantage 21 = .ok (.ireturn, 1) := by decide +kernel
theorem dX8_advantage_22 : decode cX8_advantage 22 = .ok (.aload_n 0, 1) := by decide +kernel
theorem dX8_advantage_23 : decode cX8_advantage 23 = .ok (.sipush 290, 3) := by decide +kernel
theorem dX8_advantage_26 : decode cX8_advantage 26 = .ok (.sipush 310, 3) := by decide +kernel
theorem dX8_advantage_29 : decode cX8_advantage 29 = .ok (.bipush 100, 2) := by decide +kernel
theorem dX8_advantage_31 : decode cX8_advantage 31 = .ok (.bipush 100, 2) := by decide +kernel
theorem dX8_advantage_33 : decode cX8_advantage 33 = .ok (.invokevirtual 99, 3) := by decide +kernel
theorem dX8_advantage_36 : decode cX8_advantage 36 = .ok (.iconst 0, 1) := by decide +kernel
theorem dX8_advantage_37 : decode cX8_advantage 37 = .ok (.istore_n 3, 1) := by decide +kernel
theorem dX8_advantage_38 : decode cX8_advantage 38 = .ok (.iconst 0, 1) := by decide +kernel
theorem dX8_advantage_39 : decode cX8_advantage 39 = .ok (.istore 4, 2) := by decide +kernel
theorem dX8_advantage_41 : decode cX8_advantage 41 = .ok (.iconst 0, 1) := by decide +kernel
theorem dX8_advantage_42 : decode cX8_advantage 42 = .ok (.istore 5, 2) := by decide +kernel
theorem dX8_advantage_44 : decode cX8_advantage 44 = .ok (.iload 5, 2) := by decide +kernel
theorem dX8_advantage_46 : decode cX8_advantage 46 = .ok (.sipush 200, 3) := by decide +kernel
theorem dX8_advantage_49 : decode cX8_advantage 49 = .ok (.if_icmp .ge 80, 3) := by decide +kernel
theorem dX8_advantage_52 : decode cX8_advantage 52 = .ok (.aload_n 0, 1) := by decide +kernel
theorem dX8_advantage_53 : decode cX8_advantage 53 = .ok (.iload 5, 2) := by decide +kernel
theorem dX8_advantage_55 : decode cX8_advantage 55 = .ok (.ifCond .ne 10, 3) := by decide +kernel
theorem dX8_advantage_58 : decode cX8_advantage 58 = .ok (.bipush 10, 2) := by decide +kernel
theorem dX8_advantage_60 : decode cX8_advantage 60 = .ok (.iload_n 1, 1) := by decide +kernel
theorem dX8_advantage_61 : decode cX8_advantage 61 = .ok (.iadd, 1) := by decide +kernel
theorem dX8_advantage_62 : decode cX8_advantage 62 = .ok (.goto 4, 3) := by decide +kernel
theorem dX8_advantage_65 : decode cX8_advantage 65 = .ok (.iconst 0, 1) := by decide +kernel
theorem dX8_advantage_66 : decode cX8_advantage 66 = .ok (.iload_n 2, 1) := by decide +kernel
theorem dX8_advantage_67 : decode cX8_advantage 67 = .ok (.ifCond .eq 13, 3) := by decide +kernel
theorem dX8_advantage_70 : decode cX8_advantage 70 = .ok (.aload_n 0, 1) := by decide +kernel
theorem dX8_advantage_71 : decode cX8_advantage 71 = .ok (.iload_n 1, 1) := by decide +kernel
theorem dX8_advantage_72 : decode cX8_advantage 72 = .ok (.iload 5, 2) := by decide +kernel
theorem dX8_advantage_74 : decode cX8_advantage 74 = .ok (.invokevirtual 118, 3) := by decide +kernel
theorem dX8_advantage_77 : decode cX8_advantage 77 = .ok (.goto 4, 3) := by decide +kernel
theorem dX8_advantage_80 : decode cX8_advantage 80 = .ok (.iconst 0, 1) := by decide +kernel
theorem dX8_advantage_81 : decode cX8_advantage 81 = .ok (.invokevirtual 112, 3) := by decide +kernel
theorem dX8_advantage_84 : decode cX8_advantage 84 = .ok (.aload_n 0, 1) := by decide +kernel
theorem dX8_advantage_85 : decode cX8_advantage 85 = .ok (.getfield 13, 3) := by decide +kernel
theorem dX8_advantage_88 : decode cX8_advantage 88 = .ok (.iconst 3, 1) := by decide +kernel
theorem dX8_advantage_89 : decode cX8_advantage 89 = .ok (.iaload, 1) := by decide +kernel
theorem dX8_advantage_90 : decode cX8_advantage 90 = .ok (.ifCond .ne 7, 3) := by decide +kernel
theorem dX8_advantage_93 : decode cX8_advantage 93 = .ok (.iload_n 3, 1) := by decide +kernel
theorem dX8_advantage_94 : decode cX8_advantage 94 = .ok (.goto 7, 3) := by decide +kernel
theorem dX8_advantage_97 : decode cX8_advantage 97 = .ok (.iload 5, 2) := by decide +kernel
theorem dX8_advantage_99 : decode cX8_advantage 99 = .ok (.iconst 2, 1) := by decide +kernel
theorem dX8_advantage_100 : decode cX8_advantage 100 = .ok (.iadd, 1) := by decide +kernel
theorem dX8_advantage_101 : decode cX8_advantage 101 = .ok (.istore_n 3, 1) := by decide +kernel
theorem dX8_advantage_102 : decode cX8_advantage 102 = .ok (.aload_n 0, 1) := by decide +kernel
theorem dX8_advantage_103 : decode cX8_advantage 103 = .ok (.getfield 13, 3) := by decide +kernel
theorem dX8_advantage_106 : decode cX8_advantage 106 = .ok (.bipush 14, 2) := by decide +kernel
theorem dX8_advantage_108 : decode cX8_advantage 108 = .ok (.iaload, 1) := by decide +kernel
theorem dX8_advantage_109 : decode cX8_advantage 109 = .ok (.ifCond .ne 8, 3) := by decide +kernel
theorem dX8_advantage_112 : decode cX8_advantage 112 = .ok (.iload 4, 2) := by decide +kernel
theorem dX8_advantage_114 : decode cX8_advantage 114 = .ok (.goto 7, 3) := by decide +kernel
theorem dX8_advantage_117 : decode cX8_advantage 117 = .ok (.iload 5, 2) := by decide +kernel
theorem dX8_advantage_119 : decode cX8_advantage 119 = .ok (.iconst 2, 1) := by decide +kernel
theorem dX8_advantage_120 : decode cX8_advantage 120 = .ok (.iadd, 1) := by decide +kernel
theorem dX8_advantage_121 : decode cX8_advantage 121 = .ok (.istore 4, 2) := by decide +kernel
theorem dX8_advantage_123 : decode cX8_advantage 123 = .ok (.iinc 5 1, 3) := by decide +kernel
theorem dX8_advantage_126 : decode cX8_advantage 126 = .ok (.goto (-82), 3) := by decide +kernel
theorem dX8_advantage_129 : decode cX8_advantage 129 = .ok (.iload 4, 2) := by decide +kernel
theorem dX8_advantage_131 : decode cX8_advantage 131 = .ok (.iload_n 3, 1) := by decide +kernel
theorem dX8_advantage_132 : decode cX8_advantage 132 = .ok (.isub, 1) := by decide +kernel
theorem dX8_advantage_133 : decode cX8_advantage 133 = .ok (.ireturn, 1) := by decide +kernel
set_option maxRecDepth 20000 in
theorem ggX8_lossBy_X8_lay : GoodIn wsX8_lossBy wsX8_lay := goodIn_r _ [6, 1, 53, 54, 55, 56, 57, 58, 59, 60, 61, 62, 63, 64, 65, 66, 67, 68, 69] (by decide +kernel) (by decide +kernel)
set_option maxRecDepth 20000 in
theorem gX8_lossBy_X8_lay : GoodIn wsX8_lossBy (wsV RX8 99 RX8 yX8_lay wsX8_lay) := goodIn_app (goodIn_of _ (by decide +kernel)) ggX8_lossBy_X8_lay
set_option maxRecDepth 20000 in
theorem ggX8_lossBy_X8_blocking : GoodIn wsX8_lossBy wsX8_blocking := goodIn_r _ [10, 11, 12, 13, 5, 14, 15, 53, 54, 55, 56, 57, 58, 59, 60, 61, 62, 63, 64, 65, 66, 67, 68, 69] (by decide +kernel) (by decide +kernel)
set_option maxRecDepth 20000 in
theorem gX8_lossBy_X8_blocking : GoodIn wsX8_lossBy (wsV RX8 118 RX8 yX8_blocking wsX8_blocking) := goodIn_app (goodIn_of _ (by decide +kernel)) ggX8_lossBy_X8_blocking
set_option maxRecDepth 20000 in
theorem ggX8_lossBy_X8_frame : GoodIn wsX8_lossBy wsX8_frame := goodIn_r _ [19, 20, 21, 22, 23, 5, 24, 1, 25, 26, 27, 28, 11, 12, 13, 14, 15, 29, 30, 31, 32, 33, 34, 35, 36, 37, 38, 39, 40, 41, 42, 43, 44, 45, 46, 47, 48, 49, 50, 51, 52, 53, 54, 55, 56, 57, 58, 59, 60, 61, 62, 63, 64, 65, 66, 67, 68, 69] (by decide +kernel) (by decide +kernel)
set_option maxRecDepth 20000 in
theorem gX8_lossBy_X8_frame : GoodIn wsX8_lossBy (wsV RX8 112 RX8 yX8_frame wsX8_frame) := goodIn_app (goodIn_of _ (by decide +kernel)) ggX8_lossBy_X8_frame
theorem dX8_lossBy_0 : decode cX8_lossBy 0 = .ok (.aload_n 0, 1) := by decide +kernel
theorem dX8_lossBy_1 : decode cX8_lossBy 1 = .ok (.sipush 290, 3) := by decide +kernel
theorem dX8_lossBy_4 : decode cX8_lossBy 4 = .ok (.sipush 310, 3) := by decide +kernel
theorem dX8_lossBy_7 : decode cX8_lossBy 7 = .ok (.bipush 100, 2) := by decide +kernel
theorem dX8_lossBy_9 : decode cX8_lossBy 9 = .ok (.bipush 100, 2) := by decide +kernel
theorem dX8_lossBy_11 : decode cX8_lossBy 11 = .ok (.invokevirtual 99, 3) := by decide +kernel
theorem dX8_lossBy_14 : decode cX8_lossBy 14 = .ok (.iconst 0, 1) := by decide +kernel
theorem dX8_lossBy_15 : decode cX8_lossBy 15 = .ok (.istore 4, 2) := by decide +kernel
theorem dX8_lossBy_17 : decode cX8_lossBy 17 = .ok (.iconst 0, 1) := by decide +kernel
theorem dX8_lossBy_18 : decode cX8_lossBy 18 = .ok (.istore 5, 2) := by decide +kernel
theorem dX8_lossBy_20 : decode cX8_lossBy 20 = .ok (.iload 5, 2) := by decide +kernel
theorem dX8_lossBy_22 : decode cX8_lossBy 22 = .ok (.sipush 200, 3) := by decide +kernel
theorem dX8_lossBy_25 : decode cX8_lossBy 25 = .ok (.if_icmp .ge 119, 3) := by decide +kernel
theorem dX8_lossBy_28 : decode cX8_lossBy 28 = .ok (.iload 4, 2) := by decide +kernel
theorem dX8_lossBy_30 : decode cX8_lossBy 30 = .ok (.iconst 1, 1) := by decide +kernel
theorem dX8_lossBy_31 : decode cX8_lossBy 31 = .ok (.if_icmp .ne 17, 3) := by decide +kernel
theorem dX8_lossBy_34 : decode cX8_lossBy 34 = .ok (.aload_n 0, 1) := by decide +kernel
theorem dX8_lossBy_35 : decode cX8_lossBy 35 = .ok (.getfield 13, 3) := by decide +kernel
theorem dX8_lossBy_38 : decode cX8_lossBy 38 = .ok (.bipush 14, 2) := by decide +kernel
theorem dX8_lossBy_40 : decode cX8_lossBy 40 = .ok (.iaload, 1) := by decide +kernel
theorem dX8_lossBy_41 : decode cX8_lossBy 41 = .ok (.ifCond .ne 7, 3) := by decide +kernel
theorem dX8_lossBy_44 : decode cX8_lossBy 44 = .ok (.iconst 1, 1) := by decide +kernel
theorem dX8_lossBy_45 : decode cX8_lossBy 45 = .ok (.goto 4, 3) := by decide +kernel
theorem dX8_lossBy_48 : decode cX8_lossBy 48 = .ok (.iconst 0, 1) := by decide +kernel
theorem dX8_lossBy_49 : decode cX8_lossBy 49 = .ok (.istore 6, 2) := by decide +kernel
theorem dX8_lossBy_51 : decode cX8_lossBy 51 = .ok (.iload 4, 2) := by decide +kernel
theorem dX8_lossBy_53 : decode cX8_lossBy 53 = .ok (.iconst 2, 1) := by decide +kernel
theorem dX8_lossBy_54 : decode cX8_lossBy 54 = .ok (.if_icmp .ne 7, 3) := by decide +kernel
theorem dX8_lossBy_57 : decode cX8_lossBy 57 = .ok (.iconst 0, 1) := by decide +kernel
theorem dX8_lossBy_58 : decode cX8_lossBy 58 = .ok (.goto 22, 3) := by decide +kernel
theorem dX8_lossBy_61 : decode cX8_lossBy 61 = .ok (.iload 6, 2) := by decide +kernel
theorem dX8_lossBy_63 : decode cX8_lossBy 63 = .ok (.ifCond .eq 10, 3) := by decide +kernel
theorem dX8_lossBy_66 : decode cX8_lossBy 66 = .ok (.bipush 10, 2) := by decide +kernel
theorem dX8_lossBy_68 : decode cX8_lossBy 68 = .ok (.iload_n 2, 1) := by decide +kernel
theorem dX8_lossBy_69 : decode cX8_lossBy 69 = .ok (.iadd, 1) := by decide +kernel
theorem dX8_lossBy_70 : decode cX8_lossBy 70 = .ok (.goto 10, 3) := by decide +kernel
theorem dX8_lossBy_73 : decode cX8_lossBy 73 = .ok (.aload_n 0, 1) := by decide +kernel
theorem dX8_lossBy_74 : decode cX8_lossBy 74 = .ok (.iload_n 1, 1) := by decide +kernel
theorem dX8_lossBy_75 : decode cX8_lossBy 75 = .ok (.iload 5, 2) := by decide +kernel
theorem dX8_lossBy_77 : decode cX8_lossBy 77 = .ok (.invokevirtual 118, 3) := by decide +kernel
theorem dX8_lossBy_80 : decode cX8_lossBy 80 = .ok (.istore 7, 2) := by decide +kernel
theorem dX8_lossBy_82 : decode cX8_lossBy 82 = .ok (.iload 6, 2) := by decide +kernel
theorem dX8_lossBy_84 : decode cX8_lossBy 84 = .ok (.ifCond .eq 7, 3) := by decide +kernel
theorem dX8_lossBy_87 : decode cX8_lossBy 87 = .ok (.iconst 2, 1) := by decide +kernel
theorem dX8_lossBy_88 : decode cX8_lossBy 88 = .ok (.goto 5, 3) := by decide +kernel
theorem dX8_lossBy_91 : decode cX8_lossBy 91 = .ok (.iload 4, 2) := by decide +kernel
theorem dX8_lossBy_93 : decode cX8_lossBy 93 = .ok (.istore 4, 2) := by decide +kernel
theorem dX8_lossBy_95 : decode cX8_lossBy 95 = .ok (.aload_n 0, 1) := by decide +kernel
theorem dX8_lossBy_96 : decode cX8_lossBy 96 = .ok (.iload 5, 2) := by decide +kernel
theorem dX8_lossBy_98 : decode cX8_lossBy 98 = .ok (.ifCond .ne 10, 3) := by decide +kernel
theorem dX8_lossBy_101 : decode cX8_lossBy 101 = .ok (.bipush 10, 2) := by decide +kernel
theorem dX8_lossBy_103 : decode cX8_lossBy 103 = .ok (.iload_n 1, 1) := by decide +kernel
theorem dX8_lossBy_104 : decode cX8_lossBy 104 = .ok (.iadd, 1) := by decide +kernel
theorem dX8_lossBy_105 : decode cX8_lossBy 105 = .ok (.goto 4, 3) := by decide +kernel
theorem dX8_lossBy_108 : decode cX8_lossBy 108 = .ok (.iload_n 3, 1) := by decide +kernel
theorem dX8_lossBy_109 : decode cX8_lossBy 109 = .ok (.iload 7, 2) := by decide +kernel
theorem dX8_lossBy_111 : decode cX8_lossBy 111 = .ok (.invokevirtual 112, 3) := by decide +kernel
theorem dX8_lossBy_114 : decode cX8_lossBy 114 = .ok (.iload 4, 2) := by decide +kernel
theorem dX8_lossBy_116 : decode cX8_lossBy 116 = .ok (.ifCond .ne 18, 3) := by decide +kernel
theorem dX8_lossBy_119 : decode cX8_lossBy 119 = .ok (.aload_n 0, 1) := by decide +kernel
theorem dX8_lossBy_120 : decode cX8_lossBy 120 = .ok (.getfield 13, 3) := by decide +kernel
theorem dX8_lossBy_123 : decode cX8_lossBy 123 = .ok (.bipush 14, 2) := by decide +kernel
theorem dX8_lossBy_125 : decode cX8_lossBy 125 = .ok (.iaload, 1) := by decide +kernel
theorem dX8_lossBy_126 : decode cX8_lossBy 126 = .ok (.iconst 3, 1) := by decide +kernel
theorem dX8_lossBy_127 : decode cX8_lossBy 127 = .ok (.if_icmp .ne 7, 3) := by decide +kernel
theorem dX8_lossBy_130 : decode cX8_lossBy 130 = .ok (.iconst 1, 1) := by decide +kernel
theorem dX8_lossBy_131 : decode cX8_lossBy 131 = .ok (.goto 5, 3) := by decide +kernel
theorem dX8_lossBy_134 : decode cX8_lossBy 134 = .ok (.iload 4, 2) := by decide +kernel
theorem dX8_lossBy_136 : decode cX8_lossBy 136 = .ok (.istore 4, 2) := by decide +kernel
theorem dX8_lossBy_138 : decode cX8_lossBy 138 = .ok (.iinc 5 1, 3) := by decide +kernel
theorem dX8_lossBy_141 : decode cX8_lossBy 141 = .ok (.goto (-121), 3) := by decide +kernel
theorem dX8_lossBy_144 : decode cX8_lossBy 144 = .ok (.iload 4, 2) := by decide +kernel
theorem dX8_lossBy_146 : decode cX8_lossBy 146 = .ok (.ifCond .ne 7, 3) := by decide +kernel
theorem dX8_lossBy_149 : decode cX8_lossBy 149 = .ok (.iconst (-1), 1) := by decide +kernel
theorem dX8_lossBy_150 : decode cX8_lossBy 150 = .ok (.goto 13, 3) := by decide +kernel
theorem dX8_lossBy_153 : decode cX8_lossBy 153 = .ok (.sipush 1000, 3) := by decide +kernel
theorem dX8_lossBy_156 : decode cX8_lossBy 156 = .ok (.aload_n 0, 1) := by decide +kernel
theorem dX8_lossBy_157 : decode cX8_lossBy 157 = .ok (.getfield 13, 3) := by decide +kernel
theorem dX8_lossBy_160 : decode cX8_lossBy 160 = .ok (.iconst 1, 1) := by decide +kernel
theorem dX8_lossBy_161 : decode cX8_lossBy 161 = .ok (.iaload, 1) := by decide +kernel
theorem dX8_lossBy_162 : decode cX8_lossBy 162 = .ok (.isub, 1) := by decide +kernel
theorem dX8_lossBy_163 : decode cX8_lossBy 163 = .ok (.ireturn, 1) := by decide +kernel
set_option maxRecDepth 20000 in
theorem ggX8_punish_X8_isMove : GoodIn wsX8_punish wsX8_isMove := goodIn_r _ [5, 6, 7, 8, 4, 9, 70, 71, 72, 73, 74, 75, 76, 77, 78, 79, 80, 81, 82, 83, 84, 85, 86] (by decide +kernel) (by decide +kernel)
set_option maxRecDepth 20000 in
theorem gX8_punish_X8_isMove : GoodIn wsX8_punish (wsV RX8 59 RX8 yX8_isMove wsX8_isMove) := goodIn_app (goodIn_of _ (by decide +kernel)) ggX8_punish_X8_isMove
set_option maxRecDepth 20000 in
theorem ggX8_punish_X8_isFine : GoodIn wsX8_punish wsX8_isFine := goodIn_r _ [13, 14, 70, 71, 72, 73, 74, 75, 76, 77, 78, 79, 80, 81, 82, 83, 84, 85, 86] (by decide +kernel) (by decide +kernel)
set_option maxRecDepth 20000 in
theorem gX8_punish_X8_isFine : GoodIn wsX8_punish (wsV RX8 55 RX8 yX8_isFine wsX8_isFine) := goodIn_app (goodIn_of _ (by decide +kernel)) ggX8_punish_X8_isFine
set_option maxRecDepth 20000 in
theorem ggX8_punish_X8_lossBy : GoodIn wsX8_punish wsX8_lossBy := goodIn_r _ [18, 19, 20, 21, 22, 4, 23, 24, 25, 26, 27, 28, 29, 30, 31, 32, 33, 34, 35, 36, 37, 38, 39, 40, 41, 42, 43, 44, 45, 46, 47, 48, 49, 50, 51, 52, 53, 54, 55, 56, 57, 58, 59, 60, 61, 62, 63, 64, 65, 66, 67, 68, 69, 70, 71, 72, 73, 74, 75, 76, 77, 78, 79, 80, 81, 82, 83, 84, 85, 86] (by decide +kernel) (by decide +kernel)
set_option maxRecDepth 20000 in
theorem gX8_punish_X8_lossBy : GoodIn wsX8_punish (wsV RX8 121 RX8 yX8_lossBy wsX8_lossBy) := goodIn_app (goodIn_of _ (by decide +kernel)) ggX8_punish_X8_lossBy
theorem dX8_punish_0 : decode cX8_punish 0 = .ok (.aload_n 0, 1) := by decide +kernel
theorem dX8_punish_1 : decode cX8_punish 1 = .ok (.aload_n 0, 1) := by decide +kernel
theorem dX8_punish_2 : decode cX8_punish 2 = .ok (.iload_n 1, 1) := by decide +kernel
theorem dX8_punish_3 : decode cX8_punish 3 = .ok (.invokevirtual 59, 3) := by decide +kernel
theorem dX8_punish_6 : decode cX8_punish 6 = .ok (.ifCond .eq 15, 3) := by decide +kernel
theorem dX8_punish_9 : decode cX8_punish 9 = .ok (.aload_n 0, 1) := by decide +kernel
theorem dX8_punish_10 : decode cX8_punish 10 = .ok (.iload_n 2, 1) := by decide +kernel
theorem dX8_punish_11 : decode cX8_punish 11 = .ok (.invokevirtual 59, 3) := by decide +kernel
theorem dX8_punish_14 : decode cX8_punish 14 = .ok (.ifCond .eq 7, 3) := by decide +kernel
theorem dX8_punish_17 : decode cX8_punish 17 = .ok (.iconst 0, 1) := by decide +kernel
theorem dX8_punish_18 : decode cX8_punish 18 = .ok (.goto 4, 3) := by decide +kernel
theorem dX8_punish_21 : decode cX8_punish 21 = .ok (.iconst 1, 1) := by decide +kernel
theorem dX8_punish_22 : decode cX8_punish 22 = .ok (.invokevirtual 55, 3) := by decide +kernel
theorem dX8_punish_25 : decode cX8_punish 25 = .ok (.ifCond .ne 5, 3) := by decide +kernel
theorem dX8_punish_28 : decode cX8_punish 28 = .ok (.iconst 0, 1) := by decide +kernel
theorem dX8_punish_29 : decode cX8_punish 29 = .ok (.ireturn, 1) := by decide +kernel
theorem dX8_punish_30 : decode cX8_punish 30 = .ok (.aload_n 0, 1) := by decide +kernel
theorem dX8_punish_31 : decode cX8_punish 31 = .ok (.iload_n 1, 1) := by decide +kernel
theorem dX8_punish_32 : decode cX8_punish 32 = .ok (.iload_n 2, 1) := by decide +kernel
theorem dX8_punish_33 : decode cX8_punish 33 = .ok (.iconst 2, 1) := by decide +kernel
theorem dX8_punish_34 : decode cX8_punish 34 = .ok (.invokevirtual 121, 3) := by decide +kernel
theorem dX8_punish_37 : decode cX8_punish 37 = .ok (.istore_n 3, 1) := by decide +kernel
theorem dX8_punish_38 : decode cX8_punish 38 = .ok (.aload_n 0, 1) := by decide +kernel
theorem dX8_punish_39 : decode cX8_punish 39 = .ok (.iload_n 1, 1) := by decide +kernel
theorem dX8_punish_40 : decode cX8_punish 40 = .ok (.iload_n 2, 1) := by decide +kernel
theorem dX8_punish_41 : decode cX8_punish 41 = .ok (.iconst 4, 1) := by decide +kernel
theorem dX8_punish_42 : decode cX8_punish 42 = .ok (.invokevirtual 121, 3) := by decide +kernel
theorem dX8_punish_45 : decode cX8_punish 45 = .ok (.istore 4, 2) := by decide +kernel
theorem dX8_punish_47 : decode cX8_punish 47 = .ok (.iload_n 3, 1) := by decide +kernel
theorem dX8_punish_48 : decode cX8_punish 48 = .ok (.iload 4, 2) := by decide +kernel
theorem dX8_punish_50 : decode cX8_punish 50 = .ok (.if_icmp .ge 7, 3) := by decide +kernel
theorem dX8_punish_53 : decode cX8_punish 53 = .ok (.iload_n 3, 1) := by decide +kernel
theorem dX8_punish_54 : decode cX8_punish 54 = .ok (.goto 5, 3) := by decide +kernel
theorem dX8_punish_57 : decode cX8_punish 57 = .ok (.iload 4, 2) := by decide +kernel
theorem dX8_punish_59 : decode cX8_punish 59 = .ok (.istore 5, 2) := by decide +kernel
theorem dX8_punish_61 : decode cX8_punish 61 = .ok (.iload 5, 2) := by decide +kernel
theorem dX8_punish_63 : decode cX8_punish 63 = .ok (.ifCond .ge 7, 3) := by decide +kernel
theorem dX8_punish_66 : decode cX8_punish 66 = .ok (.iconst 0, 1) := by decide +kernel
theorem dX8_punish_67 : decode cX8_punish 67 = .ok (.goto 5, 3) := by decide +kernel
theorem dX8_punish_70 : decode cX8_punish 70 = .ok (.iload 5, 2) := by decide +kernel
theorem dX8_punish_72 : decode cX8_punish 72 = .ok (.ireturn, 1) := by decide +kernel
theorem dX8_keepState_0 : decode cX8_keepState 0 = .ok (.iconst 0, 1) := by decide +kernel
theorem dX8_keepState_1 : decode cX8_keepState 1 = .ok (.istore_n 2, 1) := by decide +kernel
theorem dX8_keepState_2 : decode cX8_keepState 2 = .ok (.iload_n 2, 1) := by decide +kernel
theorem dX8_keepState_3 : decode cX8_keepState 3 = .ok (.bipush 22, 2) := by decide +kernel
theorem dX8_keepState_5 : decode cX8_keepState 5 = .ok (.if_icmp .ge 26, 3) := by decide +kernel
theorem dX8_keepState_8 : decode cX8_keepState 8 = .ok (.aload_n 0, 1) := by decide +kernel
theorem dX8_keepState_9 : decode cX8_keepState 9 = .ok (.getfield 19, 3) := by decide +kernel
theorem dX8_keepState_12 : decode cX8_keepState 12 = .ok (.bipush 22, 2) := by decide +kernel
theorem dX8_keepState_14 : decode cX8_keepState 14 = .ok (.iload_n 1, 1) := by decide +kernel
theorem dX8_keepState_15 : decode cX8_keepState 15 = .ok (.imul, 1) := by decide +kernel
theorem dX8_keepState_16 : decode cX8_keepState 16 = .ok (.iload_n 2, 1) := by decide +kernel
theorem dX8_keepState_17 : decode cX8_keepState 17 = .ok (.iadd, 1) := by decide +kernel
theorem dX8_keepState_18 : decode cX8_keepState 18 = .ok (.aload_n 0, 1) := by decide +kernel
theorem dX8_keepState_19 : decode cX8_keepState 19 = .ok (.getfield 13, 3) := by decide +kernel
theorem dX8_keepState_22 : decode cX8_keepState 22 = .ok (.iload_n 2, 1) := by decide +kernel
theorem dX8_keepState_23 : decode cX8_keepState 23 = .ok (.iaload, 1) := by decide +kernel
theorem dX8_keepState_24 : decode cX8_keepState 24 = .ok (.iastore, 1) := by decide +kernel
theorem dX8_keepState_25 : decode cX8_keepState 25 = .ok (.iinc 2 1, 3) := by decide +kernel
theorem dX8_keepState_28 : decode cX8_keepState 28 = .ok (.goto (-26), 3) := by decide +kernel
theorem dX8_keepState_31 : decode cX8_keepState 31 = .ok (.return_, 1) := by decide +kernel
theorem dX8_fetch_0 : decode cX8_fetch 0 = .ok (.iconst 0, 1) := by decide +kernel
theorem dX8_fetch_1 : decode cX8_fetch 1 = .ok (.istore_n 2, 1) := by decide +kernel
theorem dX8_fetch_2 : decode cX8_fetch 2 = .ok (.iload_n 2, 1) := by decide +kernel
theorem dX8_fetch_3 : decode cX8_fetch 3 = .ok (.bipush 22, 2) := by decide +kernel
theorem dX8_fetch_5 : decode cX8_fetch 5 = .ok (.if_icmp .ge 26, 3) := by decide +kernel
theorem dX8_fetch_8 : decode cX8_fetch 8 = .ok (.aload_n 0, 1) := by decide +kernel
theorem dX8_fetch_9 : decode cX8_fetch 9 = .ok (.getfield 13, 3) := by decide +kernel
theorem dX8_fetch_12 : decode cX8_fetch 12 = .ok (.iload_n 2, 1) := by decide +kernel
theorem dX8_fetch_13 : decode cX8_fetch 13 = .ok (.aload_n 0, 1) := by decide +kernel
theorem dX8_fetch_14 : decode cX8_fetch 14 = .ok (.getfield 19, 3) := by decide +kernel
theorem dX8_fetch_17 : decode cX8_fetch 17 = .ok (.bipush 22, 2) := by decide +kernel
theorem dX8_fetch_19 : decode cX8_fetch 19 = .ok (.iload_n 1, 1) := by decide +kernel
theorem dX8_fetch_20 : decode cX8_fetch 20 = .ok (.imul, 1) := by decide +kernel
theorem dX8_fetch_21 : decode cX8_fetch 21 = .ok (.iload_n 2, 1) := by decide +kernel
theorem dX8_fetch_22 : decode cX8_fetch 22 = .ok (.iadd, 1) := by decide +kernel
theorem dX8_fetch_23 : decode cX8_fetch 23 = .ok (.iaload, 1) := by decide +kernel
theorem dX8_fetch_24 : decode cX8_fetch 24 = .ok (.iastore, 1) := by decide +kernel
theorem dX8_fetch_25 : decode cX8_fetch 25 = .ok (.iinc 2 1, 3) := by decide +kernel
theorem dX8_fetch_28 : decode cX8_fetch 28 = .ok (.goto (-26), 3) := by decide +kernel
theorem dX8_fetch_31 : decode cX8_fetch 31 = .ok (.return_, 1) := by decide +kernel
set_option maxRecDepth 20000 in
theorem ggX8_hits_X8_frame : GoodIn wsX8_hits wsX8_frame := goodIn_r _ [7, 2, 8, 9, 10, 6, 11, 1, 12, 13, 14, 15, 16, 17, 18, 19, 20, 21, 22, 23, 24, 25, 26, 27, 28, 29, 30, 31, 32, 33, 34, 35, 36, 37, 38, 39, 40, 41, 42, 43, 44, 45, 46, 47, 48, 49, 50, 51, 52, 53, 54, 55, 56, 57, 58, 59, 60, 61] (by decide +kernel) (by decide +kernel)
set_option maxRecDepth 20000 in
theorem gX8_hits_X8_frame : GoodIn wsX8_hits (wsV RX8 112 RX8 yX8_frame wsX8_frame) := goodIn_app (goodIn_of _ (by decide +kernel)) ggX8_hits_X8_frame
theorem dX8_hits_0 : decode cX8_hits 0 = .ok (.aload_n 0, 1) := by decide +kernel
theorem dX8_hits_1 : decode cX8_hits 1 = .ok (.getfield 13, 3) := by decide +kernel
theorem dX8_hits_4 : decode cX8_hits 4 = .ok (.bipush 17, 2) := by decide +kernel
theorem dX8_hits_6 : decode cX8_hits 6 = .ok (.iaload, 1) := by decide +kernel
theorem dX8_hits_7 : decode cX8_hits 7 = .ok (.istore_n 3, 1) := by decide +kernel
theorem dX8_hits_8 : decode cX8_hits 8 = .ok (.iconst 0, 1) := by decide +kernel
theorem dX8_hits_9 : decode cX8_hits 9 = .ok (.istore 4, 2) := by decide +kernel
theorem dX8_hits_11 : decode cX8_hits 11 = .ok (.iconst 0, 1) := by decide +kernel
theorem dX8_hits_12 : decode cX8_hits 12 = .ok (.istore 5, 2) := by decide +kernel
theorem dX8_hits_14 : decode cX8_hits 14 = .ok (.iload 5, 2) := by decide +kernel
theorem dX8_hits_16 : decode cX8_hits 16 = .ok (.bipush 60, 2) := by decide +kernel
theorem dX8_hits_18 : decode cX8_hits 18 = .ok (.if_icmp .ge 83, 3) := by decide +kernel
theorem dX8_hits_21 : decode cX8_hits 21 = .ok (.aload_n 0, 1) := by decide +kernel
theorem dX8_hits_22 : decode cX8_hits 22 = .ok (.iload 4, 2) := by decide +kernel
theorem dX8_hits_24 : decode cX8_hits 24 = .ok (.ifCond .ne 12, 3) := by decide +kernel
theorem dX8_hits_27 : decode cX8_hits 27 = .ok (.iload_n 2, 1) := by decide +kernel
theorem dX8_hits_28 : decode cX8_hits 28 = .ok (.ifCond .eq 12, 3) := by decide +kernel
theorem dX8_hits_31 : decode cX8_hits 31 = .ok (.iload 5, 2) := by decide +kernel
theorem dX8_hits_33 : decode cX8_hits 33 = .ok (.ifCond .le 7, 3) := by decide +kernel
theorem dX8_hits_36 : decode cX8_hits 36 = .ok (.iconst 0, 1) := by decide +kernel
theorem dX8_hits_37 : decode cX8_hits 37 = .ok (.goto 7, 3) := by decide +kernel
theorem dX8_hits_40 : decode cX8_hits 40 = .ok (.bipush 10, 2) := by decide +kernel
theorem dX8_hits_42 : decode cX8_hits 42 = .ok (.iload_n 1, 1) := by decide +kernel
theorem dX8_hits_43 : decode cX8_hits 43 = .ok (.iadd, 1) := by decide +kernel
theorem dX8_hits_44 : decode cX8_hits 44 = .ok (.iconst 0, 1) := by decide +kernel
theorem dX8_hits_45 : decode cX8_hits 45 = .ok (.invokevirtual 112, 3) := by decide +kernel
theorem dX8_hits_48 : decode cX8_hits 48 = .ok (.iload 4, 2) := by decide +kernel
theorem dX8_hits_50 : decode cX8_hits 50 = .ok (.ifCond .ne 10, 3) := by decide +kernel
theorem dX8_hits_53 : decode cX8_hits 53 = .ok (.aload_n 0, 1) := by decide +kernel
theorem dX8_hits_54 : decode cX8_hits 54 = .ok (.getfield 83, 3) := by decide +kernel
theorem dX8_hits_57 : decode cX8_hits 57 = .ok (.ifCond .eq 7, 3) := by decide +kernel
theorem dX8_hits_60 : decode cX8_hits 60 = .ok (.iconst 1, 1) := by decide +kernel
theorem dX8_hits_61 : decode cX8_hits 61 = .ok (.goto 4, 3) := by decide +kernel
theorem dX8_hits_64 : decode cX8_hits 64 = .ok (.iconst 0, 1) := by decide +kernel
theorem dX8_hits_65 : decode cX8_hits 65 = .ok (.istore 4, 2) := by decide +kernel
theorem dX8_hits_67 : decode cX8_hits 67 = .ok (.aload_n 0, 1) := by decide +kernel
theorem dX8_hits_68 : decode cX8_hits 68 = .ok (.getfield 13, 3) := by decide +kernel
theorem dX8_hits_71 : decode cX8_hits 71 = .ok (.bipush 17, 2) := by decide +kernel
theorem dX8_hits_73 : decode cX8_hits 73 = .ok (.iaload, 1) := by decide +kernel
theorem dX8_hits_74 : decode cX8_hits 74 = .ok (.iload_n 3, 1) := by decide +kernel
theorem dX8_hits_75 : decode cX8_hits 75 = .ok (.if_icmp .eq 20, 3) := by decide +kernel
theorem dX8_hits_78 : decode cX8_hits 78 = .ok (.aload_n 0, 1) := by decide +kernel
theorem dX8_hits_79 : decode cX8_hits 79 = .ok (.getfield 13, 3) := by decide +kernel
theorem dX8_hits_82 : decode cX8_hits 82 = .ok (.bipush 17, 2) := by decide +kernel
theorem dX8_hits_84 : decode cX8_hits 84 = .ok (.iaload, 1) := by decide +kernel
theorem dX8_hits_85 : decode cX8_hits 85 = .ok (.iload_n 3, 1) := by decide +kernel
theorem dX8_hits_86 : decode cX8_hits 86 = .ok (.if_icmp .le 7, 3) := by decide +kernel
theorem dX8_hits_89 : decode cX8_hits 89 = .ok (.iconst 1, 1) := by decide +kernel
theorem dX8_hits_90 : decode cX8_hits 90 = .ok (.goto 4, 3) := by decide +kernel
theorem dX8_hits_93 : decode cX8_hits 93 = .ok (.iconst 0, 1) := by decide +kernel
theorem dX8_hits_94 : decode cX8_hits 94 = .ok (.ireturn, 1) := by decide +kernel
theorem dX8_hits_95 : decode cX8_hits 95 = .ok (.iinc 5 1, 3) := by decide +kernel
theorem dX8_hits_98 : decode cX8_hits 98 = .ok (.goto (-84), 3) := by decide +kernel
theorem dX8_hits_101 : decode cX8_hits 101 = .ok (.iconst 0, 1) := by decide +kernel
theorem dX8_hits_102 : decode cX8_hits 102 = .ok (.ireturn, 1) := by decide +kernel
theorem dX8_noteRow_0 : decode cX8_noteRow 0 = .ok (.sipush 1000, 3) := by decide +kernel
theorem dX8_noteRow_3 : decode cX8_noteRow 3 = .ok (.aload_n 0, 1) := by decide +kernel
theorem dX8_noteRow_4 : decode cX8_noteRow 4 = .ok (.getfield 13, 3) := by decide +kernel
theorem dX8_noteRow_7 : decode cX8_noteRow 7 = .ok (.bipush 12, 2) := by decide +kernel
theorem dX8_noteRow_9 : decode cX8_noteRow 9 = .ok (.iaload, 1) := by decide +kernel
theorem dX8_noteRow_10 : decode cX8_noteRow 10 = .ok (.isub, 1) := by decide +kernel
theorem dX8_noteRow_11 : decode cX8_noteRow 11 = .ok (.istore_n 2, 1) := by decide +kernel
theorem dX8_noteRow_12 : decode cX8_noteRow 12 = .ok (.aload_n 0, 1) := by decide +kernel
theorem dX8_noteRow_13 : decode cX8_noteRow 13 = .ok (.getfield 125, 3) := by decide +kernel
theorem dX8_noteRow_16 : decode cX8_noteRow 16 = .ok (.ifCond .eq 11, 3) := by decide +kernel
theorem dX8_noteRow_19 : decode cX8_noteRow 19 = .ok (.iload_n 2, 1) := by decide +kernel
theorem dX8_noteRow_20 : decode cX8_noteRow 20 = .ok (.aload_n 0, 1) := by decide +kernel
theorem dX8_noteRow_21 : decode cX8_noteRow 21 = .ok (.getfield 128, 3) := by decide +kernel
theorem dX8_noteRow_24 : decode cX8_noteRow 24 = .ok (.if_icmp .le 38, 3) := by decide +kernel
theorem dX8_noteRow_27 : decode cX8_noteRow 27 = .ok (.aload_n 0, 1) := by decide +kernel
theorem dX8_noteRow_28 : decode cX8_noteRow 28 = .ok (.iload_n 2, 1) := by decide +kernel
theorem dX8_noteRow_29 : decode cX8_noteRow 29 = .ok (.putfield 128, 3) := by decide +kernel
theorem dX8_noteRow_32 : decode cX8_noteRow 32 = .ok (.aload_n 0, 1) := by decide +kernel
theorem dX8_noteRow_33 : decode cX8_noteRow 33 = .ok (.iload_n 1, 1) := by decide +kernel
theorem dX8_noteRow_34 : decode cX8_noteRow 34 = .ok (.putfield 125, 3) := by decide +kernel
theorem dX8_noteRow_37 : decode cX8_noteRow 37 = .ok (.iconst 0, 1) := by decide +kernel
theorem dX8_noteRow_38 : decode cX8_noteRow 38 = .ok (.istore_n 3, 1) := by decide +kernel
theorem dX8_noteRow_39 : decode cX8_noteRow 39 = .ok (.iload_n 3, 1) := by decide +kernel
theorem dX8_noteRow_40 : decode cX8_noteRow 40 = .ok (.iload_n 1, 1) := by decide +kernel
theorem dX8_noteRow_41 : decode cX8_noteRow 41 = .ok (.if_icmp .ge 21, 3) := by decide +kernel
theorem dX8_noteRow_44 : decode cX8_noteRow 44 = .ok (.aload_n 0, 1) := by decide +kernel
theorem dX8_noteRow_45 : decode cX8_noteRow 45 = .ok (.getfield 38, 3) := by decide +kernel
theorem dX8_noteRow_48 : decode cX8_noteRow 48 = .ok (.iload_n 3, 1) := by decide +kernel
theorem dX8_noteRow_49 : decode cX8_noteRow 49 = .ok (.aload_n 0, 1) := by decide +kernel
theorem dX8_noteRow_50 : decode cX8_noteRow 50 = .ok (.getfield 35, 3) := by decide +kernel
theorem dX8_noteRow_53 : decode cX8_noteRow 53 = .ok (.iload_n 3, 1) := by decide +kernel
theorem dX8_noteRow_54 : decode cX8_noteRow 54 = .ok (.iaload, 1) := by decide +kernel
theorem dX8_noteRow_55 : decode cX8_noteRow 55 = .ok (.iastore, 1) := by decide +kernel
theorem dX8_noteRow_56 : decode cX8_noteRow 56 = .ok (.iinc 3 1, 3) := by decide +kernel
theorem dX8_noteRow_59 : decode cX8_noteRow 59 = .ok (.goto (-20), 3) := by decide +kernel
theorem dX8_noteRow_62 : decode cX8_noteRow 62 = .ok (.return_, 1) := by decide +kernel
set_option maxRecDepth 20000 in
theorem ggX8_search_X8_lay : GoodIn wsX8_search wsX8_lay := goodIn_r _ [9, 10, 71, 72, 73, 74, 75, 76, 77, 78, 79, 80, 81, 82, 83, 84, 85, 86, 87] (by decide +kernel) (by decide +kernel)
set_option maxRecDepth 20000 in
theorem gX8_search_X8_lay : GoodIn wsX8_search (wsV RX8 99 RX8 yX8_lay wsX8_lay) := goodIn_app (goodIn_of _ (by decide +kernel)) ggX8_search_X8_lay
set_option maxRecDepth 20000 in
theorem ggX8_search_X8_hits : GoodIn wsX8_search wsX8_hits := goodIn_r _ [14, 10, 15, 16, 17, 18, 8, 19, 20, 21, 22, 23, 24, 25, 26, 27, 28, 29, 30, 31, 32, 33, 34, 35, 36, 37, 38, 39, 40, 41, 42, 43, 44, 45, 46, 47, 48, 49, 50, 51, 52, 53, 54, 55, 56, 71, 72, 73, 74, 75, 76, 77, 78, 79, 80, 81, 82, 83, 84, 85, 86, 87] (by decide +kernel) (by decide +kernel)
set_option maxRecDepth 20000 in
theorem gX8_search_X8_hits : GoodIn wsX8_search (wsV RX8 131 RX8 yX8_hits wsX8_hits) := goodIn_app (goodIn_of _ (by decide +kernel)) ggX8_search_X8_hits
set_option maxRecDepth 20000 in
theorem ggX8_search_X8_keepState : GoodIn wsX8_search wsX8_keepState := goodIn_r _ [60, 61, 10, 71, 72, 73, 74, 75, 76, 77, 78, 79, 80, 81, 82, 83, 84, 85, 86, 87] (by decide +kernel) (by decide +kernel)
set_option maxRecDepth 20000 in
theorem gX8_search_X8_keepState : GoodIn wsX8_search (wsV RX8 135 RX8 yX8_keepState wsX8_keepState) := goodIn_app (goodIn_of _ (by decide +kernel)) ggX8_search_X8_keepState
set_option maxRecDepth 20000 in
theorem ggX8_search_X8_noteRow : GoodIn wsX8_search wsX8_noteRow := goodIn_r _ [65, 10, 1, 2, 66, 3, 71, 72, 73, 74, 75, 76, 77, 78, 79, 80, 81, 82, 83, 84, 85, 86, 87] (by decide +kernel) (by decide +kernel)
set_option maxRecDepth 20000 in
theorem gX8_search_X8_noteRow : GoodIn wsX8_search (wsV RX8 138 RX8 yX8_noteRow wsX8_noteRow) := goodIn_app (goodIn_of _ (by decide +kernel)) ggX8_search_X8_noteRow
set_option maxRecDepth 20000 in
theorem ggX8_search_X8_fetch : GoodIn wsX8_search wsX8_fetch := goodIn_r _ [70, 10, 61, 71, 72, 73, 74, 75, 76, 77, 78, 79, 80, 81, 82, 83, 84, 85, 86, 87] (by decide +kernel) (by decide +kernel)
set_option maxRecDepth 20000 in
theorem gX8_search_X8_fetch : GoodIn wsX8_search (wsV RX8 141 RX8 yX8_fetch wsX8_fetch) := goodIn_app (goodIn_of _ (by decide +kernel)) ggX8_search_X8_fetch
theorem dX8_search_0 : decode cX8_search 0 = .ok (.aload_n 0, 1) := by decide +kernel
theorem dX8_search_1 : decode cX8_search 1 = .ok (.iconst 0, 1) := by decide +kernel
theorem dX8_search_2 : decode cX8_search 2 = .ok (.putfield 125, 3) := by decide +kernel
theorem dX8_search_5 : decode cX8_search 5 = .ok (.aload_n 0, 1) := by decide +kernel
theorem dX8_search_6 : decode cX8_search 6 = .ok (.iconst 0, 1) := by decide +kernel
theorem dX8_search_7 : decode cX8_search 7 = .ok (.putfield 128, 3) := by decide +kernel
theorem dX8_search_10 : decode cX8_search 10 = .ok (.aload_n 0, 1) := by decide +kernel
theorem dX8_search_11 : decode cX8_search 11 = .ok (.sipush 290, 3) := by decide +kernel
theorem dX8_search_14 : decode cX8_search 14 = .ok (.sipush 310, 3) := by decide +kernel
theorem dX8_search_17 : decode cX8_search 17 = .ok (.iload_n 3, 1) := by decide +kernel
theorem dX8_search_18 : decode cX8_search 18 = .ok (.bipush 100, 2) := by decide +kernel
theorem dX8_search_20 : decode cX8_search 20 = .ok (.invokevirtual 99, 3) := by decide +kernel
theorem dX8_search_23 : decode cX8_search 23 = .ok (.aload_n 0, 1) := by decide +kernel
theorem dX8_search_24 : decode cX8_search 24 = .ok (.iload_n 1, 1) := by decide +kernel
theorem dX8_search_25 : decode cX8_search 25 = .ok (.iconst 1, 1) := by decide +kernel
theorem dX8_search_26 : decode cX8_search 26 = .ok (.invokevirtual 131, 3) := by decide +kernel
theorem dX8_search_29 : decode cX8_search 29 = .ok (.ifCond .ne 4, 3) := by decide +kernel
theorem dX8_search_32 : decode cX8_search 32 = .ok (.return_, 1) := by decide +kernel
theorem dX8_search_33 : decode cX8_search 33 = .ok (.aload_n 0, 1) := by decide +kernel
theorem dX8_search_34 : decode cX8_search 34 = .ok (.getfield 35, 3) := by decide +kernel
theorem dX8_search_37 : decode cX8_search 37 = .ok (.iconst 0, 1) := by decide +kernel
theorem dX8_search_38 : decode cX8_search 38 = .ok (.iload_n 1, 1) := by decide +kernel
theorem dX8_search_39 : decode cX8_search 39 = .ok (.iastore, 1) := by decide +kernel
theorem dX8_search_40 : decode cX8_search 40 = .ok (.aload_n 0, 1) := by decide +kernel
theorem dX8_search_41 : decode cX8_search 41 = .ok (.iconst 1, 1) := by decide +kernel
theorem dX8_search_42 : decode cX8_search 42 = .ok (.invokevirtual 135, 3) := by decide +kernel
theorem dX8_search_45 : decode cX8_search 45 = .ok (.aload_n 0, 1) := by decide +kernel
theorem dX8_search_46 : decode cX8_search 46 = .ok (.iconst 1, 1) := by decide +kernel
theorem dX8_search_47 : decode cX8_search 47 = .ok (.invokevirtual 138, 3) := by decide +kernel
theorem dX8_search_50 : decode cX8_search 50 = .ok (.iconst 1, 1) := by decide +kernel
theorem dX8_search_51 : decode cX8_search 51 = .ok (.istore 4, 2) := by decide +kernel
theorem dX8_search_53 : decode cX8_search 53 = .ok (.iconst 0, 1) := by decide +kernel
theorem dX8_search_54 : decode cX8_search 54 = .ok (.istore 5, 2) := by decide +kernel
theorem dX8_search_56 : decode cX8_search 56 = .ok (.iload 4, 2) := by decide +kernel
theorem dX8_search_58 : decode cX8_search 58 = .ok (.ifCond .le 96, 3) := by decide +kernel
theorem dX8_search_61 : decode cX8_search 61 = .ok (.iload 4, 2) := by decide +kernel
theorem dX8_search_63 : decode cX8_search 63 = .ok (.iload_n 2, 1) := by decide +kernel
theorem dX8_search_64 : decode cX8_search 64 = .ok (.if_icmp .eq 12, 3) := by decide +kernel
theorem dX8_search_67 : decode cX8_search 67 = .ok (.iload 5, 2) := by decide +kernel
theorem dX8_search_69 : decode cX8_search 69 = .ok (.aload_n 0, 1) := by decide +kernel
theorem dX8_search_70 : decode cX8_search 70 = .ok (.getfield 44, 3) := by decide +kernel
theorem dX8_search_73 : decode cX8_search 73 = .ok (.if_icmp .ne 29, 3) := by decide +kernel
theorem dX8_search_76 : decode cX8_search 76 = .ok (.iinc 4 (-1), 3) := by decide +kernel
theorem dX8_search_79 : decode cX8_search 79 = .ok (.iload 4, 2) := by decide +kernel
theorem dX8_search_81 : decode cX8_search 81 = .ok (.ifCond .le 15, 3) := by decide +kernel
theorem dX8_search_84 : decode cX8_search 84 = .ok (.aload_n 0, 1) := by decide +kernel
theorem dX8_search_85 : decode cX8_search 85 = .ok (.getfield 35, 3) := by decide +kernel
theorem dX8_search_88 : decode cX8_search 88 = .ok (.iload 4, 2) := by decide +kernel
theorem dX8_search_90 : decode cX8_search 90 = .ok (.iaload, 1) := by decide +kernel
theorem dX8_search_91 : decode cX8_search 91 = .ok (.iconst 1, 1) := by decide +kernel
theorem dX8_search_92 : decode cX8_search 92 = .ok (.iadd, 1) := by decide +kernel
theorem dX8_search_93 : decode cX8_search 93 = .ok (.goto 4, 3) := by decide +kernel
theorem dX8_search_96 : decode cX8_search 96 = .ok (.iconst 0, 1) := by decide +kernel
theorem dX8_search_97 : decode cX8_search 97 = .ok (.istore 5, 2) := by decide +kernel
theorem dX8_search_99 : decode cX8_search 99 = .ok (.goto (-43), 3) := by decide +kernel
theorem dX8_search_102 : decode cX8_search 102 = .ok (.aload_n 0, 1) := by decide +kernel
theorem dX8_search_103 : decode cX8_search 103 = .ok (.iload 4, 2) := by decide +kernel
theorem dX8_search_105 : decode cX8_search 105 = .ok (.invokevirtual 141, 3) := by decide +kernel
theorem dX8_search_108 : decode cX8_search 108 = .ok (.aload_n 0, 1) := by decide +kernel
theorem dX8_search_109 : decode cX8_search 109 = .ok (.iload 5, 2) := by decide +kernel
theorem dX8_search_111 : decode cX8_search 111 = .ok (.iconst 0, 1) := by decide +kernel
theorem dX8_search_112 : decode cX8_search 112 = .ok (.invokevirtual 131, 3) := by decide +kernel
theorem dX8_search_115 : decode cX8_search 115 = .ok (.ifCond .eq 33, 3) := by decide +kernel
theorem dX8_search_118 : decode cX8_search 118 = .ok (.aload_n 0, 1) := by decide +kernel
theorem dX8_search_119 : decode cX8_search 119 = .ok (.getfield 35, 3) := by decide +kernel
theorem dX8_search_122 : decode cX8_search 122 = .ok (.iload 4, 2) := by decide +kernel
theorem dX8_search_124 : decode cX8_search 124 = .ok (.iload 5, 2) := by decide +kernel
theorem dX8_search_126 : decode cX8_search 126 = .ok (.iastore, 1) := by decide +kernel
theorem dX8_search_127 : decode cX8_search 127 = .ok (.iinc 4 1, 3) := by decide +kernel
theorem dX8_search_130 : decode cX8_search 130 = .ok (.aload_n 0, 1) := by decide +kernel
theorem dX8_search_131 : decode cX8_search 131 = .ok (.iload 4, 2) := by decide +kernel
theorem dX8_search_133 : decode cX8_search 133 = .ok (.invokevirtual 135, 3) := by decide +kernel
theorem dX8_search_136 : decode cX8_search 136 = .ok (.aload_n 0, 1) := by decide +kernel
theorem dX8_search_137 : decode cX8_search 137 = .ok (.iload 4, 2) := by decide +kernel
theorem dX8_search_139 : decode cX8_search 139 = .ok (.invokevirtual 138, 3) := by decide +kernel
theorem dX8_search_142 : decode cX8_search 142 = .ok (.iconst 0, 1) := by decide +kernel
theorem dX8_search_143 : decode cX8_search 143 = .ok (.istore 5, 2) := by decide +kernel
theorem dX8_search_145 : decode cX8_search 145 = .ok (.goto (-89), 3) := by decide +kernel
theorem dX8_search_148 : decode cX8_search 148 = .ok (.iinc 5 1, 3) := by decide +kernel
theorem dX8_search_151 : decode cX8_search 151 = .ok (.goto (-95), 3) := by decide +kernel
theorem dX8_search_154 : decode cX8_search 154 = .ok (.return_, 1) := by decide +kernel
set_option maxRecDepth 20000 in
theorem ggX8_most_X8_isMove : GoodIn wsX8_most wsX8_isMove := goodIn_r _ [6, 7, 8, 9, 5, 10, 87, 88, 89, 90, 91, 92, 93, 94, 95, 96, 97, 98, 99, 100, 101, 102, 103] (by decide +kernel) (by decide +kernel)
set_option maxRecDepth 20000 in
theorem gX8_most_X8_isMove : GoodIn wsX8_most (wsV RX8 59 RX8 yX8_isMove wsX8_isMove) := goodIn_app (goodIn_of _ (by decide +kernel)) ggX8_most_X8_isMove
set_option maxRecDepth 20000 in
theorem ggX8_most_X8_in : GoodIn wsX8_most wsX8_in := goodIn_r _ [10] (by decide +kernel) (by decide +kernel)
set_option maxRecDepth 20000 in
theorem gX8_most_X8_in : GoodIn wsX8_most (va_wsS RX8 47 yX8_in wsX8_in) := goodIn_app (goodIn_of _ (by decide +kernel)) ggX8_most_X8_in
set_option maxRecDepth 20000 in
theorem ggX8_most_X8_isFine : GoodIn wsX8_most wsX8_isFine := goodIn_r _ [14, 15, 87, 88, 89, 90, 91, 92, 93, 94, 95, 96, 97, 98, 99, 100, 101, 102, 103] (by decide +kernel) (by decide +kernel)
set_option maxRecDepth 20000 in
theorem gX8_most_X8_isFine : GoodIn wsX8_most (wsV RX8 55 RX8 yX8_isFine wsX8_isFine) := goodIn_app (goodIn_of _ (by decide +kernel)) ggX8_most_X8_isFine
set_option maxRecDepth 20000 in
theorem ggX8_most_X8_search : GoodIn wsX8_most wsX8_search := goodIn_r _ [19, 20, 1, 21, 7, 22, 23, 24, 5, 25, 26, 27, 28, 29, 30, 31, 32, 33, 34, 35, 36, 37, 38, 39, 40, 41, 42, 43, 44, 45, 46, 47, 48, 49, 50, 51, 52, 53, 54, 55, 56, 57, 58, 59, 60, 61, 62, 63, 64, 65, 66, 67, 68, 69, 70, 71, 72, 73, 74, 75, 76, 77, 78, 79, 80, 81, 82, 83, 84, 85, 86, 87, 88, 89, 90, 91, 92, 93, 94, 95, 96, 97, 98, 99, 100, 101, 102, 103] (by decide +kernel) (by decide +kernel)
set_option maxRecDepth 20000 in
theorem gX8_most_X8_search : GoodIn wsX8_most (wsV RX8 144 RX8 yX8_search wsX8_search) := goodIn_app (goodIn_of _ (by decide +kernel)) ggX8_most_X8_search
theorem dX8_most_0 : decode cX8_most 0 = .ok (.aload_n 0, 1) := by decide +kernel
theorem dX8_most_1 : decode cX8_most 1 = .ok (.aload_n 0, 1) := by decide +kernel
theorem dX8_most_2 : decode cX8_most 2 = .ok (.iload_n 1, 1) := by decide +kernel
theorem dX8_most_3 : decode cX8_most 3 = .ok (.invokevirtual 59, 3) := by decide +kernel
theorem dX8_most_6 : decode cX8_most 6 = .ok (.ifCond .ne 7, 3) := by decide +kernel
theorem dX8_most_9 : decode cX8_most 9 = .ok (.iconst 1, 1) := by decide +kernel
theorem dX8_most_10 : decode cX8_most 10 = .ok (.goto 27, 3) := by decide +kernel
theorem dX8_most_13 : decode cX8_most 13 = .ok (.iload_n 2, 1) := by decide +kernel
theorem dX8_most_14 : decode cX8_most 14 = .ok (.iconst 1, 1) := by decide +kernel
theorem dX8_most_15 : decode cX8_most 15 = .ok (.iconst 4, 1) := by decide +kernel
theorem dX8_most_16 : decode cX8_most 16 = .ok (.invokestatic 47, 3) := by decide +kernel
theorem dX8_most_19 : decode cX8_most 19 = .ok (.ifCond .eq 17, 3) := by decide +kernel
theorem dX8_most_22 : decode cX8_most 22 = .ok (.iload_n 3, 1) := by decide +kernel
