theorem dX8_comeOn_37 : decode cX8_comeOn 37 = .ok (.iload_n 1, 1) := by decide +kernel
theorem dX8_comeOn_38 : decode cX8_comeOn 38 = .ok (.bipush 9, 2) := by decide +kernel
theorem dX8_comeOn_40 : decode cX8_comeOn 40 = .ok (.iadd, 1) := by decide +kernel
theorem dX8_comeOn_41 : decode cX8_comeOn 41 = .ok (.dup2, 1) := by decide +kernel
theorem dX8_comeOn_42 : decode cX8_comeOn 42 = .ok (.iaload, 1) := by decide +kernel
theorem dX8_comeOn_43 : decode cX8_comeOn 43 = .ok (.aload_n 0, 1) := by decide +kernel
theorem dX8_comeOn_44 : decode cX8_comeOn 44 = .ok (.getfield 13, 3) := by decide +kernel
theorem dX8_comeOn_47 : decode cX8_comeOn 47 = .ok (.iload_n 1, 1) := by decide +kernel
theorem dX8_comeOn_48 : decode cX8_comeOn 48 = .ok (.bipush 9, 2) := by decide +kernel
theorem dX8_comeOn_50 : decode cX8_comeOn 50 = .ok (.iadd, 1) := by decide +kernel
theorem dX8_comeOn_51 : decode cX8_comeOn 51 = .ok (.iaload, 1) := by decide +kernel
theorem dX8_comeOn_52 : decode cX8_comeOn 52 = .ok (.iconst (-1), 1) := by decide +kernel
theorem dX8_comeOn_53 : decode cX8_comeOn 53 = .ok (.if_icmp .ne 7, 3) := by decide +kernel
theorem dX8_comeOn_56 : decode cX8_comeOn 56 = .ok (.iconst 0, 1) := by decide +kernel
theorem dX8_comeOn_57 : decode cX8_comeOn 57 = .ok (.goto 4, 3) := by decide +kernel
theorem dX8_comeOn_60 : decode cX8_comeOn 60 = .ok (.iconst 1, 1) := by decide +kernel
theorem dX8_comeOn_61 : decode cX8_comeOn 61 = .ok (.iadd, 1) := by decide +kernel
theorem dX8_comeOn_62 : decode cX8_comeOn 62 = .ok (.iastore, 1) := by decide +kernel
theorem dX8_comeOn_63 : decode cX8_comeOn 63 = .ok (.aload_n 0, 1) := by decide +kernel
theorem dX8_comeOn_64 : decode cX8_comeOn 64 = .ok (.getfield 13, 3) := by decide +kernel
theorem dX8_comeOn_67 : decode cX8_comeOn 67 = .ok (.iload_n 1, 1) := by decide +kernel
theorem dX8_comeOn_68 : decode cX8_comeOn 68 = .ok (.iconst 5, 1) := by decide +kernel
theorem dX8_comeOn_69 : decode cX8_comeOn 69 = .ok (.iadd, 1) := by decide +kernel
theorem dX8_comeOn_70 : decode cX8_comeOn 70 = .ok (.iaload, 1) := by decide +kernel
theorem dX8_comeOn_71 : decode cX8_comeOn 71 = .ok (.aload_n 0, 1) := by decide +kernel
theorem dX8_comeOn_72 : decode cX8_comeOn 72 = .ok (.iload_n 2, 1) := by decide +kernel
theorem dX8_comeOn_73 : decode cX8_comeOn 73 = .ok (.iconst 0, 1) := by decide +kernel
theorem dX8_comeOn_74 : decode cX8_comeOn 74 = .ok (.invokevirtual 62, 3) := by decide +kernel
theorem dX8_comeOn_77 : decode cX8_comeOn 77 = .ok (.aload_n 0, 1) := by decide +kernel
theorem dX8_comeOn_78 : decode cX8_comeOn 78 = .ok (.iload_n 2, 1) := by decide +kernel
theorem dX8_comeOn_79 : decode cX8_comeOn 79 = .ok (.iconst 1, 1) := by decide +kernel
theorem dX8_comeOn_80 : decode cX8_comeOn 80 = .ok (.invokevirtual 62, 3) := by decide +kernel
theorem dX8_comeOn_83 : decode cX8_comeOn 83 = .ok (.iadd, 1) := by decide +kernel
theorem dX8_comeOn_84 : decode cX8_comeOn 84 = .ok (.aload_n 0, 1) := by decide +kernel
theorem dX8_comeOn_85 : decode cX8_comeOn 85 = .ok (.iload_n 2, 1) := by decide +kernel
theorem dX8_comeOn_86 : decode cX8_comeOn 86 = .ok (.iconst 2, 1) := by decide +kernel
theorem dX8_comeOn_87 : decode cX8_comeOn 87 = .ok (.invokevirtual 62, 3) := by decide +kernel
theorem dX8_comeOn_90 : decode cX8_comeOn 90 = .ok (.iadd, 1) := by decide +kernel
theorem dX8_comeOn_91 : decode cX8_comeOn 91 = .ok (.if_icmp .ne 12, 3) := by decide +kernel
theorem dX8_comeOn_94 : decode cX8_comeOn 94 = .ok (.aload_n 0, 1) := by decide +kernel
theorem dX8_comeOn_95 : decode cX8_comeOn 95 = .ok (.getfield 13, 3) := by decide +kernel
theorem dX8_comeOn_98 : decode cX8_comeOn 98 = .ok (.iload_n 1, 1) := by decide +kernel
theorem dX8_comeOn_99 : decode cX8_comeOn 99 = .ok (.iconst 3, 1) := by decide +kernel
theorem dX8_comeOn_100 : decode cX8_comeOn 100 = .ok (.iadd, 1) := by decide +kernel
theorem dX8_comeOn_101 : decode cX8_comeOn 101 = .ok (.iconst 0, 1) := by decide +kernel
theorem dX8_comeOn_102 : decode cX8_comeOn 102 = .ok (.iastore, 1) := by decide +kernel
theorem dX8_comeOn_103 : decode cX8_comeOn 103 = .ok (.goto 57, 3) := by decide +kernel
theorem dX8_comeOn_106 : decode cX8_comeOn 106 = .ok (.aload_n 0, 1) := by decide +kernel
theorem dX8_comeOn_107 : decode cX8_comeOn 107 = .ok (.getfield 13, 3) := by decide +kernel
theorem dX8_comeOn_110 : decode cX8_comeOn 110 = .ok (.iload_n 1, 1) := by decide +kernel
theorem dX8_comeOn_111 : decode cX8_comeOn 111 = .ok (.iconst 3, 1) := by decide +kernel
theorem dX8_comeOn_112 : decode cX8_comeOn 112 = .ok (.iadd, 1) := by decide +kernel
theorem dX8_comeOn_113 : decode cX8_comeOn 113 = .ok (.iaload, 1) := by decide +kernel
theorem dX8_comeOn_114 : decode cX8_comeOn 114 = .ok (.ifCond .eq 46, 3) := by decide +kernel
theorem dX8_comeOn_117 : decode cX8_comeOn 117 = .ok (.aload_n 0, 1) := by decide +kernel
theorem dX8_comeOn_118 : decode cX8_comeOn 118 = .ok (.getfield 13, 3) := by decide +kernel
theorem dX8_comeOn_121 : decode cX8_comeOn 121 = .ok (.iload_n 1, 1) := by decide +kernel
theorem dX8_comeOn_122 : decode cX8_comeOn 122 = .ok (.iconst 5, 1) := by decide +kernel
theorem dX8_comeOn_123 : decode cX8_comeOn 123 = .ok (.iadd, 1) := by decide +kernel
theorem dX8_comeOn_124 : decode cX8_comeOn 124 = .ok (.dup2, 1) := by decide +kernel
theorem dX8_comeOn_125 : decode cX8_comeOn 125 = .ok (.iaload, 1) := by decide +kernel
theorem dX8_comeOn_126 : decode cX8_comeOn 126 = .ok (.iconst 1, 1) := by decide +kernel
theorem dX8_comeOn_127 : decode cX8_comeOn 127 = .ok (.isub, 1) := by decide +kernel
theorem dX8_comeOn_128 : decode cX8_comeOn 128 = .ok (.iastore, 1) := by decide +kernel
theorem dX8_comeOn_129 : decode cX8_comeOn 129 = .ok (.aload_n 0, 1) := by decide +kernel
theorem dX8_comeOn_130 : decode cX8_comeOn 130 = .ok (.getfield 13, 3) := by decide +kernel
theorem dX8_comeOn_133 : decode cX8_comeOn 133 = .ok (.iload_n 1, 1) := by decide +kernel
theorem dX8_comeOn_134 : decode cX8_comeOn 134 = .ok (.iconst 3, 1) := by decide +kernel
theorem dX8_comeOn_135 : decode cX8_comeOn 135 = .ok (.iadd, 1) := by decide +kernel
theorem dX8_comeOn_136 : decode cX8_comeOn 136 = .ok (.aload_n 0, 1) := by decide +kernel
theorem dX8_comeOn_137 : decode cX8_comeOn 137 = .ok (.getfield 13, 3) := by decide +kernel
theorem dX8_comeOn_140 : decode cX8_comeOn 140 = .ok (.iload_n 1, 1) := by decide +kernel
theorem dX8_comeOn_141 : decode cX8_comeOn 141 = .ok (.iconst 5, 1) := by decide +kernel
theorem dX8_comeOn_142 : decode cX8_comeOn 142 = .ok (.iadd, 1) := by decide +kernel
theorem dX8_comeOn_143 : decode cX8_comeOn 143 = .ok (.iaload, 1) := by decide +kernel
theorem dX8_comeOn_144 : decode cX8_comeOn 144 = .ok (.ifCond .gt 7, 3) := by decide +kernel
theorem dX8_comeOn_147 : decode cX8_comeOn 147 = .ok (.iconst 0, 1) := by decide +kernel
theorem dX8_comeOn_148 : decode cX8_comeOn 148 = .ok (.goto 11, 3) := by decide +kernel
theorem dX8_comeOn_151 : decode cX8_comeOn 151 = .ok (.aload_n 0, 1) := by decide +kernel
theorem dX8_comeOn_152 : decode cX8_comeOn 152 = .ok (.getfield 13, 3) := by decide +kernel
theorem dX8_comeOn_155 : decode cX8_comeOn 155 = .ok (.iload_n 1, 1) := by decide +kernel
theorem dX8_comeOn_156 : decode cX8_comeOn 156 = .ok (.iconst 3, 1) := by decide +kernel
theorem dX8_comeOn_157 : decode cX8_comeOn 157 = .ok (.iadd, 1) := by decide +kernel
theorem dX8_comeOn_158 : decode cX8_comeOn 158 = .ok (.iaload, 1) := by decide +kernel
theorem dX8_comeOn_159 : decode cX8_comeOn 159 = .ok (.iastore, 1) := by decide +kernel
theorem dX8_comeOn_160 : decode cX8_comeOn 160 = .ok (.aload_n 0, 1) := by decide +kernel
theorem dX8_comeOn_161 : decode cX8_comeOn 161 = .ok (.getfield 13, 3) := by decide +kernel
theorem dX8_comeOn_164 : decode cX8_comeOn 164 = .ok (.iload_n 1, 1) := by decide +kernel
theorem dX8_comeOn_165 : decode cX8_comeOn 165 = .ok (.iconst 3, 1) := by decide +kernel
theorem dX8_comeOn_166 : decode cX8_comeOn 166 = .ok (.iadd, 1) := by decide +kernel
theorem dX8_comeOn_167 : decode cX8_comeOn 167 = .ok (.iaload, 1) := by decide +kernel
theorem dX8_comeOn_168 : decode cX8_comeOn 168 = .ok (.ifCond .ne 21, 3) := by decide +kernel
theorem dX8_comeOn_171 : decode cX8_comeOn 171 = .ok (.aload_n 0, 1) := by decide +kernel
theorem dX8_comeOn_172 : decode cX8_comeOn 172 = .ok (.getfield 13, 3) := by decide +kernel
theorem dX8_comeOn_175 : decode cX8_comeOn 175 = .ok (.iload_n 1, 1) := by decide +kernel
theorem dX8_comeOn_176 : decode cX8_comeOn 176 = .ok (.iconst 5, 1) := by decide +kernel
theorem dX8_comeOn_177 : decode cX8_comeOn 177 = .ok (.iadd, 1) := by decide +kernel
theorem dX8_comeOn_178 : decode cX8_comeOn 178 = .ok (.iconst 0, 1) := by decide +kernel
theorem dX8_comeOn_179 : decode cX8_comeOn 179 = .ok (.iastore, 1) := by decide +kernel
theorem dX8_comeOn_180 : decode cX8_comeOn 180 = .ok (.aload_n 0, 1) := by decide +kernel
theorem dX8_comeOn_181 : decode cX8_comeOn 181 = .ok (.getfield 13, 3) := by decide +kernel
theorem dX8_comeOn_184 : decode cX8_comeOn 184 = .ok (.iload_n 1, 1) := by decide +kernel
theorem dX8_comeOn_185 : decode cX8_comeOn 185 = .ok (.iconst 4, 1) := by decide +kernel
theorem dX8_comeOn_186 : decode cX8_comeOn 186 = .ok (.iadd, 1) := by decide +kernel
theorem dX8_comeOn_187 : decode cX8_comeOn 187 = .ok (.iconst (-1), 1) := by decide +kernel
theorem dX8_comeOn_188 : decode cX8_comeOn 188 = .ok (.iastore, 1) := by decide +kernel
theorem dX8_comeOn_189 : decode cX8_comeOn 189 = .ok (.aload_n 0, 1) := by decide +kernel
theorem dX8_comeOn_190 : decode cX8_comeOn 190 = .ok (.getfield 13, 3) := by decide +kernel
theorem dX8_comeOn_193 : decode cX8_comeOn 193 = .ok (.iload_n 1, 1) := by decide +kernel
theorem dX8_comeOn_194 : decode cX8_comeOn 194 = .ok (.bipush 9, 2) := by decide +kernel
theorem dX8_comeOn_196 : decode cX8_comeOn 196 = .ok (.iadd, 1) := by decide +kernel
theorem dX8_comeOn_197 : decode cX8_comeOn 197 = .ok (.aload_n 0, 1) := by decide +kernel
theorem dX8_comeOn_198 : decode cX8_comeOn 198 = .ok (.getfield 13, 3) := by decide +kernel
theorem dX8_comeOn_201 : decode cX8_comeOn 201 = .ok (.iload_n 1, 1) := by decide +kernel
theorem dX8_comeOn_202 : decode cX8_comeOn 202 = .ok (.iconst 3, 1) := by decide +kernel
theorem dX8_comeOn_203 : decode cX8_comeOn 203 = .ok (.iadd, 1) := by decide +kernel
theorem dX8_comeOn_204 : decode cX8_comeOn 204 = .ok (.iaload, 1) := by decide +kernel
theorem dX8_comeOn_205 : decode cX8_comeOn 205 = .ok (.iconst 1, 1) := by decide +kernel
theorem dX8_comeOn_206 : decode cX8_comeOn 206 = .ok (.if_icmp .ne 15, 3) := by decide +kernel
theorem dX8_comeOn_209 : decode cX8_comeOn 209 = .ok (.aload_n 0, 1) := by decide +kernel
theorem dX8_comeOn_210 : decode cX8_comeOn 210 = .ok (.getfield 13, 3) := by decide +kernel
theorem dX8_comeOn_213 : decode cX8_comeOn 213 = .ok (.iload_n 1, 1) := by decide +kernel
theorem dX8_comeOn_214 : decode cX8_comeOn 214 = .ok (.bipush 9, 2) := by decide +kernel
theorem dX8_comeOn_216 : decode cX8_comeOn 216 = .ok (.iadd, 1) := by decide +kernel
theorem dX8_comeOn_217 : decode cX8_comeOn 217 = .ok (.iaload, 1) := by decide +kernel
theorem dX8_comeOn_218 : decode cX8_comeOn 218 = .ok (.goto 4, 3) := by decide +kernel
theorem dX8_comeOn_221 : decode cX8_comeOn 221 = .ok (.iconst (-1), 1) := by decide +kernel
theorem dX8_comeOn_222 : decode cX8_comeOn 222 = .ok (.iastore, 1) := by decide +kernel
theorem dX8_comeOn_223 : decode cX8_comeOn 223 = .ok (.aload_n 0, 1) := by decide +kernel
theorem dX8_comeOn_224 : decode cX8_comeOn 224 = .ok (.getfield 13, 3) := by decide +kernel
theorem dX8_comeOn_227 : decode cX8_comeOn 227 = .ok (.iload_n 1, 1) := by decide +kernel
theorem dX8_comeOn_228 : decode cX8_comeOn 228 = .ok (.bipush 6, 2) := by decide +kernel
theorem dX8_comeOn_230 : decode cX8_comeOn 230 = .ok (.iadd, 1) := by decide +kernel
theorem dX8_comeOn_231 : decode cX8_comeOn 231 = .ok (.aload_n 0, 1) := by decide +kernel
theorem dX8_comeOn_232 : decode cX8_comeOn 232 = .ok (.getfield 13, 3) := by decide +kernel
theorem dX8_comeOn_235 : decode cX8_comeOn 235 = .ok (.iload_n 1, 1) := by decide +kernel
theorem dX8_comeOn_236 : decode cX8_comeOn 236 = .ok (.iconst 3, 1) := by decide +kernel
theorem dX8_comeOn_237 : decode cX8_comeOn 237 = .ok (.iadd, 1) := by decide +kernel
theorem dX8_comeOn_238 : decode cX8_comeOn 238 = .ok (.iaload, 1) := by decide +kernel
theorem dX8_comeOn_239 : decode cX8_comeOn 239 = .ok (.iconst 2, 1) := by decide +kernel
theorem dX8_comeOn_240 : decode cX8_comeOn 240 = .ok (.if_icmp .ne 15, 3) := by decide +kernel
theorem dX8_comeOn_243 : decode cX8_comeOn 243 = .ok (.aload_n 0, 1) := by decide +kernel
theorem dX8_comeOn_244 : decode cX8_comeOn 244 = .ok (.getfield 13, 3) := by decide +kernel
theorem dX8_comeOn_247 : decode cX8_comeOn 247 = .ok (.iload_n 1, 1) := by decide +kernel
theorem dX8_comeOn_248 : decode cX8_comeOn 248 = .ok (.bipush 6, 2) := by decide +kernel
theorem dX8_comeOn_250 : decode cX8_comeOn 250 = .ok (.iadd, 1) := by decide +kernel
theorem dX8_comeOn_251 : decode cX8_comeOn 251 = .ok (.iaload, 1) := by decide +kernel
theorem dX8_comeOn_252 : decode cX8_comeOn 252 = .ok (.goto 4, 3) := by decide +kernel
theorem dX8_comeOn_255 : decode cX8_comeOn 255 = .ok (.iconst 0, 1) := by decide +kernel
theorem dX8_comeOn_256 : decode cX8_comeOn 256 = .ok (.iastore, 1) := by decide +kernel
theorem dX8_comeOn_257 : decode cX8_comeOn 257 = .ok (.aload_n 0, 1) := by decide +kernel
theorem dX8_comeOn_258 : decode cX8_comeOn 258 = .ok (.getfield 13, 3) := by decide +kernel
theorem dX8_comeOn_261 : decode cX8_comeOn 261 = .ok (.iload_n 1, 1) := by decide +kernel
theorem dX8_comeOn_262 : decode cX8_comeOn 262 = .ok (.bipush 8, 2) := by decide +kernel
theorem dX8_comeOn_264 : decode cX8_comeOn 264 = .ok (.iadd, 1) := by decide +kernel
theorem dX8_comeOn_265 : decode cX8_comeOn 265 = .ok (.dup2, 1) := by decide +kernel
theorem dX8_comeOn_266 : decode cX8_comeOn 266 = .ok (.iaload, 1) := by decide +kernel
theorem dX8_comeOn_267 : decode cX8_comeOn 267 = .ok (.aload_n 0, 1) := by decide +kernel
theorem dX8_comeOn_268 : decode cX8_comeOn 268 = .ok (.getfield 13, 3) := by decide +kernel
theorem dX8_comeOn_271 : decode cX8_comeOn 271 = .ok (.iload_n 1, 1) := by decide +kernel
theorem dX8_comeOn_272 : decode cX8_comeOn 272 = .ok (.bipush 8, 2) := by decide +kernel
theorem dX8_comeOn_274 : decode cX8_comeOn 274 = .ok (.iadd, 1) := by decide +kernel
theorem dX8_comeOn_275 : decode cX8_comeOn 275 = .ok (.iaload, 1) := by decide +kernel
theorem dX8_comeOn_276 : decode cX8_comeOn 276 = .ok (.ifCond .le 7, 3) := by decide +kernel
theorem dX8_comeOn_279 : decode cX8_comeOn 279 = .ok (.iconst 1, 1) := by decide +kernel
theorem dX8_comeOn_280 : decode cX8_comeOn 280 = .ok (.goto 4, 3) := by decide +kernel
theorem dX8_comeOn_283 : decode cX8_comeOn 283 = .ok (.iconst 0, 1) := by decide +kernel
theorem dX8_comeOn_284 : decode cX8_comeOn 284 = .ok (.isub, 1) := by decide +kernel
theorem dX8_comeOn_285 : decode cX8_comeOn 285 = .ok (.iastore, 1) := by decide +kernel
theorem dX8_comeOn_286 : decode cX8_comeOn 286 = .ok (.aload_n 0, 1) := by decide +kernel
theorem dX8_comeOn_287 : decode cX8_comeOn 287 = .ok (.getfield 13, 3) := by decide +kernel
theorem dX8_comeOn_290 : decode cX8_comeOn 290 = .ok (.iload_n 1, 1) := by decide +kernel
theorem dX8_comeOn_291 : decode cX8_comeOn 291 = .ok (.bipush 7, 2) := by decide +kernel
theorem dX8_comeOn_293 : decode cX8_comeOn 293 = .ok (.iadd, 1) := by decide +kernel
theorem dX8_comeOn_294 : decode cX8_comeOn 294 = .ok (.aload_n 0, 1) := by decide +kernel
theorem dX8_comeOn_295 : decode cX8_comeOn 295 = .ok (.getfield 13, 3) := by decide +kernel
theorem dX8_comeOn_298 : decode cX8_comeOn 298 = .ok (.iload_n 1, 1) := by decide +kernel
theorem dX8_comeOn_299 : decode cX8_comeOn 299 = .ok (.bipush 8, 2) := by decide +kernel
theorem dX8_comeOn_301 : decode cX8_comeOn 301 = .ok (.iadd, 1) := by decide +kernel
theorem dX8_comeOn_302 : decode cX8_comeOn 302 = .ok (.iaload, 1) := by decide +kernel
theorem dX8_comeOn_303 : decode cX8_comeOn 303 = .ok (.ifCond .le 15, 3) := by decide +kernel
theorem dX8_comeOn_306 : decode cX8_comeOn 306 = .ok (.aload_n 0, 1) := by decide +kernel
theorem dX8_comeOn_307 : decode cX8_comeOn 307 = .ok (.getfield 13, 3) := by decide +kernel
theorem dX8_comeOn_310 : decode cX8_comeOn 310 = .ok (.iload_n 1, 1) := by decide +kernel
theorem dX8_comeOn_311 : decode cX8_comeOn 311 = .ok (.bipush 7, 2) := by decide +kernel
theorem dX8_comeOn_313 : decode cX8_comeOn 313 = .ok (.iadd, 1) := by decide +kernel
theorem dX8_comeOn_314 : decode cX8_comeOn 314 = .ok (.iaload, 1) := by decide +kernel
theorem dX8_comeOn_315 : decode cX8_comeOn 315 = .ok (.goto 4, 3) := by decide +kernel
theorem dX8_comeOn_318 : decode cX8_comeOn 318 = .ok (.iconst (-1), 1) := by decide +kernel
theorem dX8_comeOn_319 : decode cX8_comeOn 319 = .ok (.iastore, 1) := by decide +kernel
theorem dX8_comeOn_320 : decode cX8_comeOn 320 = .ok (.return_, 1) := by decide +kernel
set_option maxRecDepth 20000 in
theorem ggX8_frame_X8_keepInput : GoodIn wsX8_frame wsX8_keepInput := goodIn_r _ [6, 7, 41, 42, 43, 44, 45, 46, 47, 48, 49, 50, 51, 52, 53, 54, 55, 56, 57] (by decide +kernel) (by decide +kernel)
set_option maxRecDepth 20000 in
theorem gX8_frame_X8_keepInput : GoodIn wsX8_frame (wsV RX8 76 RX8 yX8_keepInput wsX8_keepInput) := goodIn_app (goodIn_of _ (by decide +kernel)) ggX8_frame_X8_keepInput
set_option maxRecDepth 20000 in
theorem ggX8_frame_X8_beginKept : GoodIn wsX8_frame wsX8_beginKept := goodIn_r _ [11, 7, 12, 13, 14, 5, 15, 16, 41, 42, 43, 44, 45, 46, 47, 48, 49, 50, 51, 52, 53, 54, 55, 56, 57] (by decide +kernel) (by decide +kernel)
set_option maxRecDepth 20000 in
theorem gX8_frame_X8_beginKept : GoodIn wsX8_frame (wsV RX8 80 RX8 yX8_beginKept wsX8_beginKept) := goodIn_app (goodIn_of _ (by decide +kernel)) ggX8_frame_X8_beginKept
set_option maxRecDepth 20000 in
theorem ggX8_frame_X8_go : GoodIn wsX8_frame wsX8_go := goodIn_r _ [20, 7, 41, 42, 43, 44, 45, 46, 47, 48, 49, 50, 51, 52, 53, 54, 55, 56, 57] (by decide +kernel) (by decide +kernel)
set_option maxRecDepth 20000 in
theorem gX8_frame_X8_go : GoodIn wsX8_frame (wsV RX8 86 RX8 yX8_go wsX8_go) := goodIn_app (goodIn_of _ (by decide +kernel)) ggX8_frame_X8_go
set_option maxRecDepth 20000 in
theorem ggX8_frame_X8_hitBoth : GoodIn wsX8_frame wsX8_hitBoth := goodIn_r _ [24, 7, 25, 26, 27, 5, 28, 12, 13, 14, 15, 16, 29, 30, 31, 32, 33, 34, 35, 36, 41, 42, 43, 44, 45, 46, 47, 48, 49, 50, 51, 52, 53, 54, 55, 56, 57] (by decide +kernel) (by decide +kernel)
set_option maxRecDepth 20000 in
theorem gX8_frame_X8_hitBoth : GoodIn wsX8_frame (wsV RX8 89 RX8 yX8_hitBoth wsX8_hitBoth) := goodIn_app (goodIn_of _ (by decide +kernel)) ggX8_frame_X8_hitBoth
set_option maxRecDepth 20000 in
theorem ggX8_frame_X8_comeOn : GoodIn wsX8_frame wsX8_comeOn := goodIn_r _ [40, 7, 12, 13, 14, 5, 15, 16, 41, 42, 43, 44, 45, 46, 47, 48, 49, 50, 51, 52, 53, 54, 55, 56, 57] (by decide +kernel) (by decide +kernel)
set_option maxRecDepth 20000 in
theorem gX8_frame_X8_comeOn : GoodIn wsX8_frame (wsV RX8 92 RX8 yX8_comeOn wsX8_comeOn) := goodIn_app (goodIn_of _ (by decide +kernel)) ggX8_frame_X8_comeOn
theorem dX8_frame_0 : decode cX8_frame 0 = .ok (.aload_n 0, 1) := by decide +kernel
theorem dX8_frame_1 : decode cX8_frame 1 = .ok (.iconst 0, 1) := by decide +kernel
theorem dX8_frame_2 : decode cX8_frame 2 = .ok (.iload_n 1, 1) := by decide +kernel
theorem dX8_frame_3 : decode cX8_frame 3 = .ok (.invokevirtual 76, 3) := by decide +kernel
theorem dX8_frame_6 : decode cX8_frame 6 = .ok (.aload_n 0, 1) := by decide +kernel
theorem dX8_frame_7 : decode cX8_frame 7 = .ok (.bipush 11, 2) := by decide +kernel
theorem dX8_frame_9 : decode cX8_frame 9 = .ok (.iload_n 2, 1) := by decide +kernel
theorem dX8_frame_10 : decode cX8_frame 10 = .ok (.invokevirtual 76, 3) := by decide +kernel
theorem dX8_frame_13 : decode cX8_frame 13 = .ok (.aload_n 0, 1) := by decide +kernel
theorem dX8_frame_14 : decode cX8_frame 14 = .ok (.aload_n 0, 1) := by decide +kernel
theorem dX8_frame_15 : decode cX8_frame 15 = .ok (.iconst 0, 1) := by decide +kernel
theorem dX8_frame_16 : decode cX8_frame 16 = .ok (.invokevirtual 80, 3) := by decide +kernel
theorem dX8_frame_19 : decode cX8_frame 19 = .ok (.putfield 83, 3) := by decide +kernel
theorem dX8_frame_22 : decode cX8_frame 22 = .ok (.aload_n 0, 1) := by decide +kernel
theorem dX8_frame_23 : decode cX8_frame 23 = .ok (.bipush 11, 2) := by decide +kernel
theorem dX8_frame_25 : decode cX8_frame 25 = .ok (.invokevirtual 80, 3) := by decide +kernel
theorem dX8_frame_28 : decode cX8_frame 28 = .ok (.pop, 1) := by decide +kernel
theorem dX8_frame_29 : decode cX8_frame 29 = .ok (.aload_n 0, 1) := by decide +kernel
theorem dX8_frame_30 : decode cX8_frame 30 = .ok (.iload_n 1, 1) := by decide +kernel
theorem dX8_frame_31 : decode cX8_frame 31 = .ok (.iload_n 2, 1) := by decide +kernel
theorem dX8_frame_32 : decode cX8_frame 32 = .ok (.invokevirtual 86, 3) := by decide +kernel
theorem dX8_frame_35 : decode cX8_frame 35 = .ok (.aload_n 0, 1) := by decide +kernel
theorem dX8_frame_36 : decode cX8_frame 36 = .ok (.iload_n 1, 1) := by decide +kernel
theorem dX8_frame_37 : decode cX8_frame 37 = .ok (.iload_n 2, 1) := by decide +kernel
theorem dX8_frame_38 : decode cX8_frame 38 = .ok (.invokevirtual 89, 3) := by decide +kernel
theorem dX8_frame_41 : decode cX8_frame 41 = .ok (.aload_n 0, 1) := by decide +kernel
theorem dX8_frame_42 : decode cX8_frame 42 = .ok (.iconst 0, 1) := by decide +kernel
theorem dX8_frame_43 : decode cX8_frame 43 = .ok (.invokevirtual 92, 3) := by decide +kernel
theorem dX8_frame_46 : decode cX8_frame 46 = .ok (.aload_n 0, 1) := by decide +kernel
theorem dX8_frame_47 : decode cX8_frame 47 = .ok (.bipush 11, 2) := by decide +kernel
theorem dX8_frame_49 : decode cX8_frame 49 = .ok (.invokevirtual 92, 3) := by decide +kernel
theorem dX8_frame_52 : decode cX8_frame 52 = .ok (.return_, 1) := by decide +kernel
theorem dX8_lay_0 : decode cX8_lay 0 = .ok (.iconst 0, 1) := by decide +kernel
theorem dX8_lay_1 : decode cX8_lay 1 = .ok (.istore 5, 2) := by decide +kernel
theorem dX8_lay_3 : decode cX8_lay 3 = .ok (.iload 5, 2) := by decide +kernel
theorem dX8_lay_5 : decode cX8_lay 5 = .ok (.bipush 11, 2) := by decide +kernel
theorem dX8_lay_7 : decode cX8_lay 7 = .ok (.if_icmp .gt 119, 3) := by decide +kernel
theorem dX8_lay_10 : decode cX8_lay 10 = .ok (.iconst 0, 1) := by decide +kernel
theorem dX8_lay_11 : decode cX8_lay 11 = .ok (.istore 6, 2) := by decide +kernel
theorem dX8_lay_13 : decode cX8_lay 13 = .ok (.iload 6, 2) := by decide +kernel
theorem dX8_lay_15 : decode cX8_lay 15 = .ok (.bipush 11, 2) := by decide +kernel
theorem dX8_lay_17 : decode cX8_lay 17 = .ok (.if_icmp .ge 20, 3) := by decide +kernel
theorem dX8_lay_20 : decode cX8_lay 20 = .ok (.aload_n 0, 1) := by decide +kernel
theorem dX8_lay_21 : decode cX8_lay 21 = .ok (.getfield 13, 3) := by decide +kernel
theorem dX8_lay_24 : decode cX8_lay 24 = .ok (.iload 5, 2) := by decide +kernel
theorem dX8_lay_26 : decode cX8_lay 26 = .ok (.iload 6, 2) := by decide +kernel
theorem dX8_lay_28 : decode cX8_lay 28 = .ok (.iadd, 1) := by decide +kernel
theorem dX8_lay_29 : decode cX8_lay 29 = .ok (.iconst 0, 1) := by decide +kernel
theorem dX8_lay_30 : decode cX8_lay 30 = .ok (.iastore, 1) := by decide +kernel
theorem dX8_lay_31 : decode cX8_lay 31 = .ok (.iinc 6 1, 3) := by decide +kernel
theorem dX8_lay_34 : decode cX8_lay 34 = .ok (.goto (-21), 3) := by decide +kernel
theorem dX8_lay_37 : decode cX8_lay 37 = .ok (.aload_n 0, 1) := by decide +kernel
theorem dX8_lay_38 : decode cX8_lay 38 = .ok (.getfield 13, 3) := by decide +kernel
theorem dX8_lay_41 : decode cX8_lay 41 = .ok (.iload 5, 2) := by decide +kernel
theorem dX8_lay_43 : decode cX8_lay 43 = .ok (.iconst 0, 1) := by decide +kernel
theorem dX8_lay_44 : decode cX8_lay 44 = .ok (.iadd, 1) := by decide +kernel
theorem dX8_lay_45 : decode cX8_lay 45 = .ok (.iload 5, 2) := by decide +kernel
theorem dX8_lay_47 : decode cX8_lay 47 = .ok (.ifCond .ne 7, 3) := by decide +kernel
theorem dX8_lay_50 : decode cX8_lay 50 = .ok (.iload_n 1, 1) := by decide +kernel
theorem dX8_lay_51 : decode cX8_lay 51 = .ok (.goto 4, 3) := by decide +kernel
theorem dX8_lay_54 : decode cX8_lay 54 = .ok (.iload_n 2, 1) := by decide +kernel
theorem dX8_lay_55 : decode cX8_lay 55 = .ok (.iastore, 1) := by decide +kernel
theorem dX8_lay_56 : decode cX8_lay 56 = .ok (.aload_n 0, 1) := by decide +kernel
theorem dX8_lay_57 : decode cX8_lay 57 = .ok (.getfield 13, 3) := by decide +kernel
theorem dX8_lay_60 : decode cX8_lay 60 = .ok (.iload 5, 2) := by decide +kernel
theorem dX8_lay_62 : decode cX8_lay 62 = .ok (.iconst 1, 1) := by decide +kernel
theorem dX8_lay_63 : decode cX8_lay 63 = .ok (.iadd, 1) := by decide +kernel
theorem dX8_lay_64 : decode cX8_lay 64 = .ok (.sipush 1000, 3) := by decide +kernel
theorem dX8_lay_67 : decode cX8_lay 67 = .ok (.iastore, 1) := by decide +kernel
theorem dX8_lay_68 : decode cX8_lay 68 = .ok (.aload_n 0, 1) := by decide +kernel
theorem dX8_lay_69 : decode cX8_lay 69 = .ok (.getfield 13, 3) := by decide +kernel
theorem dX8_lay_72 : decode cX8_lay 72 = .ok (.iload 5, 2) := by decide +kernel
theorem dX8_lay_74 : decode cX8_lay 74 = .ok (.iconst 2, 1) := by decide +kernel
theorem dX8_lay_75 : decode cX8_lay 75 = .ok (.iadd, 1) := by decide +kernel
theorem dX8_lay_76 : decode cX8_lay 76 = .ok (.iload 5, 2) := by decide +kernel
theorem dX8_lay_78 : decode cX8_lay 78 = .ok (.ifCond .ne 7, 3) := by decide +kernel
theorem dX8_lay_81 : decode cX8_lay 81 = .ok (.iload_n 3, 1) := by decide +kernel
theorem dX8_lay_82 : decode cX8_lay 82 = .ok (.goto 5, 3) := by decide +kernel
theorem dX8_lay_85 : decode cX8_lay 85 = .ok (.iload 4, 2) := by decide +kernel
theorem dX8_lay_87 : decode cX8_lay 87 = .ok (.iastore, 1) := by decide +kernel
theorem dX8_lay_88 : decode cX8_lay 88 = .ok (.aload_n 0, 1) := by decide +kernel
theorem dX8_lay_89 : decode cX8_lay 89 = .ok (.getfield 13, 3) := by decide +kernel
theorem dX8_lay_92 : decode cX8_lay 92 = .ok (.iload 5, 2) := by decide +kernel
theorem dX8_lay_94 : decode cX8_lay 94 = .ok (.iconst 4, 1) := by decide +kernel
theorem dX8_lay_95 : decode cX8_lay 95 = .ok (.iadd, 1) := by decide +kernel
theorem dX8_lay_96 : decode cX8_lay 96 = .ok (.iconst (-1), 1) := by decide +kernel
theorem dX8_lay_97 : decode cX8_lay 97 = .ok (.iastore, 1) := by decide +kernel
theorem dX8_lay_98 : decode cX8_lay 98 = .ok (.aload_n 0, 1) := by decide +kernel
theorem dX8_lay_99 : decode cX8_lay 99 = .ok (.getfield 13, 3) := by decide +kernel
theorem dX8_lay_102 : decode cX8_lay 102 = .ok (.iload 5, 2) := by decide +kernel
theorem dX8_lay_104 : decode cX8_lay 104 = .ok (.bipush 7, 2) := by decide +kernel
theorem dX8_lay_106 : decode cX8_lay 106 = .ok (.iadd, 1) := by decide +kernel
theorem dX8_lay_107 : decode cX8_lay 107 = .ok (.iconst (-1), 1) := by decide +kernel
theorem dX8_lay_108 : decode cX8_lay 108 = .ok (.iastore, 1) := by decide +kernel
theorem dX8_lay_109 : decode cX8_lay 109 = .ok (.aload_n 0, 1) := by decide +kernel
theorem dX8_lay_110 : decode cX8_lay 110 = .ok (.getfield 13, 3) := by decide +kernel
theorem dX8_lay_113 : decode cX8_lay 113 = .ok (.iload 5, 2) := by decide +kernel
theorem dX8_lay_115 : decode cX8_lay 115 = .ok (.bipush 9, 2) := by decide +kernel
theorem dX8_lay_117 : decode cX8_lay 117 = .ok (.iadd, 1) := by decide +kernel
theorem dX8_lay_118 : decode cX8_lay 118 = .ok (.iconst (-1), 1) := by decide +kernel
theorem dX8_lay_119 : decode cX8_lay 119 = .ok (.iastore, 1) := by decide +kernel
theorem dX8_lay_120 : decode cX8_lay 120 = .ok (.iinc 5 11, 3) := by decide +kernel
theorem dX8_lay_123 : decode cX8_lay 123 = .ok (.goto (-120), 3) := by decide +kernel
theorem dX8_lay_126 : decode cX8_lay 126 = .ok (.return_, 1) := by decide +kernel
theorem dX8_load_0 : decode cX8_load 0 = .ok (.iconst 0, 1) := by decide +kernel
theorem dX8_load_1 : decode cX8_load 1 = .ok (.istore_n 1, 1) := by decide +kernel
theorem dX8_load_2 : decode cX8_load 2 = .ok (.iload_n 1, 1) := by decide +kernel
theorem dX8_load_3 : decode cX8_load 3 = .ok (.bipush 22, 2) := by decide +kernel
theorem dX8_load_5 : decode cX8_load 5 = .ok (.if_icmp .ge 21, 3) := by decide +kernel
theorem dX8_load_8 : decode cX8_load 8 = .ok (.aload_n 0, 1) := by decide +kernel
theorem dX8_load_9 : decode cX8_load 9 = .ok (.getfield 13, 3) := by decide +kernel
theorem dX8_load_12 : decode cX8_load 12 = .ok (.iload_n 1, 1) := by decide +kernel
theorem dX8_load_13 : decode cX8_load 13 = .ok (.aload_n 0, 1) := by decide +kernel
theorem dX8_load_14 : decode cX8_load 14 = .ok (.getfield 16, 3) := by decide +kernel
theorem dX8_load_17 : decode cX8_load 17 = .ok (.iload_n 1, 1) := by decide +kernel
theorem dX8_load_18 : decode cX8_load 18 = .ok (.iaload, 1) := by decide +kernel
theorem dX8_load_19 : decode cX8_load 19 = .ok (.iastore, 1) := by decide +kernel
theorem dX8_load_20 : decode cX8_load 20 = .ok (.iinc 1 1, 3) := by decide +kernel
theorem dX8_load_23 : decode cX8_load 23 = .ok (.goto (-21), 3) := by decide +kernel
