theorem dX8_comeOn_188 : decode cX8_comeOn 188 = .ok (.iastore, 1) := by decide +kernel
theorem dX8_comeOn_189 : decode cX8_comeOn 189 = .ok (.aload_n 0, 1) := by decide +kernel
theorem dX8_comeOn_190 : decode cX8_comeOn 190 = .ok (.getfield 13, 3) := by decide +kernel
theorem dX8_comeOn_193 : decode cX8_comeOn 193 = .ok (.iload_n 1, 1) := by decide +kernel
theorem dX8_comeOn_194 : decode cX8_comeOn 194 = .ok (.bipush 9, 2) := by decide +kernel
theorem dX8_comeOn_196 : decode cX8_comeOn 196 = .ok (.iadd, 1) := by decide +kernel
theorem dX8_comeOn_197 : decode cX8_comeOn 197 = .ok (.aload_n 0, 1) := by decide +kernel
theorem dX8_comeOn_198 : decode cX8_comeOn 198 = .ok (.getfield 13, 3) := by decide +kernel
theorem dX8_comeOn_201 : decode cX8_comeOn 201 = .ok (.iload_n 1, 1) := by decide +kernel
theorem dX8_comeOn_202 : decode cX8_comeOn 202 = .ok (.iconst 3, 1) := by decide +kernel
theorem dX8_comeOn_203 : decode cX8_comeOn 203 = .ok (.iadd, 1) := by decide +kernel
theorem dX8_comeOn_204 : decode cX8_comeOn 204 = .ok (.iaload, 1) := by decide +kernel
theorem dX8_comeOn_205 : decode cX8_comeOn 205 = .ok (.iconst 1, 1) := by decide +kernel
theorem dX8_comeOn_206 : decode cX8_comeOn 206 = .ok (.if_icmp .ne 15, 3) := by decide +kernel
theorem dX8_comeOn_209 : decode cX8_comeOn 209 = .ok (.aload_n 0, 1) := by decide +kernel
theorem dX8_comeOn_210 : decode cX8_comeOn 210 = .ok (.getfield 13, 3) := by decide +kernel
theorem dX8_comeOn_213 : decode cX8_comeOn 213 = .ok (.iload_n 1, 1) := by decide +kernel
theorem dX8_comeOn_214 : decode cX8_comeOn 214 = .ok (.bipush 9, 2) := by decide +kernel
theorem dX8_comeOn_216 : decode cX8_comeOn 216 = .ok (.iadd, 1) := by decide +kernel
theorem dX8_comeOn_217 : decode cX8_comeOn 217 = .ok (.iaload, 1) := by decide +kernel
theorem dX8_comeOn_218 : decode cX8_comeOn 218 = .ok (.goto 4, 3) := by decide +kernel
theorem dX8_comeOn_221 : decode cX8_comeOn 221 = .ok (.iconst (-1), 1) := by decide +kernel
theorem dX8_comeOn_222 : decode cX8_comeOn 222 = .ok (.iastore, 1) := by decide +kernel
theorem dX8_comeOn_223 : decode cX8_comeOn 223 = .ok (.aload_n 0, 1) := by decide +kernel
theorem dX8_comeOn_224 : decode cX8_comeOn 224 = .ok (.getfield 13, 3) := by decide +kernel
theorem dX8_comeOn_227 : decode cX8_comeOn 227 = .ok (.iload_n 1, 1) := by decide +kernel
theorem dX8_comeOn_228 : decode cX8_comeOn 228 = .ok (.bipush 6, 2) := by decide +kernel
theorem dX8_comeOn_230 : decode cX8_comeOn 230 = .ok (.iadd, 1) := by decide +kernel
theorem dX8_comeOn_231 : decode cX8_comeOn 231 = .ok (.aload_n 0, 1) := by decide +kernel
theorem dX8_comeOn_232 : decode cX8_comeOn 232 = .ok (.getfield 13, 3) := by decide +kernel
theorem dX8_comeOn_235 : decode cX8_comeOn 235 = .ok (.iload_n 1, 1) := by decide +kernel
theorem dX8_comeOn_236 : decode cX8_comeOn 236 = .ok (.iconst 3, 1) := by decide +kernel
theorem dX8_comeOn_237 : decode cX8_comeOn 237 = .ok (.iadd, 1) := by decide +kernel
theorem dX8_comeOn_238 : decode cX8_comeOn 238 = .ok (.iaload, 1) := by decide +kernel
theorem dX8_comeOn_239 : decode cX8_comeOn 239 = .ok (.iconst 2, 1) := by decide +kernel
theorem dX8_comeOn_240 : decode cX8_comeOn 240 = .ok (.if_icmp .ne 15, 3) := by decide +kernel
theorem dX8_comeOn_243 : decode cX8_comeOn 243 = .ok (.aload_n 0, 1) := by decide +kernel
theorem dX8_comeOn_244 : decode cX8_comeOn 244 = .ok (.getfield 13, 3) := by decide +kernel
theorem dX8_comeOn_247 : decode cX8_comeOn 247 = .ok (.iload_n 1, 1) := by decide +kernel
theorem dX8_comeOn_248 : decode cX8_comeOn 248 = .ok (.bipush 6, 2) := by decide +kernel
theorem dX8_comeOn_250 : decode cX8_comeOn 250 = .ok (.iadd, 1) := by decide +kernel
theorem dX8_comeOn_251 : decode cX8_comeOn 251 = .ok (.iaload, 1) := by decide +kernel
theorem dX8_comeOn_252 : decode cX8_comeOn 252 = .ok (.goto 4, 3) := by decide +kernel
theorem dX8_comeOn_255 : decode cX8_comeOn 255 = .ok (.iconst 0, 1) := by decide +kernel
theorem dX8_comeOn_256 : decode cX8_comeOn 256 = .ok (.iastore, 1) := by decide +kernel
theorem dX8_comeOn_257 : decode cX8_comeOn 257 = .ok (.aload_n 0, 1) := by decide +kernel
theorem dX8_comeOn_258 : decode cX8_comeOn 258 = .ok (.getfield 13, 3) := by decide +kernel
theorem dX8_comeOn_261 : decode cX8_comeOn 261 = .ok (.iload_n 1, 1) := by decide +kernel
theorem dX8_comeOn_262 : decode cX8_comeOn 262 = .ok (.bipush 8, 2) := by decide +kernel
theorem dX8_comeOn_264 : decode cX8_comeOn 264 = .ok (.iadd, 1) := by decide +kernel
theorem dX8_comeOn_265 : decode cX8_comeOn 265 = .ok (.dup2, 1) := by decide +kernel
theorem dX8_comeOn_266 : decode cX8_comeOn 266 = .ok (.iaload, 1) := by decide +kernel
theorem dX8_comeOn_267 : decode cX8_comeOn 267 = .ok (.aload_n 0, 1) := by decide +kernel
theorem dX8_comeOn_268 : decode cX8_comeOn 268 = .ok (.getfield 13, 3) := by decide +kernel
theorem dX8_comeOn_271 : decode cX8_comeOn 271 = .ok (.iload_n 1, 1) := by decide +kernel
theorem dX8_comeOn_272 : decode cX8_comeOn 272 = .ok (.bipush 8, 2) := by decide +kernel
theorem dX8_comeOn_274 : decode cX8_comeOn 274 = .ok (.iadd, 1) := by decide +kernel
theorem dX8_comeOn_275 : decode cX8_comeOn 275 = .ok (.iaload, 1) := by decide +kernel
theorem dX8_comeOn_276 : decode cX8_comeOn 276 = .ok (.ifCond .le 7, 3) := by decide +kernel
theorem dX8_comeOn_279 : decode cX8_comeOn 279 = .ok (.iconst 1, 1) := by decide +kernel
theorem dX8_comeOn_280 : decode cX8_comeOn 280 = .ok (.goto 4, 3) := by decide +kernel
theorem dX8_comeOn_283 : decode cX8_comeOn 283 = .ok (.iconst 0, 1) := by decide +kernel
theorem dX8_comeOn_284 : decode cX8_comeOn 284 = .ok (.isub, 1) := by decide +kernel
theorem dX8_comeOn_285 : decode cX8_comeOn 285 = .ok (.iastore, 1) := by decide +kernel
theorem dX8_comeOn_286 : decode cX8_comeOn 286 = .ok (.aload_n 0, 1) := by decide +kernel
theorem dX8_comeOn_287 : decode cX8_comeOn 287 = .ok (.getfield 13, 3) := by decide +kernel
theorem dX8_comeOn_290 : decode cX8_comeOn 290 = .ok (.iload_n 1, 1) := by decide +kernel
theorem dX8_comeOn_291 : decode cX8_comeOn 291 = .ok (.bipush 7, 2) := by decide +kernel
theorem dX8_comeOn_293 : decode cX8_comeOn 293 = .ok (.iadd, 1) := by decide +kernel
theorem dX8_comeOn_294 : decode cX8_comeOn 294 = .ok (.aload_n 0, 1) := by decide +kernel
theorem dX8_comeOn_295 : decode cX8_comeOn 295 = .ok (.getfield 13, 3) := by decide +kernel
theorem dX8_comeOn_298 : decode cX8_comeOn 298 = .ok (.iload_n 1, 1) := by decide +kernel
theorem dX8_comeOn_299 : decode cX8_comeOn 299 = .ok (.bipush 8, 2) := by decide +kernel
theorem dX8_comeOn_301 : decode cX8_comeOn 301 = .ok (.iadd, 1) := by decide +kernel
theorem dX8_comeOn_302 : decode cX8_comeOn 302 = .ok (.iaload, 1) := by decide +kernel
theorem dX8_comeOn_303 : decode cX8_comeOn 303 = .ok (.ifCond .le 15, 3) := by decide +kernel
theorem dX8_comeOn_306 : decode cX8_comeOn 306 = .ok (.aload_n 0, 1) := by decide +kernel
theorem dX8_comeOn_307 : decode cX8_comeOn 307 = .ok (.getfield 13, 3) := by decide +kernel
theorem dX8_comeOn_310 : decode cX8_comeOn 310 = .ok (.iload_n 1, 1) := by decide +kernel
theorem dX8_comeOn_311 : decode cX8_comeOn 311 = .ok (.bipush 7, 2) := by decide +kernel
theorem dX8_comeOn_313 : decode cX8_comeOn 313 = .ok (.iadd, 1) := by decide +kernel
theorem dX8_comeOn_314 : decode cX8_comeOn 314 = .ok (.iaload, 1) := by decide +kernel
theorem dX8_comeOn_315 : decode cX8_comeOn 315 = .ok (.goto 4, 3) := by decide +kernel
theorem dX8_comeOn_318 : decode cX8_comeOn 318 = .ok (.iconst (-1), 1) := by decide +kernel
theorem dX8_comeOn_319 : decode cX8_comeOn 319 = .ok (.iastore, 1) := by decide +kernel
theorem dX8_comeOn_320 : decode cX8_comeOn 320 = .ok (.return_, 1) := by decide +kernel
set_option maxRecDepth 20000 in
theorem ggX8_frame_X8_keepInput : GoodIn wsX8_frame wsX8_keepInput := goodIn_r _ [6, 7, 41, 42, 43, 44, 45, 46, 47, 48, 49, 50, 51, 52, 53, 54, 55, 56, 57] (by decide +kernel) (by decide +kernel)
set_option maxRecDepth 20000 in
theorem gX8_frame_X8_keepInput : GoodIn wsX8_frame (wsV RX8 76 RX8 yX8_keepInput wsX8_keepInput) := goodIn_app (goodIn_of _ (by decide +kernel)) ggX8_frame_X8_keepInput
set_option maxRecDepth 20000 in
theorem ggX8_frame_X8_beginKept : GoodIn wsX8_frame wsX8_beginKept := goodIn_r _ [11, 7, 12, 13, 14, 5, 15, 16, 41, 42, 43, 44, 45, 46, 47, 48, 49, 50, 51, 52, 53, 54, 55, 56, 57] (by decide +kernel) (by decide +kernel)
set_option maxRecDepth 20000 in
theorem gX8_frame_X8_beginKept : GoodIn wsX8_frame (wsV RX8 80 RX8 yX8_beginKept wsX8_beginKept) := goodIn_app (goodIn_of _ (by decide +kernel)) ggX8_frame_X8_beginKept
set_option maxRecDepth 20000 in
theorem ggX8_frame_X8_go : GoodIn wsX8_frame wsX8_go := goodIn_r _ [20, 7, 41, 42, 43, 44, 45, 46, 47, 48, 49, 50, 51, 52, 53, 54, 55, 56, 57] (by decide +kernel) (by decide +kernel)
set_option maxRecDepth 20000 in
theorem gX8_frame_X8_go : GoodIn wsX8_frame (wsV RX8 86 RX8 yX8_go wsX8_go) := goodIn_app (goodIn_of _ (by decide +kernel)) ggX8_frame_X8_go
set_option maxRecDepth 20000 in
theorem ggX8_frame_X8_hitBoth : GoodIn wsX8_frame wsX8_hitBoth := goodIn_r _ [24, 7, 25, 26, 27, 5, 28, 12, 13, 14, 15, 16, 29, 30, 31, 32, 33, 34, 35, 36, 41, 42, 43, 44, 45, 46, 47, 48, 49, 50, 51, 52, 53, 54, 55, 56, 57] (by decide +kernel) (by decide +kernel)
set_option maxRecDepth 20000 in
theorem gX8_frame_X8_hitBoth : GoodIn wsX8_frame (wsV RX8 89 RX8 yX8_hitBoth wsX8_hitBoth) := goodIn_app (goodIn_of _ (by decide +kernel)) ggX8_frame_X8_hitBoth
set_option maxRecDepth 20000 in
theorem ggX8_frame_X8_comeOn : GoodIn wsX8_frame wsX8_comeOn := goodIn_r _ [40, 7, 12, 13, 14, 5, 15, 16, 41, 42, 43, 44, 45, 46, 47, 48, 49, 50, 51, 52, 53, 54, 55, 56, 57] (by decide +kernel) (by decide +kernel)
set_option maxRecDepth 20000 in
theorem gX8_frame_X8_comeOn : GoodIn wsX8_frame (wsV RX8 92 RX8 yX8_comeOn wsX8_comeOn) := goodIn_app (goodIn_of _ (by decide +kernel)) ggX8_frame_X8_comeOn
