theorem dX3_jump_124 : decode cX3_jump 124 = .ok (.invokevirtual 77, 3) := by decide +kernel
theorem dX3_jump_127 : decode cX3_jump 127 = .ok (.invokestatic 116, 3) := by decide +kernel
theorem dX3_jump_130 : decode cX3_jump 130 = .ok (.ifCond .eq 255, 3) := by decide +kernel
theorem dX3_jump_133 : decode cX3_jump 133 = .ok (.iload 4, 2) := by decide +kernel
theorem dX3_jump_135 : decode cX3_jump 135 = .ok (.bipush 16, 2) := by decide +kernel
theorem dX3_jump_137 : decode cX3_jump 137 = .ok (.if_icmp .ge 248, 3) := by decide +kernel
theorem dX3_jump_140 : decode cX3_jump 140 = .ok (.iload 5, 2) := by decide +kernel
theorem dX3_jump_142 : decode cX3_jump 142 = .ok (.ifCond .eq 21, 3) := by decide +kernel
theorem dX3_jump_145 : decode cX3_jump 145 = .ok (.iload 5, 2) := by decide +kernel
theorem dX3_jump_147 : decode cX3_jump 147 = .ok (.iconst 1, 1) := by decide +kernel
theorem dX3_jump_148 : decode cX3_jump 148 = .ok (.if_icmp .eq 15, 3) := by decide +kernel
theorem dX3_jump_151 : decode cX3_jump 151 = .ok (.iload 5, 2) := by decide +kernel
theorem dX3_jump_153 : decode cX3_jump 153 = .ok (.iconst 2, 1) := by decide +kernel
theorem dX3_jump_154 : decode cX3_jump 154 = .ok (.if_icmp .eq 9, 3) := by decide +kernel
theorem dX3_jump_157 : decode cX3_jump 157 = .ok (.iload 5, 2) := by decide +kernel
theorem dX3_jump_159 : decode cX3_jump 159 = .ok (.iconst 4, 1) := by decide +kernel
theorem dX3_jump_160 : decode cX3_jump 160 = .ok (.if_icmp .ne 225, 3) := by decide +kernel
theorem dX3_jump_163 : decode cX3_jump 163 = .ok (.aload_n 0, 1) := by decide +kernel
theorem dX3_jump_164 : decode cX3_jump 164 = .ok (.iload_n 1, 1) := by decide +kernel
theorem dX3_jump_165 : decode cX3_jump 165 = .ok (.iconst 1, 1) := by decide +kernel
theorem dX3_jump_166 : decode cX3_jump 166 = .ok (.invokevirtual 109, 3) := by decide +kernel
theorem dX3_jump_169 : decode cX3_jump 169 = .ok (.istore 6, 2) := by decide +kernel
theorem dX3_jump_171 : decode cX3_jump 171 = .ok (.aload_n 0, 1) := by decide +kernel
theorem dX3_jump_172 : decode cX3_jump 172 = .ok (.iload 6, 2) := by decide +kernel
theorem dX3_jump_174 : decode cX3_jump 174 = .ok (.iload_n 2, 1) := by decide +kernel
theorem dX3_jump_175 : decode cX3_jump 175 = .ok (.iconst 5, 1) := by decide +kernel
theorem dX3_jump_176 : decode cX3_jump 176 = .ok (.iadd, 1) := by decide +kernel
theorem dX3_jump_177 : decode cX3_jump 177 = .ok (.invokevirtual 96, 3) := by decide +kernel
theorem dX3_jump_180 : decode cX3_jump 180 = .ok (.istore 7, 2) := by decide +kernel
theorem dX3_jump_182 : decode cX3_jump 182 = .ok (.aload_n 0, 1) := by decide +kernel
theorem dX3_jump_183 : decode cX3_jump 183 = .ok (.getfield 35, 3) := by decide +kernel
theorem dX3_jump_186 : decode cX3_jump 186 = .ok (.iload_n 1, 1) := by decide +kernel
theorem dX3_jump_187 : decode cX3_jump 187 = .ok (.iaload, 1) := by decide +kernel
theorem dX3_jump_188 : decode cX3_jump 188 = .ok (.ifCond .eq 7, 3) := by decide +kernel
theorem dX3_jump_191 : decode cX3_jump 191 = .ok (.iconst 1, 1) := by decide +kernel
theorem dX3_jump_192 : decode cX3_jump 192 = .ok (.goto 4, 3) := by decide +kernel
theorem dX3_jump_195 : decode cX3_jump 195 = .ok (.iconst 0, 1) := by decide +kernel
theorem dX3_jump_196 : decode cX3_jump 196 = .ok (.istore 8, 2) := by decide +kernel
theorem dX3_jump_198 : decode cX3_jump 198 = .ok (.iload 8, 2) := by decide +kernel
theorem dX3_jump_200 : decode cX3_jump 200 = .ok (.ifCond .eq 107, 3) := by decide +kernel
theorem dX3_jump_203 : decode cX3_jump 203 = .ok (.iload 4, 2) := by decide +kernel
theorem dX3_jump_205 : decode cX3_jump 205 = .ok (.iconst 1, 1) := by decide +kernel
theorem dX3_jump_206 : decode cX3_jump 206 = .ok (.if_icmp .ne 7, 3) := by decide +kernel
theorem dX3_jump_209 : decode cX3_jump 209 = .ok (.iconst 1, 1) := by decide +kernel
theorem dX3_jump_210 : decode cX3_jump 210 = .ok (.goto 30, 3) := by decide +kernel
theorem dX3_jump_213 : decode cX3_jump 213 = .ok (.iload 4, 2) := by decide +kernel
theorem dX3_jump_215 : decode cX3_jump 215 = .ok (.iconst 4, 1) := by decide +kernel
theorem dX3_jump_216 : decode cX3_jump 216 = .ok (.if_icmp .ne 7, 3) := by decide +kernel
theorem dX3_jump_219 : decode cX3_jump 219 = .ok (.iconst 3, 1) := by decide +kernel
theorem dX3_jump_220 : decode cX3_jump 220 = .ok (.goto 20, 3) := by decide +kernel
theorem dX3_jump_223 : decode cX3_jump 223 = .ok (.iload 4, 2) := by decide +kernel
theorem dX3_jump_225 : decode cX3_jump 225 = .ok (.iconst 2, 1) := by decide +kernel
theorem dX3_jump_226 : decode cX3_jump 226 = .ok (.if_icmp .eq 9, 3) := by decide +kernel
theorem dX3_jump_229 : decode cX3_jump 229 = .ok (.iload 4, 2) := by decide +kernel
theorem dX3_jump_231 : decode cX3_jump 231 = .ok (.iconst 3, 1) := by decide +kernel
theorem dX3_jump_232 : decode cX3_jump 232 = .ok (.if_icmp .ne 7, 3) := by decide +kernel
theorem dX3_jump_235 : decode cX3_jump 235 = .ok (.iconst 2, 1) := by decide +kernel
theorem dX3_jump_236 : decode cX3_jump 236 = .ok (.goto 4, 3) := by decide +kernel
theorem dX3_jump_239 : decode cX3_jump 239 = .ok (.iconst 0, 1) := by decide +kernel
theorem dX3_jump_240 : decode cX3_jump 240 = .ok (.istore 9, 2) := by decide +kernel
theorem dX3_jump_242 : decode cX3_jump 242 = .ok (.iload 7, 2) := by decide +kernel
theorem dX3_jump_244 : decode cX3_jump 244 = .ok (.bipush 24, 2) := by decide +kernel
theorem dX3_jump_246 : decode cX3_jump 246 = .ok (.bipush 8, 2) := by decide +kernel
theorem dX3_jump_248 : decode cX3_jump 248 = .ok (.iload 9, 2) := by decide +kernel
theorem dX3_jump_250 : decode cX3_jump 250 = .ok (.imul, 1) := by decide +kernel
theorem dX3_jump_251 : decode cX3_jump 251 = .ok (.isub, 1) := by decide +kernel
theorem dX3_jump_252 : decode cX3_jump 252 = .ok (.ishr, 1) := by decide +kernel
theorem dX3_jump_253 : decode cX3_jump 253 = .ok (.sipush 255, 3) := by decide +kernel
theorem dX3_jump_256 : decode cX3_jump 256 = .ok (.iand, 1) := by decide +kernel
theorem dX3_jump_257 : decode cX3_jump 257 = .ok (.invokestatic 116, 3) := by decide +kernel
theorem dX3_jump_260 : decode cX3_jump 260 = .ok (.istore 8, 2) := by decide +kernel
theorem dX3_jump_262 : decode cX3_jump 262 = .ok (.iload 8, 2) := by decide +kernel
theorem dX3_jump_264 : decode cX3_jump 264 = .ok (.ifCond .eq 40, 3) := by decide +kernel
theorem dX3_jump_267 : decode cX3_jump 267 = .ok (.iload 7, 2) := by decide +kernel
theorem dX3_jump_269 : decode cX3_jump 269 = .ok (.iload 9, 2) := by decide +kernel
theorem dX3_jump_271 : decode cX3_jump 271 = .ok (.ifCond .ne 7, 3) := by decide +kernel
theorem dX3_jump_274 : decode cX3_jump 274 = .ok (.iconst (-1), 1) := by decide +kernel
theorem dX3_jump_275 : decode cX3_jump 275 = .ok (.goto 15, 3) := by decide +kernel
theorem dX3_jump_278 : decode cX3_jump 278 = .ok (.iconst 1, 1) := by decide +kernel
theorem dX3_jump_279 : decode cX3_jump 279 = .ok (.bipush 32, 2) := by decide +kernel
theorem dX3_jump_281 : decode cX3_jump 281 = .ok (.bipush 8, 2) := by decide +kernel
theorem dX3_jump_283 : decode cX3_jump 283 = .ok (.iload 9, 2) := by decide +kernel
theorem dX3_jump_285 : decode cX3_jump 285 = .ok (.imul, 1) := by decide +kernel
theorem dX3_jump_286 : decode cX3_jump 286 = .ok (.isub, 1) := by decide +kernel
theorem dX3_jump_287 : decode cX3_jump 287 = .ok (.ishl, 1) := by decide +kernel
theorem dX3_jump_288 : decode cX3_jump 288 = .ok (.iconst 1, 1) := by decide +kernel
theorem dX3_jump_289 : decode cX3_jump 289 = .ok (.isub, 1) := by decide +kernel
theorem dX3_jump_290 : decode cX3_jump 290 = .ok (.ixor, 1) := by decide +kernel
theorem dX3_jump_291 : decode cX3_jump 291 = .ok (.istore 6, 2) := by decide +kernel
theorem dX3_jump_293 : decode cX3_jump 293 = .ok (.aload_n 0, 1) := by decide +kernel
theorem dX3_jump_294 : decode cX3_jump 294 = .ok (.iload 6, 2) := by decide +kernel
theorem dX3_jump_296 : decode cX3_jump 296 = .ok (.iload_n 2, 1) := by decide +kernel
theorem dX3_jump_297 : decode cX3_jump 297 = .ok (.iconst 5, 1) := by decide +kernel
theorem dX3_jump_298 : decode cX3_jump 298 = .ok (.iadd, 1) := by decide +kernel
theorem dX3_jump_299 : decode cX3_jump 299 = .ok (.invokevirtual 96, 3) := by decide +kernel
theorem dX3_jump_302 : decode cX3_jump 302 = .ok (.istore 7, 2) := by decide +kernel
theorem dX3_jump_304 : decode cX3_jump 304 = .ok (.goto (-106), 3) := by decide +kernel
theorem dX3_jump_307 : decode cX3_jump 307 = .ok (.aload_n 0, 1) := by decide +kernel
theorem dX3_jump_308 : decode cX3_jump 308 = .ok (.iload_n 1, 1) := by decide +kernel
theorem dX3_jump_309 : decode cX3_jump 309 = .ok (.iconst 1, 1) := by decide +kernel
theorem dX3_jump_310 : decode cX3_jump 310 = .ok (.iload 7, 2) := by decide +kernel
theorem dX3_jump_312 : decode cX3_jump 312 = .ok (.invokevirtual 81, 3) := by decide +kernel
theorem dX3_jump_315 : decode cX3_jump 315 = .ok (.aload_n 0, 1) := by decide +kernel
theorem dX3_jump_316 : decode cX3_jump 316 = .ok (.iload_n 1, 1) := by decide +kernel
theorem dX3_jump_317 : decode cX3_jump 317 = .ok (.iconst 2, 1) := by decide +kernel
theorem dX3_jump_318 : decode cX3_jump 318 = .ok (.iload 7, 2) := by decide +kernel
theorem dX3_jump_320 : decode cX3_jump 320 = .ok (.bipush 8, 2) := by decide +kernel
theorem dX3_jump_322 : decode cX3_jump 322 = .ok (.ishr, 1) := by decide +kernel
theorem dX3_jump_323 : decode cX3_jump 323 = .ok (.invokevirtual 81, 3) := by decide +kernel
theorem dX3_jump_326 : decode cX3_jump 326 = .ok (.aload_n 0, 1) := by decide +kernel
theorem dX3_jump_327 : decode cX3_jump 327 = .ok (.iload_n 1, 1) := by decide +kernel
theorem dX3_jump_328 : decode cX3_jump 328 = .ok (.iconst 3, 1) := by decide +kernel
theorem dX3_jump_329 : decode cX3_jump 329 = .ok (.iload 7, 2) := by decide +kernel
theorem dX3_jump_331 : decode cX3_jump 331 = .ok (.bipush 16, 2) := by decide +kernel
theorem dX3_jump_333 : decode cX3_jump 333 = .ok (.ishr, 1) := by decide +kernel
theorem dX3_jump_334 : decode cX3_jump 334 = .ok (.invokevirtual 81, 3) := by decide +kernel
theorem dX3_jump_337 : decode cX3_jump 337 = .ok (.aload_n 0, 1) := by decide +kernel
theorem dX3_jump_338 : decode cX3_jump 338 = .ok (.iload_n 1, 1) := by decide +kernel
theorem dX3_jump_339 : decode cX3_jump 339 = .ok (.iconst 4, 1) := by decide +kernel
theorem dX3_jump_340 : decode cX3_jump 340 = .ok (.iload 7, 2) := by decide +kernel
theorem dX3_jump_342 : decode cX3_jump 342 = .ok (.bipush 24, 2) := by decide +kernel
theorem dX3_jump_344 : decode cX3_jump 344 = .ok (.ishr, 1) := by decide +kernel
theorem dX3_jump_345 : decode cX3_jump 345 = .ok (.iconst 1, 1) := by decide +kernel
theorem dX3_jump_346 : decode cX3_jump 346 = .ok (.iand, 1) := by decide +kernel
theorem dX3_jump_347 : decode cX3_jump 347 = .ok (.iconst 1, 1) := by decide +kernel
theorem dX3_jump_348 : decode cX3_jump 348 = .ok (.if_icmp .ne 9, 3) := by decide +kernel
theorem dX3_jump_351 : decode cX3_jump 351 = .ok (.sipush 255, 3) := by decide +kernel
theorem dX3_jump_354 : decode cX3_jump 354 = .ok (.goto 4, 3) := by decide +kernel
theorem dX3_jump_357 : decode cX3_jump 357 = .ok (.iconst 0, 1) := by decide +kernel
theorem dX3_jump_358 : decode cX3_jump 358 = .ok (.invokevirtual 81, 3) := by decide +kernel
theorem dX3_jump_361 : decode cX3_jump 361 = .ok (.aload_n 0, 1) := by decide +kernel
theorem dX3_jump_362 : decode cX3_jump 362 = .ok (.getfield 35, 3) := by decide +kernel
theorem dX3_jump_365 : decode cX3_jump 365 = .ok (.iload_n 1, 1) := by decide +kernel
theorem dX3_jump_366 : decode cX3_jump 366 = .ok (.iconst 0, 1) := by decide +kernel
theorem dX3_jump_367 : decode cX3_jump 367 = .ok (.iastore, 1) := by decide +kernel
theorem dX3_jump_368 : decode cX3_jump 368 = .ok (.aload_n 0, 1) := by decide +kernel
theorem dX3_jump_369 : decode cX3_jump 369 = .ok (.getfield 32, 3) := by decide +kernel
theorem dX3_jump_372 : decode cX3_jump 372 = .ok (.iload_n 1, 1) := by decide +kernel
theorem dX3_jump_373 : decode cX3_jump 373 = .ok (.dup2, 1) := by decide +kernel
theorem dX3_jump_374 : decode cX3_jump 374 = .ok (.iaload, 1) := by decide +kernel
theorem dX3_jump_375 : decode cX3_jump 375 = .ok (.iconst 1, 1) := by decide +kernel
theorem dX3_jump_376 : decode cX3_jump 376 = .ok (.iadd, 1) := by decide +kernel
theorem dX3_jump_377 : decode cX3_jump 377 = .ok (.iastore, 1) := by decide +kernel
theorem dX3_jump_378 : decode cX3_jump 378 = .ok (.aload_n 0, 1) := by decide +kernel
theorem dX3_jump_379 : decode cX3_jump 379 = .ok (.iload_n 1, 1) := by decide +kernel
theorem dX3_jump_380 : decode cX3_jump 380 = .ok (.iconst 5, 1) := by decide +kernel
theorem dX3_jump_381 : decode cX3_jump 381 = .ok (.invokevirtual 88, 3) := by decide +kernel
theorem dX3_jump_384 : decode cX3_jump 384 = .ok (.return_, 1) := by decide +kernel
theorem dX3_jump_385 : decode cX3_jump 385 = .ok (.aload_n 0, 1) := by decide +kernel
theorem dX3_jump_386 : decode cX3_jump 386 = .ok (.getfield 35, 3) := by decide +kernel
theorem dX3_jump_389 : decode cX3_jump 389 = .ok (.iload_n 1, 1) := by decide +kernel
theorem dX3_jump_390 : decode cX3_jump 390 = .ok (.aload_n 0, 1) := by decide +kernel
theorem dX3_jump_391 : decode cX3_jump 391 = .ok (.getfield 35, 3) := by decide +kernel
theorem dX3_jump_394 : decode cX3_jump 394 = .ok (.iload_n 1, 1) := by decide +kernel
theorem dX3_jump_395 : decode cX3_jump 395 = .ok (.iaload, 1) := by decide +kernel
theorem dX3_jump_396 : decode cX3_jump 396 = .ok (.iconst 1, 1) := by decide +kernel
theorem dX3_jump_397 : decode cX3_jump 397 = .ok (.ior, 1) := by decide +kernel
theorem dX3_jump_398 : decode cX3_jump 398 = .ok (.aload_n 0, 1) := by decide +kernel
theorem dX3_jump_399 : decode cX3_jump 399 = .ok (.iload_n 1, 1) := by decide +kernel
theorem dX3_jump_400 : decode cX3_jump 400 = .ok (.iconst 4, 1) := by decide +kernel
theorem dX3_jump_401 : decode cX3_jump 401 = .ok (.invokevirtual 77, 3) := by decide +kernel
theorem dX3_jump_404 : decode cX3_jump 404 = .ok (.invokestatic 116, 3) := by decide +kernel
theorem dX3_jump_407 : decode cX3_jump 407 = .ok (.ifCond .eq 8, 3) := by decide +kernel
theorem dX3_jump_410 : decode cX3_jump 410 = .ok (.bipush 16, 2) := by decide +kernel
theorem dX3_jump_412 : decode cX3_jump 412 = .ok (.goto 4, 3) := by decide +kernel
theorem dX3_jump_415 : decode cX3_jump 415 = .ok (.iconst 0, 1) := by decide +kernel
theorem dX3_jump_416 : decode cX3_jump 416 = .ok (.ior, 1) := by decide +kernel
theorem dX3_jump_417 : decode cX3_jump 417 = .ok (.iastore, 1) := by decide +kernel
theorem dX3_jump_418 : decode cX3_jump 418 = .ok (.aload_n 0, 1) := by decide +kernel
theorem dX3_jump_419 : decode cX3_jump 419 = .ok (.iload_n 1, 1) := by decide +kernel
theorem dX3_jump_420 : decode cX3_jump 420 = .ok (.iconst 1, 1) := by decide +kernel
theorem dX3_jump_421 : decode cX3_jump 421 = .ok (.invokevirtual 88, 3) := by decide +kernel
theorem dX3_jump_424 : decode cX3_jump 424 = .ok (.return_, 1) := by decide +kernel
set_option maxRecDepth 20000 in
theorem ggX3_work_X3_give : GoodIn wsX3_work wsX3_give := goodIn_r _ [6, 7, 8, 9, 10, 11, 12, 13, 5, 14, 15, 16, 17, 18, 19, 87, 88, 89, 90, 91, 92, 93, 94, 95, 96, 97, 98, 99, 100, 101, 102, 103, 104, 105, 106] (by rfl) (by decide +kernel)
set_option maxRecDepth 20000 in
theorem gX3_work_X3_give : GoodIn wsX3_work (wsV RX3 88 RX3 yX3_give wsX3_give) := goodIn_app (goodIn_of _ (by decide +kernel)) ggX3_work_X3_give
set_option maxRecDepth 20000 in
theorem ggX3_work_X3_delta : GoodIn wsX3_work wsX3_delta := goodIn_r _ [23, 24, 25, 26, 11, 12, 13, 5, 14, 15, 16, 17, 18, 19, 2, 3, 4, 6, 7, 8, 9, 10, 87, 88, 89, 90, 91, 92, 93, 94, 95, 96, 97, 98, 99, 100, 101, 102, 103, 104, 105, 106] (by rfl) (by decide +kernel)
set_option maxRecDepth 20000 in
theorem gX3_work_X3_delta : GoodIn wsX3_work (wsV RX3 119 RX3 yX3_delta wsX3_delta) := goodIn_app (goodIn_of _ (by decide +kernel)) ggX3_work_X3_delta
set_option maxRecDepth 20000 in
theorem ggX3_work_X3_jump : GoodIn wsX3_work wsX3_jump := goodIn_r _ [30, 31, 32, 33, 11, 12, 13, 5, 14, 15, 2, 3, 4, 6, 7, 8, 9, 10, 16, 17, 18, 19, 34, 35, 36, 37, 38, 39, 40, 41, 42, 43, 44, 45, 46, 47, 48, 49, 26, 87, 88, 89, 90, 91, 92, 93, 94, 95, 96, 97, 98, 99, 100, 101, 102, 103, 104, 105, 106] (by rfl) (by decide +kernel)
set_option maxRecDepth 20000 in
theorem gX3_work_X3_jump : GoodIn wsX3_work (wsV RX3 123 RX3 yX3_jump wsX3_jump) := goodIn_app (goodIn_of _ (by decide +kernel)) ggX3_work_X3_jump
set_option maxRecDepth 20000 in
theorem ggX3_work_X3_arm : GoodIn wsX3_work wsX3_arm := goodIn_r _ [53, 33, 11, 12, 13, 5, 14, 15, 34, 35, 36, 37, 38, 10, 46, 47, 48, 49, 26, 16, 17, 18, 19, 2, 3, 4, 6, 7, 8, 9, 87, 88, 89, 90, 91, 92, 93, 94, 95, 96, 97, 98, 99, 100, 101, 102, 103, 104, 105, 106] (by rfl) (by decide +kernel)
set_option maxRecDepth 20000 in
theorem gX3_work_X3_arm : GoodIn wsX3_work (wsV RX3 126 RX3 yX3_arm wsX3_arm) := goodIn_app (goodIn_of _ (by decide +kernel)) ggX3_work_X3_arm
set_option maxRecDepth 20000 in
theorem ggX3_work_X3_thumb : GoodIn wsX3_work wsX3_thumb := goodIn_r _ [57, 33, 11, 12, 13, 5, 14, 15, 2, 3, 4, 6, 7, 8, 9, 10, 16, 17, 18, 19, 34, 35, 36, 37, 38, 46, 47, 48, 49, 26, 87, 88, 89, 90, 91, 92, 93, 94, 95, 96, 97, 98, 99, 100, 101, 102, 103, 104, 105, 106] (by rfl) (by decide +kernel)
set_option maxRecDepth 20000 in
theorem gX3_work_X3_thumb : GoodIn wsX3_work (wsV RX3 129 RX3 yX3_thumb wsX3_thumb) := goodIn_app (goodIn_of _ (by decide +kernel)) ggX3_work_X3_thumb
set_option maxRecDepth 20000 in
theorem ggX3_work_X3_power : GoodIn wsX3_work wsX3_power := goodIn_r _ [61, 62, 63, 33, 64, 65, 66, 5, 67, 11, 12, 13, 14, 15, 34, 35, 36, 37, 38, 10, 46, 47, 48, 49, 26, 68, 69, 70, 71, 16, 17, 18, 19, 2, 3, 4, 6, 7, 8, 9, 87, 88, 89, 90, 91, 92, 93, 94, 95, 96, 97, 98, 99, 100, 101, 102, 103, 104, 105, 106] (by rfl) (by decide +kernel)
set_option maxRecDepth 20000 in
theorem gX3_work_X3_power : GoodIn wsX3_work (wsV RX3 132 RX3 yX3_power wsX3_power) := goodIn_app (goodIn_of _ (by decide +kernel)) ggX3_work_X3_power
set_option maxRecDepth 20000 in
theorem ggX3_work_X3_sparc : GoodIn wsX3_work wsX3_sparc := goodIn_r _ [75, 76, 77, 33, 11, 12, 13, 5, 14, 15, 64, 65, 66, 67, 34, 35, 36, 37, 38, 10, 46, 47, 48, 49, 26, 68, 69, 70, 71, 16, 17, 18, 19, 2, 3, 4, 6, 7, 8, 9, 87, 88, 89, 90, 91, 92, 93, 94, 95, 96, 97, 98, 99, 100, 101, 102, 103, 104, 105, 106] (by rfl) (by decide +kernel)
set_option maxRecDepth 20000 in
theorem gX3_work_X3_sparc : GoodIn wsX3_work (wsV RX3 135 RX3 yX3_sparc wsX3_sparc) := goodIn_app (goodIn_of _ (by decide +kernel)) ggX3_work_X3_sparc
set_option maxRecDepth 20000 in
theorem ggX3_work_X3_risc : GoodIn wsX3_work wsX3_risc := goodIn_r _ [81, 33, 82, 42, 43, 44, 5, 45, 11, 12, 13, 14, 15, 34, 35, 36, 37, 38, 10, 46, 47, 48, 49, 26, 83, 84, 85, 86, 16, 17, 18, 19, 2, 3, 4, 6, 7, 8, 9, 87, 88, 89, 90, 91, 92, 93, 94, 95, 96, 97, 98, 99, 100, 101, 102, 103, 104, 105, 106] (by rfl) (by decide +kernel)
set_option maxRecDepth 20000 in
theorem gX3_work_X3_risc : GoodIn wsX3_work (wsV RX3 138 RX3 yX3_risc wsX3_risc) := goodIn_app (goodIn_of _ (by decide +kernel)) ggX3_work_X3_risc
theorem dX3_work_0 : decode cX3_work 0 = .ok (.aload_n 0, 1) := by decide +kernel
theorem dX3_work_1 : decode cX3_work 1 = .ok (.getfield 7, 3) := by decide +kernel
theorem dX3_work_4 : decode cX3_work 4 = .ok (.iload_n 1, 1) := by decide +kernel
theorem dX3_work_5 : decode cX3_work 5 = .ok (.iaload, 1) := by decide +kernel
theorem dX3_work_6 : decode cX3_work 6 = .ok (.tableswitch 99 0 6 #[42, 51, 59, 67, 75, 83, 91], 42) := by decide +kernel
theorem dX3_work_48 : decode cX3_work 48 = .ok (.aload_n 0, 1) := by decide +kernel
theorem dX3_work_49 : decode cX3_work 49 = .ok (.iload_n 1, 1) := by decide +kernel
theorem dX3_work_50 : decode cX3_work 50 = .ok (.iconst 1, 1) := by decide +kernel
theorem dX3_work_51 : decode cX3_work 51 = .ok (.invokevirtual 88, 3) := by decide +kernel
theorem dX3_work_54 : decode cX3_work 54 = .ok (.goto 56, 3) := by decide +kernel
theorem dX3_work_57 : decode cX3_work 57 = .ok (.aload_n 0, 1) := by decide +kernel
theorem dX3_work_58 : decode cX3_work 58 = .ok (.iload_n 1, 1) := by decide +kernel
theorem dX3_work_59 : decode cX3_work 59 = .ok (.invokevirtual 119, 3) := by decide +kernel
theorem dX3_work_62 : decode cX3_work 62 = .ok (.goto 48, 3) := by decide +kernel
theorem dX3_work_65 : decode cX3_work 65 = .ok (.aload_n 0, 1) := by decide +kernel
theorem dX3_work_66 : decode cX3_work 66 = .ok (.iload_n 1, 1) := by decide +kernel
theorem dX3_work_67 : decode cX3_work 67 = .ok (.invokevirtual 123, 3) := by decide +kernel
theorem dX3_work_70 : decode cX3_work 70 = .ok (.goto 40, 3) := by decide +kernel
theorem dX3_work_73 : decode cX3_work 73 = .ok (.aload_n 0, 1) := by decide +kernel
theorem dX3_work_74 : decode cX3_work 74 = .ok (.iload_n 1, 1) := by decide +kernel
theorem dX3_work_75 : decode cX3_work 75 = .ok (.invokevirtual 126, 3) := by decide +kernel
theorem dX3_work_78 : decode cX3_work 78 = .ok (.goto 32, 3) := by decide +kernel
theorem dX3_work_81 : decode cX3_work 81 = .ok (.aload_n 0, 1) := by decide +kernel
theorem dX3_work_82 : decode cX3_work 82 = .ok (.iload_n 1, 1) := by decide +kernel
theorem dX3_work_83 : decode cX3_work 83 = .ok (.invokevirtual 129, 3) := by decide +kernel
theorem dX3_work_86 : decode cX3_work 86 = .ok (.goto 24, 3) := by decide +kernel
theorem dX3_work_89 : decode cX3_work 89 = .ok (.aload_n 0, 1) := by decide +kernel
theorem dX3_work_90 : decode cX3_work 90 = .ok (.iload_n 1, 1) := by decide +kernel
theorem dX3_work_91 : decode cX3_work 91 = .ok (.invokevirtual 132, 3) := by decide +kernel
theorem dX3_work_94 : decode cX3_work 94 = .ok (.goto 16, 3) := by decide +kernel
theorem dX3_work_97 : decode cX3_work 97 = .ok (.aload_n 0, 1) := by decide +kernel
theorem dX3_work_98 : decode cX3_work 98 = .ok (.iload_n 1, 1) := by decide +kernel
theorem dX3_work_99 : decode cX3_work 99 = .ok (.invokevirtual 135, 3) := by decide +kernel
theorem dX3_work_102 : decode cX3_work 102 = .ok (.goto 8, 3) := by decide +kernel
theorem dX3_work_105 : decode cX3_work 105 = .ok (.aload_n 0, 1) := by decide +kernel
theorem dX3_work_106 : decode cX3_work 106 = .ok (.iload_n 1, 1) := by decide +kernel
theorem dX3_work_107 : decode cX3_work 107 = .ok (.invokevirtual 138, 3) := by decide +kernel
theorem dX3_work_110 : decode cX3_work 110 = .ok (.return_, 1) := by decide +kernel
set_option maxRecDepth 20000 in
theorem ggX3_goThrough_X3_change : GoodIn wsX3_goThrough wsX3_change := goodIn_r _ [14, 15, 98, 99, 100, 101, 102, 103, 104, 105, 106, 107, 108, 109, 110, 111, 112, 113, 114, 115, 116, 117] (by rfl) (by decide +kernel)
set_option maxRecDepth 20000 in
theorem gX3_goThrough_X3_change : GoodIn wsX3_goThrough (wsV RX3 81 RX3 yX3_change wsX3_change) := goodIn_app (goodIn_of _ (by decide +kernel)) ggX3_goThrough_X3_change
set_option maxRecDepth 20000 in
theorem ggX3_goThrough_X3_needs : GoodIn wsX3_goThrough wsX3_needs := goodIn_r _ [18] (by rfl) (by decide +kernel)
set_option maxRecDepth 20000 in
theorem gX3_goThrough_X3_needs : GoodIn wsX3_goThrough (va_wsS RX3 144 yX3_needs wsX3_needs) := goodIn_app (goodIn_of _ (by decide +kernel)) ggX3_goThrough_X3_needs
set_option maxRecDepth 20000 in
theorem ggX3_goThrough_X3_work : GoodIn wsX3_goThrough wsX3_work := goodIn_r _ [22, 6, 23, 24, 25, 13, 26, 7, 2, 4, 27, 28, 29, 30, 31, 15, 10, 11, 12, 14, 32, 33, 34, 35, 36, 37, 1, 38, 39, 40, 41, 42, 43, 44, 45, 46, 47, 48, 49, 50, 51, 52, 53, 54, 55, 56, 57, 58, 59, 60, 61, 62, 63, 64, 65, 66, 67, 68, 69, 70, 71, 72, 73, 74, 75, 76, 77, 78, 79, 80, 81, 82, 83, 84, 85, 86, 87, 88, 89, 90, 91, 92, 93, 94, 95, 96, 97, 98, 99, 100, 101, 102, 103, 104, 105, 106, 107, 108, 109, 110, 111, 112, 113, 114, 115, 116, 117] (by rfl) (by decide +kernel)
set_option maxRecDepth 20000 in
theorem gX3_goThrough_X3_work : GoodIn wsX3_goThrough (wsV RX3 147 RX3 yX3_work wsX3_work) := goodIn_app (goodIn_of _ (by decide +kernel)) ggX3_goThrough_X3_work
set_option maxRecDepth 20000 in
theorem ggX3_goThrough_X3_give : GoodIn wsX3_goThrough wsX3_give := goodIn_r _ [26, 7, 2, 4, 27, 28, 29, 30, 13, 31, 15, 10, 11, 12, 14, 98, 99, 100, 101, 102, 103, 104, 105, 106, 107, 108, 109, 110, 111, 112, 113, 114, 115, 116, 117] (by rfl) (by decide +kernel)
set_option maxRecDepth 20000 in
theorem gX3_goThrough_X3_give : GoodIn wsX3_goThrough (wsV RX3 88 RX3 yX3_give wsX3_give) := goodIn_app (goodIn_of _ (by decide +kernel)) ggX3_goThrough_X3_give
theorem dX3_goThrough_0 : decode cX3_goThrough 0 = .ok (.iconst 0, 1) := by decide +kernel
theorem dX3_goThrough_1 : decode cX3_goThrough 1 = .ok (.istore_n 2, 1) := by decide +kernel
theorem dX3_goThrough_2 : decode cX3_goThrough 2 = .ok (.iload_n 2, 1) := by decide +kernel
theorem dX3_goThrough_3 : decode cX3_goThrough 3 = .ok (.iconst 4, 1) := by decide +kernel
theorem dX3_goThrough_4 : decode cX3_goThrough 4 = .ok (.if_icmp .ge 156, 3) := by decide +kernel
theorem dX3_goThrough_7 : decode cX3_goThrough 7 = .ok (.aload_n 0, 1) := by decide +kernel
theorem dX3_goThrough_8 : decode cX3_goThrough 8 = .ok (.getfield 16, 3) := by decide +kernel
theorem dX3_goThrough_11 : decode cX3_goThrough 11 = .ok (.ifCond .eq 7, 3) := by decide +kernel
theorem dX3_goThrough_14 : decode cX3_goThrough 14 = .ok (.iload_n 2, 1) := by decide +kernel
theorem dX3_goThrough_15 : decode cX3_goThrough 15 = .ok (.goto 6, 3) := by decide +kernel
theorem dX3_goThrough_18 : decode cX3_goThrough 18 = .ok (.iconst 3, 1) := by decide +kernel
theorem dX3_goThrough_19 : decode cX3_goThrough 19 = .ok (.iload_n 2, 1) := by decide +kernel
theorem dX3_goThrough_20 : decode cX3_goThrough 20 = .ok (.isub, 1) := by decide +kernel
theorem dX3_goThrough_21 : decode cX3_goThrough 21 = .ok (.istore_n 3, 1) := by decide +kernel
theorem dX3_goThrough_22 : decode cX3_goThrough 22 = .ok (.aload_n 0, 1) := by decide +kernel
theorem dX3_goThrough_23 : decode cX3_goThrough 23 = .ok (.iconst 0, 1) := by decide +kernel
theorem dX3_goThrough_24 : decode cX3_goThrough 24 = .ok (.putfield 85, 3) := by decide +kernel
theorem dX3_goThrough_27 : decode cX3_goThrough 27 = .ok (.iconst 0, 1) := by decide +kernel
theorem dX3_goThrough_28 : decode cX3_goThrough 28 = .ok (.istore 4, 2) := by decide +kernel
theorem dX3_goThrough_30 : decode cX3_goThrough 30 = .ok (.iload 4, 2) := by decide +kernel
theorem dX3_goThrough_32 : decode cX3_goThrough 32 = .ok (.aload_n 0, 1) := by decide +kernel
theorem dX3_goThrough_33 : decode cX3_goThrough 33 = .ok (.getfield 141, 3) := by decide +kernel
theorem dX3_goThrough_36 : decode cX3_goThrough 36 = .ok (.if_icmp .ge 63, 3) := by decide +kernel
theorem dX3_goThrough_39 : decode cX3_goThrough 39 = .ok (.aload_n 0, 1) := by decide +kernel
theorem dX3_goThrough_40 : decode cX3_goThrough 40 = .ok (.iload_n 3, 1) := by decide +kernel
theorem dX3_goThrough_41 : decode cX3_goThrough 41 = .ok (.aload_n 0, 1) := by decide +kernel
theorem dX3_goThrough_42 : decode cX3_goThrough 42 = .ok (.getfield 23, 3) := by decide +kernel
theorem dX3_goThrough_45 : decode cX3_goThrough 45 = .ok (.iload_n 3, 1) := by decide +kernel
theorem dX3_goThrough_46 : decode cX3_goThrough 46 = .ok (.iaload, 1) := by decide +kernel
theorem dX3_goThrough_47 : decode cX3_goThrough 47 = .ok (.aload_n 0, 1) := by decide +kernel
theorem dX3_goThrough_48 : decode cX3_goThrough 48 = .ok (.getfield 41, 3) := by decide +kernel
theorem dX3_goThrough_51 : decode cX3_goThrough 51 = .ok (.iload 4, 2) := by decide +kernel
theorem dX3_goThrough_53 : decode cX3_goThrough 53 = .ok (.iaload, 1) := by decide +kernel
theorem dX3_goThrough_54 : decode cX3_goThrough 54 = .ok (.invokevirtual 81, 3) := by decide +kernel
theorem dX3_goThrough_57 : decode cX3_goThrough 57 = .ok (.aload_n 0, 1) := by decide +kernel
theorem dX3_goThrough_58 : decode cX3_goThrough 58 = .ok (.getfield 23, 3) := by decide +kernel
theorem dX3_goThrough_61 : decode cX3_goThrough 61 = .ok (.iload_n 3, 1) := by decide +kernel
theorem dX3_goThrough_62 : decode cX3_goThrough 62 = .ok (.dup2, 1) := by decide +kernel
theorem dX3_goThrough_63 : decode cX3_goThrough 63 = .ok (.iaload, 1) := by decide +kernel
theorem dX3_goThrough_64 : decode cX3_goThrough 64 = .ok (.iconst 1, 1) := by decide +kernel
theorem dX3_goThrough_65 : decode cX3_goThrough 65 = .ok (.iadd, 1) := by decide +kernel
theorem dX3_goThrough_66 : decode cX3_goThrough 66 = .ok (.iastore, 1) := by decide +kernel
theorem dX3_goThrough_67 : decode cX3_goThrough 67 = .ok (.aload_n 0, 1) := by decide +kernel
theorem dX3_goThrough_68 : decode cX3_goThrough 68 = .ok (.getfield 23, 3) := by decide +kernel
theorem dX3_goThrough_71 : decode cX3_goThrough 71 = .ok (.iload_n 3, 1) := by decide +kernel
theorem dX3_goThrough_72 : decode cX3_goThrough 72 = .ok (.iaload, 1) := by decide +kernel
theorem dX3_goThrough_73 : decode cX3_goThrough 73 = .ok (.aload_n 0, 1) := by decide +kernel
theorem dX3_goThrough_74 : decode cX3_goThrough 74 = .ok (.getfield 7, 3) := by decide +kernel
theorem dX3_goThrough_77 : decode cX3_goThrough 77 = .ok (.iload_n 3, 1) := by decide +kernel
theorem dX3_goThrough_78 : decode cX3_goThrough 78 = .ok (.iaload, 1) := by decide +kernel
theorem dX3_goThrough_79 : decode cX3_goThrough 79 = .ok (.invokestatic 144, 3) := by decide +kernel
theorem dX3_goThrough_82 : decode cX3_goThrough 82 = .ok (.if_icmp .lt 11, 3) := by decide +kernel
theorem dX3_goThrough_85 : decode cX3_goThrough 85 = .ok (.aload_n 0, 1) := by decide +kernel
theorem dX3_goThrough_86 : decode cX3_goThrough 86 = .ok (.iload_n 3, 1) := by decide +kernel
theorem dX3_goThrough_87 : decode cX3_goThrough 87 = .ok (.invokevirtual 147, 3) := by decide +kernel
theorem dX3_goThrough_90 : decode cX3_goThrough 90 = .ok (.goto (-23), 3) := by decide +kernel
theorem dX3_goThrough_93 : decode cX3_goThrough 93 = .ok (.iinc 4 1, 3) := by decide +kernel
theorem dX3_goThrough_96 : decode cX3_goThrough 96 = .ok (.goto (-66), 3) := by decide +kernel
theorem dX3_goThrough_99 : decode cX3_goThrough 99 = .ok (.iload_n 1, 1) := by decide +kernel
theorem dX3_goThrough_100 : decode cX3_goThrough 100 = .ok (.ifCond .eq 14, 3) := by decide +kernel
theorem dX3_goThrough_103 : decode cX3_goThrough 103 = .ok (.aload_n 0, 1) := by decide +kernel
theorem dX3_goThrough_104 : decode cX3_goThrough 104 = .ok (.iload_n 3, 1) := by decide +kernel
theorem dX3_goThrough_105 : decode cX3_goThrough 105 = .ok (.aload_n 0, 1) := by decide +kernel
theorem dX3_goThrough_106 : decode cX3_goThrough 106 = .ok (.getfield 23, 3) := by decide +kernel
theorem dX3_goThrough_109 : decode cX3_goThrough 109 = .ok (.iload_n 3, 1) := by decide +kernel
theorem dX3_goThrough_110 : decode cX3_goThrough 110 = .ok (.iaload, 1) := by decide +kernel
theorem dX3_goThrough_111 : decode cX3_goThrough 111 = .ok (.invokevirtual 88, 3) := by decide +kernel
theorem dX3_goThrough_114 : decode cX3_goThrough 114 = .ok (.aload_n 0, 1) := by decide +kernel
theorem dX3_goThrough_115 : decode cX3_goThrough 115 = .ok (.aload_n 0, 1) := by decide +kernel
theorem dX3_goThrough_116 : decode cX3_goThrough 116 = .ok (.getfield 85, 3) := by decide +kernel
theorem dX3_goThrough_119 : decode cX3_goThrough 119 = .ok (.putfield 141, 3) := by decide +kernel
theorem dX3_goThrough_122 : decode cX3_goThrough 122 = .ok (.iconst 0, 1) := by decide +kernel
theorem dX3_goThrough_123 : decode cX3_goThrough 123 = .ok (.istore 4, 2) := by decide +kernel
theorem dX3_goThrough_125 : decode cX3_goThrough 125 = .ok (.iload 4, 2) := by decide +kernel
theorem dX3_goThrough_127 : decode cX3_goThrough 127 = .ok (.aload_n 0, 1) := by decide +kernel
theorem dX3_goThrough_128 : decode cX3_goThrough 128 = .ok (.getfield 85, 3) := by decide +kernel
theorem dX3_goThrough_131 : decode cX3_goThrough 131 = .ok (.if_icmp .ge 23, 3) := by decide +kernel
theorem dX3_goThrough_134 : decode cX3_goThrough 134 = .ok (.aload_n 0, 1) := by decide +kernel
theorem dX3_goThrough_135 : decode cX3_goThrough 135 = .ok (.getfield 41, 3) := by decide +kernel
theorem dX3_goThrough_138 : decode cX3_goThrough 138 = .ok (.iload 4, 2) := by decide +kernel
