theorem dL_areShares_169 : decode cL_areShares 169 = .ok (.iload 9, 2) := by decide +kernel
theorem dL_areShares_171 : decode cL_areShares 171 = .ok (.iconst 0, 1) := by decide +kernel
theorem dL_areShares_172 : decode cL_areShares 172 = .ok (.invokevirtual 83, 3) := by decide +kernel
theorem dL_areShares_175 : decode cL_areShares 175 = .ok (.iload 10, 2) := by decide +kernel
theorem dL_areShares_177 : decode cL_areShares 177 = .ok (.if_icmp .ne 7, 3) := by decide +kernel
theorem dL_areShares_180 : decode cL_areShares 180 = .ok (.iconst 1, 1) := by decide +kernel
theorem dL_areShares_181 : decode cL_areShares 181 = .ok (.goto 4, 3) := by decide +kernel
theorem dL_areShares_184 : decode cL_areShares 184 = .ok (.iconst 0, 1) := by decide +kernel
theorem dL_areShares_185 : decode cL_areShares 185 = .ok (.istore 8, 2) := by decide +kernel
theorem dL_areShares_187 : decode cL_areShares 187 = .ok (.iconst 0, 1) := by decide +kernel
theorem dL_areShares_188 : decode cL_areShares 188 = .ok (.istore 12, 2) := by decide +kernel
theorem dL_areShares_190 : decode cL_areShares 190 = .ok (.iload 12, 2) := by decide +kernel
theorem dL_areShares_192 : decode cL_areShares 192 = .ok (.iload 9, 2) := by decide +kernel
theorem dL_areShares_194 : decode cL_areShares 194 = .ok (.if_icmp .ge 121, 3) := by decide +kernel
theorem dL_areShares_197 : decode cL_areShares 197 = .ok (.iload 8, 2) := by decide +kernel
theorem dL_areShares_199 : decode cL_areShares 199 = .ok (.ifCond .eq 116, 3) := by decide +kernel
theorem dL_areShares_202 : decode cL_areShares 202 = .ok (.iload 11, 2) := by decide +kernel
theorem dL_areShares_204 : decode cL_areShares 204 = .ok (.ifCond .eq 111, 3) := by decide +kernel
theorem dL_areShares_207 : decode cL_areShares 207 = .ok (.aload_n 2, 1) := by decide +kernel
theorem dL_areShares_208 : decode cL_areShares 208 = .ok (.iload 12, 2) := by decide +kernel
theorem dL_areShares_210 : decode cL_areShares 210 = .ok (.iaload, 1) := by decide +kernel
theorem dL_areShares_211 : decode cL_areShares 211 = .ok (.istore 13, 2) := by decide +kernel
theorem dL_areShares_213 : decode cL_areShares 213 = .ok (.aload_n 1, 1) := by decide +kernel
theorem dL_areShares_214 : decode cL_areShares 214 = .ok (.iconst 1, 1) := by decide +kernel
theorem dL_areShares_215 : decode cL_areShares 215 = .ok (.aload_n 0, 1) := by decide +kernel
theorem dL_areShares_216 : decode cL_areShares 216 = .ok (.iload 9, 2) := by decide +kernel
theorem dL_areShares_218 : decode cL_areShares 218 = .ok (.invokevirtual 61, 3) := by decide +kernel
theorem dL_areShares_221 : decode cL_areShares 221 = .ok (.iadd, 1) := by decide +kernel
theorem dL_areShares_222 : decode cL_areShares 222 = .ok (.iaload, 1) := by decide +kernel
theorem dL_areShares_223 : decode cL_areShares 223 = .ok (.i2l, 1) := by decide +kernel
theorem dL_areShares_224 : decode cL_areShares 224 = .ok (.lstore 14, 2) := by decide +kernel
theorem dL_areShares_226 : decode cL_areShares 226 = .ok (.aload_n 1, 1) := by decide +kernel
theorem dL_areShares_227 : decode cL_areShares 227 = .ok (.iconst 1, 1) := by decide +kernel
theorem dL_areShares_228 : decode cL_areShares 228 = .ok (.aload_n 0, 1) := by decide +kernel
theorem dL_areShares_229 : decode cL_areShares 229 = .ok (.iload 12, 2) := by decide +kernel
theorem dL_areShares_231 : decode cL_areShares 231 = .ok (.invokevirtual 61, 3) := by decide +kernel
theorem dL_areShares_234 : decode cL_areShares 234 = .ok (.iadd, 1) := by decide +kernel
theorem dL_areShares_235 : decode cL_areShares 235 = .ok (.iaload, 1) := by decide +kernel
theorem dL_areShares_236 : decode cL_areShares 236 = .ok (.i2l, 1) := by decide +kernel
theorem dL_areShares_237 : decode cL_areShares 237 = .ok (.lstore 16, 2) := by decide +kernel
theorem dL_areShares_239 : decode cL_areShares 239 = .ok (.iload 13, 2) := by decide +kernel
theorem dL_areShares_241 : decode cL_areShares 241 = .ok (.ifCond .lt 61, 3) := by decide +kernel
theorem dL_areShares_244 : decode cL_areShares 244 = .ok (.iload 13, 2) := by decide +kernel
theorem dL_areShares_246 : decode cL_areShares 246 = .ok (.aload_n 3, 1) := by decide +kernel
theorem dL_areShares_247 : decode cL_areShares 247 = .ok (.iload 12, 2) := by decide +kernel
theorem dL_areShares_249 : decode cL_areShares 249 = .ok (.iaload, 1) := by decide +kernel
theorem dL_areShares_250 : decode cL_areShares 250 = .ok (.if_icmp .eq 23, 3) := by decide +kernel
theorem dL_areShares_253 : decode cL_areShares 253 = .ok (.iload 10, 2) := by decide +kernel
theorem dL_areShares_255 : decode cL_areShares 255 = .ok (.iconst 1, 1) := by decide +kernel
theorem dL_areShares_256 : decode cL_areShares 256 = .ok (.isub, 1) := by decide +kernel
theorem dL_areShares_257 : decode cL_areShares 257 = .ok (.i2l, 1) := by decide +kernel
theorem dL_areShares_258 : decode cL_areShares 258 = .ok (.lload 16, 2) := by decide +kernel
theorem dL_areShares_260 : decode cL_areShares 260 = .ok (.lmul, 1) := by decide +kernel
theorem dL_areShares_261 : decode cL_areShares 261 = .ok (.iload 13, 2) := by decide +kernel
theorem dL_areShares_263 : decode cL_areShares 263 = .ok (.iconst 1, 1) := by decide +kernel
theorem dL_areShares_264 : decode cL_areShares 264 = .ok (.iadd, 1) := by decide +kernel
theorem dL_areShares_265 : decode cL_areShares 265 = .ok (.i2l, 1) := by decide +kernel
theorem dL_areShares_266 : decode cL_areShares 266 = .ok (.lload 14, 2) := by decide +kernel
theorem dL_areShares_268 : decode cL_areShares 268 = .ok (.lmul, 1) := by decide +kernel
theorem dL_areShares_269 : decode cL_areShares 269 = .ok (.lcmp, 1) := by decide +kernel
theorem dL_areShares_270 : decode cL_areShares 270 = .ok (.ifCond .ge 36, 3) := by decide +kernel
theorem dL_areShares_273 : decode cL_areShares 273 = .ok (.iload 10, 2) := by decide +kernel
theorem dL_areShares_275 : decode cL_areShares 275 = .ok (.aload_n 3, 1) := by decide +kernel
theorem dL_areShares_276 : decode cL_areShares 276 = .ok (.iload 9, 2) := by decide +kernel
theorem dL_areShares_278 : decode cL_areShares 278 = .ok (.iaload, 1) := by decide +kernel
theorem dL_areShares_279 : decode cL_areShares 279 = .ok (.if_icmp .eq 23, 3) := by decide +kernel
theorem dL_areShares_282 : decode cL_areShares 282 = .ok (.iload 13, 2) := by decide +kernel
theorem dL_areShares_284 : decode cL_areShares 284 = .ok (.iconst 1, 1) := by decide +kernel
theorem dL_areShares_285 : decode cL_areShares 285 = .ok (.isub, 1) := by decide +kernel
theorem dL_areShares_286 : decode cL_areShares 286 = .ok (.i2l, 1) := by decide +kernel
theorem dL_areShares_287 : decode cL_areShares 287 = .ok (.lload 14, 2) := by decide +kernel
theorem dL_areShares_289 : decode cL_areShares 289 = .ok (.lmul, 1) := by decide +kernel
theorem dL_areShares_290 : decode cL_areShares 290 = .ok (.iload 10, 2) := by decide +kernel
theorem dL_areShares_292 : decode cL_areShares 292 = .ok (.iconst 1, 1) := by decide +kernel
theorem dL_areShares_293 : decode cL_areShares 293 = .ok (.iadd, 1) := by decide +kernel
theorem dL_areShares_294 : decode cL_areShares 294 = .ok (.i2l, 1) := by decide +kernel
theorem dL_areShares_295 : decode cL_areShares 295 = .ok (.lload 16, 2) := by decide +kernel
theorem dL_areShares_297 : decode cL_areShares 297 = .ok (.lmul, 1) := by decide +kernel
theorem dL_areShares_298 : decode cL_areShares 298 = .ok (.lcmp, 1) := by decide +kernel
theorem dL_areShares_299 : decode cL_areShares 299 = .ok (.ifCond .ge 7, 3) := by decide +kernel
theorem dL_areShares_302 : decode cL_areShares 302 = .ok (.iconst 1, 1) := by decide +kernel
theorem dL_areShares_303 : decode cL_areShares 303 = .ok (.goto 4, 3) := by decide +kernel
theorem dL_areShares_306 : decode cL_areShares 306 = .ok (.iconst 0, 1) := by decide +kernel
theorem dL_areShares_307 : decode cL_areShares 307 = .ok (.istore 8, 2) := by decide +kernel
theorem dL_areShares_309 : decode cL_areShares 309 = .ok (.iinc 12 1, 3) := by decide +kernel
theorem dL_areShares_312 : decode cL_areShares 312 = .ok (.goto (-122), 3) := by decide +kernel
theorem dL_areShares_315 : decode cL_areShares 315 = .ok (.iinc 9 1, 3) := by decide +kernel
theorem dL_areShares_318 : decode cL_areShares 318 = .ok (.goto (-306), 3) := by decide +kernel
theorem dL_areShares_321 : decode cL_areShares 321 = .ok (.iload 8, 2) := by decide +kernel
theorem dL_areShares_323 : decode cL_areShares 323 = .ok (.ifCond .eq 88, 3) := by decide +kernel
theorem dL_areShares_326 : decode cL_areShares 326 = .ok (.aload_n 0, 1) := by decide +kernel
theorem dL_areShares_327 : decode cL_areShares 327 = .ok (.invokevirtual 103, 3) := by decide +kernel
theorem dL_areShares_330 : decode cL_areShares 330 = .ok (.ifCond .le 81, 3) := by decide +kernel
theorem dL_areShares_333 : decode cL_areShares 333 = .ok (.iload 4, 2) := by decide +kernel
theorem dL_areShares_335 : decode cL_areShares 335 = .ok (.aload_n 0, 1) := by decide +kernel
theorem dL_areShares_336 : decode cL_areShares 336 = .ok (.invokevirtual 103, 3) := by decide +kernel
theorem dL_areShares_339 : decode cL_areShares 339 = .ok (.irem, 1) := by decide +kernel
theorem dL_areShares_340 : decode cL_areShares 340 = .ok (.istore 9, 2) := by decide +kernel
theorem dL_areShares_342 : decode cL_areShares 342 = .ok (.aload_n 0, 1) := by decide +kernel
theorem dL_areShares_343 : decode cL_areShares 343 = .ok (.iload 9, 2) := by decide +kernel
theorem dL_areShares_345 : decode cL_areShares 345 = .ok (.iload 4, 2) := by decide +kernel
theorem dL_areShares_347 : decode cL_areShares 347 = .ok (.invokevirtual 79, 3) := by decide +kernel
theorem dL_areShares_350 : decode cL_areShares 350 = .ok (.istore 10, 2) := by decide +kernel
theorem dL_areShares_352 : decode cL_areShares 352 = .ok (.aload_n 0, 1) := by decide +kernel
theorem dL_areShares_353 : decode cL_areShares 353 = .ok (.iload 9, 2) := by decide +kernel
theorem dL_areShares_355 : decode cL_areShares 355 = .ok (.iload 4, 2) := by decide +kernel
theorem dL_areShares_357 : decode cL_areShares 357 = .ok (.invokevirtual 83, 3) := by decide +kernel
theorem dL_areShares_360 : decode cL_areShares 360 = .ok (.iload 10, 2) := by decide +kernel
theorem dL_areShares_362 : decode cL_areShares 362 = .ok (.if_icmp .ne 46, 3) := by decide +kernel
theorem dL_areShares_365 : decode cL_areShares 365 = .ok (.iload 10, 2) := by decide +kernel
theorem dL_areShares_367 : decode cL_areShares 367 = .ok (.aload_n 3, 1) := by decide +kernel
theorem dL_areShares_368 : decode cL_areShares 368 = .ok (.iload 9, 2) := by decide +kernel
theorem dL_areShares_370 : decode cL_areShares 370 = .ok (.iaload, 1) := by decide +kernel
theorem dL_areShares_371 : decode cL_areShares 371 = .ok (.if_icmp .gt 37, 3) := by decide +kernel
theorem dL_areShares_374 : decode cL_areShares 374 = .ok (.iload 10, 2) := by decide +kernel
theorem dL_areShares_376 : decode cL_areShares 376 = .ok (.ifCond .eq 28, 3) := by decide +kernel
theorem dL_areShares_379 : decode cL_areShares 379 = .ok (.iload 10, 2) := by decide +kernel
theorem dL_areShares_381 : decode cL_areShares 381 = .ok (.iload 4, 2) := by decide +kernel
theorem dL_areShares_383 : decode cL_areShares 383 = .ok (.if_icmp .lt 25, 3) := by decide +kernel
theorem dL_areShares_386 : decode cL_areShares 386 = .ok (.iload 10, 2) := by decide +kernel
theorem dL_areShares_388 : decode cL_areShares 388 = .ok (.aload_n 2, 1) := by decide +kernel
theorem dL_areShares_389 : decode cL_areShares 389 = .ok (.iload 9, 2) := by decide +kernel
theorem dL_areShares_391 : decode cL_areShares 391 = .ok (.iaload, 1) := by decide +kernel
theorem dL_areShares_392 : decode cL_areShares 392 = .ok (.iconst 1, 1) := by decide +kernel
theorem dL_areShares_393 : decode cL_areShares 393 = .ok (.isub, 1) := by decide +kernel
theorem dL_areShares_394 : decode cL_areShares 394 = .ok (.if_icmp .lt 14, 3) := by decide +kernel
theorem dL_areShares_397 : decode cL_areShares 397 = .ok (.aload_n 2, 1) := by decide +kernel
theorem dL_areShares_398 : decode cL_areShares 398 = .ok (.iload 9, 2) := by decide +kernel
theorem dL_areShares_400 : decode cL_areShares 400 = .ok (.iaload, 1) := by decide +kernel
theorem dL_areShares_401 : decode cL_areShares 401 = .ok (.ifCond .lt 7, 3) := by decide +kernel
theorem dL_areShares_404 : decode cL_areShares 404 = .ok (.iconst 1, 1) := by decide +kernel
theorem dL_areShares_405 : decode cL_areShares 405 = .ok (.goto 4, 3) := by decide +kernel
theorem dL_areShares_408 : decode cL_areShares 408 = .ok (.iconst 0, 1) := by decide +kernel
theorem dL_areShares_409 : decode cL_areShares 409 = .ok (.istore 8, 2) := by decide +kernel
theorem dL_areShares_411 : decode cL_areShares 411 = .ok (.iload 8, 2) := by decide +kernel
theorem dL_areShares_413 : decode cL_areShares 413 = .ok (.ifCond .eq 52, 3) := by decide +kernel
theorem dL_areShares_416 : decode cL_areShares 416 = .ok (.aload_n 0, 1) := by decide +kernel
theorem dL_areShares_417 : decode cL_areShares 417 = .ok (.invokevirtual 95, 3) := by decide +kernel
theorem dL_areShares_420 : decode cL_areShares 420 = .ok (.iconst 1, 1) := by decide +kernel
theorem dL_areShares_421 : decode cL_areShares 421 = .ok (.if_icmp .ge 13, 3) := by decide +kernel
theorem dL_areShares_424 : decode cL_areShares 424 = .ok (.lload 5, 2) := by decide +kernel
theorem dL_areShares_426 : decode cL_areShares 426 = .ok (.lconst 0, 1) := by decide +kernel
theorem dL_areShares_427 : decode cL_areShares 427 = .ok (.lcmp, 1) := by decide +kernel
theorem dL_areShares_428 : decode cL_areShares 428 = .ok (.ifCond .ne 37, 3) := by decide +kernel
theorem dL_areShares_431 : decode cL_areShares 431 = .ok (.goto 14, 3) := by decide +kernel
theorem dL_areShares_434 : decode cL_areShares 434 = .ok (.lload 5, 2) := by decide +kernel
theorem dL_areShares_436 : decode cL_areShares 436 = .ok (.aload_n 0, 1) := by decide +kernel
theorem dL_areShares_437 : decode cL_areShares 437 = .ok (.invokevirtual 95, 3) := by decide +kernel
theorem dL_areShares_440 : decode cL_areShares 440 = .ok (.i2l, 1) := by decide +kernel
theorem dL_areShares_441 : decode cL_areShares 441 = .ok (.lcmp, 1) := by decide +kernel
theorem dL_areShares_442 : decode cL_areShares 442 = .ok (.ifCond .gt 23, 3) := by decide +kernel
theorem dL_areShares_445 : decode cL_areShares 445 = .ok (.iload 7, 2) := by decide +kernel
theorem dL_areShares_447 : decode cL_areShares 447 = .ok (.ifCond .eq 14, 3) := by decide +kernel
theorem dL_areShares_450 : decode cL_areShares 450 = .ok (.lload 5, 2) := by decide +kernel
theorem dL_areShares_452 : decode cL_areShares 452 = .ok (.aload_n 0, 1) := by decide +kernel
theorem dL_areShares_453 : decode cL_areShares 453 = .ok (.invokevirtual 95, 3) := by decide +kernel
theorem dL_areShares_456 : decode cL_areShares 456 = .ok (.i2l, 1) := by decide +kernel
theorem dL_areShares_457 : decode cL_areShares 457 = .ok (.lcmp, 1) := by decide +kernel
theorem dL_areShares_458 : decode cL_areShares 458 = .ok (.ifCond .ne 7, 3) := by decide +kernel
theorem dL_areShares_461 : decode cL_areShares 461 = .ok (.iconst 1, 1) := by decide +kernel
theorem dL_areShares_462 : decode cL_areShares 462 = .ok (.goto 4, 3) := by decide +kernel
theorem dL_areShares_465 : decode cL_areShares 465 = .ok (.iconst 0, 1) := by decide +kernel
theorem dL_areShares_466 : decode cL_areShares 466 = .ok (.ireturn, 1) := by decide +kernel
set_option maxRecDepth 20000 in
theorem ggL_isRefused_X3_claims : GoodIn wsL_isRefused wsX3_claims := goodIn_r _ [11, 12, 13, 358, 359, 360, 361, 362, 363, 364, 365, 366, 367, 368, 369, 370, 371, 372] (by decide +kernel) (by decide +kernel)
set_option maxRecDepth 20000 in
theorem gL_isRefused_X3_claims : GoodIn wsL_isRefused (wsV RL 103 RX3 yX3_claims wsX3_claims) := goodIn_app (goodIn_of _ (by decide +kernel)) ggL_isRefused_X3_claims
set_option maxRecDepth 20000 in
theorem ggL_isRefused_X3_payments : GoodIn wsL_isRefused wsX3_payments := goodIn_r _ [17, 18, 19, 358, 359, 360, 361, 362, 363, 364, 365, 366, 373, 374, 375, 376, 377] (by decide +kernel) (by decide +kernel)
set_option maxRecDepth 20000 in
theorem gL_isRefused_X3_payments : GoodIn wsL_isRefused (wsV RL 112 RX3 yX3_payments wsX3_payments) := goodIn_app (goodIn_of _ (by decide +kernel)) ggL_isRefused_X3_payments
set_option maxRecDepth 20000 in
theorem ggL_isRefused_L_all : GoodIn wsL_isRefused wsL_all := goodIn_ca (goodIn_r _ [23, 24, 25, 26, 27, 28, 29, 30, 31, 32, 10, 33, 34, 35, 36, 37, 38, 39, 40, 18, 41, 42, 43, 44, 45, 46, 47, 48, 49, 50, 51, 52, 53, 54, 55, 7, 8, 9, 11, 12, 13, 56, 57, 58, 59, 60, 61, 62, 63, 64, 65, 66, 67, 68, 69, 70, 71, 72, 73, 74, 75, 76, 77, 78, 79, 80, 81, 82, 83, 84, 85, 86, 14, 15, 16, 17, 19, 87, 88, 89, 90, 91, 92, 93, 94, 95, 96, 97, 98, 99, 100, 101, 102, 103, 104, 105, 106, 107, 108, 109, 358, 359, 360, 361, 362, 363, 364, 365, 366, 373, 374, 375, 376, 377, 367, 368, 369, 370, 371, 372] (by decide +kernel) (by decide +kernel)) (goodIn_sub (fun _ h => List.mem_cons_of_mem _ (List.mem_append_left _ (List.mem_append_left _ (List.mem_append_right _ h)))) (by decide +kernel))
set_option maxRecDepth 20000 in
theorem gL_isRefused_L_all : GoodIn wsL_isRefused (va_wsS RL 123 yL_all wsL_all) := goodIn_app (goodIn_of _ (by decide +kernel)) ggL_isRefused_L_all
set_option maxRecDepth 20000 in
theorem ggL_isRefused_L_act : GoodIn wsL_isRefused wsL_act := goodIn_ca (goodIn_ca (goodIn_ca (goodIn_r _ [112, 113, 114, 115, 5, 2, 4, 116, 117, 118, 10, 119, 120, 121, 122, 123, 39, 45, 40, 124, 125, 126, 127, 128, 129, 130, 131, 132, 18, 19, 133, 36, 37, 38, 41, 42, 43, 44, 46, 47, 48, 49, 50, 51, 52, 53, 54, 134, 135, 136, 137, 34, 12, 138, 139, 140, 70, 141, 72, 142, 143, 144, 145, 146, 147, 148, 149, 150, 151, 152, 153, 154, 155, 156, 157, 158, 159, 160, 161, 162, 163, 164, 165, 166, 167, 168, 169, 170, 13, 171, 77, 172, 173, 174, 175, 176, 177, 178, 179, 180, 181, 60, 182, 183, 184, 185, 186, 61, 62, 63, 64, 65, 66, 67, 68, 69, 71, 187, 188, 189, 82, 83, 84, 85, 86, 190, 191, 192, 193, 194, 195, 196, 197, 198, 199, 200, 201, 202, 203, 204, 205, 206, 207, 208, 209, 210, 211, 212, 213, 214, 215, 216, 217, 218, 219, 220, 221, 222, 223, 224, 225, 226, 227, 228, 229, 230, 231, 232, 233, 234, 235, 236, 237, 238, 239, 240, 241, 242, 243, 244, 245, 246, 247, 248, 249, 250, 251, 252, 253, 254, 255, 256, 257, 258, 259, 260, 261, 262, 263, 264, 265, 266, 267, 268, 269, 270, 271, 272, 273, 274, 275, 276, 277, 278, 279, 280, 281, 282, 283, 284, 285, 91, 109, 92, 93, 94, 95, 96, 97, 98, 99, 286, 287, 288, 289, 290, 291, 292, 293, 294, 295, 296, 297, 298, 299, 300, 301, 302, 303, 304, 305, 306, 307, 308, 309, 310, 311, 312, 313, 314, 315, 316, 317, 318, 319, 320, 321, 322, 323, 324, 325, 326, 358, 359, 360, 361, 362, 363, 364, 365, 366, 373, 374, 375, 376, 377, 367, 368, 369, 370, 371, 372, 378, 379, 380, 381, 382, 383, 384, 385] (by decide +kernel) (by decide +kernel)) (goodIn_sub (fun _ h => List.mem_cons_of_mem _ (List.mem_append_left _ (List.mem_append_right _ h))) (by decide +kernel))) (goodIn_sub (fun _ h => List.mem_cons_of_mem _ (List.mem_append_right _ h)) (by decide +kernel))) (goodIn_sub (fun _ h => List.mem_cons_of_mem _ (List.mem_append_left _ (List.mem_append_left _ (List.mem_append_right _ h)))) (by decide +kernel))
set_option maxRecDepth 20000 in
theorem gL_isRefused_L_act : GoodIn wsL_isRefused (va_wsS RL 128 yL_act wsL_act) := goodIn_app (goodIn_of _ (by decide +kernel)) ggL_isRefused_L_act
set_option maxRecDepth 20000 in
theorem ggL_isRefused_L_setGrade : GoodIn wsL_isRefused wsL_setGrade := goodIn_ca (goodIn_ca (goodIn_ca (goodIn_r _ [329, 113, 114, 115, 5, 2, 4, 330, 331, 332, 10, 333, 65, 66, 120, 121, 123, 171, 186, 124, 125, 126, 127, 128, 129, 130, 131, 132, 18, 19, 358, 359, 360, 361, 362, 363, 364, 365, 366, 373, 374, 375, 376, 377] (by decide +kernel) (by decide +kernel)) (goodIn_sub (fun _ h => List.mem_cons_of_mem _ (List.mem_append_left _ (List.mem_append_left _ (List.mem_append_right _ h)))) (by decide +kernel))) (goodIn_sub (fun _ h => List.mem_cons_of_mem _ (List.mem_append_left _ (List.mem_append_right _ h))) (by decide +kernel))) (goodIn_sub (fun _ h => List.mem_cons_of_mem _ (List.mem_append_right _ h)) (by decide +kernel))
set_option maxRecDepth 20000 in
theorem gL_isRefused_L_setGrade : GoodIn wsL_isRefused (va_wsS RL 133 yL_setGrade wsL_setGrade) := goodIn_app (goodIn_of _ (by decide +kernel)) ggL_isRefused_L_setGrade
set_option maxRecDepth 20000 in
theorem ggL_isRefused_L_of : GoodIn wsL_isRefused wsL_of := goodIn_ca (goodIn_ca (goodIn_r _ [336, 113, 114, 5, 2, 337, 338, 339, 10, 340, 65, 66, 12, 308, 124, 125, 126, 56, 57, 58, 59, 60, 61, 62, 63, 64, 67, 68, 69, 70, 71, 72, 73, 74, 75, 76, 77, 341, 183, 184, 185, 186, 18, 187, 188, 189, 82, 83, 84, 50, 85, 52, 86, 53, 54, 78, 79, 80, 81, 100, 101, 102, 103, 104, 92, 93, 94, 95, 96, 97, 98, 99, 105, 106, 107, 108, 109, 87, 88, 89, 90, 91, 342, 343, 344, 345, 346, 347, 348, 349, 153, 154, 155, 156, 157, 120, 121, 158, 167, 168, 169, 170, 13, 171, 172, 173, 174, 175, 176, 177, 133, 36, 37, 38, 39, 40, 41, 42, 43, 44, 45, 46, 47, 48, 49, 51, 178, 179, 180, 181, 182, 190, 191, 192, 193, 194, 195, 196, 197, 198, 199, 200, 201, 202, 203, 204, 205, 206, 207, 208, 209, 210, 211, 212, 213, 214, 215, 216, 217, 218, 219, 220, 221, 222, 223, 224, 225, 226, 227, 228, 229, 230, 231, 232, 233, 234, 235, 236, 237, 238, 239, 240, 241, 242, 243, 244, 245, 246, 247, 248, 249, 250, 251, 252, 253, 254, 255, 256, 257, 258, 259, 260, 273, 274, 275, 276, 350, 351, 352, 353, 354, 355, 356, 357, 159, 160, 161, 162, 142, 358, 359, 360, 361, 362, 363, 364, 365, 366, 367, 368, 369, 370, 371, 372, 373, 374, 375, 376, 377, 378, 379, 380, 381, 382, 383, 384, 385] (by decide +kernel) (by decide +kernel)) (goodIn_sub (fun _ h => List.mem_cons_of_mem _ (List.mem_append_left _ (List.mem_append_left _ (List.mem_append_right _ h)))) (by decide +kernel))) (goodIn_sub (fun _ h => List.mem_cons_of_mem _ (List.mem_append_left _ (List.mem_append_right _ h))) (by decide +kernel))
set_option maxRecDepth 20000 in
theorem gL_isRefused_L_of : GoodIn wsL_isRefused (va_wsS RL 137 yL_of wsL_of) := goodIn_app (goodIn_of _ (by decide +kernel)) ggL_isRefused_L_of
set_option maxRecDepth 20000 in
theorem ggL_isRefused_X3_stateOf : GoodIn wsL_isRefused wsX3_stateOf := goodIn_ca (goodIn_r _ [59, 12, 60, 61, 62, 63, 10, 64, 65, 66, 67, 68, 69, 70, 71, 72, 358, 359, 360, 361, 362, 363, 364, 365, 366, 367, 368, 369, 370, 371, 372] (by decide +kernel) (by decide +kernel)) (goodIn_sub (fun _ h => List.mem_cons_of_mem _ (List.mem_append_left _ (List.mem_append_left _ (List.mem_append_right _ h)))) (by decide +kernel))
set_option maxRecDepth 20000 in
theorem gL_isRefused_X3_stateOf : GoodIn wsL_isRefused (wsV RL 58 RX3 yX3_stateOf wsX3_stateOf) := goodIn_app (goodIn_of _ (by decide +kernel)) ggL_isRefused_X3_stateOf
set_option maxRecDepth 20000 in
theorem ggL_isRefused_X3_paymentState : GoodIn wsL_isRefused wsX3_paymentState := goodIn_ca (goodIn_r _ [90, 18, 91, 92, 93, 94, 10, 95, 65, 66, 96, 97, 98, 50, 99, 52, 358, 359, 360, 361, 362, 363, 364, 365, 366, 373, 374, 375, 376, 377] (by decide +kernel) (by decide +kernel)) (goodIn_sub (fun _ h => List.mem_cons_of_mem _ (List.mem_append_left _ (List.mem_append_left _ (List.mem_append_right _ h)))) (by decide +kernel))
set_option maxRecDepth 20000 in
theorem gL_isRefused_X3_paymentState : GoodIn wsL_isRefused (wsV RL 76 RX3 yX3_paymentState wsX3_paymentState) := goodIn_app (goodIn_of _ (by decide +kernel)) ggL_isRefused_X3_paymentState
theorem dL_isRefused_0 : decode cL_isRefused 0 = .ok (.iload_n 2, 1) := by decide +kernel
theorem dL_isRefused_1 : decode cL_isRefused 1 = .ok (.iconst 2, 1) := by decide +kernel
theorem dL_isRefused_2 : decode cL_isRefused 2 = .ok (.irem, 1) := by decide +kernel
theorem dL_isRefused_3 : decode cL_isRefused 3 = .ok (.ifCond .ne 7, 3) := by decide +kernel
theorem dL_isRefused_6 : decode cL_isRefused 6 = .ok (.iconst 1, 1) := by decide +kernel
theorem dL_isRefused_7 : decode cL_isRefused 7 = .ok (.goto 4, 3) := by decide +kernel
theorem dL_isRefused_10 : decode cL_isRefused 10 = .ok (.iconst 0, 1) := by decide +kernel
theorem dL_isRefused_11 : decode cL_isRefused 11 = .ok (.istore_n 3, 1) := by decide +kernel
theorem dL_isRefused_12 : decode cL_isRefused 12 = .ok (.iload_n 3, 1) := by decide +kernel
theorem dL_isRefused_13 : decode cL_isRefused 13 = .ok (.ifCond .eq 12, 3) := by decide +kernel
theorem dL_isRefused_16 : decode cL_isRefused 16 = .ok (.iconst (-1), 1) := by decide +kernel
theorem dL_isRefused_17 : decode cL_isRefused 17 = .ok (.iload_n 2, 1) := by decide +kernel
theorem dL_isRefused_18 : decode cL_isRefused 18 = .ok (.bipush 30, 2) := by decide +kernel
theorem dL_isRefused_20 : decode cL_isRefused 20 = .ok (.irem, 1) := by decide +kernel
theorem dL_isRefused_21 : decode cL_isRefused 21 = .ok (.isub, 1) := by decide +kernel
theorem dL_isRefused_22 : decode cL_isRefused 22 = .ok (.goto 12, 3) := by decide +kernel
theorem dL_isRefused_25 : decode cL_isRefused 25 = .ok (.aload_n 0, 1) := by decide +kernel
theorem dL_isRefused_26 : decode cL_isRefused 26 = .ok (.invokevirtual 103, 3) := by decide +kernel
theorem dL_isRefused_29 : decode cL_isRefused 29 = .ok (.iload_n 2, 1) := by decide +kernel
theorem dL_isRefused_30 : decode cL_isRefused 30 = .ok (.bipush 30, 2) := by decide +kernel
theorem dL_isRefused_32 : decode cL_isRefused 32 = .ok (.irem, 1) := by decide +kernel
theorem dL_isRefused_33 : decode cL_isRefused 33 = .ok (.iadd, 1) := by decide +kernel
theorem dL_isRefused_34 : decode cL_isRefused 34 = .ok (.istore 4, 2) := by decide +kernel
theorem dL_isRefused_36 : decode cL_isRefused 36 = .ok (.iload_n 3, 1) := by decide +kernel
theorem dL_isRefused_37 : decode cL_isRefused 37 = .ok (.ifCond .eq 12, 3) := by decide +kernel
theorem dL_isRefused_40 : decode cL_isRefused 40 = .ok (.iconst (-1), 1) := by decide +kernel
theorem dL_isRefused_41 : decode cL_isRefused 41 = .ok (.iload_n 2, 1) := by decide +kernel
theorem dL_isRefused_42 : decode cL_isRefused 42 = .ok (.bipush 30, 2) := by decide +kernel
theorem dL_isRefused_44 : decode cL_isRefused 44 = .ok (.irem, 1) := by decide +kernel
theorem dL_isRefused_45 : decode cL_isRefused 45 = .ok (.isub, 1) := by decide +kernel
theorem dL_isRefused_46 : decode cL_isRefused 46 = .ok (.goto 12, 3) := by decide +kernel
theorem dL_isRefused_49 : decode cL_isRefused 49 = .ok (.aload_n 0, 1) := by decide +kernel
theorem dL_isRefused_50 : decode cL_isRefused 50 = .ok (.invokevirtual 112, 3) := by decide +kernel
theorem dL_isRefused_53 : decode cL_isRefused 53 = .ok (.iload_n 2, 1) := by decide +kernel
theorem dL_isRefused_54 : decode cL_isRefused 54 = .ok (.bipush 30, 2) := by decide +kernel
theorem dL_isRefused_56 : decode cL_isRefused 56 = .ok (.irem, 1) := by decide +kernel
theorem dL_isRefused_57 : decode cL_isRefused 57 = .ok (.iadd, 1) := by decide +kernel
theorem dL_isRefused_58 : decode cL_isRefused 58 = .ok (.istore 5, 2) := by decide +kernel
theorem dL_isRefused_60 : decode cL_isRefused 60 = .ok (.aload_n 0, 1) := by decide +kernel
theorem dL_isRefused_61 : decode cL_isRefused 61 = .ok (.invokestatic 123, 3) := by decide +kernel
theorem dL_isRefused_64 : decode cL_isRefused 64 = .ok (.lstore 6, 2) := by decide +kernel
theorem dL_isRefused_66 : decode cL_isRefused 66 = .ok (.aload_n 0, 1) := by decide +kernel
theorem dL_isRefused_67 : decode cL_isRefused 67 = .ok (.iconst 0, 1) := by decide +kernel
theorem dL_isRefused_68 : decode cL_isRefused 68 = .ok (.iload_n 3, 1) := by decide +kernel
theorem dL_isRefused_69 : decode cL_isRefused 69 = .ok (.ifCond .eq 7, 3) := by decide +kernel
theorem dL_isRefused_72 : decode cL_isRefused 72 = .ok (.iconst (-1), 1) := by decide +kernel
theorem dL_isRefused_73 : decode cL_isRefused 73 = .ok (.goto 5, 3) := by decide +kernel
theorem dL_isRefused_76 : decode cL_isRefused 76 = .ok (.ldc 127, 2) := by decide +kernel
theorem dL_isRefused_78 : decode cL_isRefused 78 = .ok (.iconst 0, 1) := by decide +kernel
theorem dL_isRefused_79 : decode cL_isRefused 79 = .ok (.iconst 0, 1) := by decide +kernel
theorem dL_isRefused_80 : decode cL_isRefused 80 = .ok (.invokestatic 128, 3) := by decide +kernel
theorem dL_isRefused_83 : decode cL_isRefused 83 = .ok (.ldc 47, 2) := by decide +kernel
theorem dL_isRefused_85 : decode cL_isRefused 85 = .ok (.if_icmp .ne 304, 3) := by decide +kernel
theorem dL_isRefused_88 : decode cL_isRefused 88 = .ok (.aload_n 0, 1) := by decide +kernel
theorem dL_isRefused_89 : decode cL_isRefused 89 = .ok (.iconst 0, 1) := by decide +kernel
theorem dL_isRefused_90 : decode cL_isRefused 90 = .ok (.iconst 0, 1) := by decide +kernel
theorem dL_isRefused_91 : decode cL_isRefused 91 = .ok (.iload_n 3, 1) := by decide +kernel
theorem dL_isRefused_92 : decode cL_isRefused 92 = .ok (.ifCond .eq 7, 3) := by decide +kernel
theorem dL_isRefused_95 : decode cL_isRefused 95 = .ok (.iconst (-1), 1) := by decide +kernel
theorem dL_isRefused_96 : decode cL_isRefused 96 = .ok (.goto 6, 3) := by decide +kernel
theorem dL_isRefused_99 : decode cL_isRefused 99 = .ok (.sipush 501, 3) := by decide +kernel
theorem dL_isRefused_102 : decode cL_isRefused 102 = .ok (.iconst 0, 1) := by decide +kernel
theorem dL_isRefused_103 : decode cL_isRefused 103 = .ok (.invokestatic 128, 3) := by decide +kernel
theorem dL_isRefused_106 : decode cL_isRefused 106 = .ok (.ldc 47, 2) := by decide +kernel
theorem dL_isRefused_108 : decode cL_isRefused 108 = .ok (.if_icmp .ne 281, 3) := by decide +kernel
theorem dL_isRefused_111 : decode cL_isRefused 111 = .ok (.aload_n 0, 1) := by decide +kernel
theorem dL_isRefused_112 : decode cL_isRefused 112 = .ok (.iconst 0, 1) := by decide +kernel
theorem dL_isRefused_113 : decode cL_isRefused 113 = .ok (.iconst 0, 1) := by decide +kernel
theorem dL_isRefused_114 : decode cL_isRefused 114 = .ok (.iconst 0, 1) := by decide +kernel
theorem dL_isRefused_115 : decode cL_isRefused 115 = .ok (.iload_n 3, 1) := by decide +kernel
theorem dL_isRefused_116 : decode cL_isRefused 116 = .ok (.ifCond .eq 7, 3) := by decide +kernel
theorem dL_isRefused_119 : decode cL_isRefused 119 = .ok (.iconst (-1), 1) := by decide +kernel
theorem dL_isRefused_120 : decode cL_isRefused 120 = .ok (.goto 5, 3) := by decide +kernel
theorem dL_isRefused_123 : decode cL_isRefused 123 = .ok (.ldc 132, 2) := by decide +kernel
theorem dL_isRefused_125 : decode cL_isRefused 125 = .ok (.invokestatic 128, 3) := by decide +kernel
theorem dL_isRefused_128 : decode cL_isRefused 128 = .ok (.ldc 47, 2) := by decide +kernel
theorem dL_isRefused_130 : decode cL_isRefused 130 = .ok (.if_icmp .ne 259, 3) := by decide +kernel
theorem dL_isRefused_133 : decode cL_isRefused 133 = .ok (.aload_n 0, 1) := by decide +kernel
theorem dL_isRefused_134 : decode cL_isRefused 134 = .ok (.invokevirtual 112, 3) := by decide +kernel
theorem dL_isRefused_137 : decode cL_isRefused 137 = .ok (.ifCond .eq 28, 3) := by decide +kernel
theorem dL_isRefused_140 : decode cL_isRefused 140 = .ok (.aload_n 0, 1) := by decide +kernel
theorem dL_isRefused_141 : decode cL_isRefused 141 = .ok (.iconst 0, 1) := by decide +kernel
theorem dL_isRefused_142 : decode cL_isRefused 142 = .ok (.iconst 5, 1) := by decide +kernel
theorem dL_isRefused_143 : decode cL_isRefused 143 = .ok (.iconst 5, 1) := by decide +kernel
theorem dL_isRefused_144 : decode cL_isRefused 144 = .ok (.iconst 5, 1) := by decide +kernel
theorem dL_isRefused_145 : decode cL_isRefused 145 = .ok (.invokestatic 128, 3) := by decide +kernel
theorem dL_isRefused_148 : decode cL_isRefused 148 = .ok (.ldc 50, 2) := by decide +kernel
theorem dL_isRefused_150 : decode cL_isRefused 150 = .ok (.if_icmp .ne 239, 3) := by decide +kernel
theorem dL_isRefused_153 : decode cL_isRefused 153 = .ok (.aload_n 0, 1) := by decide +kernel
theorem dL_isRefused_154 : decode cL_isRefused 154 = .ok (.iconst 1, 1) := by decide +kernel
theorem dL_isRefused_155 : decode cL_isRefused 155 = .ok (.iconst 1, 1) := by decide +kernel
theorem dL_isRefused_156 : decode cL_isRefused 156 = .ok (.iconst 1, 1) := by decide +kernel
theorem dL_isRefused_157 : decode cL_isRefused 157 = .ok (.invokestatic 133, 3) := by decide +kernel
theorem dL_isRefused_160 : decode cL_isRefused 160 = .ok (.ldc 50, 2) := by decide +kernel
theorem dL_isRefused_162 : decode cL_isRefused 162 = .ok (.if_icmp .ne 227, 3) := by decide +kernel
theorem dL_isRefused_165 : decode cL_isRefused 165 = .ok (.aload_n 0, 1) := by decide +kernel
theorem dL_isRefused_166 : decode cL_isRefused 166 = .ok (.iload_n 3, 1) := by decide +kernel
theorem dL_isRefused_167 : decode cL_isRefused 167 = .ok (.ifCond .eq 7, 3) := by decide +kernel
theorem dL_isRefused_170 : decode cL_isRefused 170 = .ok (.iconst (-1), 1) := by decide +kernel
theorem dL_isRefused_171 : decode cL_isRefused 171 = .ok (.goto 9, 3) := by decide +kernel
theorem dL_isRefused_174 : decode cL_isRefused 174 = .ok (.iconst 5, 1) := by decide +kernel
theorem dL_isRefused_175 : decode cL_isRefused 175 = .ok (.iload_n 2, 1) := by decide +kernel
theorem dL_isRefused_176 : decode cL_isRefused 176 = .ok (.bipush 30, 2) := by decide +kernel
theorem dL_isRefused_178 : decode cL_isRefused 178 = .ok (.irem, 1) := by decide +kernel
theorem dL_isRefused_179 : decode cL_isRefused 179 = .ok (.iadd, 1) := by decide +kernel
theorem dL_isRefused_180 : decode cL_isRefused 180 = .ok (.iconst 0, 1) := by decide +kernel
theorem dL_isRefused_181 : decode cL_isRefused 181 = .ok (.iconst 0, 1) := by decide +kernel
theorem dL_isRefused_182 : decode cL_isRefused 182 = .ok (.invokestatic 133, 3) := by decide +kernel
theorem dL_isRefused_185 : decode cL_isRefused 185 = .ok (.ldc 44, 2) := by decide +kernel
theorem dL_isRefused_187 : decode cL_isRefused 187 = .ok (.if_icmp .ne 202, 3) := by decide +kernel
theorem dL_isRefused_190 : decode cL_isRefused 190 = .ok (.aload_n 0, 1) := by decide +kernel
theorem dL_isRefused_191 : decode cL_isRefused 191 = .ok (.iconst 1, 1) := by decide +kernel
theorem dL_isRefused_192 : decode cL_isRefused 192 = .ok (.iload_n 3, 1) := by decide +kernel
theorem dL_isRefused_193 : decode cL_isRefused 193 = .ok (.ifCond .eq 7, 3) := by decide +kernel
theorem dL_isRefused_196 : decode cL_isRefused 196 = .ok (.iconst 0, 1) := by decide +kernel
theorem dL_isRefused_197 : decode cL_isRefused 197 = .ok (.goto 5, 3) := by decide +kernel
theorem dL_isRefused_200 : decode cL_isRefused 200 = .ok (.bipush 101, 2) := by decide +kernel
theorem dL_isRefused_202 : decode cL_isRefused 202 = .ok (.iconst 1, 1) := by decide +kernel
theorem dL_isRefused_203 : decode cL_isRefused 203 = .ok (.invokestatic 133, 3) := by decide +kernel
theorem dL_isRefused_206 : decode cL_isRefused 206 = .ok (.ldc 47, 2) := by decide +kernel
theorem dL_isRefused_208 : decode cL_isRefused 208 = .ok (.if_icmp .ne 181, 3) := by decide +kernel
theorem dL_isRefused_211 : decode cL_isRefused 211 = .ok (.aload_n 0, 1) := by decide +kernel
theorem dL_isRefused_212 : decode cL_isRefused 212 = .ok (.iconst 1, 1) := by decide +kernel
theorem dL_isRefused_213 : decode cL_isRefused 213 = .ok (.iconst 1, 1) := by decide +kernel
theorem dL_isRefused_214 : decode cL_isRefused 214 = .ok (.iload_n 3, 1) := by decide +kernel
theorem dL_isRefused_215 : decode cL_isRefused 215 = .ok (.ifCond .eq 7, 3) := by decide +kernel
theorem dL_isRefused_218 : decode cL_isRefused 218 = .ok (.iconst 0, 1) := by decide +kernel
theorem dL_isRefused_219 : decode cL_isRefused 219 = .ok (.goto 5, 3) := by decide +kernel
theorem dL_isRefused_222 : decode cL_isRefused 222 = .ok (.ldc 132, 2) := by decide +kernel
theorem dL_isRefused_224 : decode cL_isRefused 224 = .ok (.invokestatic 133, 3) := by decide +kernel
theorem dL_isRefused_227 : decode cL_isRefused 227 = .ok (.ldc 47, 2) := by decide +kernel
theorem dL_isRefused_229 : decode cL_isRefused 229 = .ok (.if_icmp .ne 160, 3) := by decide +kernel
theorem dL_isRefused_232 : decode cL_isRefused 232 = .ok (.aload_n 0, 1) := by decide +kernel
theorem dL_isRefused_233 : decode cL_isRefused 233 = .ok (.iconst 1, 1) := by decide +kernel
theorem dL_isRefused_234 : decode cL_isRefused 234 = .ok (.iload_n 3, 1) := by decide +kernel
theorem dL_isRefused_235 : decode cL_isRefused 235 = .ok (.ifCond .eq 7, 3) := by decide +kernel
theorem dL_isRefused_238 : decode cL_isRefused 238 = .ok (.iconst 0, 1) := by decide +kernel
theorem dL_isRefused_239 : decode cL_isRefused 239 = .ok (.goto 11, 3) := by decide +kernel
theorem dL_isRefused_242 : decode cL_isRefused 242 = .ok (.sipush 201, 3) := by decide +kernel
theorem dL_isRefused_245 : decode cL_isRefused 245 = .ok (.iload_n 2, 1) := by decide +kernel
theorem dL_isRefused_246 : decode cL_isRefused 246 = .ok (.bipush 30, 2) := by decide +kernel
theorem dL_isRefused_248 : decode cL_isRefused 248 = .ok (.irem, 1) := by decide +kernel
theorem dL_isRefused_249 : decode cL_isRefused 249 = .ok (.iadd, 1) := by decide +kernel
theorem dL_isRefused_250 : decode cL_isRefused 250 = .ok (.iconst 0, 1) := by decide +kernel
theorem dL_isRefused_251 : decode cL_isRefused 251 = .ok (.iconst 0, 1) := by decide +kernel
theorem dL_isRefused_252 : decode cL_isRefused 252 = .ok (.invokestatic 128, 3) := by decide +kernel
theorem dL_isRefused_255 : decode cL_isRefused 255 = .ok (.ldc 47, 2) := by decide +kernel
theorem dL_isRefused_257 : decode cL_isRefused 257 = .ok (.if_icmp .ne 132, 3) := by decide +kernel
theorem dL_isRefused_260 : decode cL_isRefused 260 = .ok (.aload_n 0, 1) := by decide +kernel
theorem dL_isRefused_261 : decode cL_isRefused 261 = .ok (.iconst 2, 1) := by decide +kernel
theorem dL_isRefused_262 : decode cL_isRefused 262 = .ok (.iload_n 3, 1) := by decide +kernel
theorem dL_isRefused_263 : decode cL_isRefused 263 = .ok (.ifCond .eq 7, 3) := by decide +kernel
theorem dL_isRefused_266 : decode cL_isRefused 266 = .ok (.iconst (-1), 1) := by decide +kernel
theorem dL_isRefused_267 : decode cL_isRefused 267 = .ok (.goto 5, 3) := by decide +kernel
theorem dL_isRefused_270 : decode cL_isRefused 270 = .ok (.ldc 136, 2) := by decide +kernel
theorem dL_isRefused_272 : decode cL_isRefused 272 = .ok (.iconst 0, 1) := by decide +kernel
theorem dL_isRefused_273 : decode cL_isRefused 273 = .ok (.iconst 0, 1) := by decide +kernel
theorem dL_isRefused_274 : decode cL_isRefused 274 = .ok (.invokestatic 128, 3) := by decide +kernel
theorem dL_isRefused_277 : decode cL_isRefused 277 = .ok (.ldc 47, 2) := by decide +kernel
theorem dL_isRefused_279 : decode cL_isRefused 279 = .ok (.if_icmp .ne 110, 3) := by decide +kernel
theorem dL_isRefused_282 : decode cL_isRefused 282 = .ok (.aload_n 0, 1) := by decide +kernel
theorem dL_isRefused_283 : decode cL_isRefused 283 = .ok (.iconst 3, 1) := by decide +kernel
theorem dL_isRefused_284 : decode cL_isRefused 284 = .ok (.iload 5, 2) := by decide +kernel
theorem dL_isRefused_286 : decode cL_isRefused 286 = .ok (.iconst 0, 1) := by decide +kernel
theorem dL_isRefused_287 : decode cL_isRefused 287 = .ok (.iconst 0, 1) := by decide +kernel
theorem dL_isRefused_288 : decode cL_isRefused 288 = .ok (.invokestatic 128, 3) := by decide +kernel
theorem dL_isRefused_291 : decode cL_isRefused 291 = .ok (.ldc 44, 2) := by decide +kernel
theorem dL_isRefused_293 : decode cL_isRefused 293 = .ok (.if_icmp .ne 96, 3) := by decide +kernel
theorem dL_isRefused_296 : decode cL_isRefused 296 = .ok (.aload_n 0, 1) := by decide +kernel
theorem dL_isRefused_297 : decode cL_isRefused 297 = .ok (.bipush 8, 2) := by decide +kernel
theorem dL_isRefused_299 : decode cL_isRefused 299 = .ok (.iload_n 3, 1) := by decide +kernel
theorem dL_isRefused_300 : decode cL_isRefused 300 = .ok (.ifCond .eq 7, 3) := by decide +kernel
theorem dL_isRefused_303 : decode cL_isRefused 303 = .ok (.iconst (-1), 1) := by decide +kernel
theorem dL_isRefused_304 : decode cL_isRefused 304 = .ok (.goto 5, 3) := by decide +kernel
theorem dL_isRefused_307 : decode cL_isRefused 307 = .ok (.bipush 30, 2) := by decide +kernel
theorem dL_isRefused_309 : decode cL_isRefused 309 = .ok (.iconst 0, 1) := by decide +kernel
theorem dL_isRefused_310 : decode cL_isRefused 310 = .ok (.sipush 300, 3) := by decide +kernel
theorem dL_isRefused_313 : decode cL_isRefused 313 = .ok (.invokestatic 128, 3) := by decide +kernel
theorem dL_isRefused_316 : decode cL_isRefused 316 = .ok (.ldc 44, 2) := by decide +kernel
theorem dL_isRefused_318 : decode cL_isRefused 318 = .ok (.if_icmp .ne 71, 3) := by decide +kernel
theorem dL_isRefused_321 : decode cL_isRefused 321 = .ok (.aload_n 0, 1) := by decide +kernel
theorem dL_isRefused_322 : decode cL_isRefused 322 = .ok (.bipush 8, 2) := by decide +kernel
theorem dL_isRefused_324 : decode cL_isRefused 324 = .ok (.iconst 0, 1) := by decide +kernel
theorem dL_isRefused_325 : decode cL_isRefused 325 = .ok (.iload_n 3, 1) := by decide +kernel
theorem dL_isRefused_326 : decode cL_isRefused 326 = .ok (.ifCond .eq 7, 3) := by decide +kernel
theorem dL_isRefused_329 : decode cL_isRefused 329 = .ok (.iconst (-1), 1) := by decide +kernel
theorem dL_isRefused_330 : decode cL_isRefused 330 = .ok (.goto 4, 3) := by decide +kernel
theorem dL_isRefused_333 : decode cL_isRefused 333 = .ok (.iconst 5, 1) := by decide +kernel
theorem dL_isRefused_334 : decode cL_isRefused 334 = .ok (.sipush 300, 3) := by decide +kernel
theorem dL_isRefused_337 : decode cL_isRefused 337 = .ok (.invokestatic 128, 3) := by decide +kernel
theorem dL_isRefused_340 : decode cL_isRefused 340 = .ok (.ldc 44, 2) := by decide +kernel
theorem dL_isRefused_342 : decode cL_isRefused 342 = .ok (.if_icmp .ne 47, 3) := by decide +kernel
theorem dL_isRefused_345 : decode cL_isRefused 345 = .ok (.aload_n 0, 1) := by decide +kernel
theorem dL_isRefused_346 : decode cL_isRefused 346 = .ok (.bipush 8, 2) := by decide +kernel
theorem dL_isRefused_348 : decode cL_isRefused 348 = .ok (.iconst 0, 1) := by decide +kernel
theorem dL_isRefused_349 : decode cL_isRefused 349 = .ok (.iconst 0, 1) := by decide +kernel
theorem dL_isRefused_350 : decode cL_isRefused 350 = .ok (.bipush 101, 2) := by decide +kernel
theorem dL_isRefused_352 : decode cL_isRefused 352 = .ok (.iload_n 2, 1) := by decide +kernel
theorem dL_isRefused_353 : decode cL_isRefused 353 = .ok (.bipush 30, 2) := by decide +kernel
theorem dL_isRefused_355 : decode cL_isRefused 355 = .ok (.irem, 1) := by decide +kernel
theorem dL_isRefused_356 : decode cL_isRefused 356 = .ok (.iadd, 1) := by decide +kernel
theorem dL_isRefused_357 : decode cL_isRefused 357 = .ok (.invokestatic 128, 3) := by decide +kernel
theorem dL_isRefused_360 : decode cL_isRefused 360 = .ok (.ldc 47, 2) := by decide +kernel
theorem dL_isRefused_362 : decode cL_isRefused 362 = .ok (.if_icmp .ne 27, 3) := by decide +kernel
theorem dL_isRefused_365 : decode cL_isRefused 365 = .ok (.aload_n 0, 1) := by decide +kernel
theorem dL_isRefused_366 : decode cL_isRefused 366 = .ok (.bipush 8, 2) := by decide +kernel
theorem dL_isRefused_368 : decode cL_isRefused 368 = .ok (.iconst 0, 1) := by decide +kernel
theorem dL_isRefused_369 : decode cL_isRefused 369 = .ok (.iconst 0, 1) := by decide +kernel
theorem dL_isRefused_370 : decode cL_isRefused 370 = .ok (.bipush (-102), 2) := by decide +kernel
theorem dL_isRefused_372 : decode cL_isRefused 372 = .ok (.iload_n 2, 1) := by decide +kernel
theorem dL_isRefused_373 : decode cL_isRefused 373 = .ok (.bipush 30, 2) := by decide +kernel
theorem dL_isRefused_375 : decode cL_isRefused 375 = .ok (.irem, 1) := by decide +kernel
theorem dL_isRefused_376 : decode cL_isRefused 376 = .ok (.isub, 1) := by decide +kernel
theorem dL_isRefused_377 : decode cL_isRefused 377 = .ok (.invokestatic 128, 3) := by decide +kernel
theorem dL_isRefused_380 : decode cL_isRefused 380 = .ok (.ldc 47, 2) := by decide +kernel
theorem dL_isRefused_382 : decode cL_isRefused 382 = .ok (.if_icmp .ne 7, 3) := by decide +kernel
theorem dL_isRefused_385 : decode cL_isRefused 385 = .ok (.iconst 1, 1) := by decide +kernel
theorem dL_isRefused_386 : decode cL_isRefused 386 = .ok (.goto 4, 3) := by decide +kernel
theorem dL_isRefused_389 : decode cL_isRefused 389 = .ok (.iconst 0, 1) := by decide +kernel
theorem dL_isRefused_390 : decode cL_isRefused 390 = .ok (.istore 8, 2) := by decide +kernel
theorem dL_isRefused_392 : decode cL_isRefused 392 = .ok (.iconst 4, 1) := by decide +kernel
theorem dL_isRefused_393 : decode cL_isRefused 393 = .ok (.istore 9, 2) := by decide +kernel
theorem dL_isRefused_395 : decode cL_isRefused 395 = .ok (.iload 9, 2) := by decide +kernel
theorem dL_isRefused_397 : decode cL_isRefused 397 = .ok (.bipush 8, 2) := by decide +kernel
theorem dL_isRefused_399 : decode cL_isRefused 399 = .ok (.if_icmp .ge 36, 3) := by decide +kernel
theorem dL_isRefused_402 : decode cL_isRefused 402 = .ok (.iload 8, 2) := by decide +kernel
theorem dL_isRefused_404 : decode cL_isRefused 404 = .ok (.ifCond .eq 31, 3) := by decide +kernel
theorem dL_isRefused_407 : decode cL_isRefused 407 = .ok (.aload_n 0, 1) := by decide +kernel
theorem dL_isRefused_408 : decode cL_isRefused 408 = .ok (.iload 9, 2) := by decide +kernel
theorem dL_isRefused_410 : decode cL_isRefused 410 = .ok (.iload 4, 2) := by decide +kernel
theorem dL_isRefused_412 : decode cL_isRefused 412 = .ok (.iconst 1, 1) := by decide +kernel
theorem dL_isRefused_413 : decode cL_isRefused 413 = .ok (.iconst 0, 1) := by decide +kernel
theorem dL_isRefused_414 : decode cL_isRefused 414 = .ok (.invokestatic 128, 3) := by decide +kernel
theorem dL_isRefused_417 : decode cL_isRefused 417 = .ok (.ldc 44, 2) := by decide +kernel
theorem dL_isRefused_419 : decode cL_isRefused 419 = .ok (.if_icmp .ne 7, 3) := by decide +kernel
theorem dL_isRefused_422 : decode cL_isRefused 422 = .ok (.iconst 1, 1) := by decide +kernel
theorem dL_isRefused_423 : decode cL_isRefused 423 = .ok (.goto 4, 3) := by decide +kernel
theorem dL_isRefused_426 : decode cL_isRefused 426 = .ok (.iconst 0, 1) := by decide +kernel
theorem dL_isRefused_427 : decode cL_isRefused 427 = .ok (.istore 8, 2) := by decide +kernel
theorem dL_isRefused_429 : decode cL_isRefused 429 = .ok (.iinc 9 1, 3) := by decide +kernel
theorem dL_isRefused_432 : decode cL_isRefused 432 = .ok (.goto (-37), 3) := by decide +kernel
theorem dL_isRefused_435 : decode cL_isRefused 435 = .ok (.iconst 0, 1) := by decide +kernel
theorem dL_isRefused_436 : decode cL_isRefused 436 = .ok (.istore 9, 2) := by decide +kernel
theorem dL_isRefused_438 : decode cL_isRefused 438 = .ok (.iload 9, 2) := by decide +kernel
theorem dL_isRefused_440 : decode cL_isRefused 440 = .ok (.bipush 11, 2) := by decide +kernel
theorem dL_isRefused_442 : decode cL_isRefused 442 = .ok (.if_icmp .ge 111, 3) := by decide +kernel
theorem dL_isRefused_445 : decode cL_isRefused 445 = .ok (.iload 8, 2) := by decide +kernel
theorem dL_isRefused_447 : decode cL_isRefused 447 = .ok (.ifCond .eq 106, 3) := by decide +kernel
theorem dL_isRefused_450 : decode cL_isRefused 450 = .ok (.iload 9, 2) := by decide +kernel
theorem dL_isRefused_452 : decode cL_isRefused 452 = .ok (.ifCond .ne 21, 3) := by decide +kernel
theorem dL_isRefused_455 : decode cL_isRefused 455 = .ok (.iload_n 3, 1) := by decide +kernel
theorem dL_isRefused_456 : decode cL_isRefused 456 = .ok (.ifCond .eq 7, 3) := by decide +kernel
theorem dL_isRefused_459 : decode cL_isRefused 459 = .ok (.iconst (-1), 1) := by decide +kernel
theorem dL_isRefused_460 : decode cL_isRefused 460 = .ok (.goto 52, 3) := by decide +kernel
theorem dL_isRefused_463 : decode cL_isRefused 463 = .ok (.bipush 30, 2) := by decide +kernel
theorem dL_isRefused_465 : decode cL_isRefused 465 = .ok (.iload_n 2, 1) := by decide +kernel
theorem dL_isRefused_466 : decode cL_isRefused 466 = .ok (.bipush 30, 2) := by decide +kernel
theorem dL_isRefused_468 : decode cL_isRefused 468 = .ok (.irem, 1) := by decide +kernel
theorem dL_isRefused_469 : decode cL_isRefused 469 = .ok (.iadd, 1) := by decide +kernel
theorem dL_isRefused_470 : decode cL_isRefused 470 = .ok (.goto 42, 3) := by decide +kernel
theorem dL_isRefused_473 : decode cL_isRefused 473 = .ok (.iload 9, 2) := by decide +kernel
theorem dL_isRefused_475 : decode cL_isRefused 475 = .ok (.iconst 4, 1) := by decide +kernel
theorem dL_isRefused_476 : decode cL_isRefused 476 = .ok (.if_icmp .le 15, 3) := by decide +kernel
theorem dL_isRefused_479 : decode cL_isRefused 479 = .ok (.iload 9, 2) := by decide +kernel
theorem dL_isRefused_481 : decode cL_isRefused 481 = .ok (.bipush 8, 2) := by decide +kernel
theorem dL_isRefused_483 : decode cL_isRefused 483 = .ok (.if_icmp .ge 8, 3) := by decide +kernel
theorem dL_isRefused_486 : decode cL_isRefused 486 = .ok (.iload 5, 2) := by decide +kernel
theorem dL_isRefused_488 : decode cL_isRefused 488 = .ok (.goto 24, 3) := by decide +kernel
theorem dL_isRefused_491 : decode cL_isRefused 491 = .ok (.iload 9, 2) := by decide +kernel
theorem dL_isRefused_493 : decode cL_isRefused 493 = .ok (.bipush 10, 2) := by decide +kernel
theorem dL_isRefused_495 : decode cL_isRefused 495 = .ok (.if_icmp .ne 15, 3) := by decide +kernel
theorem dL_isRefused_498 : decode cL_isRefused 498 = .ok (.iload_n 3, 1) := by decide +kernel
theorem dL_isRefused_499 : decode cL_isRefused 499 = .ok (.ifCond .eq 7, 3) := by decide +kernel
theorem dL_isRefused_502 : decode cL_isRefused 502 = .ok (.iconst (-1), 1) := by decide +kernel
theorem dL_isRefused_503 : decode cL_isRefused 503 = .ok (.goto 9, 3) := by decide +kernel
theorem dL_isRefused_506 : decode cL_isRefused 506 = .ok (.iconst 4, 1) := by decide +kernel
theorem dL_isRefused_507 : decode cL_isRefused 507 = .ok (.goto 5, 3) := by decide +kernel
theorem dL_isRefused_510 : decode cL_isRefused 510 = .ok (.iload 4, 2) := by decide +kernel
theorem dL_isRefused_512 : decode cL_isRefused 512 = .ok (.istore 10, 2) := by decide +kernel
theorem dL_isRefused_514 : decode cL_isRefused 514 = .ok (.aload_n 0, 1) := by decide +kernel
theorem dL_isRefused_515 : decode cL_isRefused 515 = .ok (.iload 9, 2) := by decide +kernel
theorem dL_isRefused_517 : decode cL_isRefused 517 = .ok (.iload 10, 2) := by decide +kernel
theorem dL_isRefused_519 : decode cL_isRefused 519 = .ok (.iconst (-1), 1) := by decide +kernel
theorem dL_isRefused_520 : decode cL_isRefused 520 = .ok (.invokestatic 137, 3) := by decide +kernel
theorem dL_isRefused_523 : decode cL_isRefused 523 = .ok (.iload 9, 2) := by decide +kernel
theorem dL_isRefused_525 : decode cL_isRefused 525 = .ok (.bipush 10, 2) := by decide +kernel
theorem dL_isRefused_527 : decode cL_isRefused 527 = .ok (.if_icmp .ne 8, 3) := by decide +kernel
theorem dL_isRefused_530 : decode cL_isRefused 530 = .ok (.ldc 47, 2) := by decide +kernel
theorem dL_isRefused_532 : decode cL_isRefused 532 = .ok (.goto 5, 3) := by decide +kernel
theorem dL_isRefused_535 : decode cL_isRefused 535 = .ok (.ldc 44, 2) := by decide +kernel
theorem dL_isRefused_537 : decode cL_isRefused 537 = .ok (.if_icmp .ne 7, 3) := by decide +kernel
theorem dL_isRefused_540 : decode cL_isRefused 540 = .ok (.iconst 1, 1) := by decide +kernel
theorem dL_isRefused_541 : decode cL_isRefused 541 = .ok (.goto 4, 3) := by decide +kernel
theorem dL_isRefused_544 : decode cL_isRefused 544 = .ok (.iconst 0, 1) := by decide +kernel
theorem dL_isRefused_545 : decode cL_isRefused 545 = .ok (.istore 8, 2) := by decide +kernel
theorem dL_isRefused_547 : decode cL_isRefused 547 = .ok (.iinc 9 1, 3) := by decide +kernel
theorem dL_isRefused_550 : decode cL_isRefused 550 = .ok (.goto (-112), 3) := by decide +kernel
theorem dL_isRefused_553 : decode cL_isRefused 553 = .ok (.iconst 0, 1) := by decide +kernel
theorem dL_isRefused_554 : decode cL_isRefused 554 = .ok (.istore 9, 2) := by decide +kernel
theorem dL_isRefused_556 : decode cL_isRefused 556 = .ok (.iload 9, 2) := by decide +kernel
theorem dL_isRefused_558 : decode cL_isRefused 558 = .ok (.aload_n 0, 1) := by decide +kernel
theorem dL_isRefused_559 : decode cL_isRefused 559 = .ok (.invokevirtual 103, 3) := by decide +kernel
theorem dL_isRefused_562 : decode cL_isRefused 562 = .ok (.if_icmp .ge 169, 3) := by decide +kernel
theorem dL_isRefused_565 : decode cL_isRefused 565 = .ok (.iload 8, 2) := by decide +kernel
theorem dL_isRefused_567 : decode cL_isRefused 567 = .ok (.ifCond .eq 164, 3) := by decide +kernel
theorem dL_isRefused_570 : decode cL_isRefused 570 = .ok (.aload_n 0, 1) := by decide +kernel
theorem dL_isRefused_571 : decode cL_isRefused 571 = .ok (.iload 9, 2) := by decide +kernel
theorem dL_isRefused_573 : decode cL_isRefused 573 = .ok (.invokevirtual 58, 3) := by decide +kernel
theorem dL_isRefused_576 : decode cL_isRefused 576 = .ok (.istore 10, 2) := by decide +kernel
theorem dL_isRefused_578 : decode cL_isRefused 578 = .ok (.aload_n 0, 1) := by decide +kernel
theorem dL_isRefused_579 : decode cL_isRefused 579 = .ok (.bipush 8, 2) := by decide +kernel
theorem dL_isRefused_581 : decode cL_isRefused 581 = .ok (.iload 9, 2) := by decide +kernel
theorem dL_isRefused_583 : decode cL_isRefused 583 = .ok (.iload_n 3, 1) := by decide +kernel
theorem dL_isRefused_584 : decode cL_isRefused 584 = .ok (.ifCond .eq 7, 3) := by decide +kernel
theorem dL_isRefused_587 : decode cL_isRefused 587 = .ok (.iconst (-1), 1) := by decide +kernel
theorem dL_isRefused_588 : decode cL_isRefused 588 = .ok (.goto 5, 3) := by decide +kernel
theorem dL_isRefused_591 : decode cL_isRefused 591 = .ok (.ldc 136, 2) := by decide +kernel
theorem dL_isRefused_593 : decode cL_isRefused 593 = .ok (.invokestatic 137, 3) := by decide +kernel
theorem dL_isRefused_596 : decode cL_isRefused 596 = .ok (.ldc 47, 2) := by decide +kernel
theorem dL_isRefused_598 : decode cL_isRefused 598 = .ok (.if_icmp .ne 124, 3) := by decide +kernel
theorem dL_isRefused_601 : decode cL_isRefused 601 = .ok (.aload_n 0, 1) := by decide +kernel
