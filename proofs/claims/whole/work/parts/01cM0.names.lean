theorem dX1_init_0 : decode cX1_init 0 = .ok (.aload_n 0, 1) := by decide +kernel
theorem dX1_init_1 : decode cX1_init 1 = .ok (.invokespecial 1, 3) := by decide +kernel
theorem dX1_init_4 : decode cX1_init 4 = .ok (.aload_n 0, 1) := by decide +kernel
theorem dX1_init_5 : decode cX1_init 5 = .ok (.bipush 12, 2) := by decide +kernel
theorem dX1_init_7 : decode cX1_init 7 = .ok (.newarray .int, 2) := by decide +kernel
theorem dX1_init_9 : decode cX1_init 9 = .ok (.putfield 7, 3) := by decide +kernel
theorem dX1_init_12 : decode cX1_init 12 = .ok (.aload_n 0, 1) := by decide +kernel
theorem dX1_init_13 : decode cX1_init 13 = .ok (.bipush 48, 2) := by decide +kernel
theorem dX1_init_15 : decode cX1_init 15 = .ok (.newarray .int, 2) := by decide +kernel
theorem dX1_init_17 : decode cX1_init 17 = .ok (.putfield 13, 3) := by decide +kernel
theorem dX1_init_20 : decode cX1_init 20 = .ok (.aload_n 0, 1) := by decide +kernel
theorem dX1_init_21 : decode cX1_init 21 = .ok (.bipush 48, 2) := by decide +kernel
theorem dX1_init_23 : decode cX1_init 23 = .ok (.newarray .int, 2) := by decide +kernel
theorem dX1_init_25 : decode cX1_init 25 = .ok (.putfield 16, 3) := by decide +kernel
theorem dX1_init_28 : decode cX1_init 28 = .ok (.aload_n 0, 1) := by decide +kernel
theorem dX1_init_29 : decode cX1_init 29 = .ok (.bipush 48, 2) := by decide +kernel
theorem dX1_init_31 : decode cX1_init 31 = .ok (.newarray .int, 2) := by decide +kernel
theorem dX1_init_33 : decode cX1_init 33 = .ok (.putfield 19, 3) := by decide +kernel
theorem dX1_init_36 : decode cX1_init 36 = .ok (.aload_n 0, 1) := by decide +kernel
theorem dX1_init_37 : decode cX1_init 37 = .ok (.bipush 48, 2) := by decide +kernel
theorem dX1_init_39 : decode cX1_init 39 = .ok (.newarray .boolean, 2) := by decide +kernel
theorem dX1_init_41 : decode cX1_init 41 = .ok (.putfield 22, 3) := by decide +kernel
theorem dX1_init_44 : decode cX1_init 44 = .ok (.aload_n 0, 1) := by decide +kernel
theorem dX1_init_45 : decode cX1_init 45 = .ok (.bipush 49, 2) := by decide +kernel
theorem dX1_init_47 : decode cX1_init 47 = .ok (.newarray .boolean, 2) := by decide +kernel
theorem dX1_init_49 : decode cX1_init 49 = .ok (.putfield 26, 3) := by decide +kernel
theorem dX1_init_52 : decode cX1_init 52 = .ok (.aload_n 0, 1) := by decide +kernel
theorem dX1_init_53 : decode cX1_init 53 = .ok (.bipush 49, 2) := by decide +kernel
theorem dX1_init_55 : decode cX1_init 55 = .ok (.newarray .long, 2) := by decide +kernel
theorem dX1_init_57 : decode cX1_init 57 = .ok (.putfield 29, 3) := by decide +kernel
theorem dX1_init_60 : decode cX1_init 60 = .ok (.aload_n 0, 1) := by decide +kernel
theorem dX1_init_61 : decode cX1_init 61 = .ok (.bipush 49, 2) := by decide +kernel
theorem dX1_init_63 : decode cX1_init 63 = .ok (.newarray .long, 2) := by decide +kernel
theorem dX1_init_65 : decode cX1_init 65 = .ok (.putfield 33, 3) := by decide +kernel
theorem dX1_init_68 : decode cX1_init 68 = .ok (.aload_n 0, 1) := by decide +kernel
theorem dX1_init_69 : decode cX1_init 69 = .ok (.getfield 26, 3) := by decide +kernel
theorem dX1_init_72 : decode cX1_init 72 = .ok (.iconst 0, 1) := by decide +kernel
theorem dX1_init_73 : decode cX1_init 73 = .ok (.iconst 1, 1) := by decide +kernel
theorem dX1_init_74 : decode cX1_init 74 = .ok (.bastore, 1) := by decide +kernel
theorem dX1_init_75 : decode cX1_init 75 = .ok (.return_, 1) := by decide +kernel
theorem dX1_within_0 : decode cX1_within 0 = .ok (.iload_n 0, 1) := by decide +kernel
theorem dX1_within_1 : decode cX1_within 1 = .ok (.iload_n 1, 1) := by decide +kernel
theorem dX1_within_2 : decode cX1_within 2 = .ok (.if_icmp .lt 12, 3) := by decide +kernel
theorem dX1_within_5 : decode cX1_within 5 = .ok (.iload_n 0, 1) := by decide +kernel
theorem dX1_within_6 : decode cX1_within 6 = .ok (.iload_n 2, 1) := by decide +kernel
theorem dX1_within_7 : decode cX1_within 7 = .ok (.if_icmp .gt 7, 3) := by decide +kernel
theorem dX1_within_10 : decode cX1_within 10 = .ok (.iconst 1, 1) := by decide +kernel
theorem dX1_within_11 : decode cX1_within 11 = .ok (.goto 4, 3) := by decide +kernel
theorem dX1_within_14 : decode cX1_within 14 = .ok (.iconst 0, 1) := by decide +kernel
theorem dX1_within_15 : decode cX1_within 15 = .ok (.ireturn, 1) := by decide +kernel
theorem dX1_four_0 : decode cX1_four 0 = .ok (.iload_n 0, 1) := by decide +kernel
theorem dX1_four_1 : decode cX1_four 1 = .ok (.sipush 128, 3) := by decide +kernel
theorem dX1_four_4 : decode cX1_four 4 = .ok (.imul, 1) := by decide +kernel
theorem dX1_four_5 : decode cX1_four 5 = .ok (.iload_n 1, 1) := by decide +kernel
theorem dX1_four_6 : decode cX1_four 6 = .ok (.iadd, 1) := by decide +kernel
theorem dX1_four_7 : decode cX1_four 7 = .ok (.sipush 128, 3) := by decide +kernel
theorem dX1_four_10 : decode cX1_four 10 = .ok (.imul, 1) := by decide +kernel
theorem dX1_four_11 : decode cX1_four 11 = .ok (.iload_n 2, 1) := by decide +kernel
theorem dX1_four_12 : decode cX1_four 12 = .ok (.iadd, 1) := by decide +kernel
theorem dX1_four_13 : decode cX1_four 13 = .ok (.sipush 128, 3) := by decide +kernel
theorem dX1_four_16 : decode cX1_four 16 = .ok (.imul, 1) := by decide +kernel
theorem dX1_four_17 : decode cX1_four 17 = .ok (.iload_n 3, 1) := by decide +kernel
theorem dX1_four_18 : decode cX1_four 18 = .ok (.iadd, 1) := by decide +kernel
theorem dX1_four_19 : decode cX1_four 19 = .ok (.ireturn, 1) := by decide +kernel
set_option maxRecDepth 20000 in
theorem ggX1_name_X1_four : GoodIn wsX1_name wsX1_four := goodIn_r _ [4] (by decide +kernel) (by decide +kernel)
set_option maxRecDepth 20000 in
theorem gX1_name_X1_four : GoodIn wsX1_name (va_wsS RX1 36 yX1_four wsX1_four) := goodIn_app (goodIn_of _ (by decide +kernel)) ggX1_name_X1_four
theorem dX1_name_0 : decode cX1_name 0 = .ok (.iload_n 0, 1) := by decide +kernel
theorem dX1_name_1 : decode cX1_name 1 = .ok (.tableswitch 476 0 30 #[139, 148, 159, 170, 182, 192, 204, 215, 226, 235, 246, 257, 269, 279, 291, 302, 313, 322, 333, 344, 356, 366, 378, 389, 400, 409, 420, 431, 443, 453, 465], 139) := by decide +kernel
theorem dX1_name_140 : decode cX1_name 140 = .ok (.bipush 78, 2) := by decide +kernel
theorem dX1_name_142 : decode cX1_name 142 = .ok (.iconst 0, 1) := by decide +kernel
theorem dX1_name_143 : decode cX1_name 143 = .ok (.iconst 0, 1) := by decide +kernel
theorem dX1_name_144 : decode cX1_name 144 = .ok (.iconst 0, 1) := by decide +kernel
theorem dX1_name_145 : decode cX1_name 145 = .ok (.invokestatic 36, 3) := by decide +kernel
theorem dX1_name_148 : decode cX1_name 148 = .ok (.ireturn, 1) := by decide +kernel
theorem dX1_name_149 : decode cX1_name 149 = .ok (.bipush 78, 2) := by decide +kernel
theorem dX1_name_151 : decode cX1_name 151 = .ok (.bipush 98, 2) := by decide +kernel
theorem dX1_name_153 : decode cX1_name 153 = .ok (.bipush 69, 2) := by decide +kernel
theorem dX1_name_155 : decode cX1_name 155 = .ok (.iconst 0, 1) := by decide +kernel
theorem dX1_name_156 : decode cX1_name 156 = .ok (.invokestatic 36, 3) := by decide +kernel
theorem dX1_name_159 : decode cX1_name 159 = .ok (.ireturn, 1) := by decide +kernel
theorem dX1_name_160 : decode cX1_name 160 = .ok (.bipush 78, 2) := by decide +kernel
theorem dX1_name_162 : decode cX1_name 162 = .ok (.bipush 78, 2) := by decide +kernel
theorem dX1_name_164 : decode cX1_name 164 = .ok (.bipush 69, 2) := by decide +kernel
theorem dX1_name_166 : decode cX1_name 166 = .ok (.iconst 0, 1) := by decide +kernel
theorem dX1_name_167 : decode cX1_name 167 = .ok (.invokestatic 36, 3) := by decide +kernel
theorem dX1_name_170 : decode cX1_name 170 = .ok (.ireturn, 1) := by decide +kernel
theorem dX1_name_171 : decode cX1_name 171 = .ok (.bipush 78, 2) := by decide +kernel
theorem dX1_name_173 : decode cX1_name 173 = .ok (.bipush 69, 2) := by decide +kernel
theorem dX1_name_175 : decode cX1_name 175 = .ok (.bipush 98, 2) := by decide +kernel
theorem dX1_name_177 : decode cX1_name 177 = .ok (.bipush 78, 2) := by decide +kernel
theorem dX1_name_179 : decode cX1_name 179 = .ok (.invokestatic 36, 3) := by decide +kernel
theorem dX1_name_182 : decode cX1_name 182 = .ok (.ireturn, 1) := by decide +kernel
theorem dX1_name_183 : decode cX1_name 183 = .ok (.bipush 78, 2) := by decide +kernel
theorem dX1_name_185 : decode cX1_name 185 = .ok (.bipush 69, 2) := by decide +kernel
theorem dX1_name_187 : decode cX1_name 187 = .ok (.iconst 0, 1) := by decide +kernel
theorem dX1_name_188 : decode cX1_name 188 = .ok (.iconst 0, 1) := by decide +kernel
theorem dX1_name_189 : decode cX1_name 189 = .ok (.invokestatic 36, 3) := by decide +kernel
theorem dX1_name_192 : decode cX1_name 192 = .ok (.ireturn, 1) := by decide +kernel
theorem dX1_name_193 : decode cX1_name 193 = .ok (.bipush 78, 2) := by decide +kernel
theorem dX1_name_195 : decode cX1_name 195 = .ok (.bipush 69, 2) := by decide +kernel
theorem dX1_name_197 : decode cX1_name 197 = .ok (.bipush 98, 2) := by decide +kernel
theorem dX1_name_199 : decode cX1_name 199 = .ok (.bipush 69, 2) := by decide +kernel
theorem dX1_name_201 : decode cX1_name 201 = .ok (.invokestatic 36, 3) := by decide +kernel
theorem dX1_name_204 : decode cX1_name 204 = .ok (.ireturn, 1) := by decide +kernel
theorem dX1_name_205 : decode cX1_name 205 = .ok (.bipush 69, 2) := by decide +kernel
theorem dX1_name_207 : decode cX1_name 207 = .ok (.bipush 78, 2) := by decide +kernel
theorem dX1_name_209 : decode cX1_name 209 = .ok (.bipush 69, 2) := by decide +kernel
theorem dX1_name_211 : decode cX1_name 211 = .ok (.iconst 0, 1) := by decide +kernel
theorem dX1_name_212 : decode cX1_name 212 = .ok (.invokestatic 36, 3) := by decide +kernel
theorem dX1_name_215 : decode cX1_name 215 = .ok (.ireturn, 1) := by decide +kernel
theorem dX1_name_216 : decode cX1_name 216 = .ok (.bipush 69, 2) := by decide +kernel
theorem dX1_name_218 : decode cX1_name 218 = .ok (.bipush 98, 2) := by decide +kernel
theorem dX1_name_220 : decode cX1_name 220 = .ok (.bipush 78, 2) := by decide +kernel
theorem dX1_name_222 : decode cX1_name 222 = .ok (.iconst 0, 1) := by decide +kernel
theorem dX1_name_223 : decode cX1_name 223 = .ok (.invokestatic 36, 3) := by decide +kernel
theorem dX1_name_226 : decode cX1_name 226 = .ok (.ireturn, 1) := by decide +kernel
theorem dX1_name_227 : decode cX1_name 227 = .ok (.bipush 69, 2) := by decide +kernel
theorem dX1_name_229 : decode cX1_name 229 = .ok (.iconst 0, 1) := by decide +kernel
theorem dX1_name_230 : decode cX1_name 230 = .ok (.iconst 0, 1) := by decide +kernel
theorem dX1_name_231 : decode cX1_name 231 = .ok (.iconst 0, 1) := by decide +kernel
theorem dX1_name_232 : decode cX1_name 232 = .ok (.invokestatic 36, 3) := by decide +kernel
theorem dX1_name_235 : decode cX1_name 235 = .ok (.ireturn, 1) := by decide +kernel
theorem dX1_name_236 : decode cX1_name 236 = .ok (.bipush 69, 2) := by decide +kernel
theorem dX1_name_238 : decode cX1_name 238 = .ok (.bipush 98, 2) := by decide +kernel
theorem dX1_name_240 : decode cX1_name 240 = .ok (.bipush 83, 2) := by decide +kernel
theorem dX1_name_242 : decode cX1_name 242 = .ok (.iconst 0, 1) := by decide +kernel
theorem dX1_name_243 : decode cX1_name 243 = .ok (.invokestatic 36, 3) := by decide +kernel
theorem dX1_name_246 : decode cX1_name 246 = .ok (.ireturn, 1) := by decide +kernel
theorem dX1_name_247 : decode cX1_name 247 = .ok (.bipush 69, 2) := by decide +kernel
theorem dX1_name_249 : decode cX1_name 249 = .ok (.bipush 83, 2) := by decide +kernel
theorem dX1_name_251 : decode cX1_name 251 = .ok (.bipush 69, 2) := by decide +kernel
theorem dX1_name_253 : decode cX1_name 253 = .ok (.iconst 0, 1) := by decide +kernel
theorem dX1_name_254 : decode cX1_name 254 = .ok (.invokestatic 36, 3) := by decide +kernel
theorem dX1_name_257 : decode cX1_name 257 = .ok (.ireturn, 1) := by decide +kernel
theorem dX1_name_258 : decode cX1_name 258 = .ok (.bipush 83, 2) := by decide +kernel
theorem dX1_name_260 : decode cX1_name 260 = .ok (.bipush 69, 2) := by decide +kernel
theorem dX1_name_262 : decode cX1_name 262 = .ok (.bipush 98, 2) := by decide +kernel
theorem dX1_name_264 : decode cX1_name 264 = .ok (.bipush 69, 2) := by decide +kernel
theorem dX1_name_266 : decode cX1_name 266 = .ok (.invokestatic 36, 3) := by decide +kernel
theorem dX1_name_269 : decode cX1_name 269 = .ok (.ireturn, 1) := by decide +kernel
theorem dX1_name_270 : decode cX1_name 270 = .ok (.bipush 83, 2) := by decide +kernel
theorem dX1_name_272 : decode cX1_name 272 = .ok (.bipush 69, 2) := by decide +kernel
theorem dX1_name_274 : decode cX1_name 274 = .ok (.iconst 0, 1) := by decide +kernel
theorem dX1_name_275 : decode cX1_name 275 = .ok (.iconst 0, 1) := by decide +kernel
theorem dX1_name_276 : decode cX1_name 276 = .ok (.invokestatic 36, 3) := by decide +kernel
theorem dX1_name_279 : decode cX1_name 279 = .ok (.ireturn, 1) := by decide +kernel
theorem dX1_name_280 : decode cX1_name 280 = .ok (.bipush 83, 2) := by decide +kernel
theorem dX1_name_282 : decode cX1_name 282 = .ok (.bipush 69, 2) := by decide +kernel
theorem dX1_name_284 : decode cX1_name 284 = .ok (.bipush 98, 2) := by decide +kernel
theorem dX1_name_286 : decode cX1_name 286 = .ok (.bipush 83, 2) := by decide +kernel
theorem dX1_name_288 : decode cX1_name 288 = .ok (.invokestatic 36, 3) := by decide +kernel
theorem dX1_name_291 : decode cX1_name 291 = .ok (.ireturn, 1) := by decide +kernel
theorem dX1_name_292 : decode cX1_name 292 = .ok (.bipush 83, 2) := by decide +kernel
theorem dX1_name_294 : decode cX1_name 294 = .ok (.bipush 83, 2) := by decide +kernel
theorem dX1_name_296 : decode cX1_name 296 = .ok (.bipush 69, 2) := by decide +kernel
theorem dX1_name_298 : decode cX1_name 298 = .ok (.iconst 0, 1) := by decide +kernel
theorem dX1_name_299 : decode cX1_name 299 = .ok (.invokestatic 36, 3) := by decide +kernel
theorem dX1_name_302 : decode cX1_name 302 = .ok (.ireturn, 1) := by decide +kernel
theorem dX1_name_303 : decode cX1_name 303 = .ok (.bipush 83, 2) := by decide +kernel
theorem dX1_name_305 : decode cX1_name 305 = .ok (.bipush 98, 2) := by decide +kernel
theorem dX1_name_307 : decode cX1_name 307 = .ok (.bipush 69, 2) := by decide +kernel
theorem dX1_name_309 : decode cX1_name 309 = .ok (.iconst 0, 1) := by decide +kernel
theorem dX1_name_310 : decode cX1_name 310 = .ok (.invokestatic 36, 3) := by decide +kernel
theorem dX1_name_313 : decode cX1_name 313 = .ok (.ireturn, 1) := by decide +kernel
theorem dX1_name_314 : decode cX1_name 314 = .ok (.bipush 83, 2) := by decide +kernel
theorem dX1_name_316 : decode cX1_name 316 = .ok (.iconst 0, 1) := by decide +kernel
theorem dX1_name_317 : decode cX1_name 317 = .ok (.iconst 0, 1) := by decide +kernel
theorem dX1_name_318 : decode cX1_name 318 = .ok (.iconst 0, 1) := by decide +kernel
theorem dX1_name_319 : decode cX1_name 319 = .ok (.invokestatic 36, 3) := by decide +kernel
theorem dX1_name_322 : decode cX1_name 322 = .ok (.ireturn, 1) := by decide +kernel
theorem dX1_name_323 : decode cX1_name 323 = .ok (.bipush 83, 2) := by decide +kernel
theorem dX1_name_325 : decode cX1_name 325 = .ok (.bipush 98, 2) := by decide +kernel
theorem dX1_name_327 : decode cX1_name 327 = .ok (.bipush 87, 2) := by decide +kernel
theorem dX1_name_329 : decode cX1_name 329 = .ok (.iconst 0, 1) := by decide +kernel
theorem dX1_name_330 : decode cX1_name 330 = .ok (.invokestatic 36, 3) := by decide +kernel
theorem dX1_name_333 : decode cX1_name 333 = .ok (.ireturn, 1) := by decide +kernel
theorem dX1_name_334 : decode cX1_name 334 = .ok (.bipush 83, 2) := by decide +kernel
theorem dX1_name_336 : decode cX1_name 336 = .ok (.bipush 83, 2) := by decide +kernel
theorem dX1_name_338 : decode cX1_name 338 = .ok (.bipush 87, 2) := by decide +kernel
theorem dX1_name_340 : decode cX1_name 340 = .ok (.iconst 0, 1) := by decide +kernel
theorem dX1_name_341 : decode cX1_name 341 = .ok (.invokestatic 36, 3) := by decide +kernel
theorem dX1_name_344 : decode cX1_name 344 = .ok (.ireturn, 1) := by decide +kernel
theorem dX1_name_345 : decode cX1_name 345 = .ok (.bipush 83, 2) := by decide +kernel
theorem dX1_name_347 : decode cX1_name 347 = .ok (.bipush 87, 2) := by decide +kernel
theorem dX1_name_349 : decode cX1_name 349 = .ok (.bipush 98, 2) := by decide +kernel
theorem dX1_name_351 : decode cX1_name 351 = .ok (.bipush 83, 2) := by decide +kernel
theorem dX1_name_353 : decode cX1_name 353 = .ok (.invokestatic 36, 3) := by decide +kernel
theorem dX1_name_356 : decode cX1_name 356 = .ok (.ireturn, 1) := by decide +kernel
theorem dX1_name_357 : decode cX1_name 357 = .ok (.bipush 83, 2) := by decide +kernel
theorem dX1_name_359 : decode cX1_name 359 = .ok (.bipush 87, 2) := by decide +kernel
theorem dX1_name_361 : decode cX1_name 361 = .ok (.iconst 0, 1) := by decide +kernel
theorem dX1_name_362 : decode cX1_name 362 = .ok (.iconst 0, 1) := by decide +kernel
theorem dX1_name_363 : decode cX1_name 363 = .ok (.invokestatic 36, 3) := by decide +kernel
theorem dX1_name_366 : decode cX1_name 366 = .ok (.ireturn, 1) := by decide +kernel
theorem dX1_name_367 : decode cX1_name 367 = .ok (.bipush 83, 2) := by decide +kernel
theorem dX1_name_369 : decode cX1_name 369 = .ok (.bipush 87, 2) := by decide +kernel
theorem dX1_name_371 : decode cX1_name 371 = .ok (.bipush 98, 2) := by decide +kernel
theorem dX1_name_373 : decode cX1_name 373 = .ok (.bipush 87, 2) := by decide +kernel
theorem dX1_name_375 : decode cX1_name 375 = .ok (.invokestatic 36, 3) := by decide +kernel
theorem dX1_name_378 : decode cX1_name 378 = .ok (.ireturn, 1) := by decide +kernel
theorem dX1_name_379 : decode cX1_name 379 = .ok (.bipush 87, 2) := by decide +kernel
theorem dX1_name_381 : decode cX1_name 381 = .ok (.bipush 83, 2) := by decide +kernel
theorem dX1_name_383 : decode cX1_name 383 = .ok (.bipush 87, 2) := by decide +kernel
theorem dX1_name_385 : decode cX1_name 385 = .ok (.iconst 0, 1) := by decide +kernel
theorem dX1_name_386 : decode cX1_name 386 = .ok (.invokestatic 36, 3) := by decide +kernel
theorem dX1_name_389 : decode cX1_name 389 = .ok (.ireturn, 1) := by decide +kernel
theorem dX1_name_390 : decode cX1_name 390 = .ok (.bipush 87, 2) := by decide +kernel
theorem dX1_name_392 : decode cX1_name 392 = .ok (.bipush 98, 2) := by decide +kernel
theorem dX1_name_394 : decode cX1_name 394 = .ok (.bipush 83, 2) := by decide +kernel
theorem dX1_name_396 : decode cX1_name 396 = .ok (.iconst 0, 1) := by decide +kernel
theorem dX1_name_397 : decode cX1_name 397 = .ok (.invokestatic 36, 3) := by decide +kernel
theorem dX1_name_400 : decode cX1_name 400 = .ok (.ireturn, 1) := by decide +kernel
theorem dX1_name_401 : decode cX1_name 401 = .ok (.bipush 87, 2) := by decide +kernel
theorem dX1_name_403 : decode cX1_name 403 = .ok (.iconst 0, 1) := by decide +kernel
theorem dX1_name_404 : decode cX1_name 404 = .ok (.iconst 0, 1) := by decide +kernel
theorem dX1_name_405 : decode cX1_name 405 = .ok (.iconst 0, 1) := by decide +kernel
theorem dX1_name_406 : decode cX1_name 406 = .ok (.invokestatic 36, 3) := by decide +kernel
theorem dX1_name_409 : decode cX1_name 409 = .ok (.ireturn, 1) := by decide +kernel
theorem dX1_name_410 : decode cX1_name 410 = .ok (.bipush 87, 2) := by decide +kernel
theorem dX1_name_412 : decode cX1_name 412 = .ok (.bipush 98, 2) := by decide +kernel
theorem dX1_name_414 : decode cX1_name 414 = .ok (.bipush 78, 2) := by decide +kernel
theorem dX1_name_416 : decode cX1_name 416 = .ok (.iconst 0, 1) := by decide +kernel
theorem dX1_name_417 : decode cX1_name 417 = .ok (.invokestatic 36, 3) := by decide +kernel
theorem dX1_name_420 : decode cX1_name 420 = .ok (.ireturn, 1) := by decide +kernel
theorem dX1_name_421 : decode cX1_name 421 = .ok (.bipush 87, 2) := by decide +kernel
theorem dX1_name_423 : decode cX1_name 423 = .ok (.bipush 78, 2) := by decide +kernel
theorem dX1_name_425 : decode cX1_name 425 = .ok (.bipush 87, 2) := by decide +kernel
theorem dX1_name_427 : decode cX1_name 427 = .ok (.iconst 0, 1) := by decide +kernel
theorem dX1_name_428 : decode cX1_name 428 = .ok (.invokestatic 36, 3) := by decide +kernel
theorem dX1_name_431 : decode cX1_name 431 = .ok (.ireturn, 1) := by decide +kernel
theorem dX1_name_432 : decode cX1_name 432 = .ok (.bipush 78, 2) := by decide +kernel
theorem dX1_name_434 : decode cX1_name 434 = .ok (.bipush 87, 2) := by decide +kernel
theorem dX1_name_436 : decode cX1_name 436 = .ok (.bipush 98, 2) := by decide +kernel
theorem dX1_name_438 : decode cX1_name 438 = .ok (.bipush 87, 2) := by decide +kernel
theorem dX1_name_440 : decode cX1_name 440 = .ok (.invokestatic 36, 3) := by decide +kernel
theorem dX1_name_443 : decode cX1_name 443 = .ok (.ireturn, 1) := by decide +kernel
theorem dX1_name_444 : decode cX1_name 444 = .ok (.bipush 78, 2) := by decide +kernel
theorem dX1_name_446 : decode cX1_name 446 = .ok (.bipush 87, 2) := by decide +kernel
theorem dX1_name_448 : decode cX1_name 448 = .ok (.iconst 0, 1) := by decide +kernel
theorem dX1_name_449 : decode cX1_name 449 = .ok (.iconst 0, 1) := by decide +kernel
theorem dX1_name_450 : decode cX1_name 450 = .ok (.invokestatic 36, 3) := by decide +kernel
theorem dX1_name_453 : decode cX1_name 453 = .ok (.ireturn, 1) := by decide +kernel
theorem dX1_name_454 : decode cX1_name 454 = .ok (.bipush 78, 2) := by decide +kernel
theorem dX1_name_456 : decode cX1_name 456 = .ok (.bipush 87, 2) := by decide +kernel
theorem dX1_name_458 : decode cX1_name 458 = .ok (.bipush 98, 2) := by decide +kernel
theorem dX1_name_460 : decode cX1_name 460 = .ok (.bipush 78, 2) := by decide +kernel
theorem dX1_name_462 : decode cX1_name 462 = .ok (.invokestatic 36, 3) := by decide +kernel
theorem dX1_name_465 : decode cX1_name 465 = .ok (.ireturn, 1) := by decide +kernel
theorem dX1_name_466 : decode cX1_name 466 = .ok (.bipush 78, 2) := by decide +kernel
theorem dX1_name_468 : decode cX1_name 468 = .ok (.bipush 78, 2) := by decide +kernel
theorem dX1_name_470 : decode cX1_name 470 = .ok (.bipush 87, 2) := by decide +kernel
theorem dX1_name_472 : decode cX1_name 472 = .ok (.iconst 0, 1) := by decide +kernel
theorem dX1_name_473 : decode cX1_name 473 = .ok (.invokestatic 36, 3) := by decide +kernel
theorem dX1_name_476 : decode cX1_name 476 = .ok (.ireturn, 1) := by decide +kernel
theorem dX1_name_477 : decode cX1_name 477 = .ok (.bipush 78, 2) := by decide +kernel
theorem dX1_name_479 : decode cX1_name 479 = .ok (.bipush 98, 2) := by decide +kernel
theorem dX1_name_481 : decode cX1_name 481 = .ok (.bipush 87, 2) := by decide +kernel
theorem dX1_name_483 : decode cX1_name 483 = .ok (.iconst 0, 1) := by decide +kernel
theorem dX1_name_484 : decode cX1_name 484 = .ok (.invokestatic 36, 3) := by decide +kernel
theorem dX1_name_487 : decode cX1_name 487 = .ok (.ireturn, 1) := by decide +kernel
theorem dX1_quarter_0 : decode cX1_quarter 0 = .ok (.iload_n 0, 1) := by decide +kernel
theorem dX1_quarter_1 : decode cX1_quarter 1 = .ok (.tableswitch 77 0 7 #[47, 49, 53, 57, 61, 65, 69, 73], 47) := by decide +kernel
theorem dX1_quarter_48 : decode cX1_quarter 48 = .ok (.iconst 0, 1) := by decide +kernel
theorem dX1_quarter_49 : decode cX1_quarter 49 = .ok (.ireturn, 1) := by decide +kernel
theorem dX1_quarter_50 : decode cX1_quarter 50 = .ok (.sipush 1951, 3) := by decide +kernel
theorem dX1_quarter_53 : decode cX1_quarter 53 = .ok (.ireturn, 1) := by decide +kernel
theorem dX1_quarter_54 : decode cX1_quarter 54 = .ok (.sipush 3827, 3) := by decide +kernel
theorem dX1_quarter_57 : decode cX1_quarter 57 = .ok (.ireturn, 1) := by decide +kernel
theorem dX1_quarter_58 : decode cX1_quarter 58 = .ok (.sipush 5556, 3) := by decide +kernel
theorem dX1_quarter_61 : decode cX1_quarter 61 = .ok (.ireturn, 1) := by decide +kernel
theorem dX1_quarter_62 : decode cX1_quarter 62 = .ok (.sipush 7071, 3) := by decide +kernel
theorem dX1_quarter_65 : decode cX1_quarter 65 = .ok (.ireturn, 1) := by decide +kernel
theorem dX1_quarter_66 : decode cX1_quarter 66 = .ok (.sipush 8315, 3) := by decide +kernel
theorem dX1_quarter_69 : decode cX1_quarter 69 = .ok (.ireturn, 1) := by decide +kernel
theorem dX1_quarter_70 : decode cX1_quarter 70 = .ok (.sipush 9239, 3) := by decide +kernel
theorem dX1_quarter_73 : decode cX1_quarter 73 = .ok (.ireturn, 1) := by decide +kernel
theorem dX1_quarter_74 : decode cX1_quarter 74 = .ok (.sipush 9808, 3) := by decide +kernel
theorem dX1_quarter_77 : decode cX1_quarter 77 = .ok (.ireturn, 1) := by decide +kernel
theorem dX1_quarter_78 : decode cX1_quarter 78 = .ok (.sipush 10000, 3) := by decide +kernel
theorem dX1_quarter_81 : decode cX1_quarter 81 = .ok (.ireturn, 1) := by decide +kernel
set_option maxRecDepth 20000 in
theorem ggX1_sine_X1_quarter : GoodIn wsX1_sine wsX1_quarter := goodIn_r _ [4] (by decide +kernel) (by decide +kernel)
set_option maxRecDepth 20000 in
theorem gX1_sine_X1_quarter : GoodIn wsX1_sine (va_wsS RX1 40 yX1_quarter wsX1_quarter) := goodIn_app (goodIn_of _ (by decide +kernel)) ggX1_sine_X1_quarter
theorem dX1_sine_0 : decode cX1_sine 0 = .ok (.iload_n 0, 1) := by decide +kernel
theorem dX1_sine_1 : decode cX1_sine 1 = .ok (.bipush 16, 2) := by decide +kernel
theorem dX1_sine_3 : decode cX1_sine 3 = .ok (.irem, 1) := by decide +kernel
theorem dX1_sine_4 : decode cX1_sine 4 = .ok (.istore_n 1, 1) := by decide +kernel
theorem dX1_sine_5 : decode cX1_sine 5 = .ok (.iload_n 1, 1) := by decide +kernel
theorem dX1_sine_6 : decode cX1_sine 6 = .ok (.bipush 8, 2) := by decide +kernel
theorem dX1_sine_8 : decode cX1_sine 8 = .ok (.if_icmp .le 10, 3) := by decide +kernel
theorem dX1_sine_11 : decode cX1_sine 11 = .ok (.bipush 16, 2) := by decide +kernel
theorem dX1_sine_13 : decode cX1_sine 13 = .ok (.iload_n 1, 1) := by decide +kernel
theorem dX1_sine_14 : decode cX1_sine 14 = .ok (.isub, 1) := by decide +kernel
theorem dX1_sine_15 : decode cX1_sine 15 = .ok (.goto 4, 3) := by decide +kernel
theorem dX1_sine_18 : decode cX1_sine 18 = .ok (.iload_n 1, 1) := by decide +kernel
theorem dX1_sine_19 : decode cX1_sine 19 = .ok (.invokestatic 40, 3) := by decide +kernel
theorem dX1_sine_22 : decode cX1_sine 22 = .ok (.istore_n 2, 1) := by decide +kernel
theorem dX1_sine_23 : decode cX1_sine 23 = .ok (.iload_n 0, 1) := by decide +kernel
theorem dX1_sine_24 : decode cX1_sine 24 = .ok (.bipush 16, 2) := by decide +kernel
theorem dX1_sine_26 : decode cX1_sine 26 = .ok (.if_icmp .ge 7, 3) := by decide +kernel
theorem dX1_sine_29 : decode cX1_sine 29 = .ok (.iload_n 2, 1) := by decide +kernel
theorem dX1_sine_30 : decode cX1_sine 30 = .ok (.goto 5, 3) := by decide +kernel
theorem dX1_sine_33 : decode cX1_sine 33 = .ok (.iload_n 2, 1) := by decide +kernel
theorem dX1_sine_34 : decode cX1_sine 34 = .ok (.ineg, 1) := by decide +kernel
theorem dX1_sine_35 : decode cX1_sine 35 = .ok (.ireturn, 1) := by decide +kernel
set_option maxRecDepth 20000 in
theorem ggX1_cosine_X1_sine : GoodIn wsX1_cosine wsX1_sine := goodIn_r _ [4, 5, 6, 3, 7] (by decide +kernel) (by decide +kernel)
set_option maxRecDepth 20000 in
theorem gX1_cosine_X1_sine : GoodIn wsX1_cosine (va_wsS RX1 44 yX1_sine wsX1_sine) := goodIn_app (goodIn_of _ (by decide +kernel)) ggX1_cosine_X1_sine
theorem dX1_cosine_0 : decode cX1_cosine 0 = .ok (.iload_n 0, 1) := by decide +kernel
theorem dX1_cosine_1 : decode cX1_cosine 1 = .ok (.bipush 8, 2) := by decide +kernel
theorem dX1_cosine_3 : decode cX1_cosine 3 = .ok (.iadd, 1) := by decide +kernel
theorem dX1_cosine_4 : decode cX1_cosine 4 = .ok (.bipush 32, 2) := by decide +kernel
theorem dX1_cosine_6 : decode cX1_cosine 6 = .ok (.irem, 1) := by decide +kernel
theorem dX1_cosine_7 : decode cX1_cosine 7 = .ok (.invokestatic 44, 3) := by decide +kernel
theorem dX1_cosine_10 : decode cX1_cosine 10 = .ok (.ireturn, 1) := by decide +kernel
set_option maxRecDepth 20000 in
theorem ggX1_append_X1_within : GoodIn wsX1_append wsX1_within := goodIn_r _ [8] (by decide +kernel) (by decide +kernel)
set_option maxRecDepth 20000 in
theorem gX1_append_X1_within : GoodIn wsX1_append (va_wsS RX1 47 yX1_within wsX1_within) := goodIn_app (goodIn_of _ (by decide +kernel)) ggX1_append_X1_within
theorem dX1_append_0 : decode cX1_append 0 = .ok (.iload_n 1, 1) := by decide +kernel
theorem dX1_append_1 : decode cX1_append 1 = .ok (.bipush 32, 2) := by decide +kernel
theorem dX1_append_3 : decode cX1_append 3 = .ok (.bipush 126, 2) := by decide +kernel
theorem dX1_append_5 : decode cX1_append 5 = .ok (.invokestatic 47, 3) := by decide +kernel
theorem dX1_append_8 : decode cX1_append 8 = .ok (.ifCond .ne 7, 3) := by decide +kernel
theorem dX1_append_11 : decode cX1_append 11 = .ok (.ldc2_w 51, 3) := by decide +kernel
theorem dX1_append_14 : decode cX1_append 14 = .ok (.lreturn, 1) := by decide +kernel
theorem dX1_append_15 : decode cX1_append 15 = .ok (.aload_n 0, 1) := by decide +kernel
theorem dX1_append_16 : decode cX1_append 16 = .ok (.getfield 53, 3) := by decide +kernel
theorem dX1_append_19 : decode cX1_append 19 = .ok (.bipush 12, 2) := by decide +kernel
theorem dX1_append_21 : decode cX1_append 21 = .ok (.if_icmp .ne 7, 3) := by decide +kernel
theorem dX1_append_24 : decode cX1_append 24 = .ok (.ldc2_w 57, 3) := by decide +kernel
theorem dX1_append_27 : decode cX1_append 27 = .ok (.lreturn, 1) := by decide +kernel
theorem dX1_append_28 : decode cX1_append 28 = .ok (.aload_n 0, 1) := by decide +kernel
theorem dX1_append_29 : decode cX1_append 29 = .ok (.getfield 7, 3) := by decide +kernel
theorem dX1_append_32 : decode cX1_append 32 = .ok (.aload_n 0, 1) := by decide +kernel
theorem dX1_append_33 : decode cX1_append 33 = .ok (.getfield 53, 3) := by decide +kernel
theorem dX1_append_36 : decode cX1_append 36 = .ok (.iload_n 1, 1) := by decide +kernel
theorem dX1_append_37 : decode cX1_append 37 = .ok (.iastore, 1) := by decide +kernel
theorem dX1_append_38 : decode cX1_append 38 = .ok (.aload_n 0, 1) := by decide +kernel
theorem dX1_append_39 : decode cX1_append 39 = .ok (.dup, 1) := by decide +kernel
theorem dX1_append_40 : decode cX1_append 40 = .ok (.getfield 53, 3) := by decide +kernel
theorem dX1_append_43 : decode cX1_append 43 = .ok (.iconst 1, 1) := by decide +kernel
theorem dX1_append_44 : decode cX1_append 44 = .ok (.iadd, 1) := by decide +kernel
theorem dX1_append_45 : decode cX1_append 45 = .ok (.putfield 53, 3) := by decide +kernel
theorem dX1_append_48 : decode cX1_append 48 = .ok (.aload_n 0, 1) := by decide +kernel
theorem dX1_append_49 : decode cX1_append 49 = .ok (.getfield 53, 3) := by decide +kernel
theorem dX1_append_52 : decode cX1_append 52 = .ok (.i2l, 1) := by decide +kernel
theorem dX1_append_53 : decode cX1_append 53 = .ok (.lreturn, 1) := by decide +kernel
theorem dX1_clearBuffer_0 : decode cX1_clearBuffer 0 = .ok (.aload_n 0, 1) := by decide +kernel
theorem dX1_clearBuffer_1 : decode cX1_clearBuffer 1 = .ok (.getfield 53, 3) := by decide +kernel
theorem dX1_clearBuffer_4 : decode cX1_clearBuffer 4 = .ok (.istore_n 1, 1) := by decide +kernel
theorem dX1_clearBuffer_5 : decode cX1_clearBuffer 5 = .ok (.aload_n 0, 1) := by decide +kernel
theorem dX1_clearBuffer_6 : decode cX1_clearBuffer 6 = .ok (.iconst 0, 1) := by decide +kernel
theorem dX1_clearBuffer_7 : decode cX1_clearBuffer 7 = .ok (.putfield 53, 3) := by decide +kernel
theorem dX1_clearBuffer_10 : decode cX1_clearBuffer 10 = .ok (.iload_n 1, 1) := by decide +kernel
theorem dX1_clearBuffer_11 : decode cX1_clearBuffer 11 = .ok (.i2l, 1) := by decide +kernel
theorem dX1_clearBuffer_12 : decode cX1_clearBuffer 12 = .ok (.lreturn, 1) := by decide +kernel
set_option maxRecDepth 20000 in
theorem ggX1_nameOf_X1_four : GoodIn wsX1_nameOf wsX1_four := goodIn_r _ [5] (by decide +kernel) (by decide +kernel)
set_option maxRecDepth 20000 in
theorem gX1_nameOf_X1_four : GoodIn wsX1_nameOf (va_wsS RX1 36 yX1_four wsX1_four) := goodIn_app (goodIn_of _ (by decide +kernel)) ggX1_nameOf_X1_four
theorem dX1_nameOf_0 : decode cX1_nameOf 0 = .ok (.iload_n 1, 1) := by decide +kernel
theorem dX1_nameOf_1 : decode cX1_nameOf 1 = .ok (.ifCond .le 12, 3) := by decide +kernel
theorem dX1_nameOf_4 : decode cX1_nameOf 4 = .ok (.aload_n 0, 1) := by decide +kernel
theorem dX1_nameOf_5 : decode cX1_nameOf 5 = .ok (.getfield 7, 3) := by decide +kernel
theorem dX1_nameOf_8 : decode cX1_nameOf 8 = .ok (.iconst 0, 1) := by decide +kernel
theorem dX1_nameOf_9 : decode cX1_nameOf 9 = .ok (.iaload, 1) := by decide +kernel
theorem dX1_nameOf_10 : decode cX1_nameOf 10 = .ok (.goto 4, 3) := by decide +kernel
theorem dX1_nameOf_13 : decode cX1_nameOf 13 = .ok (.iconst 0, 1) := by decide +kernel
theorem dX1_nameOf_14 : decode cX1_nameOf 14 = .ok (.iload_n 1, 1) := by decide +kernel
theorem dX1_nameOf_15 : decode cX1_nameOf 15 = .ok (.iconst 1, 1) := by decide +kernel
theorem dX1_nameOf_16 : decode cX1_nameOf 16 = .ok (.if_icmp .le 12, 3) := by decide +kernel
theorem dX1_nameOf_19 : decode cX1_nameOf 19 = .ok (.aload_n 0, 1) := by decide +kernel
theorem dX1_nameOf_20 : decode cX1_nameOf 20 = .ok (.getfield 7, 3) := by decide +kernel
theorem dX1_nameOf_23 : decode cX1_nameOf 23 = .ok (.iconst 1, 1) := by decide +kernel
theorem dX1_nameOf_24 : decode cX1_nameOf 24 = .ok (.iaload, 1) := by decide +kernel
theorem dX1_nameOf_25 : decode cX1_nameOf 25 = .ok (.goto 4, 3) := by decide +kernel
theorem dX1_nameOf_28 : decode cX1_nameOf 28 = .ok (.iconst 0, 1) := by decide +kernel
theorem dX1_nameOf_29 : decode cX1_nameOf 29 = .ok (.iload_n 1, 1) := by decide +kernel
theorem dX1_nameOf_30 : decode cX1_nameOf 30 = .ok (.iconst 2, 1) := by decide +kernel
theorem dX1_nameOf_31 : decode cX1_nameOf 31 = .ok (.if_icmp .le 12, 3) := by decide +kernel
theorem dX1_nameOf_34 : decode cX1_nameOf 34 = .ok (.aload_n 0, 1) := by decide +kernel
theorem dX1_nameOf_35 : decode cX1_nameOf 35 = .ok (.getfield 7, 3) := by decide +kernel
theorem dX1_nameOf_38 : decode cX1_nameOf 38 = .ok (.iconst 2, 1) := by decide +kernel
theorem dX1_nameOf_39 : decode cX1_nameOf 39 = .ok (.iaload, 1) := by decide +kernel
theorem dX1_nameOf_40 : decode cX1_nameOf 40 = .ok (.goto 4, 3) := by decide +kernel
theorem dX1_nameOf_43 : decode cX1_nameOf 43 = .ok (.iconst 0, 1) := by decide +kernel
theorem dX1_nameOf_44 : decode cX1_nameOf 44 = .ok (.iload_n 1, 1) := by decide +kernel
theorem dX1_nameOf_45 : decode cX1_nameOf 45 = .ok (.iconst 3, 1) := by decide +kernel
theorem dX1_nameOf_46 : decode cX1_nameOf 46 = .ok (.if_icmp .le 12, 3) := by decide +kernel
theorem dX1_nameOf_49 : decode cX1_nameOf 49 = .ok (.aload_n 0, 1) := by decide +kernel
theorem dX1_nameOf_50 : decode cX1_nameOf 50 = .ok (.getfield 7, 3) := by decide +kernel
theorem dX1_nameOf_53 : decode cX1_nameOf 53 = .ok (.iconst 3, 1) := by decide +kernel
theorem dX1_nameOf_54 : decode cX1_nameOf 54 = .ok (.iaload, 1) := by decide +kernel
theorem dX1_nameOf_55 : decode cX1_nameOf 55 = .ok (.goto 4, 3) := by decide +kernel
theorem dX1_nameOf_58 : decode cX1_nameOf 58 = .ok (.iconst 0, 1) := by decide +kernel
theorem dX1_nameOf_59 : decode cX1_nameOf 59 = .ok (.invokestatic 36, 3) := by decide +kernel
theorem dX1_nameOf_62 : decode cX1_nameOf 62 = .ok (.ireturn, 1) := by decide +kernel
theorem dX1_unit_0 : decode cX1_unit 0 = .ok (.iconst 1, 1) := by decide +kernel
theorem dX1_unit_1 : decode cX1_unit 1 = .ok (.istore_n 1, 1) := by decide +kernel
theorem dX1_unit_2 : decode cX1_unit 2 = .ok (.iload_n 0, 1) := by decide +kernel
theorem dX1_unit_3 : decode cX1_unit 3 = .ok (.istore_n 2, 1) := by decide +kernel
theorem dX1_unit_4 : decode cX1_unit 4 = .ok (.iload_n 2, 1) := by decide +kernel
theorem dX1_unit_5 : decode cX1_unit 5 = .ok (.iconst 4, 1) := by decide +kernel
theorem dX1_unit_6 : decode cX1_unit 6 = .ok (.if_icmp .ge 15, 3) := by decide +kernel
theorem dX1_unit_9 : decode cX1_unit 9 = .ok (.iload_n 1, 1) := by decide +kernel
theorem dX1_unit_10 : decode cX1_unit 10 = .ok (.sipush 128, 3) := by decide +kernel
theorem dX1_unit_13 : decode cX1_unit 13 = .ok (.imul, 1) := by decide +kernel
theorem dX1_unit_14 : decode cX1_unit 14 = .ok (.istore_n 1, 1) := by decide +kernel
theorem dX1_unit_15 : decode cX1_unit 15 = .ok (.iinc 2 1, 3) := by decide +kernel
theorem dX1_unit_18 : decode cX1_unit 18 = .ok (.goto (-14), 3) := by decide +kernel
theorem dX1_unit_21 : decode cX1_unit 21 = .ok (.iload_n 1, 1) := by decide +kernel
theorem dX1_unit_22 : decode cX1_unit 22 = .ok (.ireturn, 1) := by decide +kernel
set_option maxRecDepth 20000 in
theorem ggX1_pointBy_X1_name : GoodIn wsX1_pointBy wsX1_name := goodIn_r _ [4, 5, 6, 3, 7] (by decide +kernel) (by decide +kernel)
set_option maxRecDepth 20000 in
theorem gX1_pointBy_X1_name : GoodIn wsX1_pointBy (va_wsS RX1 59 yX1_name wsX1_name) := goodIn_app (goodIn_of _ (by decide +kernel)) ggX1_pointBy_X1_name
set_option maxRecDepth 20000 in
theorem ggX1_pointBy_X1_nameOf : GoodIn wsX1_pointBy wsX1_nameOf := goodIn_r _ [11, 12, 5, 6, 3, 7, 13, 14, 15, 16, 17, 18, 19, 20, 21, 22, 23, 24, 25, 26, 27, 28, 29] (by decide +kernel) (by decide +kernel)
set_option maxRecDepth 20000 in
theorem gX1_pointBy_X1_nameOf : GoodIn wsX1_pointBy (wsV RX1 62 RX1 yX1_nameOf wsX1_nameOf) := goodIn_app (goodIn_of _ (by decide +kernel)) ggX1_pointBy_X1_nameOf
theorem dX1_pointBy_0 : decode cX1_pointBy 0 = .ok (.iconst (-1), 1) := by decide +kernel
theorem dX1_pointBy_1 : decode cX1_pointBy 1 = .ok (.istore_n 2, 1) := by decide +kernel
theorem dX1_pointBy_2 : decode cX1_pointBy 2 = .ok (.iconst 0, 1) := by decide +kernel
theorem dX1_pointBy_3 : decode cX1_pointBy 3 = .ok (.istore_n 3, 1) := by decide +kernel
theorem dX1_pointBy_4 : decode cX1_pointBy 4 = .ok (.iload_n 3, 1) := by decide +kernel
theorem dX1_pointBy_5 : decode cX1_pointBy 5 = .ok (.bipush 32, 2) := by decide +kernel
theorem dX1_pointBy_7 : decode cX1_pointBy 7 = .ok (.if_icmp .ge 36, 3) := by decide +kernel
theorem dX1_pointBy_10 : decode cX1_pointBy 10 = .ok (.iload_n 1, 1) := by decide +kernel
theorem dX1_pointBy_11 : decode cX1_pointBy 11 = .ok (.ifCond .le 32, 3) := by decide +kernel
theorem dX1_pointBy_14 : decode cX1_pointBy 14 = .ok (.iload_n 1, 1) := by decide +kernel
theorem dX1_pointBy_15 : decode cX1_pointBy 15 = .ok (.iconst 5, 1) := by decide +kernel
theorem dX1_pointBy_16 : decode cX1_pointBy 16 = .ok (.if_icmp .ge 27, 3) := by decide +kernel
theorem dX1_pointBy_19 : decode cX1_pointBy 19 = .ok (.iload_n 3, 1) := by decide +kernel
theorem dX1_pointBy_20 : decode cX1_pointBy 20 = .ok (.invokestatic 59, 3) := by decide +kernel
theorem dX1_pointBy_23 : decode cX1_pointBy 23 = .ok (.aload_n 0, 1) := by decide +kernel
theorem dX1_pointBy_24 : decode cX1_pointBy 24 = .ok (.iload_n 1, 1) := by decide +kernel
theorem dX1_pointBy_25 : decode cX1_pointBy 25 = .ok (.invokevirtual 62, 3) := by decide +kernel
theorem dX1_pointBy_28 : decode cX1_pointBy 28 = .ok (.if_icmp .ne 7, 3) := by decide +kernel
theorem dX1_pointBy_31 : decode cX1_pointBy 31 = .ok (.iload_n 3, 1) := by decide +kernel
theorem dX1_pointBy_32 : decode cX1_pointBy 32 = .ok (.goto 4, 3) := by decide +kernel
theorem dX1_pointBy_35 : decode cX1_pointBy 35 = .ok (.iload_n 2, 1) := by decide +kernel
theorem dX1_pointBy_36 : decode cX1_pointBy 36 = .ok (.istore_n 2, 1) := by decide +kernel
theorem dX1_pointBy_37 : decode cX1_pointBy 37 = .ok (.iinc 3 1, 3) := by decide +kernel
theorem dX1_pointBy_40 : decode cX1_pointBy 40 = .ok (.goto (-36), 3) := by decide +kernel
theorem dX1_pointBy_43 : decode cX1_pointBy 43 = .ok (.iload_n 2, 1) := by decide +kernel
theorem dX1_pointBy_44 : decode cX1_pointBy 44 = .ok (.ireturn, 1) := by decide +kernel
set_option maxRecDepth 20000 in
theorem ggX1_isBeginning_X1_name : GoodIn wsX1_isBeginning wsX1_name := goodIn_r _ [4, 5, 6, 3, 7] (by decide +kernel) (by decide +kernel)
set_option maxRecDepth 20000 in
theorem gX1_isBeginning_X1_name : GoodIn wsX1_isBeginning (va_wsS RX1 59 yX1_name wsX1_name) := goodIn_app (goodIn_of _ (by decide +kernel)) ggX1_isBeginning_X1_name
set_option maxRecDepth 20000 in
theorem ggX1_isBeginning_X1_unit : GoodIn wsX1_isBeginning wsX1_unit := goodIn_r _ [10] (by decide +kernel) (by decide +kernel)
set_option maxRecDepth 20000 in
theorem gX1_isBeginning_X1_unit : GoodIn wsX1_isBeginning (va_wsS RX1 65 yX1_unit wsX1_unit) := goodIn_app (goodIn_of _ (by decide +kernel)) ggX1_isBeginning_X1_unit
set_option maxRecDepth 20000 in
theorem ggX1_isBeginning_X1_nameOf : GoodIn wsX1_isBeginning wsX1_nameOf := goodIn_r _ [14, 15, 5, 6, 3, 7, 16, 17, 18, 19, 20, 21, 22, 23, 24, 25, 26, 27, 28, 29, 30, 31, 32] (by decide +kernel) (by decide +kernel)
set_option maxRecDepth 20000 in
theorem gX1_isBeginning_X1_nameOf : GoodIn wsX1_isBeginning (wsV RX1 62 RX1 yX1_nameOf wsX1_nameOf) := goodIn_app (goodIn_of _ (by decide +kernel)) ggX1_isBeginning_X1_nameOf
theorem dX1_isBeginning_0 : decode cX1_isBeginning 0 = .ok (.iconst 0, 1) := by decide +kernel
theorem dX1_isBeginning_1 : decode cX1_isBeginning 1 = .ok (.istore_n 2, 1) := by decide +kernel
theorem dX1_isBeginning_2 : decode cX1_isBeginning 2 = .ok (.iconst 0, 1) := by decide +kernel
theorem dX1_isBeginning_3 : decode cX1_isBeginning 3 = .ok (.istore_n 3, 1) := by decide +kernel
theorem dX1_isBeginning_4 : decode cX1_isBeginning 4 = .ok (.iload_n 3, 1) := by decide +kernel
theorem dX1_isBeginning_5 : decode cX1_isBeginning 5 = .ok (.bipush 32, 2) := by decide +kernel
theorem dX1_isBeginning_7 : decode cX1_isBeginning 7 = .ok (.if_icmp .ge 46, 3) := by decide +kernel
theorem dX1_isBeginning_10 : decode cX1_isBeginning 10 = .ok (.iload_n 1, 1) := by decide +kernel
theorem dX1_isBeginning_11 : decode cX1_isBeginning 11 = .ok (.iconst 5, 1) := by decide +kernel
theorem dX1_isBeginning_12 : decode cX1_isBeginning 12 = .ok (.if_icmp .ge 41, 3) := by decide +kernel
theorem dX1_isBeginning_15 : decode cX1_isBeginning 15 = .ok (.iload_n 2, 1) := by decide +kernel
theorem dX1_isBeginning_16 : decode cX1_isBeginning 16 = .ok (.ifCond .ne 25, 3) := by decide +kernel
theorem dX1_isBeginning_19 : decode cX1_isBeginning 19 = .ok (.iload_n 3, 1) := by decide +kernel
theorem dX1_isBeginning_20 : decode cX1_isBeginning 20 = .ok (.invokestatic 59, 3) := by decide +kernel
theorem dX1_isBeginning_23 : decode cX1_isBeginning 23 = .ok (.iload_n 1, 1) := by decide +kernel
theorem dX1_isBeginning_24 : decode cX1_isBeginning 24 = .ok (.invokestatic 65, 3) := by decide +kernel
theorem dX1_isBeginning_27 : decode cX1_isBeginning 27 = .ok (.idiv, 1) := by decide +kernel
theorem dX1_isBeginning_28 : decode cX1_isBeginning 28 = .ok (.aload_n 0, 1) := by decide +kernel
theorem dX1_isBeginning_29 : decode cX1_isBeginning 29 = .ok (.iload_n 1, 1) := by decide +kernel
theorem dX1_isBeginning_30 : decode cX1_isBeginning 30 = .ok (.invokevirtual 62, 3) := by decide +kernel
theorem dX1_isBeginning_33 : decode cX1_isBeginning 33 = .ok (.iload_n 1, 1) := by decide +kernel
theorem dX1_isBeginning_34 : decode cX1_isBeginning 34 = .ok (.invokestatic 65, 3) := by decide +kernel
theorem dX1_isBeginning_37 : decode cX1_isBeginning 37 = .ok (.idiv, 1) := by decide +kernel
theorem dX1_isBeginning_38 : decode cX1_isBeginning 38 = .ok (.if_icmp .ne 7, 3) := by decide +kernel
theorem dX1_isBeginning_41 : decode cX1_isBeginning 41 = .ok (.iconst 1, 1) := by decide +kernel
theorem dX1_isBeginning_42 : decode cX1_isBeginning 42 = .ok (.goto 4, 3) := by decide +kernel
theorem dX1_isBeginning_45 : decode cX1_isBeginning 45 = .ok (.iconst 0, 1) := by decide +kernel
theorem dX1_isBeginning_46 : decode cX1_isBeginning 46 = .ok (.istore_n 2, 1) := by decide +kernel
theorem dX1_isBeginning_47 : decode cX1_isBeginning 47 = .ok (.iinc 3 1, 3) := by decide +kernel
theorem dX1_isBeginning_50 : decode cX1_isBeginning 50 = .ok (.goto (-46), 3) := by decide +kernel
theorem dX1_isBeginning_53 : decode cX1_isBeginning 53 = .ok (.iload_n 2, 1) := by decide +kernel
theorem dX1_isBeginning_54 : decode cX1_isBeginning 54 = .ok (.ireturn, 1) := by decide +kernel
set_option maxRecDepth 20000 in
theorem ggX1_parse_X1_isBeginning : GoodIn wsX1_parse wsX1_isBeginning := goodIn_r _ [11, 12, 13, 10, 14, 15, 16, 17, 18, 19, 20, 21, 22, 23, 24, 2, 32, 33, 34, 35, 36, 37, 38, 39, 40, 41, 42, 43, 44, 45, 46, 47, 48] (by decide +kernel) (by decide +kernel)
set_option maxRecDepth 20000 in
theorem gX1_parse_X1_isBeginning : GoodIn wsX1_parse (wsV RX1 68 RX1 yX1_isBeginning wsX1_isBeginning) := goodIn_app (goodIn_of _ (by decide +kernel)) ggX1_parse_X1_isBeginning
set_option maxRecDepth 20000 in
theorem ggX1_parse_X1_pointBy : GoodIn wsX1_parse wsX1_pointBy := goodIn_r _ [28, 12, 13, 10, 14, 15, 16, 17, 21, 22, 23, 24, 2, 32, 33, 34, 35, 36, 37, 38, 39, 40, 41, 42, 43, 44, 45, 46, 47, 48] (by decide +kernel) (by decide +kernel)
set_option maxRecDepth 20000 in
theorem gX1_parse_X1_pointBy : GoodIn wsX1_parse (wsV RX1 79 RX1 yX1_pointBy wsX1_pointBy) := goodIn_app (goodIn_of _ (by decide +kernel)) ggX1_parse_X1_pointBy
set_option maxRecDepth 20000 in
theorem ggX1_parse_X1_within : GoodIn wsX1_parse wsX1_within := goodIn_r _ [31] (by decide +kernel) (by decide +kernel)
set_option maxRecDepth 20000 in
theorem gX1_parse_X1_within : GoodIn wsX1_parse (va_wsS RX1 47 yX1_within wsX1_within) := goodIn_app (goodIn_of _ (by decide +kernel)) ggX1_parse_X1_within
theorem dX1_parse_0 : decode cX1_parse 0 = .ok (.iconst 0, 1) := by decide +kernel
theorem dX1_parse_1 : decode cX1_parse 1 = .ok (.istore_n 1, 1) := by decide +kernel
theorem dX1_parse_2 : decode cX1_parse 2 = .ok (.iload_n 1, 1) := by decide +kernel
theorem dX1_parse_3 : decode cX1_parse 3 = .ok (.aload_n 0, 1) := by decide +kernel
theorem dX1_parse_4 : decode cX1_parse 4 = .ok (.getfield 53, 3) := by decide +kernel
theorem dX1_parse_7 : decode cX1_parse 7 = .ok (.if_icmp .ge 30, 3) := by decide +kernel
theorem dX1_parse_10 : decode cX1_parse 10 = .ok (.aload_n 0, 1) := by decide +kernel
theorem dX1_parse_11 : decode cX1_parse 11 = .ok (.getfield 7, 3) := by decide +kernel
theorem dX1_parse_14 : decode cX1_parse 14 = .ok (.iload_n 1, 1) := by decide +kernel
theorem dX1_parse_15 : decode cX1_parse 15 = .ok (.iaload, 1) := by decide +kernel
theorem dX1_parse_16 : decode cX1_parse 16 = .ok (.bipush 32, 2) := by decide +kernel
theorem dX1_parse_18 : decode cX1_parse 18 = .ok (.if_icmp .eq 19, 3) := by decide +kernel
theorem dX1_parse_21 : decode cX1_parse 21 = .ok (.aload_n 0, 1) := by decide +kernel
theorem dX1_parse_22 : decode cX1_parse 22 = .ok (.iload_n 1, 1) := by decide +kernel
theorem dX1_parse_23 : decode cX1_parse 23 = .ok (.iconst 1, 1) := by decide +kernel
theorem dX1_parse_24 : decode cX1_parse 24 = .ok (.iadd, 1) := by decide +kernel
theorem dX1_parse_25 : decode cX1_parse 25 = .ok (.invokevirtual 68, 3) := by decide +kernel
theorem dX1_parse_28 : decode cX1_parse 28 = .ok (.ifCond .eq 9, 3) := by decide +kernel
theorem dX1_parse_31 : decode cX1_parse 31 = .ok (.iinc 1 1, 3) := by decide +kernel
theorem dX1_parse_34 : decode cX1_parse 34 = .ok (.goto (-32), 3) := by decide +kernel
theorem dX1_parse_37 : decode cX1_parse 37 = .ok (.aload_n 0, 1) := by decide +kernel
theorem dX1_parse_38 : decode cX1_parse 38 = .ok (.iload_n 1, 1) := by decide +kernel
theorem dX1_parse_39 : decode cX1_parse 39 = .ok (.putfield 72, 3) := by decide +kernel
theorem dX1_parse_42 : decode cX1_parse 42 = .ok (.aload_n 0, 1) := by decide +kernel
theorem dX1_parse_43 : decode cX1_parse 43 = .ok (.iconst 0, 1) := by decide +kernel
theorem dX1_parse_44 : decode cX1_parse 44 = .ok (.putfield 75, 3) := by decide +kernel
theorem dX1_parse_47 : decode cX1_parse 47 = .ok (.aload_n 0, 1) := by decide +kernel
theorem dX1_parse_48 : decode cX1_parse 48 = .ok (.iload_n 1, 1) := by decide +kernel
theorem dX1_parse_49 : decode cX1_parse 49 = .ok (.aload_n 0, 1) := by decide +kernel
theorem dX1_parse_50 : decode cX1_parse 50 = .ok (.getfield 53, 3) := by decide +kernel
theorem dX1_parse_53 : decode cX1_parse 53 = .ok (.if_icmp .ge 22, 3) := by decide +kernel
theorem dX1_parse_56 : decode cX1_parse 56 = .ok (.aload_n 0, 1) := by decide +kernel
theorem dX1_parse_57 : decode cX1_parse 57 = .ok (.getfield 7, 3) := by decide +kernel
theorem dX1_parse_60 : decode cX1_parse 60 = .ok (.iload_n 1, 1) := by decide +kernel
theorem dX1_parse_61 : decode cX1_parse 61 = .ok (.iaload, 1) := by decide +kernel
theorem dX1_parse_62 : decode cX1_parse 62 = .ok (.bipush 32, 2) := by decide +kernel
theorem dX1_parse_64 : decode cX1_parse 64 = .ok (.if_icmp .ne 11, 3) := by decide +kernel
theorem dX1_parse_67 : decode cX1_parse 67 = .ok (.aload_n 0, 1) := by decide +kernel
theorem dX1_parse_68 : decode cX1_parse 68 = .ok (.iload_n 1, 1) := by decide +kernel
theorem dX1_parse_69 : decode cX1_parse 69 = .ok (.invokevirtual 79, 3) := by decide +kernel
theorem dX1_parse_72 : decode cX1_parse 72 = .ok (.goto 4, 3) := by decide +kernel
theorem dX1_parse_75 : decode cX1_parse 75 = .ok (.iconst (-1), 1) := by decide +kernel
theorem dX1_parse_76 : decode cX1_parse 76 = .ok (.putfield 82, 3) := by decide +kernel
theorem dX1_parse_79 : decode cX1_parse 79 = .ok (.aload_n 0, 1) := by decide +kernel
theorem dX1_parse_80 : decode cX1_parse 80 = .ok (.getfield 82, 3) := by decide +kernel
theorem dX1_parse_83 : decode cX1_parse 83 = .ok (.ifCond .ge 4, 3) := by decide +kernel
theorem dX1_parse_86 : decode cX1_parse 86 = .ok (.return_, 1) := by decide +kernel
theorem dX1_parse_87 : decode cX1_parse 87 = .ok (.iinc 1 1, 3) := by decide +kernel
theorem dX1_parse_90 : decode cX1_parse 90 = .ok (.iconst 0, 1) := by decide +kernel
theorem dX1_parse_91 : decode cX1_parse 91 = .ok (.istore_n 2, 1) := by decide +kernel
theorem dX1_parse_92 : decode cX1_parse 92 = .ok (.aload_n 0, 1) := by decide +kernel
theorem dX1_parse_93 : decode cX1_parse 93 = .ok (.iconst 0, 1) := by decide +kernel
theorem dX1_parse_94 : decode cX1_parse 94 = .ok (.putfield 85, 3) := by decide +kernel
theorem dX1_parse_97 : decode cX1_parse 97 = .ok (.iconst 1, 1) := by decide +kernel
theorem dX1_parse_98 : decode cX1_parse 98 = .ok (.istore_n 3, 1) := by decide +kernel
theorem dX1_parse_99 : decode cX1_parse 99 = .ok (.iload_n 3, 1) := by decide +kernel
theorem dX1_parse_100 : decode cX1_parse 100 = .ok (.ifCond .eq 115, 3) := by decide +kernel
theorem dX1_parse_103 : decode cX1_parse 103 = .ok (.iload_n 1, 1) := by decide +kernel
theorem dX1_parse_104 : decode cX1_parse 104 = .ok (.aload_n 0, 1) := by decide +kernel
theorem dX1_parse_105 : decode cX1_parse 105 = .ok (.getfield 53, 3) := by decide +kernel
theorem dX1_parse_108 : decode cX1_parse 108 = .ok (.if_icmp .ge 107, 3) := by decide +kernel
theorem dX1_parse_111 : decode cX1_parse 111 = .ok (.bipush 10, 2) := by decide +kernel
theorem dX1_parse_113 : decode cX1_parse 113 = .ok (.aload_n 0, 1) := by decide +kernel
theorem dX1_parse_114 : decode cX1_parse 114 = .ok (.getfield 85, 3) := by decide +kernel
theorem dX1_parse_117 : decode cX1_parse 117 = .ok (.imul, 1) := by decide +kernel
theorem dX1_parse_118 : decode cX1_parse 118 = .ok (.aload_n 0, 1) := by decide +kernel
theorem dX1_parse_119 : decode cX1_parse 119 = .ok (.getfield 7, 3) := by decide +kernel
theorem dX1_parse_122 : decode cX1_parse 122 = .ok (.iload_n 1, 1) := by decide +kernel
theorem dX1_parse_123 : decode cX1_parse 123 = .ok (.iaload, 1) := by decide +kernel
theorem dX1_parse_124 : decode cX1_parse 124 = .ok (.iadd, 1) := by decide +kernel
theorem dX1_parse_125 : decode cX1_parse 125 = .ok (.bipush 48, 2) := by decide +kernel
theorem dX1_parse_127 : decode cX1_parse 127 = .ok (.isub, 1) := by decide +kernel
theorem dX1_parse_128 : decode cX1_parse 128 = .ok (.istore 4, 2) := by decide +kernel
theorem dX1_parse_130 : decode cX1_parse 130 = .ok (.aload_n 0, 1) := by decide +kernel
theorem dX1_parse_131 : decode cX1_parse 131 = .ok (.getfield 7, 3) := by decide +kernel
theorem dX1_parse_134 : decode cX1_parse 134 = .ok (.iload_n 1, 1) := by decide +kernel
theorem dX1_parse_135 : decode cX1_parse 135 = .ok (.iaload, 1) := by decide +kernel
theorem dX1_parse_136 : decode cX1_parse 136 = .ok (.bipush 48, 2) := by decide +kernel
theorem dX1_parse_138 : decode cX1_parse 138 = .ok (.bipush 57, 2) := by decide +kernel
theorem dX1_parse_140 : decode cX1_parse 140 = .ok (.invokestatic 47, 3) := by decide +kernel
theorem dX1_parse_143 : decode cX1_parse 143 = .ok (.ifCond .eq 26, 3) := by decide +kernel
theorem dX1_parse_146 : decode cX1_parse 146 = .ok (.iload_n 2, 1) := by decide +kernel
theorem dX1_parse_147 : decode cX1_parse 147 = .ok (.ifCond .eq 18, 3) := by decide +kernel
theorem dX1_parse_150 : decode cX1_parse 150 = .ok (.aload_n 0, 1) := by decide +kernel
theorem dX1_parse_151 : decode cX1_parse 151 = .ok (.getfield 85, 3) := by decide +kernel
theorem dX1_parse_154 : decode cX1_parse 154 = .ok (.ifCond .le 15, 3) := by decide +kernel
theorem dX1_parse_157 : decode cX1_parse 157 = .ok (.iload 4, 2) := by decide +kernel
theorem dX1_parse_159 : decode cX1_parse 159 = .ok (.sipush 200, 3) := by decide +kernel
theorem dX1_parse_162 : decode cX1_parse 162 = .ok (.if_icmp .gt 7, 3) := by decide +kernel
theorem dX1_parse_165 : decode cX1_parse 165 = .ok (.iconst 1, 1) := by decide +kernel
theorem dX1_parse_166 : decode cX1_parse 166 = .ok (.goto 4, 3) := by decide +kernel
theorem dX1_parse_169 : decode cX1_parse 169 = .ok (.iconst 0, 1) := by decide +kernel
theorem dX1_parse_170 : decode cX1_parse 170 = .ok (.istore_n 3, 1) := by decide +kernel
theorem dX1_parse_171 : decode cX1_parse 171 = .ok (.aload_n 0, 1) := by decide +kernel
theorem dX1_parse_172 : decode cX1_parse 172 = .ok (.iload_n 3, 1) := by decide +kernel
theorem dX1_parse_173 : decode cX1_parse 173 = .ok (.ifCond .eq 8, 3) := by decide +kernel
theorem dX1_parse_176 : decode cX1_parse 176 = .ok (.iload 4, 2) := by decide +kernel
theorem dX1_parse_178 : decode cX1_parse 178 = .ok (.goto 7, 3) := by decide +kernel
theorem dX1_parse_181 : decode cX1_parse 181 = .ok (.aload_n 0, 1) := by decide +kernel
theorem dX1_parse_182 : decode cX1_parse 182 = .ok (.getfield 85, 3) := by decide +kernel
theorem dX1_parse_185 : decode cX1_parse 185 = .ok (.putfield 85, 3) := by decide +kernel
theorem dX1_parse_188 : decode cX1_parse 188 = .ok (.iload_n 2, 1) := by decide +kernel
theorem dX1_parse_189 : decode cX1_parse 189 = .ok (.iload_n 3, 1) := by decide +kernel
theorem dX1_parse_190 : decode cX1_parse 190 = .ok (.ifCond .eq 7, 3) := by decide +kernel
theorem dX1_parse_193 : decode cX1_parse 193 = .ok (.iconst 1, 1) := by decide +kernel
theorem dX1_parse_194 : decode cX1_parse 194 = .ok (.goto 4, 3) := by decide +kernel
theorem dX1_parse_197 : decode cX1_parse 197 = .ok (.iconst 0, 1) := by decide +kernel
theorem dX1_parse_198 : decode cX1_parse 198 = .ok (.iadd, 1) := by decide +kernel
theorem dX1_parse_199 : decode cX1_parse 199 = .ok (.istore_n 2, 1) := by decide +kernel
theorem dX1_parse_200 : decode cX1_parse 200 = .ok (.iload_n 1, 1) := by decide +kernel
theorem dX1_parse_201 : decode cX1_parse 201 = .ok (.iload_n 3, 1) := by decide +kernel
theorem dX1_parse_202 : decode cX1_parse 202 = .ok (.ifCond .eq 7, 3) := by decide +kernel
theorem dX1_parse_205 : decode cX1_parse 205 = .ok (.iconst 1, 1) := by decide +kernel
theorem dX1_parse_206 : decode cX1_parse 206 = .ok (.goto 4, 3) := by decide +kernel
theorem dX1_parse_209 : decode cX1_parse 209 = .ok (.iconst 0, 1) := by decide +kernel
theorem dX1_parse_210 : decode cX1_parse 210 = .ok (.iadd, 1) := by decide +kernel
theorem dX1_parse_211 : decode cX1_parse 211 = .ok (.istore_n 1, 1) := by decide +kernel
theorem dX1_parse_212 : decode cX1_parse 212 = .ok (.goto (-113), 3) := by decide +kernel
theorem dX1_parse_215 : decode cX1_parse 215 = .ok (.aload_n 0, 1) := by decide +kernel
theorem dX1_parse_216 : decode cX1_parse 216 = .ok (.iload_n 1, 1) := by decide +kernel
theorem dX1_parse_217 : decode cX1_parse 217 = .ok (.putfield 72, 3) := by decide +kernel
theorem dX1_parse_220 : decode cX1_parse 220 = .ok (.aload_n 0, 1) := by decide +kernel
theorem dX1_parse_221 : decode cX1_parse 221 = .ok (.iload_n 3, 1) := by decide +kernel
theorem dX1_parse_222 : decode cX1_parse 222 = .ok (.ifCond .eq 11, 3) := by decide +kernel
theorem dX1_parse_225 : decode cX1_parse 225 = .ok (.iload_n 2, 1) := by decide +kernel
theorem dX1_parse_226 : decode cX1_parse 226 = .ok (.ifCond .le 7, 3) := by decide +kernel
theorem dX1_parse_229 : decode cX1_parse 229 = .ok (.iconst 1, 1) := by decide +kernel
theorem dX1_parse_230 : decode cX1_parse 230 = .ok (.goto 4, 3) := by decide +kernel
theorem dX1_parse_233 : decode cX1_parse 233 = .ok (.iconst 0, 1) := by decide +kernel
theorem dX1_parse_234 : decode cX1_parse 234 = .ok (.putfield 75, 3) := by decide +kernel
theorem dX1_parse_237 : decode cX1_parse 237 = .ok (.return_, 1) := by decide +kernel
set_option maxRecDepth 20000 in
theorem ggX1_errorPosition_X1_parse : GoodIn wsX1_errorPosition wsX1_parse := goodIn_r _ [6, 7, 8, 1, 9, 10, 11, 12, 13, 14, 5, 15, 16, 17, 18, 19, 20, 21, 22, 23, 24, 25, 26, 27, 28, 29, 30, 31, 32, 33, 34, 35, 36, 37, 38, 39, 40, 41, 42, 43, 44, 45, 46, 47, 48, 49, 50, 51, 52] (by decide +kernel) (by decide +kernel)
set_option maxRecDepth 20000 in
theorem gX1_errorPosition_X1_parse : GoodIn wsX1_errorPosition (wsV RX1 88 RX1 yX1_parse wsX1_parse) := goodIn_app (goodIn_of _ (by decide +kernel)) ggX1_errorPosition_X1_parse
theorem dX1_errorPosition_0 : decode cX1_errorPosition 0 = .ok (.aload_n 0, 1) := by decide +kernel
theorem dX1_errorPosition_1 : decode cX1_errorPosition 1 = .ok (.invokevirtual 88, 3) := by decide +kernel
theorem dX1_errorPosition_4 : decode cX1_errorPosition 4 = .ok (.aload_n 0, 1) := by decide +kernel
theorem dX1_errorPosition_5 : decode cX1_errorPosition 5 = .ok (.getfield 72, 3) := by decide +kernel
theorem dX1_errorPosition_8 : decode cX1_errorPosition 8 = .ok (.i2l, 1) := by decide +kernel
theorem dX1_errorPosition_9 : decode cX1_errorPosition 9 = .ok (.lreturn, 1) := by decide +kernel
theorem dX1_addPeg_0 : decode cX1_addPeg 0 = .ok (.aload_n 0, 1) := by decide +kernel
theorem dX1_addPeg_1 : decode cX1_addPeg 1 = .ok (.getfield 13, 3) := by decide +kernel
theorem dX1_addPeg_4 : decode cX1_addPeg 4 = .ok (.aload_n 0, 1) := by decide +kernel
theorem dX1_addPeg_5 : decode cX1_addPeg 5 = .ok (.getfield 91, 3) := by decide +kernel
theorem dX1_addPeg_8 : decode cX1_addPeg 8 = .ok (.iload_n 1, 1) := by decide +kernel
theorem dX1_addPeg_9 : decode cX1_addPeg 9 = .ok (.iastore, 1) := by decide +kernel
theorem dX1_addPeg_10 : decode cX1_addPeg 10 = .ok (.aload_n 0, 1) := by decide +kernel
theorem dX1_addPeg_11 : decode cX1_addPeg 11 = .ok (.getfield 16, 3) := by decide +kernel
theorem dX1_addPeg_14 : decode cX1_addPeg 14 = .ok (.aload_n 0, 1) := by decide +kernel
theorem dX1_addPeg_15 : decode cX1_addPeg 15 = .ok (.getfield 91, 3) := by decide +kernel
theorem dX1_addPeg_18 : decode cX1_addPeg 18 = .ok (.iload_n 2, 1) := by decide +kernel
theorem dX1_addPeg_19 : decode cX1_addPeg 19 = .ok (.iastore, 1) := by decide +kernel
theorem dX1_addPeg_20 : decode cX1_addPeg 20 = .ok (.aload_n 0, 1) := by decide +kernel
theorem dX1_addPeg_21 : decode cX1_addPeg 21 = .ok (.getfield 19, 3) := by decide +kernel
theorem dX1_addPeg_24 : decode cX1_addPeg 24 = .ok (.aload_n 0, 1) := by decide +kernel
theorem dX1_addPeg_25 : decode cX1_addPeg 25 = .ok (.getfield 91, 3) := by decide +kernel
