theorem dL_act_0 : decode cL_act 0 = .ok (.iload_n 2, 1) := by decide +kernel
theorem dL_act_1 : decode cL_act 1 = .ok (.iconst 2, 1) := by decide +kernel
theorem dL_act_2 : decode cL_act 2 = .ok (.invokestatic 11, 3) := by decide +kernel
theorem dL_act_5 : decode cL_act 5 = .ok (.istore_n 3, 1) := by decide +kernel
theorem dL_act_6 : decode cL_act 6 = .ok (.aload_n 1, 1) := by decide +kernel
theorem dL_act_7 : decode cL_act 7 = .ok (.getfield 17, 3) := by decide +kernel
theorem dL_act_10 : decode cL_act 10 = .ok (.iload_n 3, 1) := by decide +kernel
theorem dL_act_11 : decode cL_act 11 = .ok (.aaload, 1) := by decide +kernel
theorem dL_act_12 : decode cL_act 12 = .ok (.arraylength, 1) := by decide +kernel
theorem dL_act_13 : decode cL_act 13 = .ok (.istore 4, 2) := by decide +kernel
theorem dL_act_15 : decode cL_act 15 = .ok (.aload_n 1, 1) := by decide +kernel
theorem dL_act_16 : decode cL_act 16 = .ok (.getfield 23, 3) := by decide +kernel
theorem dL_act_19 : decode cL_act 19 = .ok (.iconst 1, 1) := by decide +kernel
theorem dL_act_20 : decode cL_act 20 = .ok (.iload_n 3, 1) := by decide +kernel
theorem dL_act_21 : decode cL_act 21 = .ok (.isub, 1) := by decide +kernel
theorem dL_act_22 : decode cL_act 22 = .ok (.aaload, 1) := by decide +kernel
theorem dL_act_23 : decode cL_act 23 = .ok (.arraylength, 1) := by decide +kernel
theorem dL_act_24 : decode cL_act 24 = .ok (.bipush 12, 2) := by decide +kernel
theorem dL_act_26 : decode cL_act 26 = .ok (.if_icmp .ne 7, 3) := by decide +kernel
theorem dL_act_29 : decode cL_act 29 = .ok (.iconst 1, 1) := by decide +kernel
theorem dL_act_30 : decode cL_act 30 = .ok (.goto 4, 3) := by decide +kernel
theorem dL_act_33 : decode cL_act 33 = .ok (.iconst 0, 1) := by decide +kernel
theorem dL_act_34 : decode cL_act 34 = .ok (.istore 5, 2) := by decide +kernel
theorem dL_act_36 : decode cL_act 36 = .ok (.iload_n 2, 1) := by decide +kernel
theorem dL_act_37 : decode cL_act 37 = .ok (.bipush 9, 2) := by decide +kernel
theorem dL_act_39 : decode cL_act 39 = .ok (.ishr, 1) := by decide +kernel
theorem dL_act_40 : decode cL_act 40 = .ok (.bipush 16, 2) := by decide +kernel
theorem dL_act_42 : decode cL_act 42 = .ok (.invokestatic 11, 3) := by decide +kernel
theorem dL_act_45 : decode cL_act 45 = .ok (.tableswitch 284 0 9 #[55, 111, 140, 140, 183, 183, 183, 214, 214, 214], 55) := by decide +kernel
theorem dL_act_100 : decode cL_act 100 = .ok (.aload_n 1, 1) := by decide +kernel
theorem dL_act_101 : decode cL_act 101 = .ok (.getfield 23, 3) := by decide +kernel
theorem dL_act_104 : decode cL_act 104 = .ok (.iconst 0, 1) := by decide +kernel
theorem dL_act_105 : decode cL_act 105 = .ok (.aaload, 1) := by decide +kernel
theorem dL_act_106 : decode cL_act 106 = .ok (.arraylength, 1) := by decide +kernel
theorem dL_act_107 : decode cL_act 107 = .ok (.aload_n 1, 1) := by decide +kernel
theorem dL_act_108 : decode cL_act 108 = .ok (.getfield 23, 3) := by decide +kernel
theorem dL_act_111 : decode cL_act 111 = .ok (.iconst 1, 1) := by decide +kernel
theorem dL_act_112 : decode cL_act 112 = .ok (.aaload, 1) := by decide +kernel
theorem dL_act_113 : decode cL_act 113 = .ok (.arraylength, 1) := by decide +kernel
theorem dL_act_114 : decode cL_act 114 = .ok (.iadd, 1) := by decide +kernel
theorem dL_act_115 : decode cL_act 115 = .ok (.ifCond .le 5, 3) := by decide +kernel
theorem dL_act_118 : decode cL_act 118 = .ok (.iconst 1, 1) := by decide +kernel
theorem dL_act_119 : decode cL_act 119 = .ok (.ireturn, 1) := by decide +kernel
theorem dL_act_120 : decode cL_act 120 = .ok (.aload_n 1, 1) := by decide +kernel
theorem dL_act_121 : decode cL_act 121 = .ok (.getfield 27, 3) := by decide +kernel
theorem dL_act_124 : decode cL_act 124 = .ok (.istore 6, 2) := by decide +kernel
theorem dL_act_126 : decode cL_act 126 = .ok (.aload_n 1, 1) := by decide +kernel
theorem dL_act_127 : decode cL_act 127 = .ok (.iload_n 2, 1) := by decide +kernel
theorem dL_act_128 : decode cL_act 128 = .ok (.iconst 1, 1) := by decide +kernel
theorem dL_act_129 : decode cL_act 129 = .ok (.ishr, 1) := by decide +kernel
theorem dL_act_130 : decode cL_act 130 = .ok (.iconst 3, 1) := by decide +kernel
theorem dL_act_131 : decode cL_act 131 = .ok (.invokestatic 11, 3) := by decide +kernel
theorem dL_act_134 : decode cL_act 134 = .ok (.putfield 27, 3) := by decide +kernel
theorem dL_act_137 : decode cL_act 137 = .ok (.aload_n 0, 1) := by decide +kernel
theorem dL_act_138 : decode cL_act 138 = .ok (.aload_n 1, 1) := by decide +kernel
theorem dL_act_139 : decode cL_act 139 = .ok (.getfield 27, 3) := by decide +kernel
theorem dL_act_142 : decode cL_act 142 = .ok (.invokevirtual 31, 3) := by decide +kernel
theorem dL_act_145 : decode cL_act 145 = .ok (.iload 6, 2) := by decide +kernel
theorem dL_act_147 : decode cL_act 147 = .ok (.if_icmp .ne 7, 3) := by decide +kernel
theorem dL_act_150 : decode cL_act 150 = .ok (.iconst 1, 1) := by decide +kernel
theorem dL_act_151 : decode cL_act 151 = .ok (.goto 4, 3) := by decide +kernel
theorem dL_act_154 : decode cL_act 154 = .ok (.iconst 0, 1) := by decide +kernel
theorem dL_act_155 : decode cL_act 155 = .ok (.ireturn, 1) := by decide +kernel
theorem dL_act_156 : decode cL_act 156 = .ok (.iload_n 2, 1) := by decide +kernel
theorem dL_act_157 : decode cL_act 157 = .ok (.iconst 2, 1) := by decide +kernel
theorem dL_act_158 : decode cL_act 158 = .ok (.ishr, 1) := by decide +kernel
theorem dL_act_159 : decode cL_act 159 = .ok (.iconst 4, 1) := by decide +kernel
theorem dL_act_160 : decode cL_act 160 = .ok (.invokestatic 11, 3) := by decide +kernel
theorem dL_act_163 : decode cL_act 163 = .ok (.ifCond .le 5, 3) := by decide +kernel
theorem dL_act_166 : decode cL_act 166 = .ok (.iconst 1, 1) := by decide +kernel
theorem dL_act_167 : decode cL_act 167 = .ok (.ireturn, 1) := by decide +kernel
theorem dL_act_168 : decode cL_act 168 = .ok (.aload_n 0, 1) := by decide +kernel
theorem dL_act_169 : decode cL_act 169 = .ok (.invokevirtual 37, 3) := by decide +kernel
theorem dL_act_172 : decode cL_act 172 = .ok (.aload_n 1, 1) := by decide +kernel
theorem dL_act_173 : decode cL_act 173 = .ok (.invokevirtual 41, 3) := by decide +kernel
theorem dL_act_176 : decode cL_act 176 = .ok (.if_icmp .ne 7, 3) := by decide +kernel
theorem dL_act_179 : decode cL_act 179 = .ok (.iconst 1, 1) := by decide +kernel
theorem dL_act_180 : decode cL_act 180 = .ok (.goto 4, 3) := by decide +kernel
theorem dL_act_183 : decode cL_act 183 = .ok (.iconst 0, 1) := by decide +kernel
theorem dL_act_184 : decode cL_act 184 = .ok (.ireturn, 1) := by decide +kernel
theorem dL_act_185 : decode cL_act 185 = .ok (.aload_n 1, 1) := by decide +kernel
theorem dL_act_186 : decode cL_act 186 = .ok (.getfield 42, 3) := by decide +kernel
theorem dL_act_189 : decode cL_act 189 = .ok (.iload_n 3, 1) := by decide +kernel
theorem dL_act_190 : decode cL_act 190 = .ok (.aaload, 1) := by decide +kernel
theorem dL_act_191 : decode cL_act 191 = .ok (.arraylength, 1) := by decide +kernel
theorem dL_act_192 : decode cL_act 192 = .ok (.ifCond .eq 15, 3) := by decide +kernel
theorem dL_act_195 : decode cL_act 195 = .ok (.iload 4, 2) := by decide +kernel
theorem dL_act_197 : decode cL_act 197 = .ok (.bipush 40, 2) := by decide +kernel
theorem dL_act_199 : decode cL_act 199 = .ok (.if_icmp .ge 8, 3) := by decide +kernel
theorem dL_act_202 : decode cL_act 202 = .ok (.iload 5, 2) := by decide +kernel
theorem dL_act_204 : decode cL_act 204 = .ok (.ifCond .eq 5, 3) := by decide +kernel
theorem dL_act_207 : decode cL_act 207 = .ok (.iconst 1, 1) := by decide +kernel
theorem dL_act_208 : decode cL_act 208 = .ok (.ireturn, 1) := by decide +kernel
theorem dL_act_209 : decode cL_act 209 = .ok (.aload_n 0, 1) := by decide +kernel
theorem dL_act_210 : decode cL_act 210 = .ok (.iload_n 3, 1) := by decide +kernel
theorem dL_act_211 : decode cL_act 211 = .ok (.invokevirtual 45, 3) := by decide +kernel
theorem dL_act_214 : decode cL_act 214 = .ok (.aload_n 1, 1) := by decide +kernel
theorem dL_act_215 : decode cL_act 215 = .ok (.iload_n 3, 1) := by decide +kernel
theorem dL_act_216 : decode cL_act 216 = .ok (.invokevirtual 48, 3) := by decide +kernel
theorem dL_act_219 : decode cL_act 219 = .ok (.if_icmp .ne 7, 3) := by decide +kernel
theorem dL_act_222 : decode cL_act 222 = .ok (.iconst 1, 1) := by decide +kernel
theorem dL_act_223 : decode cL_act 223 = .ok (.goto 4, 3) := by decide +kernel
theorem dL_act_226 : decode cL_act 226 = .ok (.iconst 0, 1) := by decide +kernel
theorem dL_act_227 : decode cL_act 227 = .ok (.ireturn, 1) := by decide +kernel
theorem dL_act_228 : decode cL_act 228 = .ok (.aload_n 1, 1) := by decide +kernel
theorem dL_act_229 : decode cL_act 229 = .ok (.getfield 23, 3) := by decide +kernel
theorem dL_act_232 : decode cL_act 232 = .ok (.iload_n 3, 1) := by decide +kernel
theorem dL_act_233 : decode cL_act 233 = .ok (.aaload, 1) := by decide +kernel
theorem dL_act_234 : decode cL_act 234 = .ok (.arraylength, 1) := by decide +kernel
theorem dL_act_235 : decode cL_act 235 = .ok (.ifCond .ne 5, 3) := by decide +kernel
theorem dL_act_238 : decode cL_act 238 = .ok (.iconst 1, 1) := by decide +kernel
theorem dL_act_239 : decode cL_act 239 = .ok (.ireturn, 1) := by decide +kernel
theorem dL_act_240 : decode cL_act 240 = .ok (.aload_n 0, 1) := by decide +kernel
theorem dL_act_241 : decode cL_act 241 = .ok (.iload_n 3, 1) := by decide +kernel
theorem dL_act_242 : decode cL_act 242 = .ok (.invokevirtual 49, 3) := by decide +kernel
theorem dL_act_245 : decode cL_act 245 = .ok (.aload_n 1, 1) := by decide +kernel
theorem dL_act_246 : decode cL_act 246 = .ok (.iload_n 3, 1) := by decide +kernel
theorem dL_act_247 : decode cL_act 247 = .ok (.invokevirtual 52, 3) := by decide +kernel
theorem dL_act_250 : decode cL_act 250 = .ok (.if_icmp .ne 7, 3) := by decide +kernel
theorem dL_act_253 : decode cL_act 253 = .ok (.iconst 1, 1) := by decide +kernel
theorem dL_act_254 : decode cL_act 254 = .ok (.goto 4, 3) := by decide +kernel
theorem dL_act_257 : decode cL_act 257 = .ok (.iconst 0, 1) := by decide +kernel
theorem dL_act_258 : decode cL_act 258 = .ok (.ireturn, 1) := by decide +kernel
theorem dL_act_259 : decode cL_act 259 = .ok (.iload 4, 2) := by decide +kernel
theorem dL_act_261 : decode cL_act 261 = .ok (.ifCond .eq 8, 3) := by decide +kernel
theorem dL_act_264 : decode cL_act 264 = .ok (.iload 5, 2) := by decide +kernel
theorem dL_act_266 : decode cL_act 266 = .ok (.ifCond .eq 5, 3) := by decide +kernel
theorem dL_act_269 : decode cL_act 269 = .ok (.iconst 1, 1) := by decide +kernel
theorem dL_act_270 : decode cL_act 270 = .ok (.ireturn, 1) := by decide +kernel
theorem dL_act_271 : decode cL_act 271 = .ok (.iload_n 2, 1) := by decide +kernel
theorem dL_act_272 : decode cL_act 272 = .ok (.iconst 3, 1) := by decide +kernel
theorem dL_act_273 : decode cL_act 273 = .ok (.ishr, 1) := by decide +kernel
theorem dL_act_274 : decode cL_act 274 = .ok (.iload_n 2, 1) := by decide +kernel
theorem dL_act_275 : decode cL_act 275 = .ok (.iconst 1, 1) := by decide +kernel
theorem dL_act_276 : decode cL_act 276 = .ok (.ishr, 1) := by decide +kernel
theorem dL_act_277 : decode cL_act 277 = .ok (.iconst 2, 1) := by decide +kernel
theorem dL_act_278 : decode cL_act 278 = .ok (.invokestatic 11, 3) := by decide +kernel
theorem dL_act_281 : decode cL_act 281 = .ok (.ifCond .ne 8, 3) := by decide +kernel
theorem dL_act_284 : decode cL_act 284 = .ok (.iload 4, 2) := by decide +kernel
theorem dL_act_286 : decode cL_act 286 = .ok (.goto 15, 3) := by decide +kernel
theorem dL_act_289 : decode cL_act 289 = .ok (.iload 4, 2) := by decide +kernel
theorem dL_act_291 : decode cL_act 291 = .ok (.iconst 3, 1) := by decide +kernel
theorem dL_act_292 : decode cL_act 292 = .ok (.if_icmp .ge 8, 3) := by decide +kernel
theorem dL_act_295 : decode cL_act 295 = .ok (.iload 4, 2) := by decide +kernel
theorem dL_act_297 : decode cL_act 297 = .ok (.goto 4, 3) := by decide +kernel
theorem dL_act_300 : decode cL_act 300 = .ok (.iconst 3, 1) := by decide +kernel
theorem dL_act_301 : decode cL_act 301 = .ok (.invokestatic 11, 3) := by decide +kernel
theorem dL_act_304 : decode cL_act 304 = .ok (.istore 7, 2) := by decide +kernel
theorem dL_act_306 : decode cL_act 306 = .ok (.aload_n 0, 1) := by decide +kernel
theorem dL_act_307 : decode cL_act 307 = .ok (.iload_n 3, 1) := by decide +kernel
theorem dL_act_308 : decode cL_act 308 = .ok (.iload 7, 2) := by decide +kernel
theorem dL_act_310 : decode cL_act 310 = .ok (.invokevirtual 53, 3) := by decide +kernel
theorem dL_act_313 : decode cL_act 313 = .ok (.aload_n 1, 1) := by decide +kernel
theorem dL_act_314 : decode cL_act 314 = .ok (.iload_n 3, 1) := by decide +kernel
theorem dL_act_315 : decode cL_act 315 = .ok (.iload 7, 2) := by decide +kernel
theorem dL_act_317 : decode cL_act 317 = .ok (.invokevirtual 56, 3) := by decide +kernel
theorem dL_act_320 : decode cL_act 320 = .ok (.if_icmp .ne 7, 3) := by decide +kernel
theorem dL_act_323 : decode cL_act 323 = .ok (.iconst 1, 1) := by decide +kernel
theorem dL_act_324 : decode cL_act 324 = .ok (.goto 4, 3) := by decide +kernel
theorem dL_act_327 : decode cL_act 327 = .ok (.iconst 0, 1) := by decide +kernel
theorem dL_act_328 : decode cL_act 328 = .ok (.ireturn, 1) := by decide +kernel
theorem dL_act_329 : decode cL_act 329 = .ok (.iload 4, 2) := by decide +kernel
theorem dL_act_331 : decode cL_act 331 = .ok (.bipush 40, 2) := by decide +kernel
theorem dL_act_333 : decode cL_act 333 = .ok (.if_icmp .ge 8, 3) := by decide +kernel
theorem dL_act_336 : decode cL_act 336 = .ok (.iload 5, 2) := by decide +kernel
theorem dL_act_338 : decode cL_act 338 = .ok (.ifCond .eq 5, 3) := by decide +kernel
theorem dL_act_341 : decode cL_act 341 = .ok (.iconst 1, 1) := by decide +kernel
theorem dL_act_342 : decode cL_act 342 = .ok (.ireturn, 1) := by decide +kernel
theorem dL_act_343 : decode cL_act 343 = .ok (.iload_n 2, 1) := by decide +kernel
theorem dL_act_344 : decode cL_act 344 = .ok (.iconst 3, 1) := by decide +kernel
theorem dL_act_345 : decode cL_act 345 = .ok (.ishr, 1) := by decide +kernel
theorem dL_act_346 : decode cL_act 346 = .ok (.iload_n 2, 1) := by decide +kernel
theorem dL_act_347 : decode cL_act 347 = .ok (.iconst 1, 1) := by decide +kernel
theorem dL_act_348 : decode cL_act 348 = .ok (.ishr, 1) := by decide +kernel
theorem dL_act_349 : decode cL_act 349 = .ok (.iconst 2, 1) := by decide +kernel
theorem dL_act_350 : decode cL_act 350 = .ok (.invokestatic 11, 3) := by decide +kernel
theorem dL_act_353 : decode cL_act 353 = .ok (.ifCond .ne 10, 3) := by decide +kernel
theorem dL_act_356 : decode cL_act 356 = .ok (.iload 4, 2) := by decide +kernel
theorem dL_act_358 : decode cL_act 358 = .ok (.iconst 1, 1) := by decide +kernel
theorem dL_act_359 : decode cL_act 359 = .ok (.iadd, 1) := by decide +kernel
theorem dL_act_360 : decode cL_act 360 = .ok (.goto 17, 3) := by decide +kernel
theorem dL_act_363 : decode cL_act 363 = .ok (.iload 4, 2) := by decide +kernel
theorem dL_act_365 : decode cL_act 365 = .ok (.iconst 3, 1) := by decide +kernel
theorem dL_act_366 : decode cL_act 366 = .ok (.if_icmp .ge 10, 3) := by decide +kernel
theorem dL_act_369 : decode cL_act 369 = .ok (.iload 4, 2) := by decide +kernel
theorem dL_act_371 : decode cL_act 371 = .ok (.iconst 1, 1) := by decide +kernel
theorem dL_act_372 : decode cL_act 372 = .ok (.iadd, 1) := by decide +kernel
theorem dL_act_373 : decode cL_act 373 = .ok (.goto 4, 3) := by decide +kernel
theorem dL_act_376 : decode cL_act 376 = .ok (.iconst 3, 1) := by decide +kernel
theorem dL_act_377 : decode cL_act 377 = .ok (.invokestatic 11, 3) := by decide +kernel
theorem dL_act_380 : decode cL_act 380 = .ok (.istore 8, 2) := by decide +kernel
theorem dL_act_382 : decode cL_act 382 = .ok (.iload_n 2, 1) := by decide +kernel
theorem dL_act_383 : decode cL_act 383 = .ok (.iconst 5, 1) := by decide +kernel
theorem dL_act_384 : decode cL_act 384 = .ok (.ishr, 1) := by decide +kernel
theorem dL_act_385 : decode cL_act 385 = .ok (.iload_n 2, 1) := by decide +kernel
theorem dL_act_386 : decode cL_act 386 = .ok (.iconst 2, 1) := by decide +kernel
theorem dL_act_387 : decode cL_act 387 = .ok (.ishr, 1) := by decide +kernel
theorem dL_act_388 : decode cL_act 388 = .ok (.iconst 2, 1) := by decide +kernel
theorem dL_act_389 : decode cL_act 389 = .ok (.invokestatic 11, 3) := by decide +kernel
theorem dL_act_392 : decode cL_act 392 = .ok (.ifCond .ne 8, 3) := by decide +kernel
theorem dL_act_395 : decode cL_act 395 = .ok (.bipush 26, 2) := by decide +kernel
theorem dL_act_397 : decode cL_act 397 = .ok (.goto 4, 3) := by decide +kernel
theorem dL_act_400 : decode cL_act 400 = .ok (.iconst 3, 1) := by decide +kernel
theorem dL_act_401 : decode cL_act 401 = .ok (.invokestatic 11, 3) := by decide +kernel
theorem dL_act_404 : decode cL_act 404 = .ok (.istore 9, 2) := by decide +kernel
theorem dL_act_406 : decode cL_act 406 = .ok (.iload_n 2, 1) := by decide +kernel
theorem dL_act_407 : decode cL_act 407 = .ok (.iconst 4, 1) := by decide +kernel
theorem dL_act_408 : decode cL_act 408 = .ok (.ishr, 1) := by decide +kernel
theorem dL_act_409 : decode cL_act 409 = .ok (.iconst 2, 1) := by decide +kernel
theorem dL_act_410 : decode cL_act 410 = .ok (.invokestatic 11, 3) := by decide +kernel
theorem dL_act_413 : decode cL_act 413 = .ok (.istore 10, 2) := by decide +kernel
theorem dL_act_415 : decode cL_act 415 = .ok (.aload_n 1, 1) := by decide +kernel
theorem dL_act_416 : decode cL_act 416 = .ok (.iload_n 3, 1) := by decide +kernel
theorem dL_act_417 : decode cL_act 417 = .ok (.iload 8, 2) := by decide +kernel
theorem dL_act_419 : decode cL_act 419 = .ok (.iload 9, 2) := by decide +kernel
theorem dL_act_421 : decode cL_act 421 = .ok (.iload 10, 2) := by decide +kernel
theorem dL_act_423 : decode cL_act 423 = .ok (.invokevirtual 57, 3) := by decide +kernel
theorem dL_act_426 : decode cL_act 426 = .ok (.aload_n 0, 1) := by decide +kernel
theorem dL_act_427 : decode cL_act 427 = .ok (.iload_n 3, 1) := by decide +kernel
theorem dL_act_428 : decode cL_act 428 = .ok (.iload 8, 2) := by decide +kernel
theorem dL_act_430 : decode cL_act 430 = .ok (.iload 9, 2) := by decide +kernel
theorem dL_act_432 : decode cL_act 432 = .ok (.iload 10, 2) := by decide +kernel
theorem dL_act_434 : decode cL_act 434 = .ok (.invokevirtual 61, 3) := by decide +kernel
theorem dL_act_437 : decode cL_act 437 = .ok (.aload_n 1, 1) := by decide +kernel
theorem dL_act_438 : decode cL_act 438 = .ok (.getfield 23, 3) := by decide +kernel
theorem dL_act_441 : decode cL_act 441 = .ok (.iconst 1, 1) := by decide +kernel
theorem dL_act_442 : decode cL_act 442 = .ok (.iload_n 3, 1) := by decide +kernel
theorem dL_act_443 : decode cL_act 443 = .ok (.isub, 1) := by decide +kernel
theorem dL_act_444 : decode cL_act 444 = .ok (.aaload, 1) := by decide +kernel
theorem dL_act_445 : decode cL_act 445 = .ok (.arraylength, 1) := by decide +kernel
theorem dL_act_446 : decode cL_act 446 = .ok (.if_icmp .ne 7, 3) := by decide +kernel
theorem dL_act_449 : decode cL_act 449 = .ok (.iconst 1, 1) := by decide +kernel
theorem dL_act_450 : decode cL_act 450 = .ok (.goto 4, 3) := by decide +kernel
theorem dL_act_453 : decode cL_act 453 = .ok (.iconst 0, 1) := by decide +kernel
theorem dL_act_454 : decode cL_act 454 = .ok (.ireturn, 1) := by decide +kernel
theorem dL_build_0 : decode cL_build 0 = .ok (.new 18, 3) := by decide +kernel
theorem dL_build_3 : decode cL_build 3 = .ok (.dup, 1) := by decide +kernel
theorem dL_build_4 : decode cL_build 4 = .ok (.invokespecial 64, 3) := by decide +kernel
theorem dL_build_7 : decode cL_build 7 = .ok (.astore_n 2, 1) := by decide +kernel
theorem dL_build_8 : decode cL_build 8 = .ok (.aload_n 2, 1) := by decide +kernel
theorem dL_build_9 : decode cL_build 9 = .ok (.aload_n 1, 1) := by decide +kernel
theorem dL_build_10 : decode cL_build 10 = .ok (.iconst 0, 1) := by decide +kernel
theorem dL_build_11 : decode cL_build 11 = .ok (.invokestatic 65, 3) := by decide +kernel
theorem dL_build_14 : decode cL_build 14 = .ok (.iconst 3, 1) := by decide +kernel
theorem dL_build_15 : decode cL_build 15 = .ok (.invokestatic 11, 3) := by decide +kernel
theorem dL_build_18 : decode cL_build 18 = .ok (.putfield 27, 3) := by decide +kernel
theorem dL_build_21 : decode cL_build 21 = .ok (.aload_n 0, 1) := by decide +kernel
theorem dL_build_22 : decode cL_build 22 = .ok (.aload_n 2, 1) := by decide +kernel
theorem dL_build_23 : decode cL_build 23 = .ok (.getfield 27, 3) := by decide +kernel
theorem dL_build_26 : decode cL_build 26 = .ok (.invokevirtual 31, 3) := by decide +kernel
theorem dL_build_29 : decode cL_build 29 = .ok (.ifCond .eq 5, 3) := by decide +kernel
theorem dL_build_32 : decode cL_build 32 = .ok (.aconst_null, 1) := by decide +kernel
theorem dL_build_33 : decode cL_build 33 = .ok (.areturn, 1) := by decide +kernel
theorem dL_build_34 : decode cL_build 34 = .ok (.bipush 10, 2) := by decide +kernel
theorem dL_build_36 : decode cL_build 36 = .ok (.aload_n 1, 1) := by decide +kernel
theorem dL_build_37 : decode cL_build 37 = .ok (.iconst 1, 1) := by decide +kernel
theorem dL_build_38 : decode cL_build 38 = .ok (.invokestatic 65, 3) := by decide +kernel
theorem dL_build_41 : decode cL_build 41 = .ok (.bipush 40, 2) := by decide +kernel
theorem dL_build_43 : decode cL_build 43 = .ok (.invokestatic 11, 3) := by decide +kernel
theorem dL_build_46 : decode cL_build 46 = .ok (.iadd, 1) := by decide +kernel
theorem dL_build_47 : decode cL_build 47 = .ok (.istore_n 3, 1) := by decide +kernel
theorem dL_build_48 : decode cL_build 48 = .ok (.iconst 0, 1) := by decide +kernel
theorem dL_build_49 : decode cL_build 49 = .ok (.istore 4, 2) := by decide +kernel
theorem dL_build_51 : decode cL_build 51 = .ok (.iload 4, 2) := by decide +kernel
theorem dL_build_53 : decode cL_build 53 = .ok (.iload_n 3, 1) := by decide +kernel
theorem dL_build_54 : decode cL_build 54 = .ok (.if_icmp .ge 43, 3) := by decide +kernel
theorem dL_build_57 : decode cL_build 57 = .ok (.aload_n 0, 1) := by decide +kernel
theorem dL_build_58 : decode cL_build 58 = .ok (.aload_n 2, 1) := by decide +kernel
theorem dL_build_59 : decode cL_build 59 = .ok (.aload_n 1, 1) := by decide +kernel
theorem dL_build_60 : decode cL_build 60 = .ok (.iload 4, 2) := by decide +kernel
theorem dL_build_62 : decode cL_build 62 = .ok (.bipush 16, 2) := by decide +kernel
theorem dL_build_64 : decode cL_build 64 = .ok (.irem, 1) := by decide +kernel
theorem dL_build_65 : decode cL_build 65 = .ok (.invokestatic 65, 3) := by decide +kernel
theorem dL_build_68 : decode cL_build 68 = .ok (.iload 4, 2) := by decide +kernel
theorem dL_build_70 : decode cL_build 70 = .ok (.bipush 16, 2) := by decide +kernel
theorem dL_build_72 : decode cL_build 72 = .ok (.idiv, 1) := by decide +kernel
theorem dL_build_73 : decode cL_build 73 = .ok (.iconst 3, 1) := by decide +kernel
theorem dL_build_74 : decode cL_build 74 = .ok (.imul, 1) := by decide +kernel
theorem dL_build_75 : decode cL_build 75 = .ok (.ishr, 1) := by decide +kernel
theorem dL_build_76 : decode cL_build 76 = .ok (.sipush 331, 3) := by decide +kernel
theorem dL_build_79 : decode cL_build 79 = .ok (.iload 4, 2) := by decide +kernel
theorem dL_build_81 : decode cL_build 81 = .ok (.imul, 1) := by decide +kernel
theorem dL_build_82 : decode cL_build 82 = .ok (.iadd, 1) := by decide +kernel
theorem dL_build_83 : decode cL_build 83 = .ok (.invokestatic 69, 3) := by decide +kernel
theorem dL_build_86 : decode cL_build 86 = .ok (.ifCond .ne 5, 3) := by decide +kernel
theorem dL_build_89 : decode cL_build 89 = .ok (.aconst_null, 1) := by decide +kernel
theorem dL_build_90 : decode cL_build 90 = .ok (.areturn, 1) := by decide +kernel
theorem dL_build_91 : decode cL_build 91 = .ok (.iinc 4 1, 3) := by decide +kernel
theorem dL_build_94 : decode cL_build 94 = .ok (.goto (-43), 3) := by decide +kernel
theorem dL_build_97 : decode cL_build 97 = .ok (.aload_n 2, 1) := by decide +kernel
theorem dL_build_98 : decode cL_build 98 = .ok (.areturn, 1) := by decide +kernel
