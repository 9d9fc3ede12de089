theorem d_L_law_132 : decode b_L_law 132 = .ok (.istore 5, 2) := by decide +kernel
theorem d_L_law_134 : decode b_L_law 134 = .ok (.aload_n 2, 1) := by decide +kernel
theorem d_L_law_135 : decode b_L_law 135 = .ok (.aload_n 0, 1) := by decide +kernel
theorem d_L_law_136 : decode b_L_law 136 = .ok (.iload 4, 2) := by decide +kernel
theorem d_L_law_138 : decode b_L_law 138 = .ok (.iconst 1, 1) := by decide +kernel
theorem d_L_law_139 : decode b_L_law 139 = .ok (.iadd, 1) := by decide +kernel
theorem d_L_law_140 : decode b_L_law 140 = .ok (.iaload, 1) := by decide +kernel
theorem d_L_law_141 : decode b_L_law 141 = .ok (.aload_n 0, 1) := by decide +kernel
theorem d_L_law_142 : decode b_L_law 142 = .ok (.iload 4, 2) := by decide +kernel
theorem d_L_law_144 : decode b_L_law 144 = .ok (.iconst 2, 1) := by decide +kernel
theorem d_L_law_145 : decode b_L_law 145 = .ok (.iadd, 1) := by decide +kernel
theorem d_L_law_146 : decode b_L_law 146 = .ok (.iaload, 1) := by decide +kernel
theorem d_L_law_147 : decode b_L_law 147 = .ok (.i2l, 1) := by decide +kernel
theorem d_L_law_148 : decode b_L_law 148 = .ok (.bipush 32, 2) := by decide +kernel
theorem d_L_law_150 : decode b_L_law 150 = .ok (.lshl, 1) := by decide +kernel
theorem d_L_law_151 : decode b_L_law 151 = .ok (.aload_n 0, 1) := by decide +kernel
theorem d_L_law_152 : decode b_L_law 152 = .ok (.iload 4, 2) := by decide +kernel
theorem d_L_law_154 : decode b_L_law 154 = .ok (.iconst 3, 1) := by decide +kernel
theorem d_L_law_155 : decode b_L_law 155 = .ok (.iadd, 1) := by decide +kernel
theorem d_L_law_156 : decode b_L_law 156 = .ok (.iaload, 1) := by decide +kernel
theorem d_L_law_157 : decode b_L_law 157 = .ok (.i2l, 1) := by decide +kernel
theorem d_L_law_158 : decode b_L_law 158 = .ok (.ldc2_w 59, 3) := by decide +kernel
theorem d_L_law_161 : decode b_L_law 161 = .ok (.land, 1) := by decide +kernel
theorem d_L_law_162 : decode b_L_law 162 = .ok (.lor, 1) := by decide +kernel
theorem d_L_law_163 : decode b_L_law 163 = .ok (.invokevirtual 66, 3) := by decide +kernel
theorem d_L_law_166 : decode b_L_law 166 = .ok (.aload_n 2, 1) := by decide +kernel
theorem d_L_law_167 : decode b_L_law 167 = .ok (.invokevirtual 67, 3) := by decide +kernel
theorem d_L_law_170 : decode b_L_law 170 = .ok (.iload 5, 2) := by decide +kernel
theorem d_L_law_172 : decode b_L_law 172 = .ok (.if_icmp .eq 5, 3) := by decide +kernel
theorem d_L_law_175 : decode b_L_law 175 = .ok (.iconst 0, 1) := by decide +kernel
theorem d_L_law_176 : decode b_L_law 176 = .ok (.ireturn, 1) := by decide +kernel
theorem d_L_law_177 : decode b_L_law 177 = .ok (.goto 617, 3) := by decide +kernel
theorem d_L_law_180 : decode b_L_law 180 = .ok (.aload_n 1, 1) := by decide +kernel
theorem d_L_law_181 : decode b_L_law 181 = .ok (.aload_n 0, 1) := by decide +kernel
theorem d_L_law_182 : decode b_L_law 182 = .ok (.iload 4, 2) := by decide +kernel
theorem d_L_law_184 : decode b_L_law 184 = .ok (.iconst 1, 1) := by decide +kernel
theorem d_L_law_185 : decode b_L_law 185 = .ok (.iadd, 1) := by decide +kernel
theorem d_L_law_186 : decode b_L_law 186 = .ok (.iaload, 1) := by decide +kernel
theorem d_L_law_187 : decode b_L_law 187 = .ok (.aload_n 0, 1) := by decide +kernel
theorem d_L_law_188 : decode b_L_law 188 = .ok (.iload 4, 2) := by decide +kernel
theorem d_L_law_190 : decode b_L_law 190 = .ok (.iconst 2, 1) := by decide +kernel
theorem d_L_law_191 : decode b_L_law 191 = .ok (.iadd, 1) := by decide +kernel
theorem d_L_law_192 : decode b_L_law 192 = .ok (.iaload, 1) := by decide +kernel
theorem d_L_law_193 : decode b_L_law 193 = .ok (.aload_n 0, 1) := by decide +kernel
theorem d_L_law_194 : decode b_L_law 194 = .ok (.iload 4, 2) := by decide +kernel
theorem d_L_law_196 : decode b_L_law 196 = .ok (.iconst 3, 1) := by decide +kernel
theorem d_L_law_197 : decode b_L_law 197 = .ok (.iadd, 1) := by decide +kernel
theorem d_L_law_198 : decode b_L_law 198 = .ok (.iaload, 1) := by decide +kernel
theorem d_L_law_199 : decode b_L_law 199 = .ok (.aload_n 0, 1) := by decide +kernel
theorem d_L_law_200 : decode b_L_law 200 = .ok (.iload 4, 2) := by decide +kernel
theorem d_L_law_202 : decode b_L_law 202 = .ok (.iconst 4, 1) := by decide +kernel
theorem d_L_law_203 : decode b_L_law 203 = .ok (.iadd, 1) := by decide +kernel
theorem d_L_law_204 : decode b_L_law 204 = .ok (.iaload, 1) := by decide +kernel
theorem d_L_law_205 : decode b_L_law 205 = .ok (.aload_n 0, 1) := by decide +kernel
theorem d_L_law_206 : decode b_L_law 206 = .ok (.iload 4, 2) := by decide +kernel
theorem d_L_law_208 : decode b_L_law 208 = .ok (.iconst 5, 1) := by decide +kernel
theorem d_L_law_209 : decode b_L_law 209 = .ok (.iadd, 1) := by decide +kernel
theorem d_L_law_210 : decode b_L_law 210 = .ok (.iaload, 1) := by decide +kernel
theorem d_L_law_211 : decode b_L_law 211 = .ok (.invokestatic 71, 3) := by decide +kernel
theorem d_L_law_214 : decode b_L_law 214 = .ok (.istore 5, 2) := by decide +kernel
theorem d_L_law_216 : decode b_L_law 216 = .ok (.aload_n 2, 1) := by decide +kernel
theorem d_L_law_217 : decode b_L_law 217 = .ok (.aload_n 0, 1) := by decide +kernel
theorem d_L_law_218 : decode b_L_law 218 = .ok (.iload 4, 2) := by decide +kernel
theorem d_L_law_220 : decode b_L_law 220 = .ok (.iconst 1, 1) := by decide +kernel
theorem d_L_law_221 : decode b_L_law 221 = .ok (.iadd, 1) := by decide +kernel
theorem d_L_law_222 : decode b_L_law 222 = .ok (.iaload, 1) := by decide +kernel
theorem d_L_law_223 : decode b_L_law 223 = .ok (.aload_n 0, 1) := by decide +kernel
theorem d_L_law_224 : decode b_L_law 224 = .ok (.iload 4, 2) := by decide +kernel
theorem d_L_law_226 : decode b_L_law 226 = .ok (.iconst 2, 1) := by decide +kernel
theorem d_L_law_227 : decode b_L_law 227 = .ok (.iadd, 1) := by decide +kernel
theorem d_L_law_228 : decode b_L_law 228 = .ok (.iaload, 1) := by decide +kernel
theorem d_L_law_229 : decode b_L_law 229 = .ok (.aload_n 0, 1) := by decide +kernel
theorem d_L_law_230 : decode b_L_law 230 = .ok (.iload 4, 2) := by decide +kernel
theorem d_L_law_232 : decode b_L_law 232 = .ok (.iconst 3, 1) := by decide +kernel
theorem d_L_law_233 : decode b_L_law 233 = .ok (.iadd, 1) := by decide +kernel
theorem d_L_law_234 : decode b_L_law 234 = .ok (.iaload, 1) := by decide +kernel
theorem d_L_law_235 : decode b_L_law 235 = .ok (.aload_n 0, 1) := by decide +kernel
theorem d_L_law_236 : decode b_L_law 236 = .ok (.iload 4, 2) := by decide +kernel
theorem d_L_law_238 : decode b_L_law 238 = .ok (.iconst 4, 1) := by decide +kernel
theorem d_L_law_239 : decode b_L_law 239 = .ok (.iadd, 1) := by decide +kernel
theorem d_L_law_240 : decode b_L_law 240 = .ok (.iaload, 1) := by decide +kernel
theorem d_L_law_241 : decode b_L_law 241 = .ok (.aload_n 0, 1) := by decide +kernel
theorem d_L_law_242 : decode b_L_law 242 = .ok (.iload 4, 2) := by decide +kernel
theorem d_L_law_244 : decode b_L_law 244 = .ok (.iconst 5, 1) := by decide +kernel
theorem d_L_law_245 : decode b_L_law 245 = .ok (.iadd, 1) := by decide +kernel
theorem d_L_law_246 : decode b_L_law 246 = .ok (.iaload, 1) := by decide +kernel
theorem d_L_law_247 : decode b_L_law 247 = .ok (.invokevirtual 74, 3) := by decide +kernel
theorem d_L_law_250 : decode b_L_law 250 = .ok (.aload_n 2, 1) := by decide +kernel
theorem d_L_law_251 : decode b_L_law 251 = .ok (.invokevirtual 67, 3) := by decide +kernel
theorem d_L_law_254 : decode b_L_law 254 = .ok (.iload 5, 2) := by decide +kernel
theorem d_L_law_256 : decode b_L_law 256 = .ok (.if_icmp .eq 5, 3) := by decide +kernel
theorem d_L_law_259 : decode b_L_law 259 = .ok (.iconst 0, 1) := by decide +kernel
theorem d_L_law_260 : decode b_L_law 260 = .ok (.ireturn, 1) := by decide +kernel
theorem d_L_law_261 : decode b_L_law 261 = .ok (.goto 533, 3) := by decide +kernel
theorem d_L_law_264 : decode b_L_law 264 = .ok (.aload_n 1, 1) := by decide +kernel
theorem d_L_law_265 : decode b_L_law 265 = .ok (.aload_n 0, 1) := by decide +kernel
theorem d_L_law_266 : decode b_L_law 266 = .ok (.iload 4, 2) := by decide +kernel
theorem d_L_law_268 : decode b_L_law 268 = .ok (.iconst 1, 1) := by decide +kernel
theorem d_L_law_269 : decode b_L_law 269 = .ok (.iadd, 1) := by decide +kernel
theorem d_L_law_270 : decode b_L_law 270 = .ok (.iaload, 1) := by decide +kernel
theorem d_L_law_271 : decode b_L_law 271 = .ok (.invokestatic 75, 3) := by decide +kernel
theorem d_L_law_274 : decode b_L_law 274 = .ok (.istore 5, 2) := by decide +kernel
theorem d_L_law_276 : decode b_L_law 276 = .ok (.aload_n 2, 1) := by decide +kernel
theorem d_L_law_277 : decode b_L_law 277 = .ok (.aload_n 0, 1) := by decide +kernel
theorem d_L_law_278 : decode b_L_law 278 = .ok (.iload 4, 2) := by decide +kernel
theorem d_L_law_280 : decode b_L_law 280 = .ok (.iconst 1, 1) := by decide +kernel
theorem d_L_law_281 : decode b_L_law 281 = .ok (.iadd, 1) := by decide +kernel
theorem d_L_law_282 : decode b_L_law 282 = .ok (.iaload, 1) := by decide +kernel
theorem d_L_law_283 : decode b_L_law 283 = .ok (.invokevirtual 78, 3) := by decide +kernel
theorem d_L_law_286 : decode b_L_law 286 = .ok (.aload_n 2, 1) := by decide +kernel
theorem d_L_law_287 : decode b_L_law 287 = .ok (.invokevirtual 67, 3) := by decide +kernel
theorem d_L_law_290 : decode b_L_law 290 = .ok (.iload 5, 2) := by decide +kernel
theorem d_L_law_292 : decode b_L_law 292 = .ok (.if_icmp .eq 5, 3) := by decide +kernel
theorem d_L_law_295 : decode b_L_law 295 = .ok (.iconst 0, 1) := by decide +kernel
theorem d_L_law_296 : decode b_L_law 296 = .ok (.ireturn, 1) := by decide +kernel
theorem d_L_law_297 : decode b_L_law 297 = .ok (.goto 497, 3) := by decide +kernel
theorem d_L_law_300 : decode b_L_law 300 = .ok (.aload_n 1, 1) := by decide +kernel
theorem d_L_law_301 : decode b_L_law 301 = .ok (.aload_n 0, 1) := by decide +kernel
theorem d_L_law_302 : decode b_L_law 302 = .ok (.iload 4, 2) := by decide +kernel
theorem d_L_law_304 : decode b_L_law 304 = .ok (.iconst 1, 1) := by decide +kernel
theorem d_L_law_305 : decode b_L_law 305 = .ok (.iadd, 1) := by decide +kernel
theorem d_L_law_306 : decode b_L_law 306 = .ok (.iaload, 1) := by decide +kernel
theorem d_L_law_307 : decode b_L_law 307 = .ok (.aload_n 0, 1) := by decide +kernel
theorem d_L_law_308 : decode b_L_law 308 = .ok (.iload 4, 2) := by decide +kernel
theorem d_L_law_310 : decode b_L_law 310 = .ok (.iconst 2, 1) := by decide +kernel
theorem d_L_law_311 : decode b_L_law 311 = .ok (.iadd, 1) := by decide +kernel
theorem d_L_law_312 : decode b_L_law 312 = .ok (.iaload, 1) := by decide +kernel
theorem d_L_law_313 : decode b_L_law 313 = .ok (.aload_n 3, 1) := by decide +kernel
theorem d_L_law_314 : decode b_L_law 314 = .ok (.invokestatic 79, 3) := by decide +kernel
theorem d_L_law_317 : decode b_L_law 317 = .ok (.istore 5, 2) := by decide +kernel
theorem d_L_law_319 : decode b_L_law 319 = .ok (.aload_n 2, 1) := by decide +kernel
theorem d_L_law_320 : decode b_L_law 320 = .ok (.aload_n 0, 1) := by decide +kernel
theorem d_L_law_321 : decode b_L_law 321 = .ok (.iload 4, 2) := by decide +kernel
theorem d_L_law_323 : decode b_L_law 323 = .ok (.iconst 1, 1) := by decide +kernel
theorem d_L_law_324 : decode b_L_law 324 = .ok (.iadd, 1) := by decide +kernel
theorem d_L_law_325 : decode b_L_law 325 = .ok (.iaload, 1) := by decide +kernel
theorem d_L_law_326 : decode b_L_law 326 = .ok (.aload_n 0, 1) := by decide +kernel
theorem d_L_law_327 : decode b_L_law 327 = .ok (.iload 4, 2) := by decide +kernel
theorem d_L_law_329 : decode b_L_law 329 = .ok (.iconst 2, 1) := by decide +kernel
theorem d_L_law_330 : decode b_L_law 330 = .ok (.iadd, 1) := by decide +kernel
theorem d_L_law_331 : decode b_L_law 331 = .ok (.iaload, 1) := by decide +kernel
theorem d_L_law_332 : decode b_L_law 332 = .ok (.invokevirtual 82, 3) := by decide +kernel
theorem d_L_law_335 : decode b_L_law 335 = .ok (.lstore 6, 2) := by decide +kernel
theorem d_L_law_337 : decode b_L_law 337 = .ok (.aload_n 2, 1) := by decide +kernel
theorem d_L_law_338 : decode b_L_law 338 = .ok (.invokevirtual 67, 3) := by decide +kernel
theorem d_L_law_341 : decode b_L_law 341 = .ok (.iload 5, 2) := by decide +kernel
theorem d_L_law_343 : decode b_L_law 343 = .ok (.if_icmp .eq 5, 3) := by decide +kernel
theorem d_L_law_346 : decode b_L_law 346 = .ok (.iconst 0, 1) := by decide +kernel
theorem d_L_law_347 : decode b_L_law 347 = .ok (.ireturn, 1) := by decide +kernel
theorem d_L_law_348 : decode b_L_law 348 = .ok (.iload 5, 2) := by decide +kernel
theorem d_L_law_350 : decode b_L_law 350 = .ok (.ifCond .ne 14, 3) := by decide +kernel
theorem d_L_law_353 : decode b_L_law 353 = .ok (.aload_n 3, 1) := by decide +kernel
theorem d_L_law_354 : decode b_L_law 354 = .ok (.iconst 0, 1) := by decide +kernel
theorem d_L_law_355 : decode b_L_law 355 = .ok (.laload, 1) := by decide +kernel
theorem d_L_law_356 : decode b_L_law 356 = .ok (.lload 6, 2) := by decide +kernel
theorem d_L_law_358 : decode b_L_law 358 = .ok (.lcmp, 1) := by decide +kernel
theorem d_L_law_359 : decode b_L_law 359 = .ok (.ifCond .eq 5, 3) := by decide +kernel
theorem d_L_law_362 : decode b_L_law 362 = .ok (.iconst 0, 1) := by decide +kernel
theorem d_L_law_363 : decode b_L_law 363 = .ok (.ireturn, 1) := by decide +kernel
theorem d_L_law_364 : decode b_L_law 364 = .ok (.goto 430, 3) := by decide +kernel
theorem d_L_law_367 : decode b_L_law 367 = .ok (.aload_n 1, 1) := by decide +kernel
theorem d_L_law_368 : decode b_L_law 368 = .ok (.aload_n 0, 1) := by decide +kernel
theorem d_L_law_369 : decode b_L_law 369 = .ok (.iload 4, 2) := by decide +kernel
theorem d_L_law_371 : decode b_L_law 371 = .ok (.iconst 1, 1) := by decide +kernel
theorem d_L_law_372 : decode b_L_law 372 = .ok (.iadd, 1) := by decide +kernel
theorem d_L_law_373 : decode b_L_law 373 = .ok (.iaload, 1) := by decide +kernel
theorem d_L_law_374 : decode b_L_law 374 = .ok (.aload_n 3, 1) := by decide +kernel
theorem d_L_law_375 : decode b_L_law 375 = .ok (.invokestatic 83, 3) := by decide +kernel
theorem d_L_law_378 : decode b_L_law 378 = .ok (.istore 5, 2) := by decide +kernel
theorem d_L_law_380 : decode b_L_law 380 = .ok (.aload_n 2, 1) := by decide +kernel
theorem d_L_law_381 : decode b_L_law 381 = .ok (.aload_n 0, 1) := by decide +kernel
theorem d_L_law_382 : decode b_L_law 382 = .ok (.iload 4, 2) := by decide +kernel
theorem d_L_law_384 : decode b_L_law 384 = .ok (.iconst 1, 1) := by decide +kernel
theorem d_L_law_385 : decode b_L_law 385 = .ok (.iadd, 1) := by decide +kernel
theorem d_L_law_386 : decode b_L_law 386 = .ok (.iaload, 1) := by decide +kernel
theorem d_L_law_387 : decode b_L_law 387 = .ok (.invokevirtual 86, 3) := by decide +kernel
theorem d_L_law_390 : decode b_L_law 390 = .ok (.istore 6, 2) := by decide +kernel
theorem d_L_law_392 : decode b_L_law 392 = .ok (.aload_n 2, 1) := by decide +kernel
theorem d_L_law_393 : decode b_L_law 393 = .ok (.invokevirtual 67, 3) := by decide +kernel
theorem d_L_law_396 : decode b_L_law 396 = .ok (.iload 5, 2) := by decide +kernel
theorem d_L_law_398 : decode b_L_law 398 = .ok (.if_icmp .eq 5, 3) := by decide +kernel
theorem d_L_law_401 : decode b_L_law 401 = .ok (.iconst 0, 1) := by decide +kernel
theorem d_L_law_402 : decode b_L_law 402 = .ok (.ireturn, 1) := by decide +kernel
theorem d_L_law_403 : decode b_L_law 403 = .ok (.iload 5, 2) := by decide +kernel
theorem d_L_law_405 : decode b_L_law 405 = .ok (.ifCond .ne 15, 3) := by decide +kernel
theorem d_L_law_408 : decode b_L_law 408 = .ok (.aload_n 3, 1) := by decide +kernel
theorem d_L_law_409 : decode b_L_law 409 = .ok (.iconst 0, 1) := by decide +kernel
theorem d_L_law_410 : decode b_L_law 410 = .ok (.laload, 1) := by decide +kernel
theorem d_L_law_411 : decode b_L_law 411 = .ok (.iload 6, 2) := by decide +kernel
theorem d_L_law_413 : decode b_L_law 413 = .ok (.i2l, 1) := by decide +kernel
theorem d_L_law_414 : decode b_L_law 414 = .ok (.lcmp, 1) := by decide +kernel
theorem d_L_law_415 : decode b_L_law 415 = .ok (.ifCond .eq 5, 3) := by decide +kernel
theorem d_L_law_418 : decode b_L_law 418 = .ok (.iconst 0, 1) := by decide +kernel
theorem d_L_law_419 : decode b_L_law 419 = .ok (.ireturn, 1) := by decide +kernel
theorem d_L_law_420 : decode b_L_law 420 = .ok (.goto 374, 3) := by decide +kernel
theorem d_L_law_423 : decode b_L_law 423 = .ok (.aload_n 1, 1) := by decide +kernel
theorem d_L_law_424 : decode b_L_law 424 = .ok (.aload_n 0, 1) := by decide +kernel
theorem d_L_law_425 : decode b_L_law 425 = .ok (.iload 4, 2) := by decide +kernel
theorem d_L_law_427 : decode b_L_law 427 = .ok (.iconst 1, 1) := by decide +kernel
theorem d_L_law_428 : decode b_L_law 428 = .ok (.iadd, 1) := by decide +kernel
theorem d_L_law_429 : decode b_L_law 429 = .ok (.iaload, 1) := by decide +kernel
theorem d_L_law_430 : decode b_L_law 430 = .ok (.aload_n 3, 1) := by decide +kernel
theorem d_L_law_431 : decode b_L_law 431 = .ok (.invokestatic 87, 3) := by decide +kernel
theorem d_L_law_434 : decode b_L_law 434 = .ok (.istore 5, 2) := by decide +kernel
theorem d_L_law_436 : decode b_L_law 436 = .ok (.aload_n 2, 1) := by decide +kernel
theorem d_L_law_437 : decode b_L_law 437 = .ok (.aload_n 0, 1) := by decide +kernel
theorem d_L_law_438 : decode b_L_law 438 = .ok (.iload 4, 2) := by decide +kernel
theorem d_L_law_440 : decode b_L_law 440 = .ok (.iconst 1, 1) := by decide +kernel
theorem d_L_law_441 : decode b_L_law 441 = .ok (.iadd, 1) := by decide +kernel
theorem d_L_law_442 : decode b_L_law 442 = .ok (.iaload, 1) := by decide +kernel
theorem d_L_law_443 : decode b_L_law 443 = .ok (.invokevirtual 89, 3) := by decide +kernel
theorem d_L_law_446 : decode b_L_law 446 = .ok (.istore 6, 2) := by decide +kernel
theorem d_L_law_448 : decode b_L_law 448 = .ok (.aload_n 2, 1) := by decide +kernel
theorem d_L_law_449 : decode b_L_law 449 = .ok (.invokevirtual 67, 3) := by decide +kernel
theorem d_L_law_452 : decode b_L_law 452 = .ok (.iload 5, 2) := by decide +kernel
theorem d_L_law_454 : decode b_L_law 454 = .ok (.if_icmp .eq 5, 3) := by decide +kernel
theorem d_L_law_457 : decode b_L_law 457 = .ok (.iconst 0, 1) := by decide +kernel
theorem d_L_law_458 : decode b_L_law 458 = .ok (.ireturn, 1) := by decide +kernel
theorem d_L_law_459 : decode b_L_law 459 = .ok (.iload 5, 2) := by decide +kernel
theorem d_L_law_461 : decode b_L_law 461 = .ok (.ifCond .ne 15, 3) := by decide +kernel
theorem d_L_law_464 : decode b_L_law 464 = .ok (.aload_n 3, 1) := by decide +kernel
theorem d_L_law_465 : decode b_L_law 465 = .ok (.iconst 0, 1) := by decide +kernel
theorem d_L_law_466 : decode b_L_law 466 = .ok (.laload, 1) := by decide +kernel
theorem d_L_law_467 : decode b_L_law 467 = .ok (.iload 6, 2) := by decide +kernel
theorem d_L_law_469 : decode b_L_law 469 = .ok (.i2l, 1) := by decide +kernel
theorem d_L_law_470 : decode b_L_law 470 = .ok (.lcmp, 1) := by decide +kernel
theorem d_L_law_471 : decode b_L_law 471 = .ok (.ifCond .eq 5, 3) := by decide +kernel
theorem d_L_law_474 : decode b_L_law 474 = .ok (.iconst 0, 1) := by decide +kernel
theorem d_L_law_475 : decode b_L_law 475 = .ok (.ireturn, 1) := by decide +kernel
theorem d_L_law_476 : decode b_L_law 476 = .ok (.goto 318, 3) := by decide +kernel
theorem d_L_law_479 : decode b_L_law 479 = .ok (.aload_n 1, 1) := by decide +kernel
theorem d_L_law_480 : decode b_L_law 480 = .ok (.aload_n 0, 1) := by decide +kernel
theorem d_L_law_481 : decode b_L_law 481 = .ok (.iload 4, 2) := by decide +kernel
theorem d_L_law_483 : decode b_L_law 483 = .ok (.iconst 1, 1) := by decide +kernel
theorem d_L_law_484 : decode b_L_law 484 = .ok (.iadd, 1) := by decide +kernel
theorem d_L_law_485 : decode b_L_law 485 = .ok (.iaload, 1) := by decide +kernel
theorem d_L_law_486 : decode b_L_law 486 = .ok (.aload_n 0, 1) := by decide +kernel
theorem d_L_law_487 : decode b_L_law 487 = .ok (.iload 4, 2) := by decide +kernel
theorem d_L_law_489 : decode b_L_law 489 = .ok (.iconst 2, 1) := by decide +kernel
theorem d_L_law_490 : decode b_L_law 490 = .ok (.iadd, 1) := by decide +kernel
theorem d_L_law_491 : decode b_L_law 491 = .ok (.iaload, 1) := by decide +kernel
theorem d_L_law_492 : decode b_L_law 492 = .ok (.aload_n 0, 1) := by decide +kernel
theorem d_L_law_493 : decode b_L_law 493 = .ok (.iload 4, 2) := by decide +kernel
theorem d_L_law_495 : decode b_L_law 495 = .ok (.iconst 3, 1) := by decide +kernel
theorem d_L_law_496 : decode b_L_law 496 = .ok (.iadd, 1) := by decide +kernel
theorem d_L_law_497 : decode b_L_law 497 = .ok (.iaload, 1) := by decide +kernel
theorem d_L_law_498 : decode b_L_law 498 = .ok (.aload_n 3, 1) := by decide +kernel
theorem d_L_law_499 : decode b_L_law 499 = .ok (.invokestatic 90, 3) := by decide +kernel
theorem d_L_law_502 : decode b_L_law 502 = .ok (.istore 5, 2) := by decide +kernel
theorem d_L_law_504 : decode b_L_law 504 = .ok (.aload_n 2, 1) := by decide +kernel
theorem d_L_law_505 : decode b_L_law 505 = .ok (.aload_n 0, 1) := by decide +kernel
theorem d_L_law_506 : decode b_L_law 506 = .ok (.iload 4, 2) := by decide +kernel
theorem d_L_law_508 : decode b_L_law 508 = .ok (.iconst 1, 1) := by decide +kernel
theorem d_L_law_509 : decode b_L_law 509 = .ok (.iadd, 1) := by decide +kernel
theorem d_L_law_510 : decode b_L_law 510 = .ok (.iaload, 1) := by decide +kernel
theorem d_L_law_511 : decode b_L_law 511 = .ok (.aload_n 0, 1) := by decide +kernel
theorem d_L_law_512 : decode b_L_law 512 = .ok (.iload 4, 2) := by decide +kernel
theorem d_L_law_514 : decode b_L_law 514 = .ok (.iconst 2, 1) := by decide +kernel
theorem d_L_law_515 : decode b_L_law 515 = .ok (.iadd, 1) := by decide +kernel
theorem d_L_law_516 : decode b_L_law 516 = .ok (.iaload, 1) := by decide +kernel
theorem d_L_law_517 : decode b_L_law 517 = .ok (.aload_n 0, 1) := by decide +kernel
theorem d_L_law_518 : decode b_L_law 518 = .ok (.iload 4, 2) := by decide +kernel
theorem d_L_law_520 : decode b_L_law 520 = .ok (.iconst 3, 1) := by decide +kernel
theorem d_L_law_521 : decode b_L_law 521 = .ok (.iadd, 1) := by decide +kernel
theorem d_L_law_522 : decode b_L_law 522 = .ok (.iaload, 1) := by decide +kernel
theorem d_L_law_523 : decode b_L_law 523 = .ok (.invokevirtual 93, 3) := by decide +kernel
theorem d_L_law_526 : decode b_L_law 526 = .ok (.istore 6, 2) := by decide +kernel
theorem d_L_law_528 : decode b_L_law 528 = .ok (.aload_n 2, 1) := by decide +kernel
theorem d_L_law_529 : decode b_L_law 529 = .ok (.invokevirtual 67, 3) := by decide +kernel
theorem d_L_law_532 : decode b_L_law 532 = .ok (.iload 5, 2) := by decide +kernel
theorem d_L_law_534 : decode b_L_law 534 = .ok (.if_icmp .eq 5, 3) := by decide +kernel
theorem d_L_law_537 : decode b_L_law 537 = .ok (.iconst 0, 1) := by decide +kernel
theorem d_L_law_538 : decode b_L_law 538 = .ok (.ireturn, 1) := by decide +kernel
theorem d_L_law_539 : decode b_L_law 539 = .ok (.iload 5, 2) := by decide +kernel
theorem d_L_law_541 : decode b_L_law 541 = .ok (.ifCond .ne 15, 3) := by decide +kernel
theorem d_L_law_544 : decode b_L_law 544 = .ok (.aload_n 3, 1) := by decide +kernel
theorem d_L_law_545 : decode b_L_law 545 = .ok (.iconst 0, 1) := by decide +kernel
theorem d_L_law_546 : decode b_L_law 546 = .ok (.laload, 1) := by decide +kernel
theorem d_L_law_547 : decode b_L_law 547 = .ok (.iload 6, 2) := by decide +kernel
theorem d_L_law_549 : decode b_L_law 549 = .ok (.i2l, 1) := by decide +kernel
theorem d_L_law_550 : decode b_L_law 550 = .ok (.lcmp, 1) := by decide +kernel
theorem d_L_law_551 : decode b_L_law 551 = .ok (.ifCond .eq 5, 3) := by decide +kernel
theorem d_L_law_554 : decode b_L_law 554 = .ok (.iconst 0, 1) := by decide +kernel
theorem d_L_law_555 : decode b_L_law 555 = .ok (.ireturn, 1) := by decide +kernel
theorem d_L_law_556 : decode b_L_law 556 = .ok (.goto 238, 3) := by decide +kernel
theorem d_L_law_559 : decode b_L_law 559 = .ok (.aload_n 1, 1) := by decide +kernel
theorem d_L_law_560 : decode b_L_law 560 = .ok (.aload_n 0, 1) := by decide +kernel
theorem d_L_law_561 : decode b_L_law 561 = .ok (.iload 4, 2) := by decide +kernel
theorem d_L_law_563 : decode b_L_law 563 = .ok (.iconst 1, 1) := by decide +kernel
theorem d_L_law_564 : decode b_L_law 564 = .ok (.iadd, 1) := by decide +kernel
theorem d_L_law_565 : decode b_L_law 565 = .ok (.iaload, 1) := by decide +kernel
theorem d_L_law_566 : decode b_L_law 566 = .ok (.aload_n 0, 1) := by decide +kernel
theorem d_L_law_567 : decode b_L_law 567 = .ok (.iload 4, 2) := by decide +kernel
theorem d_L_law_569 : decode b_L_law 569 = .ok (.iconst 2, 1) := by decide +kernel
theorem d_L_law_570 : decode b_L_law 570 = .ok (.iadd, 1) := by decide +kernel
theorem d_L_law_571 : decode b_L_law 571 = .ok (.iaload, 1) := by decide +kernel
theorem d_L_law_572 : decode b_L_law 572 = .ok (.aload_n 0, 1) := by decide +kernel
theorem d_L_law_573 : decode b_L_law 573 = .ok (.iload 4, 2) := by decide +kernel
theorem d_L_law_575 : decode b_L_law 575 = .ok (.iconst 3, 1) := by decide +kernel
theorem d_L_law_576 : decode b_L_law 576 = .ok (.iadd, 1) := by decide +kernel
theorem d_L_law_577 : decode b_L_law 577 = .ok (.iaload, 1) := by decide +kernel
theorem d_L_law_578 : decode b_L_law 578 = .ok (.aload_n 3, 1) := by decide +kernel
theorem d_L_law_579 : decode b_L_law 579 = .ok (.invokestatic 94, 3) := by decide +kernel
theorem d_L_law_582 : decode b_L_law 582 = .ok (.istore 5, 2) := by decide +kernel
theorem d_L_law_584 : decode b_L_law 584 = .ok (.aload_n 2, 1) := by decide +kernel
theorem d_L_law_585 : decode b_L_law 585 = .ok (.aload_n 0, 1) := by decide +kernel
theorem d_L_law_586 : decode b_L_law 586 = .ok (.iload 4, 2) := by decide +kernel
theorem d_L_law_588 : decode b_L_law 588 = .ok (.iconst 1, 1) := by decide +kernel
theorem d_L_law_589 : decode b_L_law 589 = .ok (.iadd, 1) := by decide +kernel
theorem d_L_law_590 : decode b_L_law 590 = .ok (.iaload, 1) := by decide +kernel
theorem d_L_law_591 : decode b_L_law 591 = .ok (.aload_n 0, 1) := by decide +kernel
theorem d_L_law_592 : decode b_L_law 592 = .ok (.iload 4, 2) := by decide +kernel
theorem d_L_law_594 : decode b_L_law 594 = .ok (.iconst 2, 1) := by decide +kernel
theorem d_L_law_595 : decode b_L_law 595 = .ok (.iadd, 1) := by decide +kernel
theorem d_L_law_596 : decode b_L_law 596 = .ok (.iaload, 1) := by decide +kernel
theorem d_L_law_597 : decode b_L_law 597 = .ok (.aload_n 0, 1) := by decide +kernel
theorem d_L_law_598 : decode b_L_law 598 = .ok (.iload 4, 2) := by decide +kernel
theorem d_L_law_600 : decode b_L_law 600 = .ok (.iconst 3, 1) := by decide +kernel
theorem d_L_law_601 : decode b_L_law 601 = .ok (.iadd, 1) := by decide +kernel
theorem d_L_law_602 : decode b_L_law 602 = .ok (.iaload, 1) := by decide +kernel
theorem d_L_law_603 : decode b_L_law 603 = .ok (.invokevirtual 96, 3) := by decide +kernel
theorem d_L_law_606 : decode b_L_law 606 = .ok (.lstore 6, 2) := by decide +kernel
theorem d_L_law_608 : decode b_L_law 608 = .ok (.aload_n 2, 1) := by decide +kernel
theorem d_L_law_609 : decode b_L_law 609 = .ok (.invokevirtual 67, 3) := by decide +kernel
theorem d_L_law_612 : decode b_L_law 612 = .ok (.iload 5, 2) := by decide +kernel
theorem d_L_law_614 : decode b_L_law 614 = .ok (.if_icmp .eq 5, 3) := by decide +kernel
theorem d_L_law_617 : decode b_L_law 617 = .ok (.iconst 0, 1) := by decide +kernel
theorem d_L_law_618 : decode b_L_law 618 = .ok (.ireturn, 1) := by decide +kernel
theorem d_L_law_619 : decode b_L_law 619 = .ok (.iload 5, 2) := by decide +kernel
theorem d_L_law_621 : decode b_L_law 621 = .ok (.ifCond .ne 14, 3) := by decide +kernel
theorem d_L_law_624 : decode b_L_law 624 = .ok (.aload_n 3, 1) := by decide +kernel
theorem d_L_law_625 : decode b_L_law 625 = .ok (.iconst 0, 1) := by decide +kernel
theorem d_L_law_626 : decode b_L_law 626 = .ok (.laload, 1) := by decide +kernel
theorem d_L_law_627 : decode b_L_law 627 = .ok (.lload 6, 2) := by decide +kernel
theorem d_L_law_629 : decode b_L_law 629 = .ok (.lcmp, 1) := by decide +kernel
theorem d_L_law_630 : decode b_L_law 630 = .ok (.ifCond .eq 5, 3) := by decide +kernel
theorem d_L_law_633 : decode b_L_law 633 = .ok (.iconst 0, 1) := by decide +kernel
theorem d_L_law_634 : decode b_L_law 634 = .ok (.ireturn, 1) := by decide +kernel
theorem d_L_law_635 : decode b_L_law 635 = .ok (.goto 159, 3) := by decide +kernel
theorem d_L_law_638 : decode b_L_law 638 = .ok (.aload_n 1, 1) := by decide +kernel
theorem d_L_law_639 : decode b_L_law 639 = .ok (.aload_n 0, 1) := by decide +kernel
theorem d_L_law_640 : decode b_L_law 640 = .ok (.iload 4, 2) := by decide +kernel
theorem d_L_law_642 : decode b_L_law 642 = .ok (.iconst 1, 1) := by decide +kernel
theorem d_L_law_643 : decode b_L_law 643 = .ok (.iadd, 1) := by decide +kernel
theorem d_L_law_644 : decode b_L_law 644 = .ok (.iaload, 1) := by decide +kernel
theorem d_L_law_645 : decode b_L_law 645 = .ok (.aload_n 0, 1) := by decide +kernel
theorem d_L_law_646 : decode b_L_law 646 = .ok (.iload 4, 2) := by decide +kernel
theorem d_L_law_648 : decode b_L_law 648 = .ok (.iconst 2, 1) := by decide +kernel
theorem d_L_law_649 : decode b_L_law 649 = .ok (.iadd, 1) := by decide +kernel
theorem d_L_law_650 : decode b_L_law 650 = .ok (.iaload, 1) := by decide +kernel
theorem d_L_law_651 : decode b_L_law 651 = .ok (.aload_n 3, 1) := by decide +kernel
theorem d_L_law_652 : decode b_L_law 652 = .ok (.invokestatic 97, 3) := by decide +kernel
theorem d_L_law_655 : decode b_L_law 655 = .ok (.istore 5, 2) := by decide +kernel
theorem d_L_law_657 : decode b_L_law 657 = .ok (.aload_n 2, 1) := by decide +kernel
theorem d_L_law_658 : decode b_L_law 658 = .ok (.aload_n 0, 1) := by decide +kernel
theorem d_L_law_659 : decode b_L_law 659 = .ok (.iload 4, 2) := by decide +kernel
theorem d_L_law_661 : decode b_L_law 661 = .ok (.iconst 1, 1) := by decide +kernel
theorem d_L_law_662 : decode b_L_law 662 = .ok (.iadd, 1) := by decide +kernel
theorem d_L_law_663 : decode b_L_law 663 = .ok (.iaload, 1) := by decide +kernel
theorem d_L_law_664 : decode b_L_law 664 = .ok (.aload_n 0, 1) := by decide +kernel
theorem d_L_law_665 : decode b_L_law 665 = .ok (.iload 4, 2) := by decide +kernel
theorem d_L_law_667 : decode b_L_law 667 = .ok (.iconst 2, 1) := by decide +kernel
theorem d_L_law_668 : decode b_L_law 668 = .ok (.iadd, 1) := by decide +kernel
theorem d_L_law_669 : decode b_L_law 669 = .ok (.iaload, 1) := by decide +kernel
theorem d_L_law_670 : decode b_L_law 670 = .ok (.invokevirtual 99, 3) := by decide +kernel
theorem d_L_law_673 : decode b_L_law 673 = .ok (.istore 6, 2) := by decide +kernel
theorem d_L_law_675 : decode b_L_law 675 = .ok (.aload_n 2, 1) := by decide +kernel
theorem d_L_law_676 : decode b_L_law 676 = .ok (.invokevirtual 67, 3) := by decide +kernel
theorem d_L_law_679 : decode b_L_law 679 = .ok (.iload 5, 2) := by decide +kernel
theorem d_L_law_681 : decode b_L_law 681 = .ok (.if_icmp .eq 5, 3) := by decide +kernel
theorem d_L_law_684 : decode b_L_law 684 = .ok (.iconst 0, 1) := by decide +kernel
theorem d_L_law_685 : decode b_L_law 685 = .ok (.ireturn, 1) := by decide +kernel
theorem d_L_law_686 : decode b_L_law 686 = .ok (.iload 5, 2) := by decide +kernel
theorem d_L_law_688 : decode b_L_law 688 = .ok (.ifCond .ne 22, 3) := by decide +kernel
theorem d_L_law_691 : decode b_L_law 691 = .ok (.aload_n 3, 1) := by decide +kernel
theorem d_L_law_692 : decode b_L_law 692 = .ok (.iconst 0, 1) := by decide +kernel
theorem d_L_law_693 : decode b_L_law 693 = .ok (.laload, 1) := by decide +kernel
theorem d_L_law_694 : decode b_L_law 694 = .ok (.iload 6, 2) := by decide +kernel
theorem d_L_law_696 : decode b_L_law 696 = .ok (.ifCond .eq 7, 3) := by decide +kernel
theorem d_L_law_699 : decode b_L_law 699 = .ok (.lconst 1, 1) := by decide +kernel
theorem d_L_law_700 : decode b_L_law 700 = .ok (.goto 4, 3) := by decide +kernel
theorem d_L_law_703 : decode b_L_law 703 = .ok (.lconst 0, 1) := by decide +kernel
theorem d_L_law_704 : decode b_L_law 704 = .ok (.lcmp, 1) := by decide +kernel
theorem d_L_law_705 : decode b_L_law 705 = .ok (.ifCond .eq 5, 3) := by decide +kernel
theorem d_L_law_708 : decode b_L_law 708 = .ok (.iconst 0, 1) := by decide +kernel
theorem d_L_law_709 : decode b_L_law 709 = .ok (.ireturn, 1) := by decide +kernel
theorem d_L_law_710 : decode b_L_law 710 = .ok (.goto 84, 3) := by decide +kernel
theorem d_L_law_713 : decode b_L_law 713 = .ok (.aload_n 1, 1) := by decide +kernel
theorem d_L_law_714 : decode b_L_law 714 = .ok (.aload_n 0, 1) := by decide +kernel
theorem d_L_law_715 : decode b_L_law 715 = .ok (.iload 4, 2) := by decide +kernel
theorem d_L_law_717 : decode b_L_law 717 = .ok (.iconst 1, 1) := by decide +kernel
theorem d_L_law_718 : decode b_L_law 718 = .ok (.iadd, 1) := by decide +kernel
theorem d_L_law_719 : decode b_L_law 719 = .ok (.iaload, 1) := by decide +kernel
theorem d_L_law_720 : decode b_L_law 720 = .ok (.aload_n 3, 1) := by decide +kernel
theorem d_L_law_721 : decode b_L_law 721 = .ok (.invokestatic 100, 3) := by decide +kernel
theorem d_L_law_724 : decode b_L_law 724 = .ok (.istore 5, 2) := by decide +kernel
theorem d_L_law_726 : decode b_L_law 726 = .ok (.aload_n 2, 1) := by decide +kernel
theorem d_L_law_727 : decode b_L_law 727 = .ok (.aload_n 0, 1) := by decide +kernel
theorem d_L_law_728 : decode b_L_law 728 = .ok (.iload 4, 2) := by decide +kernel
theorem d_L_law_730 : decode b_L_law 730 = .ok (.iconst 1, 1) := by decide +kernel
theorem d_L_law_731 : decode b_L_law 731 = .ok (.iadd, 1) := by decide +kernel
theorem d_L_law_732 : decode b_L_law 732 = .ok (.iaload, 1) := by decide +kernel
theorem d_L_law_733 : decode b_L_law 733 = .ok (.invokevirtual 102, 3) := by decide +kernel
theorem d_L_law_736 : decode b_L_law 736 = .ok (.istore 6, 2) := by decide +kernel
theorem d_L_law_738 : decode b_L_law 738 = .ok (.aload_n 2, 1) := by decide +kernel
theorem d_L_law_739 : decode b_L_law 739 = .ok (.invokevirtual 67, 3) := by decide +kernel
theorem d_L_law_742 : decode b_L_law 742 = .ok (.iload 5, 2) := by decide +kernel
theorem d_L_law_744 : decode b_L_law 744 = .ok (.if_icmp .eq 5, 3) := by decide +kernel
theorem d_L_law_747 : decode b_L_law 747 = .ok (.iconst 0, 1) := by decide +kernel
theorem d_L_law_748 : decode b_L_law 748 = .ok (.ireturn, 1) := by decide +kernel
theorem d_L_law_749 : decode b_L_law 749 = .ok (.iload 5, 2) := by decide +kernel
theorem d_L_law_751 : decode b_L_law 751 = .ok (.ifCond .ne 15, 3) := by decide +kernel
theorem d_L_law_754 : decode b_L_law 754 = .ok (.aload_n 3, 1) := by decide +kernel
theorem d_L_law_755 : decode b_L_law 755 = .ok (.iconst 0, 1) := by decide +kernel
theorem d_L_law_756 : decode b_L_law 756 = .ok (.laload, 1) := by decide +kernel
theorem d_L_law_757 : decode b_L_law 757 = .ok (.iload 6, 2) := by decide +kernel
theorem d_L_law_759 : decode b_L_law 759 = .ok (.i2l, 1) := by decide +kernel
theorem d_L_law_760 : decode b_L_law 760 = .ok (.lcmp, 1) := by decide +kernel
theorem d_L_law_761 : decode b_L_law 761 = .ok (.ifCond .eq 5, 3) := by decide +kernel
theorem d_L_law_764 : decode b_L_law 764 = .ok (.iconst 0, 1) := by decide +kernel
theorem d_L_law_765 : decode b_L_law 765 = .ok (.ireturn, 1) := by decide +kernel
theorem d_L_law_766 : decode b_L_law 766 = .ok (.goto 28, 3) := by decide +kernel
theorem d_L_law_769 : decode b_L_law 769 = .ok (.aload_n 1, 1) := by decide +kernel
theorem d_L_law_770 : decode b_L_law 770 = .ok (.aload_n 0, 1) := by decide +kernel
theorem d_L_law_771 : decode b_L_law 771 = .ok (.iload 4, 2) := by decide +kernel
theorem d_L_law_773 : decode b_L_law 773 = .ok (.iconst 1, 1) := by decide +kernel
theorem d_L_law_774 : decode b_L_law 774 = .ok (.iadd, 1) := by decide +kernel
theorem d_L_law_775 : decode b_L_law 775 = .ok (.iaload, 1) := by decide +kernel
theorem d_L_law_776 : decode b_L_law 776 = .ok (.invokevirtual 103, 3) := by decide +kernel
theorem d_L_law_779 : decode b_L_law 779 = .ok (.aload_n 2, 1) := by decide +kernel
theorem d_L_law_780 : decode b_L_law 780 = .ok (.aload_n 0, 1) := by decide +kernel
theorem d_L_law_781 : decode b_L_law 781 = .ok (.iload 4, 2) := by decide +kernel
theorem d_L_law_783 : decode b_L_law 783 = .ok (.iconst 1, 1) := by decide +kernel
theorem d_L_law_784 : decode b_L_law 784 = .ok (.iadd, 1) := by decide +kernel
theorem d_L_law_785 : decode b_L_law 785 = .ok (.iaload, 1) := by decide +kernel
theorem d_L_law_786 : decode b_L_law 786 = .ok (.invokevirtual 106, 3) := by decide +kernel
theorem d_L_law_789 : decode b_L_law 789 = .ok (.if_icmp .eq 5, 3) := by decide +kernel
theorem d_L_law_792 : decode b_L_law 792 = .ok (.iconst 0, 1) := by decide +kernel
theorem d_L_law_793 : decode b_L_law 793 = .ok (.ireturn, 1) := by decide +kernel
theorem d_L_law_794 : decode b_L_law 794 = .ok (.iinc 4 6, 3) := by decide +kernel
theorem d_L_law_797 : decode b_L_law 797 = .ok (.goto (-774), 3) := by decide +kernel
theorem d_L_law_800 : decode b_L_law 800 = .ok (.iconst 1, 1) := by decide +kernel
theorem d_L_law_801 : decode b_L_law 801 = .ok (.ireturn, 1) := by decide +kernel
