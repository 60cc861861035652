theorem d_Law_0 : decode code 0 = .ok (.new 8, 3) := by decide +kernel
theorem d_Law_3 : decode code 3 = .ok (.dup, 1) := by decide +kernel
theorem d_Law_4 : decode code 4 = .ok (.invokespecial 15, 3) := by decide +kernel
theorem d_Law_7 : decode code 7 = .ok (.astore_n 1, 1) := by decide +kernel
theorem d_Law_8 : decode code 8 = .ok (.new 16, 3) := by decide +kernel
theorem d_Law_11 : decode code 11 = .ok (.dup, 1) := by decide +kernel
theorem d_Law_12 : decode code 12 = .ok (.invokespecial 18, 3) := by decide +kernel
theorem d_Law_15 : decode code 15 = .ok (.astore_n 2, 1) := by decide +kernel
theorem d_Law_16 : decode code 16 = .ok (.iconst 1, 1) := by decide +kernel
theorem d_Law_17 : decode code 17 = .ok (.newarray .long, 2) := by decide +kernel
theorem d_Law_19 : decode code 19 = .ok (.astore_n 3, 1) := by decide +kernel
theorem d_Law_20 : decode code 20 = .ok (.iconst 0, 1) := by decide +kernel
theorem d_Law_21 : decode code 21 = .ok (.istore 4, 2) := by decide +kernel
theorem d_Law_23 : decode code 23 = .ok (.iload 4, 2) := by decide +kernel
theorem d_Law_25 : decode code 25 = .ok (.aload_n 0, 1) := by decide +kernel
theorem d_Law_26 : decode code 26 = .ok (.arraylength, 1) := by decide +kernel
theorem d_Law_27 : decode code 27 = .ok (.bipush 6, 2) := by decide +kernel
theorem d_Law_29 : decode code 29 = .ok (.isub, 1) := by decide +kernel
theorem d_Law_30 : decode code 30 = .ok (.if_icmp .gt 1007, 3) := by decide +kernel
theorem d_Law_33 : decode code 33 = .ok (.aload_n 0, 1) := by decide +kernel
theorem d_Law_34 : decode code 34 = .ok (.iload 4, 2) := by decide +kernel
theorem d_Law_36 : decode code 36 = .ok (.iaload, 1) := by decide +kernel
theorem d_Law_37 : decode code 37 = .ok (.bipush 31, 2) := by decide +kernel
theorem d_Law_39 : decode code 39 = .ok (.iand, 1) := by decide +kernel
theorem d_Law_40 : decode code 40 = .ok (.tableswitch 991 0 19 #[96, 109, 158, 195, 244, 337, 374, 411, 460, 485, 538, 607, 632, 701, 754, 791, 890, 915, 941, 966], 96) := by decide +kernel
theorem d_Law_136 : decode code 136 = .ok (.aload_n 1, 1) := by decide +kernel
theorem d_Law_137 : decode code 137 = .ok (.invokevirtual 19, 3) := by decide +kernel
theorem d_Law_140 : decode code 140 = .ok (.aload_n 2, 1) := by decide +kernel
theorem d_Law_141 : decode code 141 = .ok (.invokevirtual 23, 3) := by decide +kernel
theorem d_Law_144 : decode code 144 = .ok (.if_icmp .eq 887, 3) := by decide +kernel
theorem d_Law_147 : decode code 147 = .ok (.iconst 0, 1) := by decide +kernel
theorem d_Law_148 : decode code 148 = .ok (.ireturn, 1) := by decide +kernel
theorem d_Law_149 : decode code 149 = .ok (.aload_n 1, 1) := by decide +kernel
theorem d_Law_150 : decode code 150 = .ok (.aload_n 0, 1) := by decide +kernel
theorem d_Law_151 : decode code 151 = .ok (.iload 4, 2) := by decide +kernel
theorem d_Law_153 : decode code 153 = .ok (.iconst 1, 1) := by decide +kernel
theorem d_Law_154 : decode code 154 = .ok (.iadd, 1) := by decide +kernel
theorem d_Law_155 : decode code 155 = .ok (.iaload, 1) := by decide +kernel
theorem d_Law_156 : decode code 156 = .ok (.aload_n 0, 1) := by decide +kernel
theorem d_Law_157 : decode code 157 = .ok (.iload 4, 2) := by decide +kernel
theorem d_Law_159 : decode code 159 = .ok (.iconst 2, 1) := by decide +kernel
theorem d_Law_160 : decode code 160 = .ok (.iadd, 1) := by decide +kernel
theorem d_Law_161 : decode code 161 = .ok (.iaload, 1) := by decide +kernel
theorem d_Law_162 : decode code 162 = .ok (.aload_n 0, 1) := by decide +kernel
theorem d_Law_163 : decode code 163 = .ok (.iload 4, 2) := by decide +kernel
theorem d_Law_165 : decode code 165 = .ok (.iconst 3, 1) := by decide +kernel
theorem d_Law_166 : decode code 166 = .ok (.iadd, 1) := by decide +kernel
theorem d_Law_167 : decode code 167 = .ok (.iaload, 1) := by decide +kernel
theorem d_Law_168 : decode code 168 = .ok (.invokevirtual 24, 3) := by decide +kernel
theorem d_Law_171 : decode code 171 = .ok (.aload_n 2, 1) := by decide +kernel
theorem d_Law_172 : decode code 172 = .ok (.aload_n 0, 1) := by decide +kernel
theorem d_Law_173 : decode code 173 = .ok (.iload 4, 2) := by decide +kernel
theorem d_Law_175 : decode code 175 = .ok (.iconst 1, 1) := by decide +kernel
theorem d_Law_176 : decode code 176 = .ok (.iadd, 1) := by decide +kernel
theorem d_Law_177 : decode code 177 = .ok (.iaload, 1) := by decide +kernel
theorem d_Law_178 : decode code 178 = .ok (.aload_n 0, 1) := by decide +kernel
theorem d_Law_179 : decode code 179 = .ok (.iload 4, 2) := by decide +kernel
theorem d_Law_181 : decode code 181 = .ok (.iconst 2, 1) := by decide +kernel
theorem d_Law_182 : decode code 182 = .ok (.iadd, 1) := by decide +kernel
theorem d_Law_183 : decode code 183 = .ok (.iaload, 1) := by decide +kernel
theorem d_Law_184 : decode code 184 = .ok (.aload_n 0, 1) := by decide +kernel
theorem d_Law_185 : decode code 185 = .ok (.iload 4, 2) := by decide +kernel
theorem d_Law_187 : decode code 187 = .ok (.iconst 3, 1) := by decide +kernel
theorem d_Law_188 : decode code 188 = .ok (.iadd, 1) := by decide +kernel
theorem d_Law_189 : decode code 189 = .ok (.iaload, 1) := by decide +kernel
theorem d_Law_190 : decode code 190 = .ok (.invokevirtual 28, 3) := by decide +kernel
theorem d_Law_193 : decode code 193 = .ok (.if_icmp .eq 838, 3) := by decide +kernel
theorem d_Law_196 : decode code 196 = .ok (.iconst 0, 1) := by decide +kernel
theorem d_Law_197 : decode code 197 = .ok (.ireturn, 1) := by decide +kernel
theorem d_Law_198 : decode code 198 = .ok (.aload_n 1, 1) := by decide +kernel
theorem d_Law_199 : decode code 199 = .ok (.aload_n 0, 1) := by decide +kernel
theorem d_Law_200 : decode code 200 = .ok (.iload 4, 2) := by decide +kernel
theorem d_Law_202 : decode code 202 = .ok (.iconst 1, 1) := by decide +kernel
theorem d_Law_203 : decode code 203 = .ok (.iadd, 1) := by decide +kernel
theorem d_Law_204 : decode code 204 = .ok (.iaload, 1) := by decide +kernel
theorem d_Law_205 : decode code 205 = .ok (.aload_n 0, 1) := by decide +kernel
theorem d_Law_206 : decode code 206 = .ok (.iload 4, 2) := by decide +kernel
theorem d_Law_208 : decode code 208 = .ok (.iconst 2, 1) := by decide +kernel
theorem d_Law_209 : decode code 209 = .ok (.iadd, 1) := by decide +kernel
theorem d_Law_210 : decode code 210 = .ok (.iaload, 1) := by decide +kernel
theorem d_Law_211 : decode code 211 = .ok (.invokevirtual 29, 3) := by decide +kernel
theorem d_Law_214 : decode code 214 = .ok (.aload_n 2, 1) := by decide +kernel
theorem d_Law_215 : decode code 215 = .ok (.aload_n 0, 1) := by decide +kernel
theorem d_Law_216 : decode code 216 = .ok (.iload 4, 2) := by decide +kernel
theorem d_Law_218 : decode code 218 = .ok (.iconst 1, 1) := by decide +kernel
theorem d_Law_219 : decode code 219 = .ok (.iadd, 1) := by decide +kernel
theorem d_Law_220 : decode code 220 = .ok (.iaload, 1) := by decide +kernel
theorem d_Law_221 : decode code 221 = .ok (.aload_n 0, 1) := by decide +kernel
theorem d_Law_222 : decode code 222 = .ok (.iload 4, 2) := by decide +kernel
theorem d_Law_224 : decode code 224 = .ok (.iconst 2, 1) := by decide +kernel
theorem d_Law_225 : decode code 225 = .ok (.iadd, 1) := by decide +kernel
theorem d_Law_226 : decode code 226 = .ok (.iaload, 1) := by decide +kernel
theorem d_Law_227 : decode code 227 = .ok (.invokevirtual 33, 3) := by decide +kernel
theorem d_Law_230 : decode code 230 = .ok (.if_icmp .eq 801, 3) := by decide +kernel
theorem d_Law_233 : decode code 233 = .ok (.iconst 0, 1) := by decide +kernel
theorem d_Law_234 : decode code 234 = .ok (.ireturn, 1) := by decide +kernel
theorem d_Law_235 : decode code 235 = .ok (.aload_n 1, 1) := by decide +kernel
theorem d_Law_236 : decode code 236 = .ok (.aload_n 0, 1) := by decide +kernel
theorem d_Law_237 : decode code 237 = .ok (.iload 4, 2) := by decide +kernel
theorem d_Law_239 : decode code 239 = .ok (.iconst 1, 1) := by decide +kernel
theorem d_Law_240 : decode code 240 = .ok (.iadd, 1) := by decide +kernel
theorem d_Law_241 : decode code 241 = .ok (.iaload, 1) := by decide +kernel
theorem d_Law_242 : decode code 242 = .ok (.aload_n 0, 1) := by decide +kernel
theorem d_Law_243 : decode code 243 = .ok (.iload 4, 2) := by decide +kernel
theorem d_Law_245 : decode code 245 = .ok (.iconst 2, 1) := by decide +kernel
theorem d_Law_246 : decode code 246 = .ok (.iadd, 1) := by decide +kernel
theorem d_Law_247 : decode code 247 = .ok (.iaload, 1) := by decide +kernel
theorem d_Law_248 : decode code 248 = .ok (.aload_n 0, 1) := by decide +kernel
theorem d_Law_249 : decode code 249 = .ok (.iload 4, 2) := by decide +kernel
theorem d_Law_251 : decode code 251 = .ok (.iconst 3, 1) := by decide +kernel
theorem d_Law_252 : decode code 252 = .ok (.iadd, 1) := by decide +kernel
theorem d_Law_253 : decode code 253 = .ok (.iaload, 1) := by decide +kernel
theorem d_Law_254 : decode code 254 = .ok (.invokevirtual 34, 3) := by decide +kernel
theorem d_Law_257 : decode code 257 = .ok (.aload_n 2, 1) := by decide +kernel
theorem d_Law_258 : decode code 258 = .ok (.aload_n 0, 1) := by decide +kernel
theorem d_Law_259 : decode code 259 = .ok (.iload 4, 2) := by decide +kernel
theorem d_Law_261 : decode code 261 = .ok (.iconst 1, 1) := by decide +kernel
theorem d_Law_262 : decode code 262 = .ok (.iadd, 1) := by decide +kernel
theorem d_Law_263 : decode code 263 = .ok (.iaload, 1) := by decide +kernel
theorem d_Law_264 : decode code 264 = .ok (.aload_n 0, 1) := by decide +kernel
theorem d_Law_265 : decode code 265 = .ok (.iload 4, 2) := by decide +kernel
theorem d_Law_267 : decode code 267 = .ok (.iconst 2, 1) := by decide +kernel
theorem d_Law_268 : decode code 268 = .ok (.iadd, 1) := by decide +kernel
theorem d_Law_269 : decode code 269 = .ok (.iaload, 1) := by decide +kernel
theorem d_Law_270 : decode code 270 = .ok (.aload_n 0, 1) := by decide +kernel
theorem d_Law_271 : decode code 271 = .ok (.iload 4, 2) := by decide +kernel
theorem d_Law_273 : decode code 273 = .ok (.iconst 3, 1) := by decide +kernel
theorem d_Law_274 : decode code 274 = .ok (.iadd, 1) := by decide +kernel
theorem d_Law_275 : decode code 275 = .ok (.iaload, 1) := by decide +kernel
theorem d_Law_276 : decode code 276 = .ok (.invokevirtual 37, 3) := by decide +kernel
theorem d_Law_279 : decode code 279 = .ok (.if_icmp .eq 752, 3) := by decide +kernel
theorem d_Law_282 : decode code 282 = .ok (.iconst 0, 1) := by decide +kernel
theorem d_Law_283 : decode code 283 = .ok (.ireturn, 1) := by decide +kernel
theorem d_Law_284 : decode code 284 = .ok (.aload_n 1, 1) := by decide +kernel
theorem d_Law_285 : decode code 285 = .ok (.aload_n 0, 1) := by decide +kernel
theorem d_Law_286 : decode code 286 = .ok (.iload 4, 2) := by decide +kernel
theorem d_Law_288 : decode code 288 = .ok (.iconst 1, 1) := by decide +kernel
theorem d_Law_289 : decode code 289 = .ok (.iadd, 1) := by decide +kernel
theorem d_Law_290 : decode code 290 = .ok (.iaload, 1) := by decide +kernel
theorem d_Law_291 : decode code 291 = .ok (.aload_n 0, 1) := by decide +kernel
theorem d_Law_292 : decode code 292 = .ok (.iload 4, 2) := by decide +kernel
theorem d_Law_294 : decode code 294 = .ok (.iconst 2, 1) := by decide +kernel
theorem d_Law_295 : decode code 295 = .ok (.iadd, 1) := by decide +kernel
theorem d_Law_296 : decode code 296 = .ok (.iaload, 1) := by decide +kernel
theorem d_Law_297 : decode code 297 = .ok (.aload_n 0, 1) := by decide +kernel
theorem d_Law_298 : decode code 298 = .ok (.iload 4, 2) := by decide +kernel
theorem d_Law_300 : decode code 300 = .ok (.iconst 3, 1) := by decide +kernel
theorem d_Law_301 : decode code 301 = .ok (.iadd, 1) := by decide +kernel
theorem d_Law_302 : decode code 302 = .ok (.iaload, 1) := by decide +kernel
theorem d_Law_303 : decode code 303 = .ok (.aload_n 0, 1) := by decide +kernel
theorem d_Law_304 : decode code 304 = .ok (.iload 4, 2) := by decide +kernel
theorem d_Law_306 : decode code 306 = .ok (.iconst 4, 1) := by decide +kernel
theorem d_Law_307 : decode code 307 = .ok (.iadd, 1) := by decide +kernel
theorem d_Law_308 : decode code 308 = .ok (.iaload, 1) := by decide +kernel
theorem d_Law_309 : decode code 309 = .ok (.i2l, 1) := by decide +kernel
theorem d_Law_310 : decode code 310 = .ok (.bipush 32, 2) := by decide +kernel
theorem d_Law_312 : decode code 312 = .ok (.lshl, 1) := by decide +kernel
theorem d_Law_313 : decode code 313 = .ok (.aload_n 0, 1) := by decide +kernel
theorem d_Law_314 : decode code 314 = .ok (.iload 4, 2) := by decide +kernel
theorem d_Law_316 : decode code 316 = .ok (.iconst 5, 1) := by decide +kernel
theorem d_Law_317 : decode code 317 = .ok (.iadd, 1) := by decide +kernel
theorem d_Law_318 : decode code 318 = .ok (.iaload, 1) := by decide +kernel
theorem d_Law_319 : decode code 319 = .ok (.i2l, 1) := by decide +kernel
theorem d_Law_320 : decode code 320 = .ok (.ldc2_w 38, 3) := by decide +kernel
theorem d_Law_323 : decode code 323 = .ok (.land, 1) := by decide +kernel
theorem d_Law_324 : decode code 324 = .ok (.lor, 1) := by decide +kernel
theorem d_Law_325 : decode code 325 = .ok (.invokevirtual 40, 3) := by decide +kernel
theorem d_Law_328 : decode code 328 = .ok (.aload_n 2, 1) := by decide +kernel
theorem d_Law_329 : decode code 329 = .ok (.aload_n 0, 1) := by decide +kernel
theorem d_Law_330 : decode code 330 = .ok (.iload 4, 2) := by decide +kernel
theorem d_Law_332 : decode code 332 = .ok (.iconst 1, 1) := by decide +kernel
theorem d_Law_333 : decode code 333 = .ok (.iadd, 1) := by decide +kernel
theorem d_Law_334 : decode code 334 = .ok (.iaload, 1) := by decide +kernel
theorem d_Law_335 : decode code 335 = .ok (.aload_n 0, 1) := by decide +kernel
theorem d_Law_336 : decode code 336 = .ok (.iload 4, 2) := by decide +kernel
theorem d_Law_338 : decode code 338 = .ok (.iconst 2, 1) := by decide +kernel
theorem d_Law_339 : decode code 339 = .ok (.iadd, 1) := by decide +kernel
theorem d_Law_340 : decode code 340 = .ok (.iaload, 1) := by decide +kernel
theorem d_Law_341 : decode code 341 = .ok (.aload_n 0, 1) := by decide +kernel
theorem d_Law_342 : decode code 342 = .ok (.iload 4, 2) := by decide +kernel
theorem d_Law_344 : decode code 344 = .ok (.iconst 3, 1) := by decide +kernel
theorem d_Law_345 : decode code 345 = .ok (.iadd, 1) := by decide +kernel
theorem d_Law_346 : decode code 346 = .ok (.iaload, 1) := by decide +kernel
theorem d_Law_347 : decode code 347 = .ok (.aload_n 0, 1) := by decide +kernel
theorem d_Law_348 : decode code 348 = .ok (.iload 4, 2) := by decide +kernel
theorem d_Law_350 : decode code 350 = .ok (.iconst 4, 1) := by decide +kernel
theorem d_Law_351 : decode code 351 = .ok (.iadd, 1) := by decide +kernel
theorem d_Law_352 : decode code 352 = .ok (.iaload, 1) := by decide +kernel
theorem d_Law_353 : decode code 353 = .ok (.i2l, 1) := by decide +kernel
theorem d_Law_354 : decode code 354 = .ok (.bipush 32, 2) := by decide +kernel
theorem d_Law_356 : decode code 356 = .ok (.lshl, 1) := by decide +kernel
theorem d_Law_357 : decode code 357 = .ok (.aload_n 0, 1) := by decide +kernel
theorem d_Law_358 : decode code 358 = .ok (.iload 4, 2) := by decide +kernel
theorem d_Law_360 : decode code 360 = .ok (.iconst 5, 1) := by decide +kernel
theorem d_Law_361 : decode code 361 = .ok (.iadd, 1) := by decide +kernel
theorem d_Law_362 : decode code 362 = .ok (.iaload, 1) := by decide +kernel
theorem d_Law_363 : decode code 363 = .ok (.i2l, 1) := by decide +kernel
theorem d_Law_364 : decode code 364 = .ok (.ldc2_w 38, 3) := by decide +kernel
theorem d_Law_367 : decode code 367 = .ok (.land, 1) := by decide +kernel
theorem d_Law_368 : decode code 368 = .ok (.lor, 1) := by decide +kernel
theorem d_Law_369 : decode code 369 = .ok (.invokevirtual 44, 3) := by decide +kernel
theorem d_Law_372 : decode code 372 = .ok (.if_icmp .eq 659, 3) := by decide +kernel
theorem d_Law_375 : decode code 375 = .ok (.iconst 0, 1) := by decide +kernel
theorem d_Law_376 : decode code 376 = .ok (.ireturn, 1) := by decide +kernel
theorem d_Law_377 : decode code 377 = .ok (.aload_n 1, 1) := by decide +kernel
theorem d_Law_378 : decode code 378 = .ok (.aload_n 0, 1) := by decide +kernel
theorem d_Law_379 : decode code 379 = .ok (.iload 4, 2) := by decide +kernel
theorem d_Law_381 : decode code 381 = .ok (.iconst 1, 1) := by decide +kernel
theorem d_Law_382 : decode code 382 = .ok (.iadd, 1) := by decide +kernel
theorem d_Law_383 : decode code 383 = .ok (.iaload, 1) := by decide +kernel
theorem d_Law_384 : decode code 384 = .ok (.aload_n 0, 1) := by decide +kernel
theorem d_Law_385 : decode code 385 = .ok (.iload 4, 2) := by decide +kernel
theorem d_Law_387 : decode code 387 = .ok (.iconst 2, 1) := by decide +kernel
theorem d_Law_388 : decode code 388 = .ok (.iadd, 1) := by decide +kernel
theorem d_Law_389 : decode code 389 = .ok (.iaload, 1) := by decide +kernel
theorem d_Law_390 : decode code 390 = .ok (.invokevirtual 45, 3) := by decide +kernel
theorem d_Law_393 : decode code 393 = .ok (.aload_n 2, 1) := by decide +kernel
theorem d_Law_394 : decode code 394 = .ok (.aload_n 0, 1) := by decide +kernel
theorem d_Law_395 : decode code 395 = .ok (.iload 4, 2) := by decide +kernel
theorem d_Law_397 : decode code 397 = .ok (.iconst 1, 1) := by decide +kernel
theorem d_Law_398 : decode code 398 = .ok (.iadd, 1) := by decide +kernel
theorem d_Law_399 : decode code 399 = .ok (.iaload, 1) := by decide +kernel
theorem d_Law_400 : decode code 400 = .ok (.aload_n 0, 1) := by decide +kernel
theorem d_Law_401 : decode code 401 = .ok (.iload 4, 2) := by decide +kernel
theorem d_Law_403 : decode code 403 = .ok (.iconst 2, 1) := by decide +kernel
theorem d_Law_404 : decode code 404 = .ok (.iadd, 1) := by decide +kernel
theorem d_Law_405 : decode code 405 = .ok (.iaload, 1) := by decide +kernel
theorem d_Law_406 : decode code 406 = .ok (.invokevirtual 48, 3) := by decide +kernel
theorem d_Law_409 : decode code 409 = .ok (.if_icmp .eq 622, 3) := by decide +kernel
theorem d_Law_412 : decode code 412 = .ok (.iconst 0, 1) := by decide +kernel
theorem d_Law_413 : decode code 413 = .ok (.ireturn, 1) := by decide +kernel
theorem d_Law_414 : decode code 414 = .ok (.aload_n 1, 1) := by decide +kernel
theorem d_Law_415 : decode code 415 = .ok (.aload_n 0, 1) := by decide +kernel
theorem d_Law_416 : decode code 416 = .ok (.iload 4, 2) := by decide +kernel
theorem d_Law_418 : decode code 418 = .ok (.iconst 1, 1) := by decide +kernel
theorem d_Law_419 : decode code 419 = .ok (.iadd, 1) := by decide +kernel
theorem d_Law_420 : decode code 420 = .ok (.iaload, 1) := by decide +kernel
theorem d_Law_421 : decode code 421 = .ok (.aload_n 0, 1) := by decide +kernel
theorem d_Law_422 : decode code 422 = .ok (.iload 4, 2) := by decide +kernel
theorem d_Law_424 : decode code 424 = .ok (.iconst 2, 1) := by decide +kernel
theorem d_Law_425 : decode code 425 = .ok (.iadd, 1) := by decide +kernel
theorem d_Law_426 : decode code 426 = .ok (.iaload, 1) := by decide +kernel
theorem d_Law_427 : decode code 427 = .ok (.invokevirtual 49, 3) := by decide +kernel
theorem d_Law_430 : decode code 430 = .ok (.aload_n 2, 1) := by decide +kernel
theorem d_Law_431 : decode code 431 = .ok (.aload_n 0, 1) := by decide +kernel
theorem d_Law_432 : decode code 432 = .ok (.iload 4, 2) := by decide +kernel
theorem d_Law_434 : decode code 434 = .ok (.iconst 1, 1) := by decide +kernel
theorem d_Law_435 : decode code 435 = .ok (.iadd, 1) := by decide +kernel
theorem d_Law_436 : decode code 436 = .ok (.iaload, 1) := by decide +kernel
theorem d_Law_437 : decode code 437 = .ok (.aload_n 0, 1) := by decide +kernel
theorem d_Law_438 : decode code 438 = .ok (.iload 4, 2) := by decide +kernel
theorem d_Law_440 : decode code 440 = .ok (.iconst 2, 1) := by decide +kernel
theorem d_Law_441 : decode code 441 = .ok (.iadd, 1) := by decide +kernel
theorem d_Law_442 : decode code 442 = .ok (.iaload, 1) := by decide +kernel
theorem d_Law_443 : decode code 443 = .ok (.invokevirtual 52, 3) := by decide +kernel
theorem d_Law_446 : decode code 446 = .ok (.if_icmp .eq 585, 3) := by decide +kernel
theorem d_Law_449 : decode code 449 = .ok (.iconst 0, 1) := by decide +kernel
theorem d_Law_450 : decode code 450 = .ok (.ireturn, 1) := by decide +kernel
theorem d_Law_451 : decode code 451 = .ok (.aload_n 1, 1) := by decide +kernel
theorem d_Law_452 : decode code 452 = .ok (.aload_n 0, 1) := by decide +kernel
theorem d_Law_453 : decode code 453 = .ok (.iload 4, 2) := by decide +kernel
theorem d_Law_455 : decode code 455 = .ok (.iconst 1, 1) := by decide +kernel
theorem d_Law_456 : decode code 456 = .ok (.iadd, 1) := by decide +kernel
theorem d_Law_457 : decode code 457 = .ok (.iaload, 1) := by decide +kernel
theorem d_Law_458 : decode code 458 = .ok (.aload_n 0, 1) := by decide +kernel
theorem d_Law_459 : decode code 459 = .ok (.iload 4, 2) := by decide +kernel
theorem d_Law_461 : decode code 461 = .ok (.iconst 2, 1) := by decide +kernel
theorem d_Law_462 : decode code 462 = .ok (.iadd, 1) := by decide +kernel
theorem d_Law_463 : decode code 463 = .ok (.iaload, 1) := by decide +kernel
theorem d_Law_464 : decode code 464 = .ok (.aload_n 0, 1) := by decide +kernel
theorem d_Law_465 : decode code 465 = .ok (.iload 4, 2) := by decide +kernel
theorem d_Law_467 : decode code 467 = .ok (.iconst 3, 1) := by decide +kernel
theorem d_Law_468 : decode code 468 = .ok (.iadd, 1) := by decide +kernel
theorem d_Law_469 : decode code 469 = .ok (.iaload, 1) := by decide +kernel
theorem d_Law_470 : decode code 470 = .ok (.invokevirtual 53, 3) := by decide +kernel
theorem d_Law_473 : decode code 473 = .ok (.aload_n 2, 1) := by decide +kernel
theorem d_Law_474 : decode code 474 = .ok (.aload_n 0, 1) := by decide +kernel
theorem d_Law_475 : decode code 475 = .ok (.iload 4, 2) := by decide +kernel
theorem d_Law_477 : decode code 477 = .ok (.iconst 1, 1) := by decide +kernel
theorem d_Law_478 : decode code 478 = .ok (.iadd, 1) := by decide +kernel
theorem d_Law_479 : decode code 479 = .ok (.iaload, 1) := by decide +kernel
theorem d_Law_480 : decode code 480 = .ok (.aload_n 0, 1) := by decide +kernel
theorem d_Law_481 : decode code 481 = .ok (.iload 4, 2) := by decide +kernel
theorem d_Law_483 : decode code 483 = .ok (.iconst 2, 1) := by decide +kernel
theorem d_Law_484 : decode code 484 = .ok (.iadd, 1) := by decide +kernel
theorem d_Law_485 : decode code 485 = .ok (.iaload, 1) := by decide +kernel
theorem d_Law_486 : decode code 486 = .ok (.aload_n 0, 1) := by decide +kernel
theorem d_Law_487 : decode code 487 = .ok (.iload 4, 2) := by decide +kernel
theorem d_Law_489 : decode code 489 = .ok (.iconst 3, 1) := by decide +kernel
theorem d_Law_490 : decode code 490 = .ok (.iadd, 1) := by decide +kernel
theorem d_Law_491 : decode code 491 = .ok (.iaload, 1) := by decide +kernel
theorem d_Law_492 : decode code 492 = .ok (.invokevirtual 56, 3) := by decide +kernel
theorem d_Law_495 : decode code 495 = .ok (.if_icmp .eq 536, 3) := by decide +kernel
theorem d_Law_498 : decode code 498 = .ok (.iconst 0, 1) := by decide +kernel
theorem d_Law_499 : decode code 499 = .ok (.ireturn, 1) := by decide +kernel
theorem d_Law_500 : decode code 500 = .ok (.aload_n 1, 1) := by decide +kernel
theorem d_Law_501 : decode code 501 = .ok (.aload_n 0, 1) := by decide +kernel
theorem d_Law_502 : decode code 502 = .ok (.iload 4, 2) := by decide +kernel
theorem d_Law_504 : decode code 504 = .ok (.iconst 1, 1) := by decide +kernel
theorem d_Law_505 : decode code 505 = .ok (.iadd, 1) := by decide +kernel
theorem d_Law_506 : decode code 506 = .ok (.iaload, 1) := by decide +kernel
theorem d_Law_507 : decode code 507 = .ok (.invokevirtual 57, 3) := by decide +kernel
theorem d_Law_510 : decode code 510 = .ok (.aload_n 2, 1) := by decide +kernel
theorem d_Law_511 : decode code 511 = .ok (.aload_n 0, 1) := by decide +kernel
theorem d_Law_512 : decode code 512 = .ok (.iload 4, 2) := by decide +kernel
theorem d_Law_514 : decode code 514 = .ok (.iconst 1, 1) := by decide +kernel
theorem d_Law_515 : decode code 515 = .ok (.iadd, 1) := by decide +kernel
theorem d_Law_516 : decode code 516 = .ok (.iaload, 1) := by decide +kernel
theorem d_Law_517 : decode code 517 = .ok (.invokevirtual 61, 3) := by decide +kernel
theorem d_Law_520 : decode code 520 = .ok (.if_icmp .eq 511, 3) := by decide +kernel
theorem d_Law_523 : decode code 523 = .ok (.iconst 0, 1) := by decide +kernel
theorem d_Law_524 : decode code 524 = .ok (.ireturn, 1) := by decide +kernel
theorem d_Law_525 : decode code 525 = .ok (.aload_n 1, 1) := by decide +kernel
theorem d_Law_526 : decode code 526 = .ok (.aload_n 0, 1) := by decide +kernel
theorem d_Law_527 : decode code 527 = .ok (.iload 4, 2) := by decide +kernel
theorem d_Law_529 : decode code 529 = .ok (.iconst 1, 1) := by decide +kernel
theorem d_Law_530 : decode code 530 = .ok (.iadd, 1) := by decide +kernel
theorem d_Law_531 : decode code 531 = .ok (.iaload, 1) := by decide +kernel
theorem d_Law_532 : decode code 532 = .ok (.aload_n 0, 1) := by decide +kernel
theorem d_Law_533 : decode code 533 = .ok (.iload 4, 2) := by decide +kernel
theorem d_Law_535 : decode code 535 = .ok (.iconst 2, 1) := by decide +kernel
theorem d_Law_536 : decode code 536 = .ok (.iadd, 1) := by decide +kernel
theorem d_Law_537 : decode code 537 = .ok (.iaload, 1) := by decide +kernel
theorem d_Law_538 : decode code 538 = .ok (.ifCond .eq 7, 3) := by decide +kernel
theorem d_Law_541 : decode code 541 = .ok (.iconst 1, 1) := by decide +kernel
theorem d_Law_542 : decode code 542 = .ok (.goto 4, 3) := by decide +kernel
theorem d_Law_545 : decode code 545 = .ok (.iconst 0, 1) := by decide +kernel
theorem d_Law_546 : decode code 546 = .ok (.invokevirtual 62, 3) := by decide +kernel
theorem d_Law_549 : decode code 549 = .ok (.aload_n 2, 1) := by decide +kernel
theorem d_Law_550 : decode code 550 = .ok (.aload_n 0, 1) := by decide +kernel
theorem d_Law_551 : decode code 551 = .ok (.iload 4, 2) := by decide +kernel
theorem d_Law_553 : decode code 553 = .ok (.iconst 1, 1) := by decide +kernel
theorem d_Law_554 : decode code 554 = .ok (.iadd, 1) := by decide +kernel
theorem d_Law_555 : decode code 555 = .ok (.iaload, 1) := by decide +kernel
theorem d_Law_556 : decode code 556 = .ok (.aload_n 0, 1) := by decide +kernel
theorem d_Law_557 : decode code 557 = .ok (.iload 4, 2) := by decide +kernel
theorem d_Law_559 : decode code 559 = .ok (.iconst 2, 1) := by decide +kernel
theorem d_Law_560 : decode code 560 = .ok (.iadd, 1) := by decide +kernel
theorem d_Law_561 : decode code 561 = .ok (.iaload, 1) := by decide +kernel
theorem d_Law_562 : decode code 562 = .ok (.ifCond .eq 7, 3) := by decide +kernel
theorem d_Law_565 : decode code 565 = .ok (.iconst 1, 1) := by decide +kernel
theorem d_Law_566 : decode code 566 = .ok (.goto 4, 3) := by decide +kernel
theorem d_Law_569 : decode code 569 = .ok (.iconst 0, 1) := by decide +kernel
theorem d_Law_570 : decode code 570 = .ok (.invokevirtual 66, 3) := by decide +kernel
theorem d_Law_573 : decode code 573 = .ok (.if_icmp .eq 458, 3) := by decide +kernel
theorem d_Law_576 : decode code 576 = .ok (.iconst 0, 1) := by decide +kernel
theorem d_Law_577 : decode code 577 = .ok (.ireturn, 1) := by decide +kernel
theorem d_Law_578 : decode code 578 = .ok (.aload_n 1, 1) := by decide +kernel
theorem d_Law_579 : decode code 579 = .ok (.aload_n 0, 1) := by decide +kernel
theorem d_Law_580 : decode code 580 = .ok (.iload 4, 2) := by decide +kernel
theorem d_Law_582 : decode code 582 = .ok (.iconst 1, 1) := by decide +kernel
theorem d_Law_583 : decode code 583 = .ok (.iadd, 1) := by decide +kernel
theorem d_Law_584 : decode code 584 = .ok (.iaload, 1) := by decide +kernel
theorem d_Law_585 : decode code 585 = .ok (.aload_n 0, 1) := by decide +kernel
theorem d_Law_586 : decode code 586 = .ok (.iload 4, 2) := by decide +kernel
theorem d_Law_588 : decode code 588 = .ok (.iconst 2, 1) := by decide +kernel
theorem d_Law_589 : decode code 589 = .ok (.iadd, 1) := by decide +kernel
theorem d_Law_590 : decode code 590 = .ok (.iaload, 1) := by decide +kernel
theorem d_Law_591 : decode code 591 = .ok (.i2l, 1) := by decide +kernel
theorem d_Law_592 : decode code 592 = .ok (.bipush 32, 2) := by decide +kernel
theorem d_Law_594 : decode code 594 = .ok (.lshl, 1) := by decide +kernel
theorem d_Law_595 : decode code 595 = .ok (.aload_n 0, 1) := by decide +kernel
theorem d_Law_596 : decode code 596 = .ok (.iload 4, 2) := by decide +kernel
theorem d_Law_598 : decode code 598 = .ok (.iconst 3, 1) := by decide +kernel
theorem d_Law_599 : decode code 599 = .ok (.iadd, 1) := by decide +kernel
theorem d_Law_600 : decode code 600 = .ok (.iaload, 1) := by decide +kernel
theorem d_Law_601 : decode code 601 = .ok (.i2l, 1) := by decide +kernel
theorem d_Law_602 : decode code 602 = .ok (.ldc2_w 38, 3) := by decide +kernel
theorem d_Law_605 : decode code 605 = .ok (.land, 1) := by decide +kernel
theorem d_Law_606 : decode code 606 = .ok (.lor, 1) := by decide +kernel
theorem d_Law_607 : decode code 607 = .ok (.invokevirtual 67, 3) := by decide +kernel
theorem d_Law_610 : decode code 610 = .ok (.aload_n 2, 1) := by decide +kernel
theorem d_Law_611 : decode code 611 = .ok (.aload_n 0, 1) := by decide +kernel
theorem d_Law_612 : decode code 612 = .ok (.iload 4, 2) := by decide +kernel
theorem d_Law_614 : decode code 614 = .ok (.iconst 1, 1) := by decide +kernel
theorem d_Law_615 : decode code 615 = .ok (.iadd, 1) := by decide +kernel
theorem d_Law_616 : decode code 616 = .ok (.iaload, 1) := by decide +kernel
theorem d_Law_617 : decode code 617 = .ok (.aload_n 0, 1) := by decide +kernel
theorem d_Law_618 : decode code 618 = .ok (.iload 4, 2) := by decide +kernel
theorem d_Law_620 : decode code 620 = .ok (.iconst 2, 1) := by decide +kernel
theorem d_Law_621 : decode code 621 = .ok (.iadd, 1) := by decide +kernel
theorem d_Law_622 : decode code 622 = .ok (.iaload, 1) := by decide +kernel
theorem d_Law_623 : decode code 623 = .ok (.i2l, 1) := by decide +kernel
theorem d_Law_624 : decode code 624 = .ok (.bipush 32, 2) := by decide +kernel
theorem d_Law_626 : decode code 626 = .ok (.lshl, 1) := by decide +kernel
theorem d_Law_627 : decode code 627 = .ok (.aload_n 0, 1) := by decide +kernel
theorem d_Law_628 : decode code 628 = .ok (.iload 4, 2) := by decide +kernel
theorem d_Law_630 : decode code 630 = .ok (.iconst 3, 1) := by decide +kernel
theorem d_Law_631 : decode code 631 = .ok (.iadd, 1) := by decide +kernel
theorem d_Law_632 : decode code 632 = .ok (.iaload, 1) := by decide +kernel
theorem d_Law_633 : decode code 633 = .ok (.i2l, 1) := by decide +kernel
theorem d_Law_634 : decode code 634 = .ok (.ldc2_w 38, 3) := by decide +kernel
theorem d_Law_637 : decode code 637 = .ok (.land, 1) := by decide +kernel
theorem d_Law_638 : decode code 638 = .ok (.lor, 1) := by decide +kernel
theorem d_Law_639 : decode code 639 = .ok (.invokevirtual 71, 3) := by decide +kernel
theorem d_Law_642 : decode code 642 = .ok (.if_icmp .eq 389, 3) := by decide +kernel
theorem d_Law_645 : decode code 645 = .ok (.iconst 0, 1) := by decide +kernel
theorem d_Law_646 : decode code 646 = .ok (.ireturn, 1) := by decide +kernel
theorem d_Law_647 : decode code 647 = .ok (.aload_n 1, 1) := by decide +kernel
theorem d_Law_648 : decode code 648 = .ok (.aload_n 0, 1) := by decide +kernel
theorem d_Law_649 : decode code 649 = .ok (.iload 4, 2) := by decide +kernel
theorem d_Law_651 : decode code 651 = .ok (.iconst 1, 1) := by decide +kernel
theorem d_Law_652 : decode code 652 = .ok (.iadd, 1) := by decide +kernel
theorem d_Law_653 : decode code 653 = .ok (.iaload, 1) := by decide +kernel
theorem d_Law_654 : decode code 654 = .ok (.invokevirtual 72, 3) := by decide +kernel
theorem d_Law_657 : decode code 657 = .ok (.aload_n 2, 1) := by decide +kernel
theorem d_Law_658 : decode code 658 = .ok (.aload_n 0, 1) := by decide +kernel
theorem d_Law_659 : decode code 659 = .ok (.iload 4, 2) := by decide +kernel
theorem d_Law_661 : decode code 661 = .ok (.iconst 1, 1) := by decide +kernel
theorem d_Law_662 : decode code 662 = .ok (.iadd, 1) := by decide +kernel
theorem d_Law_663 : decode code 663 = .ok (.iaload, 1) := by decide +kernel
theorem d_Law_664 : decode code 664 = .ok (.invokevirtual 75, 3) := by decide +kernel
theorem d_Law_667 : decode code 667 = .ok (.if_icmp .eq 364, 3) := by decide +kernel
theorem d_Law_670 : decode code 670 = .ok (.iconst 0, 1) := by decide +kernel
theorem d_Law_671 : decode code 671 = .ok (.ireturn, 1) := by decide +kernel
theorem d_Law_672 : decode code 672 = .ok (.aload_n 1, 1) := by decide +kernel
theorem d_Law_673 : decode code 673 = .ok (.aload_n 0, 1) := by decide +kernel
theorem d_Law_674 : decode code 674 = .ok (.iload 4, 2) := by decide +kernel
theorem d_Law_676 : decode code 676 = .ok (.iconst 1, 1) := by decide +kernel
theorem d_Law_677 : decode code 677 = .ok (.iadd, 1) := by decide +kernel
theorem d_Law_678 : decode code 678 = .ok (.iaload, 1) := by decide +kernel
theorem d_Law_679 : decode code 679 = .ok (.i2l, 1) := by decide +kernel
theorem d_Law_680 : decode code 680 = .ok (.bipush 32, 2) := by decide +kernel
theorem d_Law_682 : decode code 682 = .ok (.lshl, 1) := by decide +kernel
theorem d_Law_683 : decode code 683 = .ok (.aload_n 0, 1) := by decide +kernel
theorem d_Law_684 : decode code 684 = .ok (.iload 4, 2) := by decide +kernel
theorem d_Law_686 : decode code 686 = .ok (.iconst 2, 1) := by decide +kernel
theorem d_Law_687 : decode code 687 = .ok (.iadd, 1) := by decide +kernel
theorem d_Law_688 : decode code 688 = .ok (.iaload, 1) := by decide +kernel
theorem d_Law_689 : decode code 689 = .ok (.i2l, 1) := by decide +kernel
theorem d_Law_690 : decode code 690 = .ok (.ldc2_w 38, 3) := by decide +kernel
theorem d_Law_693 : decode code 693 = .ok (.land, 1) := by decide +kernel
theorem d_Law_694 : decode code 694 = .ok (.lor, 1) := by decide +kernel
theorem d_Law_695 : decode code 695 = .ok (.aload_n 0, 1) := by decide +kernel
theorem d_Law_696 : decode code 696 = .ok (.iload 4, 2) := by decide +kernel
theorem d_Law_698 : decode code 698 = .ok (.iconst 3, 1) := by decide +kernel
theorem d_Law_699 : decode code 699 = .ok (.iadd, 1) := by decide +kernel
theorem d_Law_700 : decode code 700 = .ok (.iaload, 1) := by decide +kernel
theorem d_Law_701 : decode code 701 = .ok (.invokevirtual 76, 3) := by decide +kernel
theorem d_Law_704 : decode code 704 = .ok (.aload_n 2, 1) := by decide +kernel
theorem d_Law_705 : decode code 705 = .ok (.aload_n 0, 1) := by decide +kernel
theorem d_Law_706 : decode code 706 = .ok (.iload 4, 2) := by decide +kernel
theorem d_Law_708 : decode code 708 = .ok (.iconst 1, 1) := by decide +kernel
theorem d_Law_709 : decode code 709 = .ok (.iadd, 1) := by decide +kernel
theorem d_Law_710 : decode code 710 = .ok (.iaload, 1) := by decide +kernel
theorem d_Law_711 : decode code 711 = .ok (.i2l, 1) := by decide +kernel
theorem d_Law_712 : decode code 712 = .ok (.bipush 32, 2) := by decide +kernel
theorem d_Law_714 : decode code 714 = .ok (.lshl, 1) := by decide +kernel
theorem d_Law_715 : decode code 715 = .ok (.aload_n 0, 1) := by decide +kernel
theorem d_Law_716 : decode code 716 = .ok (.iload 4, 2) := by decide +kernel
theorem d_Law_718 : decode code 718 = .ok (.iconst 2, 1) := by decide +kernel
theorem d_Law_719 : decode code 719 = .ok (.iadd, 1) := by decide +kernel
theorem d_Law_720 : decode code 720 = .ok (.iaload, 1) := by decide +kernel
theorem d_Law_721 : decode code 721 = .ok (.i2l, 1) := by decide +kernel
theorem d_Law_722 : decode code 722 = .ok (.ldc2_w 38, 3) := by decide +kernel
theorem d_Law_725 : decode code 725 = .ok (.land, 1) := by decide +kernel
theorem d_Law_726 : decode code 726 = .ok (.lor, 1) := by decide +kernel
theorem d_Law_727 : decode code 727 = .ok (.aload_n 0, 1) := by decide +kernel
theorem d_Law_728 : decode code 728 = .ok (.iload 4, 2) := by decide +kernel
theorem d_Law_730 : decode code 730 = .ok (.iconst 3, 1) := by decide +kernel
theorem d_Law_731 : decode code 731 = .ok (.iadd, 1) := by decide +kernel
theorem d_Law_732 : decode code 732 = .ok (.iaload, 1) := by decide +kernel
theorem d_Law_733 : decode code 733 = .ok (.invokevirtual 80, 3) := by decide +kernel
theorem d_Law_736 : decode code 736 = .ok (.if_icmp .eq 295, 3) := by decide +kernel
theorem d_Law_739 : decode code 739 = .ok (.iconst 0, 1) := by decide +kernel
theorem d_Law_740 : decode code 740 = .ok (.ireturn, 1) := by decide +kernel
theorem d_Law_741 : decode code 741 = .ok (.aload_n 1, 1) := by decide +kernel
theorem d_Law_742 : decode code 742 = .ok (.aload_n 0, 1) := by decide +kernel
theorem d_Law_743 : decode code 743 = .ok (.iload 4, 2) := by decide +kernel
theorem d_Law_745 : decode code 745 = .ok (.iconst 1, 1) := by decide +kernel
theorem d_Law_746 : decode code 746 = .ok (.iadd, 1) := by decide +kernel
theorem d_Law_747 : decode code 747 = .ok (.iaload, 1) := by decide +kernel
theorem d_Law_748 : decode code 748 = .ok (.aload_n 0, 1) := by decide +kernel
theorem d_Law_749 : decode code 749 = .ok (.iload 4, 2) := by decide +kernel
theorem d_Law_751 : decode code 751 = .ok (.iconst 2, 1) := by decide +kernel
theorem d_Law_752 : decode code 752 = .ok (.iadd, 1) := by decide +kernel
theorem d_Law_753 : decode code 753 = .ok (.iaload, 1) := by decide +kernel
theorem d_Law_754 : decode code 754 = .ok (.ifCond .eq 7, 3) := by decide +kernel
theorem d_Law_757 : decode code 757 = .ok (.iconst 1, 1) := by decide +kernel
theorem d_Law_758 : decode code 758 = .ok (.goto 4, 3) := by decide +kernel
theorem d_Law_761 : decode code 761 = .ok (.iconst 0, 1) := by decide +kernel
theorem d_Law_762 : decode code 762 = .ok (.invokevirtual 81, 3) := by decide +kernel
theorem d_Law_765 : decode code 765 = .ok (.aload_n 2, 1) := by decide +kernel
theorem d_Law_766 : decode code 766 = .ok (.aload_n 0, 1) := by decide +kernel
theorem d_Law_767 : decode code 767 = .ok (.iload 4, 2) := by decide +kernel
theorem d_Law_769 : decode code 769 = .ok (.iconst 1, 1) := by decide +kernel
theorem d_Law_770 : decode code 770 = .ok (.iadd, 1) := by decide +kernel
theorem d_Law_771 : decode code 771 = .ok (.iaload, 1) := by decide +kernel
theorem d_Law_772 : decode code 772 = .ok (.aload_n 0, 1) := by decide +kernel
theorem d_Law_773 : decode code 773 = .ok (.iload 4, 2) := by decide +kernel
theorem d_Law_775 : decode code 775 = .ok (.iconst 2, 1) := by decide +kernel
theorem d_Law_776 : decode code 776 = .ok (.iadd, 1) := by decide +kernel
theorem d_Law_777 : decode code 777 = .ok (.iaload, 1) := by decide +kernel
theorem d_Law_778 : decode code 778 = .ok (.ifCond .eq 7, 3) := by decide +kernel
theorem d_Law_781 : decode code 781 = .ok (.iconst 1, 1) := by decide +kernel
theorem d_Law_782 : decode code 782 = .ok (.goto 4, 3) := by decide +kernel
theorem d_Law_785 : decode code 785 = .ok (.iconst 0, 1) := by decide +kernel
theorem d_Law_786 : decode code 786 = .ok (.invokevirtual 84, 3) := by decide +kernel
theorem d_Law_789 : decode code 789 = .ok (.if_icmp .eq 242, 3) := by decide +kernel
theorem d_Law_792 : decode code 792 = .ok (.iconst 0, 1) := by decide +kernel
theorem d_Law_793 : decode code 793 = .ok (.ireturn, 1) := by decide +kernel
theorem d_Law_794 : decode code 794 = .ok (.aload_n 1, 1) := by decide +kernel
theorem d_Law_795 : decode code 795 = .ok (.aload_n 0, 1) := by decide +kernel
theorem d_Law_796 : decode code 796 = .ok (.iload 4, 2) := by decide +kernel
theorem d_Law_798 : decode code 798 = .ok (.iconst 1, 1) := by decide +kernel
theorem d_Law_799 : decode code 799 = .ok (.iadd, 1) := by decide +kernel
theorem d_Law_800 : decode code 800 = .ok (.iaload, 1) := by decide +kernel
theorem d_Law_801 : decode code 801 = .ok (.aload_n 0, 1) := by decide +kernel
theorem d_Law_802 : decode code 802 = .ok (.iload 4, 2) := by decide +kernel
theorem d_Law_804 : decode code 804 = .ok (.iconst 2, 1) := by decide +kernel
theorem d_Law_805 : decode code 805 = .ok (.iadd, 1) := by decide +kernel
theorem d_Law_806 : decode code 806 = .ok (.iaload, 1) := by decide +kernel
theorem d_Law_807 : decode code 807 = .ok (.invokevirtual 85, 3) := by decide +kernel
theorem d_Law_810 : decode code 810 = .ok (.aload_n 2, 1) := by decide +kernel
theorem d_Law_811 : decode code 811 = .ok (.aload_n 0, 1) := by decide +kernel
theorem d_Law_812 : decode code 812 = .ok (.iload 4, 2) := by decide +kernel
theorem d_Law_814 : decode code 814 = .ok (.iconst 1, 1) := by decide +kernel
theorem d_Law_815 : decode code 815 = .ok (.iadd, 1) := by decide +kernel
theorem d_Law_816 : decode code 816 = .ok (.iaload, 1) := by decide +kernel
theorem d_Law_817 : decode code 817 = .ok (.aload_n 0, 1) := by decide +kernel
theorem d_Law_818 : decode code 818 = .ok (.iload 4, 2) := by decide +kernel
theorem d_Law_820 : decode code 820 = .ok (.iconst 2, 1) := by decide +kernel
theorem d_Law_821 : decode code 821 = .ok (.iadd, 1) := by decide +kernel
theorem d_Law_822 : decode code 822 = .ok (.iaload, 1) := by decide +kernel
theorem d_Law_823 : decode code 823 = .ok (.invokevirtual 88, 3) := by decide +kernel
theorem d_Law_826 : decode code 826 = .ok (.if_icmp .eq 205, 3) := by decide +kernel
theorem d_Law_829 : decode code 829 = .ok (.iconst 0, 1) := by decide +kernel
theorem d_Law_830 : decode code 830 = .ok (.ireturn, 1) := by decide +kernel
theorem d_Law_831 : decode code 831 = .ok (.aload_n 1, 1) := by decide +kernel
theorem d_Law_832 : decode code 832 = .ok (.aload_n 0, 1) := by decide +kernel
theorem d_Law_833 : decode code 833 = .ok (.iload 4, 2) := by decide +kernel
theorem d_Law_835 : decode code 835 = .ok (.iconst 1, 1) := by decide +kernel
theorem d_Law_836 : decode code 836 = .ok (.iadd, 1) := by decide +kernel
theorem d_Law_837 : decode code 837 = .ok (.iaload, 1) := by decide +kernel
theorem d_Law_838 : decode code 838 = .ok (.aload_n 0, 1) := by decide +kernel
theorem d_Law_839 : decode code 839 = .ok (.iload 4, 2) := by decide +kernel
theorem d_Law_841 : decode code 841 = .ok (.iconst 2, 1) := by decide +kernel
theorem d_Law_842 : decode code 842 = .ok (.iadd, 1) := by decide +kernel
theorem d_Law_843 : decode code 843 = .ok (.iaload, 1) := by decide +kernel
theorem d_Law_844 : decode code 844 = .ok (.i2l, 1) := by decide +kernel
theorem d_Law_845 : decode code 845 = .ok (.bipush 32, 2) := by decide +kernel
theorem d_Law_847 : decode code 847 = .ok (.lshl, 1) := by decide +kernel
theorem d_Law_848 : decode code 848 = .ok (.aload_n 0, 1) := by decide +kernel
theorem d_Law_849 : decode code 849 = .ok (.iload 4, 2) := by decide +kernel
theorem d_Law_851 : decode code 851 = .ok (.iconst 3, 1) := by decide +kernel
theorem d_Law_852 : decode code 852 = .ok (.iadd, 1) := by decide +kernel
theorem d_Law_853 : decode code 853 = .ok (.iaload, 1) := by decide +kernel
theorem d_Law_854 : decode code 854 = .ok (.i2l, 1) := by decide +kernel
theorem d_Law_855 : decode code 855 = .ok (.ldc2_w 38, 3) := by decide +kernel
theorem d_Law_858 : decode code 858 = .ok (.land, 1) := by decide +kernel
theorem d_Law_859 : decode code 859 = .ok (.lor, 1) := by decide +kernel
theorem d_Law_860 : decode code 860 = .ok (.aload_n 3, 1) := by decide +kernel
theorem d_Law_861 : decode code 861 = .ok (.invokestatic 89, 3) := by decide +kernel
theorem d_Law_864 : decode code 864 = .ok (.istore 5, 2) := by decide +kernel
theorem d_Law_866 : decode code 866 = .ok (.aload_n 2, 1) := by decide +kernel
theorem d_Law_867 : decode code 867 = .ok (.aload_n 0, 1) := by decide +kernel
theorem d_Law_868 : decode code 868 = .ok (.iload 4, 2) := by decide +kernel
theorem d_Law_870 : decode code 870 = .ok (.iconst 1, 1) := by decide +kernel
theorem d_Law_871 : decode code 871 = .ok (.iadd, 1) := by decide +kernel
theorem d_Law_872 : decode code 872 = .ok (.iaload, 1) := by decide +kernel
theorem d_Law_873 : decode code 873 = .ok (.aload_n 0, 1) := by decide +kernel
theorem d_Law_874 : decode code 874 = .ok (.iload 4, 2) := by decide +kernel
theorem d_Law_876 : decode code 876 = .ok (.iconst 2, 1) := by decide +kernel
theorem d_Law_877 : decode code 877 = .ok (.iadd, 1) := by decide +kernel
theorem d_Law_878 : decode code 878 = .ok (.iaload, 1) := by decide +kernel
theorem d_Law_879 : decode code 879 = .ok (.i2l, 1) := by decide +kernel
theorem d_Law_880 : decode code 880 = .ok (.bipush 32, 2) := by decide +kernel
theorem d_Law_882 : decode code 882 = .ok (.lshl, 1) := by decide +kernel
theorem d_Law_883 : decode code 883 = .ok (.aload_n 0, 1) := by decide +kernel
theorem d_Law_884 : decode code 884 = .ok (.iload 4, 2) := by decide +kernel
theorem d_Law_886 : decode code 886 = .ok (.iconst 3, 1) := by decide +kernel
theorem d_Law_887 : decode code 887 = .ok (.iadd, 1) := by decide +kernel
theorem d_Law_888 : decode code 888 = .ok (.iaload, 1) := by decide +kernel
theorem d_Law_889 : decode code 889 = .ok (.i2l, 1) := by decide +kernel
theorem d_Law_890 : decode code 890 = .ok (.ldc2_w 38, 3) := by decide +kernel
theorem d_Law_893 : decode code 893 = .ok (.land, 1) := by decide +kernel
theorem d_Law_894 : decode code 894 = .ok (.lor, 1) := by decide +kernel
theorem d_Law_895 : decode code 895 = .ok (.invokevirtual 94, 3) := by decide +kernel
theorem d_Law_898 : decode code 898 = .ok (.lstore 6, 2) := by decide +kernel
theorem d_Law_900 : decode code 900 = .ok (.aload_n 2, 1) := by decide +kernel
theorem d_Law_901 : decode code 901 = .ok (.invokevirtual 95, 3) := by decide +kernel
theorem d_Law_904 : decode code 904 = .ok (.iload 5, 2) := by decide +kernel
theorem d_Law_906 : decode code 906 = .ok (.if_icmp .eq 5, 3) := by decide +kernel
theorem d_Law_909 : decode code 909 = .ok (.iconst 0, 1) := by decide +kernel
theorem d_Law_910 : decode code 910 = .ok (.ireturn, 1) := by decide +kernel
theorem d_Law_911 : decode code 911 = .ok (.iload 5, 2) := by decide +kernel
theorem d_Law_913 : decode code 913 = .ok (.ifCond .ne 14, 3) := by decide +kernel
theorem d_Law_916 : decode code 916 = .ok (.aload_n 3, 1) := by decide +kernel
theorem d_Law_917 : decode code 917 = .ok (.iconst 0, 1) := by decide +kernel
theorem d_Law_918 : decode code 918 = .ok (.laload, 1) := by decide +kernel
theorem d_Law_919 : decode code 919 = .ok (.lload 6, 2) := by decide +kernel
theorem d_Law_921 : decode code 921 = .ok (.lcmp, 1) := by decide +kernel
theorem d_Law_922 : decode code 922 = .ok (.ifCond .eq 5, 3) := by decide +kernel
theorem d_Law_925 : decode code 925 = .ok (.iconst 0, 1) := by decide +kernel
theorem d_Law_926 : decode code 926 = .ok (.ireturn, 1) := by decide +kernel
theorem d_Law_927 : decode code 927 = .ok (.goto 104, 3) := by decide +kernel
theorem d_Law_930 : decode code 930 = .ok (.aload_n 1, 1) := by decide +kernel
theorem d_Law_931 : decode code 931 = .ok (.aload_n 0, 1) := by decide +kernel
theorem d_Law_932 : decode code 932 = .ok (.iload 4, 2) := by decide +kernel
theorem d_Law_934 : decode code 934 = .ok (.iconst 1, 1) := by decide +kernel
theorem d_Law_935 : decode code 935 = .ok (.iadd, 1) := by decide +kernel
theorem d_Law_936 : decode code 936 = .ok (.iaload, 1) := by decide +kernel
theorem d_Law_937 : decode code 937 = .ok (.invokevirtual 98, 3) := by decide +kernel
theorem d_Law_940 : decode code 940 = .ok (.aload_n 2, 1) := by decide +kernel
theorem d_Law_941 : decode code 941 = .ok (.aload_n 0, 1) := by decide +kernel
theorem d_Law_942 : decode code 942 = .ok (.iload 4, 2) := by decide +kernel
theorem d_Law_944 : decode code 944 = .ok (.iconst 1, 1) := by decide +kernel
theorem d_Law_945 : decode code 945 = .ok (.iadd, 1) := by decide +kernel
theorem d_Law_946 : decode code 946 = .ok (.iaload, 1) := by decide +kernel
theorem d_Law_947 : decode code 947 = .ok (.invokevirtual 101, 3) := by decide +kernel
theorem d_Law_950 : decode code 950 = .ok (.if_icmp .eq 81, 3) := by decide +kernel
theorem d_Law_953 : decode code 953 = .ok (.iconst 0, 1) := by decide +kernel
theorem d_Law_954 : decode code 954 = .ok (.ireturn, 1) := by decide +kernel
theorem d_Law_955 : decode code 955 = .ok (.aload_n 1, 1) := by decide +kernel
theorem d_Law_956 : decode code 956 = .ok (.aload_n 0, 1) := by decide +kernel
theorem d_Law_957 : decode code 957 = .ok (.iload 4, 2) := by decide +kernel
theorem d_Law_959 : decode code 959 = .ok (.iconst 1, 1) := by decide +kernel
theorem d_Law_960 : decode code 960 = .ok (.iadd, 1) := by decide +kernel
theorem d_Law_961 : decode code 961 = .ok (.iaload, 1) := by decide +kernel
theorem d_Law_962 : decode code 962 = .ok (.invokevirtual 102, 3) := by decide +kernel
theorem d_Law_965 : decode code 965 = .ok (.aload_n 2, 1) := by decide +kernel
theorem d_Law_966 : decode code 966 = .ok (.aload_n 0, 1) := by decide +kernel
theorem d_Law_967 : decode code 967 = .ok (.iload 4, 2) := by decide +kernel
theorem d_Law_969 : decode code 969 = .ok (.iconst 1, 1) := by decide +kernel
theorem d_Law_970 : decode code 970 = .ok (.iadd, 1) := by decide +kernel
theorem d_Law_971 : decode code 971 = .ok (.iaload, 1) := by decide +kernel
theorem d_Law_972 : decode code 972 = .ok (.invokevirtual 106, 3) := by decide +kernel
theorem d_Law_975 : decode code 975 = .ok (.lcmp, 1) := by decide +kernel
theorem d_Law_976 : decode code 976 = .ok (.ifCond .eq 55, 3) := by decide +kernel
theorem d_Law_979 : decode code 979 = .ok (.iconst 0, 1) := by decide +kernel
theorem d_Law_980 : decode code 980 = .ok (.ireturn, 1) := by decide +kernel
theorem d_Law_981 : decode code 981 = .ok (.aload_n 1, 1) := by decide +kernel
theorem d_Law_982 : decode code 982 = .ok (.aload_n 0, 1) := by decide +kernel
theorem d_Law_983 : decode code 983 = .ok (.iload 4, 2) := by decide +kernel
theorem d_Law_985 : decode code 985 = .ok (.iconst 1, 1) := by decide +kernel
theorem d_Law_986 : decode code 986 = .ok (.iadd, 1) := by decide +kernel
theorem d_Law_987 : decode code 987 = .ok (.iaload, 1) := by decide +kernel
theorem d_Law_988 : decode code 988 = .ok (.invokevirtual 107, 3) := by decide +kernel
theorem d_Law_991 : decode code 991 = .ok (.aload_n 2, 1) := by decide +kernel
theorem d_Law_992 : decode code 992 = .ok (.aload_n 0, 1) := by decide +kernel
theorem d_Law_993 : decode code 993 = .ok (.iload 4, 2) := by decide +kernel
theorem d_Law_995 : decode code 995 = .ok (.iconst 1, 1) := by decide +kernel
theorem d_Law_996 : decode code 996 = .ok (.iadd, 1) := by decide +kernel
theorem d_Law_997 : decode code 997 = .ok (.iaload, 1) := by decide +kernel
theorem d_Law_998 : decode code 998 = .ok (.invokevirtual 110, 3) := by decide +kernel
theorem d_Law_1001 : decode code 1001 = .ok (.if_icmp .eq 30, 3) := by decide +kernel
theorem d_Law_1004 : decode code 1004 = .ok (.iconst 0, 1) := by decide +kernel
theorem d_Law_1005 : decode code 1005 = .ok (.ireturn, 1) := by decide +kernel
theorem d_Law_1006 : decode code 1006 = .ok (.aload_n 1, 1) := by decide +kernel
theorem d_Law_1007 : decode code 1007 = .ok (.aload_n 0, 1) := by decide +kernel
theorem d_Law_1008 : decode code 1008 = .ok (.iload 4, 2) := by decide +kernel
theorem d_Law_1010 : decode code 1010 = .ok (.iconst 1, 1) := by decide +kernel
theorem d_Law_1011 : decode code 1011 = .ok (.iadd, 1) := by decide +kernel
theorem d_Law_1012 : decode code 1012 = .ok (.iaload, 1) := by decide +kernel
theorem d_Law_1013 : decode code 1013 = .ok (.invokevirtual 111, 3) := by decide +kernel
theorem d_Law_1016 : decode code 1016 = .ok (.aload_n 2, 1) := by decide +kernel
theorem d_Law_1017 : decode code 1017 = .ok (.aload_n 0, 1) := by decide +kernel
theorem d_Law_1018 : decode code 1018 = .ok (.iload 4, 2) := by decide +kernel
theorem d_Law_1020 : decode code 1020 = .ok (.iconst 1, 1) := by decide +kernel
theorem d_Law_1021 : decode code 1021 = .ok (.iadd, 1) := by decide +kernel
theorem d_Law_1022 : decode code 1022 = .ok (.iaload, 1) := by decide +kernel
theorem d_Law_1023 : decode code 1023 = .ok (.invokevirtual 114, 3) := by decide +kernel
theorem d_Law_1026 : decode code 1026 = .ok (.if_icmp .eq 5, 3) := by decide +kernel
theorem d_Law_1029 : decode code 1029 = .ok (.iconst 0, 1) := by decide +kernel
theorem d_Law_1030 : decode code 1030 = .ok (.ireturn, 1) := by decide +kernel
theorem d_Law_1031 : decode code 1031 = .ok (.iinc 4 6, 3) := by decide +kernel
theorem d_Law_1034 : decode code 1034 = .ok (.goto (-1011), 3) := by decide +kernel
theorem d_Law_1037 : decode code 1037 = .ok (.iconst 1, 1) := by decide +kernel
theorem d_Law_1038 : decode code 1038 = .ok (.ireturn, 1) := by decide +kernel
theorem k_inst_Rows_init : Cond.instanceMethod y_Rows_init ∈ w_tb := List.mem_filter.mpr ⟨List.mem_append_right _ (List.mem_of_getElem? (i := 23) (by decide +kernel)), rfl⟩
theorem k_inst_Mod_init : Cond.instanceMethod y_Mod_init ∈ w_tb := List.mem_filter.mpr ⟨List.mem_append_right _ (List.mem_of_getElem? (i := 540) (by decide +kernel)), rfl⟩
theorem k_inst_Rows_initiator : Cond.instanceMethod y_Rows_initiator ∈ w_tb := List.mem_filter.mpr ⟨List.mem_append_right _ (List.mem_of_getElem? (i := 135) (by decide +kernel)), rfl⟩
theorem k_sel_Rows_initiator : Cond.selects R_Rows y_Rows_initiator y_Rows_initiator ∈ w_tb := List.mem_filter.mpr ⟨List.mem_append_right _ (List.mem_of_getElem? (i := 136) (by decide +kernel)), rfl⟩
theorem k_inst_Mod_initiator : Cond.instanceMethod y_Mod_initiator ∈ w_tb := List.mem_filter.mpr ⟨List.mem_append_right _ (List.mem_of_getElem? (i := 626) (by decide +kernel)), rfl⟩
theorem k_sel_Mod_initiator : Cond.selects R_Mod y_Mod_initiator y_Mod_initiator ∈ w_tb := List.mem_filter.mpr ⟨List.mem_append_right _ (List.mem_of_getElem? (i := 627) (by decide +kernel)), rfl⟩
theorem k_inst_Rows_cls : Cond.instanceMethod y_Rows_cls ∈ w_tb := List.mem_filter.mpr ⟨List.mem_append_right _ (List.mem_of_getElem? (i := 217) (by decide +kernel)), rfl⟩
theorem k_sel_Rows_cls : Cond.selects R_Rows y_Rows_cls y_Rows_cls ∈ w_tb := List.mem_filter.mpr ⟨List.mem_append_right _ (List.mem_of_getElem? (i := 218) (by decide +kernel)), rfl⟩
theorem k_inst_Mod_cls : Cond.instanceMethod y_Mod_cls ∈ w_tb := List.mem_filter.mpr ⟨List.mem_append_right _ (List.mem_of_getElem? (i := 630) (by decide +kernel)), rfl⟩
theorem k_sel_Mod_cls : Cond.selects R_Mod y_Mod_cls y_Mod_cls ∈ w_tb := List.mem_filter.mpr ⟨List.mem_append_right _ (List.mem_of_getElem? (i := 631) (by decide +kernel)), rfl⟩
theorem k_inst_Rows_limit : Cond.instanceMethod y_Rows_limit ∈ w_tb := List.mem_filter.mpr ⟨List.mem_append_right _ (List.mem_of_getElem? (i := 245) (by decide +kernel)), rfl⟩
theorem k_sel_Rows_limit : Cond.selects R_Rows y_Rows_limit y_Rows_limit ∈ w_tb := List.mem_filter.mpr ⟨List.mem_append_right _ (List.mem_of_getElem? (i := 246) (by decide +kernel)), rfl⟩
theorem k_inst_Mod_limit : Cond.instanceMethod y_Mod_limit ∈ w_tb := List.mem_filter.mpr ⟨List.mem_append_right _ (List.mem_of_getElem? (i := 641) (by decide +kernel)), rfl⟩
theorem k_sel_Mod_limit : Cond.selects R_Mod y_Mod_limit y_Mod_limit ∈ w_tb := List.mem_filter.mpr ⟨List.mem_append_right _ (List.mem_of_getElem? (i := 642) (by decide +kernel)), rfl⟩
theorem k_inst_Rows_window : Cond.instanceMethod y_Rows_window ∈ w_tb := List.mem_filter.mpr ⟨List.mem_append_right _ (List.mem_of_getElem? (i := 249) (by decide +kernel)), rfl⟩
theorem k_sel_Rows_window : Cond.selects R_Rows y_Rows_window y_Rows_window ∈ w_tb := List.mem_filter.mpr ⟨List.mem_append_right _ (List.mem_of_getElem? (i := 250) (by decide +kernel)), rfl⟩
theorem k_inst_Mod_window : Cond.instanceMethod y_Mod_window ∈ w_tb := List.mem_filter.mpr ⟨List.mem_append_right _ (List.mem_of_getElem? (i := 645) (by decide +kernel)), rfl⟩
theorem k_sel_Mod_window : Cond.selects R_Mod y_Mod_window y_Mod_window ∈ w_tb := List.mem_filter.mpr ⟨List.mem_append_right _ (List.mem_of_getElem? (i := 646) (by decide +kernel)), rfl⟩
theorem k_inst_Rows_job : Cond.instanceMethod y_Rows_job ∈ w_tb := List.mem_filter.mpr ⟨List.mem_append_right _ (List.mem_of_getElem? (i := 253) (by decide +kernel)), rfl⟩
theorem k_sel_Rows_job : Cond.selects R_Rows y_Rows_job y_Rows_job ∈ w_tb := List.mem_filter.mpr ⟨List.mem_append_right _ (List.mem_of_getElem? (i := 254) (by decide +kernel)), rfl⟩
theorem k_inst_Mod_job : Cond.instanceMethod y_Mod_job ∈ w_tb := List.mem_filter.mpr ⟨List.mem_append_right _ (List.mem_of_getElem? (i := 652) (by decide +kernel)), rfl⟩
theorem k_sel_Mod_job : Cond.selects R_Mod y_Mod_job y_Mod_job ∈ w_tb := List.mem_filter.mpr ⟨List.mem_append_right _ (List.mem_of_getElem? (i := 653) (by decide +kernel)), rfl⟩
theorem k_inst_Rows_needs : Cond.instanceMethod y_Rows_needs ∈ w_tb := List.mem_filter.mpr ⟨List.mem_append_right _ (List.mem_of_getElem? (i := 310) (by decide +kernel)), rfl⟩
theorem k_sel_Rows_needs : Cond.selects R_Rows y_Rows_needs y_Rows_needs ∈ w_tb := List.mem_filter.mpr ⟨List.mem_append_right _ (List.mem_of_getElem? (i := 311) (by decide +kernel)), rfl⟩
theorem k_inst_Mod_needs : Cond.instanceMethod y_Mod_needs ∈ w_tb := List.mem_filter.mpr ⟨List.mem_append_right _ (List.mem_of_getElem? (i := 656) (by decide +kernel)), rfl⟩
theorem k_sel_Mod_needs : Cond.selects R_Mod y_Mod_needs y_Mod_needs ∈ w_tb := List.mem_filter.mpr ⟨List.mem_append_right _ (List.mem_of_getElem? (i := 657) (by decide +kernel)), rfl⟩
theorem k_inst_Rows_units : Cond.instanceMethod y_Rows_units ∈ w_tb := List.mem_filter.mpr ⟨List.mem_append_right _ (List.mem_of_getElem? (i := 338) (by decide +kernel)), rfl⟩
theorem k_sel_Rows_units : Cond.selects R_Rows y_Rows_units y_Rows_units ∈ w_tb := List.mem_filter.mpr ⟨List.mem_append_right _ (List.mem_of_getElem? (i := 339) (by decide +kernel)), rfl⟩
theorem k_inst_Mod_units : Cond.instanceMethod y_Mod_units ∈ w_tb := List.mem_filter.mpr ⟨List.mem_append_right _ (List.mem_of_getElem? (i := 668) (by decide +kernel)), rfl⟩
theorem k_sel_Mod_units : Cond.selects R_Mod y_Mod_units y_Mod_units ∈ w_tb := List.mem_filter.mpr ⟨List.mem_append_right _ (List.mem_of_getElem? (i := 669) (by decide +kernel)), rfl⟩
theorem k_inst_Rows_uses : Cond.instanceMethod y_Rows_uses ∈ w_tb := List.mem_filter.mpr ⟨List.mem_append_right _ (List.mem_of_getElem? (i := 345) (by decide +kernel)), rfl⟩
theorem k_sel_Rows_uses : Cond.selects R_Rows y_Rows_uses y_Rows_uses ∈ w_tb := List.mem_filter.mpr ⟨List.mem_append_right _ (List.mem_of_getElem? (i := 346) (by decide +kernel)), rfl⟩
theorem k_inst_Mod_uses : Cond.instanceMethod y_Mod_uses ∈ w_tb := List.mem_filter.mpr ⟨List.mem_append_right _ (List.mem_of_getElem? (i := 672) (by decide +kernel)), rfl⟩
theorem k_sel_Mod_uses : Cond.selects R_Mod y_Mod_uses y_Mod_uses ∈ w_tb := List.mem_filter.mpr ⟨List.mem_append_right _ (List.mem_of_getElem? (i := 673) (by decide +kernel)), rfl⟩
theorem k_inst_Rows_alone : Cond.instanceMethod y_Rows_alone ∈ w_tb := List.mem_filter.mpr ⟨List.mem_append_right _ (List.mem_of_getElem? (i := 349) (by decide +kernel)), rfl⟩
theorem k_sel_Rows_alone : Cond.selects R_Rows y_Rows_alone y_Rows_alone ∈ w_tb := List.mem_filter.mpr ⟨List.mem_append_right _ (List.mem_of_getElem? (i := 350) (by decide +kernel)), rfl⟩
theorem k_inst_Mod_alone : Cond.instanceMethod y_Mod_alone ∈ w_tb := List.mem_filter.mpr ⟨List.mem_append_right _ (List.mem_of_getElem? (i := 676) (by decide +kernel)), rfl⟩
theorem k_sel_Mod_alone : Cond.selects R_Mod y_Mod_alone y_Mod_alone ∈ w_tb := List.mem_filter.mpr ⟨List.mem_append_right _ (List.mem_of_getElem? (i := 677) (by decide +kernel)), rfl⟩
theorem k_inst_Rows_hold : Cond.instanceMethod y_Rows_hold ∈ w_tb := List.mem_filter.mpr ⟨List.mem_append_right _ (List.mem_of_getElem? (i := 353) (by decide +kernel)), rfl⟩
theorem k_sel_Rows_hold : Cond.selects R_Rows y_Rows_hold y_Rows_hold ∈ w_tb := List.mem_filter.mpr ⟨List.mem_append_right _ (List.mem_of_getElem? (i := 354) (by decide +kernel)), rfl⟩
theorem k_inst_Mod_hold : Cond.instanceMethod y_Mod_hold ∈ w_tb := List.mem_filter.mpr ⟨List.mem_append_right _ (List.mem_of_getElem? (i := 680) (by decide +kernel)), rfl⟩
theorem k_sel_Mod_hold : Cond.selects R_Mod y_Mod_hold y_Mod_hold ∈ w_tb := List.mem_filter.mpr ⟨List.mem_append_right _ (List.mem_of_getElem? (i := 681) (by decide +kernel)), rfl⟩
theorem k_inst_Rows_next : Cond.instanceMethod y_Rows_next ∈ w_tb := List.mem_filter.mpr ⟨List.mem_append_right _ (List.mem_of_getElem? (i := 357) (by decide +kernel)), rfl⟩
theorem k_sel_Rows_next : Cond.selects R_Rows y_Rows_next y_Rows_next ∈ w_tb := List.mem_filter.mpr ⟨List.mem_append_right _ (List.mem_of_getElem? (i := 358) (by decide +kernel)), rfl⟩
theorem k_inst_Mod_next : Cond.instanceMethod y_Mod_next ∈ w_tb := List.mem_filter.mpr ⟨List.mem_append_right _ (List.mem_of_getElem? (i := 684) (by decide +kernel)), rfl⟩
theorem k_sel_Mod_next : Cond.selects R_Mod y_Mod_next y_Mod_next ∈ w_tb := List.mem_filter.mpr ⟨List.mem_append_right _ (List.mem_of_getElem? (i := 685) (by decide +kernel)), rfl⟩
theorem k_inst_Rows_end : Cond.instanceMethod y_Rows_end ∈ w_tb := List.mem_filter.mpr ⟨List.mem_append_right _ (List.mem_of_getElem? (i := 403) (by decide +kernel)), rfl⟩
theorem k_sel_Rows_end : Cond.selects R_Rows y_Rows_end y_Rows_end ∈ w_tb := List.mem_filter.mpr ⟨List.mem_append_right _ (List.mem_of_getElem? (i := 404) (by decide +kernel)), rfl⟩
theorem k_inst_Mod_end : Cond.instanceMethod y_Mod_end ∈ w_tb := List.mem_filter.mpr ⟨List.mem_append_right _ (List.mem_of_getElem? (i := 710) (by decide +kernel)), rfl⟩
theorem k_sel_Mod_end : Cond.selects R_Mod y_Mod_end y_Mod_end ∈ w_tb := List.mem_filter.mpr ⟨List.mem_append_right _ (List.mem_of_getElem? (i := 711) (by decide +kernel)), rfl⟩
theorem k_inst_Rows_age : Cond.instanceMethod y_Rows_age ∈ w_tb := List.mem_filter.mpr ⟨List.mem_append_right _ (List.mem_of_getElem? (i := 419) (by decide +kernel)), rfl⟩
theorem k_sel_Rows_age : Cond.selects R_Rows y_Rows_age y_Rows_age ∈ w_tb := List.mem_filter.mpr ⟨List.mem_append_right _ (List.mem_of_getElem? (i := 420) (by decide +kernel)), rfl⟩
theorem k_inst_Mod_age : Cond.instanceMethod y_Mod_age ∈ w_tb := List.mem_filter.mpr ⟨List.mem_append_right _ (List.mem_of_getElem? (i := 714) (by decide +kernel)), rfl⟩
theorem k_sel_Mod_age : Cond.selects R_Mod y_Mod_age y_Mod_age ∈ w_tb := List.mem_filter.mpr ⟨List.mem_append_right _ (List.mem_of_getElem? (i := 715) (by decide +kernel)), rfl⟩
theorem k_inst_Rows_drain : Cond.instanceMethod y_Rows_drain ∈ w_tb := List.mem_filter.mpr ⟨List.mem_append_right _ (List.mem_of_getElem? (i := 423) (by decide +kernel)), rfl⟩
theorem k_sel_Rows_drain : Cond.selects R_Rows y_Rows_drain y_Rows_drain ∈ w_tb := List.mem_filter.mpr ⟨List.mem_append_right _ (List.mem_of_getElem? (i := 424) (by decide +kernel)), rfl⟩
theorem k_inst_Mod_drain : Cond.instanceMethod y_Mod_drain ∈ w_tb := List.mem_filter.mpr ⟨List.mem_append_right _ (List.mem_of_getElem? (i := 718) (by decide +kernel)), rfl⟩
theorem k_sel_Mod_drain : Cond.selects R_Mod y_Mod_drain y_Mod_drain ∈ w_tb := List.mem_filter.mpr ⟨List.mem_append_right _ (List.mem_of_getElem? (i := 719) (by decide +kernel)), rfl⟩
theorem k_inst_Rows_weight : Cond.instanceMethod y_Rows_weight ∈ w_tb := List.mem_filter.mpr ⟨List.mem_append_right _ (List.mem_of_getElem? (i := 427) (by decide +kernel)), rfl⟩
theorem k_sel_Rows_weight : Cond.selects R_Rows y_Rows_weight y_Rows_weight ∈ w_tb := List.mem_filter.mpr ⟨List.mem_append_right _ (List.mem_of_getElem? (i := 428) (by decide +kernel)), rfl⟩
theorem k_inst_Mod_weight : Cond.instanceMethod y_Mod_weight ∈ w_tb := List.mem_filter.mpr ⟨List.mem_append_right _ (List.mem_of_getElem? (i := 722) (by decide +kernel)), rfl⟩
theorem k_sel_Mod_weight : Cond.selects R_Mod y_Mod_weight y_Mod_weight ∈ w_tb := List.mem_filter.mpr ⟨List.mem_append_right _ (List.mem_of_getElem? (i := 723) (by decide +kernel)), rfl⟩
theorem k_inst_Mod_share : Cond.instanceMethod y_Mod_share ∈ w_tb := List.mem_filter.mpr ⟨List.mem_append_right _ (List.mem_of_getElem? (i := 726) (by decide +kernel)), rfl⟩
theorem k_sel_Mod_share : Cond.selects R_Mod y_Mod_share y_Mod_share ∈ w_tb := List.mem_filter.mpr ⟨List.mem_append_right _ (List.mem_of_getElem? (i := 727) (by decide +kernel)), rfl⟩
theorem k_inst_Mod_thrown : Cond.instanceMethod y_Mod_thrown ∈ w_tb := List.mem_filter.mpr ⟨List.mem_append_right _ (List.mem_of_getElem? (i := 622) (by decide +kernel)), rfl⟩
theorem k_sel_Mod_thrown : Cond.selects R_Mod y_Mod_thrown y_Mod_thrown ∈ w_tb := List.mem_filter.mpr ⟨List.mem_append_right _ (List.mem_of_getElem? (i := 623) (by decide +kernel)), rfl⟩
theorem k_inst_Rows_order : Cond.instanceMethod y_Rows_order ∈ w_tb := List.mem_filter.mpr ⟨List.mem_append_right _ (List.mem_of_getElem? (i := 431) (by decide +kernel)), rfl⟩
theorem k_sel_Rows_order : Cond.selects R_Rows y_Rows_order y_Rows_order ∈ w_tb := List.mem_filter.mpr ⟨List.mem_append_right _ (List.mem_of_getElem? (i := 432) (by decide +kernel)), rfl⟩
theorem k_inst_Mod_order : Cond.instanceMethod y_Mod_order ∈ w_tb := List.mem_filter.mpr ⟨List.mem_append_right _ (List.mem_of_getElem? (i := 731) (by decide +kernel)), rfl⟩
theorem k_sel_Mod_order : Cond.selects R_Mod y_Mod_order y_Mod_order ∈ w_tb := List.mem_filter.mpr ⟨List.mem_append_right _ (List.mem_of_getElem? (i := 732) (by decide +kernel)), rfl⟩
theorem k_inst_Rows_waited : Cond.instanceMethod y_Rows_waited ∈ w_tb := List.mem_filter.mpr ⟨List.mem_append_right _ (List.mem_of_getElem? (i := 435) (by decide +kernel)), rfl⟩
theorem k_sel_Rows_waited : Cond.selects R_Rows y_Rows_waited y_Rows_waited ∈ w_tb := List.mem_filter.mpr ⟨List.mem_append_right _ (List.mem_of_getElem? (i := 436) (by decide +kernel)), rfl⟩
theorem k_inst_Mod_waited : Cond.instanceMethod y_Mod_waited ∈ w_tb := List.mem_filter.mpr ⟨List.mem_append_right _ (List.mem_of_getElem? (i := 735) (by decide +kernel)), rfl⟩
theorem k_sel_Mod_waited : Cond.selects R_Mod y_Mod_waited y_Mod_waited ∈ w_tb := List.mem_filter.mpr ⟨List.mem_append_right _ (List.mem_of_getElem? (i := 736) (by decide +kernel)), rfl⟩
theorem k_inst_Rows_state : Cond.instanceMethod y_Rows_state ∈ w_tb := List.mem_filter.mpr ⟨List.mem_append_right _ (List.mem_of_getElem? (i := 440) (by decide +kernel)), rfl⟩
theorem k_sel_Rows_state : Cond.selects R_Rows y_Rows_state y_Rows_state ∈ w_tb := List.mem_filter.mpr ⟨List.mem_append_right _ (List.mem_of_getElem? (i := 441) (by decide +kernel)), rfl⟩
theorem k_inst_Mod_state : Cond.instanceMethod y_Mod_state ∈ w_tb := List.mem_filter.mpr ⟨List.mem_append_right _ (List.mem_of_getElem? (i := 739) (by decide +kernel)), rfl⟩
theorem k_sel_Mod_state : Cond.selects R_Mod y_Mod_state y_Mod_state ∈ w_tb := List.mem_filter.mpr ⟨List.mem_append_right _ (List.mem_of_getElem? (i := 740) (by decide +kernel)), rfl⟩
theorem k_inst_Rows_count : Cond.instanceMethod y_Rows_count ∈ w_tb := List.mem_filter.mpr ⟨List.mem_append_right _ (List.mem_of_getElem? (i := 444) (by decide +kernel)), rfl⟩
theorem k_sel_Rows_count : Cond.selects R_Rows y_Rows_count y_Rows_count ∈ w_tb := List.mem_filter.mpr ⟨List.mem_append_right _ (List.mem_of_getElem? (i := 445) (by decide +kernel)), rfl⟩
theorem k_inst_Mod_count : Cond.instanceMethod y_Mod_count ∈ w_tb := List.mem_filter.mpr ⟨List.mem_append_right _ (List.mem_of_getElem? (i := 743) (by decide +kernel)), rfl⟩
theorem k_sel_Mod_count : Cond.selects R_Mod y_Mod_count y_Mod_count ∈ w_tb := List.mem_filter.mpr ⟨List.mem_append_right _ (List.mem_of_getElem? (i := 744) (by decide +kernel)), rfl⟩
theorem k_m_Law_15 : Cond.methodLink R_Law 15 y_Rows_init ∈ w_tb := List.mem_filter.mpr ⟨List.mem_append_right _ (List.mem_of_getElem? (i := 22) (by decide +kernel)), rfl⟩
theorem k_m_Law_18 : Cond.methodLink R_Law 18 y_Mod_init ∈ w_tb := List.mem_filter.mpr ⟨List.mem_append_right _ (List.mem_of_getElem? (i := 539) (by decide +kernel)), rfl⟩
theorem k_m_Law_19 : Cond.methodLink R_Law 19 y_Rows_initiator ∈ w_tb := List.mem_filter.mpr ⟨List.mem_append_right _ (List.mem_of_getElem? (i := 134) (by decide +kernel)), rfl⟩
theorem k_m_Law_23 : Cond.methodLink R_Law 23 y_Mod_initiator ∈ w_tb := List.mem_filter.mpr ⟨List.mem_append_right _ (List.mem_of_getElem? (i := 625) (by decide +kernel)), rfl⟩
theorem k_m_Law_24 : Cond.methodLink R_Law 24 y_Rows_cls ∈ w_tb := List.mem_filter.mpr ⟨List.mem_append_right _ (List.mem_of_getElem? (i := 216) (by decide +kernel)), rfl⟩
theorem k_m_Law_28 : Cond.methodLink R_Law 28 y_Mod_cls ∈ w_tb := List.mem_filter.mpr ⟨List.mem_append_right _ (List.mem_of_getElem? (i := 629) (by decide +kernel)), rfl⟩
theorem k_m_Law_29 : Cond.methodLink R_Law 29 y_Rows_limit ∈ w_tb := List.mem_filter.mpr ⟨List.mem_append_right _ (List.mem_of_getElem? (i := 244) (by decide +kernel)), rfl⟩
theorem k_m_Law_33 : Cond.methodLink R_Law 33 y_Mod_limit ∈ w_tb := List.mem_filter.mpr ⟨List.mem_append_right _ (List.mem_of_getElem? (i := 640) (by decide +kernel)), rfl⟩
theorem k_m_Law_34 : Cond.methodLink R_Law 34 y_Rows_window ∈ w_tb := List.mem_filter.mpr ⟨List.mem_append_right _ (List.mem_of_getElem? (i := 248) (by decide +kernel)), rfl⟩
theorem k_m_Law_37 : Cond.methodLink R_Law 37 y_Mod_window ∈ w_tb := List.mem_filter.mpr ⟨List.mem_append_right _ (List.mem_of_getElem? (i := 644) (by decide +kernel)), rfl⟩
theorem k_m_Law_40 : Cond.methodLink R_Law 40 y_Rows_job ∈ w_tb := List.mem_filter.mpr ⟨List.mem_append_right _ (List.mem_of_getElem? (i := 252) (by decide +kernel)), rfl⟩
theorem k_m_Law_44 : Cond.methodLink R_Law 44 y_Mod_job ∈ w_tb := List.mem_filter.mpr ⟨List.mem_append_right _ (List.mem_of_getElem? (i := 651) (by decide +kernel)), rfl⟩
theorem k_m_Law_45 : Cond.methodLink R_Law 45 y_Rows_needs ∈ w_tb := List.mem_filter.mpr ⟨List.mem_append_right _ (List.mem_of_getElem? (i := 309) (by decide +kernel)), rfl⟩
theorem k_m_Law_48 : Cond.methodLink R_Law 48 y_Mod_needs ∈ w_tb := List.mem_filter.mpr ⟨List.mem_append_right _ (List.mem_of_getElem? (i := 655) (by decide +kernel)), rfl⟩
theorem k_m_Law_49 : Cond.methodLink R_Law 49 y_Rows_units ∈ w_tb := List.mem_filter.mpr ⟨List.mem_append_right _ (List.mem_of_getElem? (i := 337) (by decide +kernel)), rfl⟩
theorem k_m_Law_52 : Cond.methodLink R_Law 52 y_Mod_units ∈ w_tb := List.mem_filter.mpr ⟨List.mem_append_right _ (List.mem_of_getElem? (i := 667) (by decide +kernel)), rfl⟩
theorem k_m_Law_53 : Cond.methodLink R_Law 53 y_Rows_uses ∈ w_tb := List.mem_filter.mpr ⟨List.mem_append_right _ (List.mem_of_getElem? (i := 344) (by decide +kernel)), rfl⟩
theorem k_m_Law_56 : Cond.methodLink R_Law 56 y_Mod_uses ∈ w_tb := List.mem_filter.mpr ⟨List.mem_append_right _ (List.mem_of_getElem? (i := 671) (by decide +kernel)), rfl⟩
theorem k_m_Law_57 : Cond.methodLink R_Law 57 y_Rows_alone ∈ w_tb := List.mem_filter.mpr ⟨List.mem_append_right _ (List.mem_of_getElem? (i := 348) (by decide +kernel)), rfl⟩
theorem k_m_Law_61 : Cond.methodLink R_Law 61 y_Mod_alone ∈ w_tb := List.mem_filter.mpr ⟨List.mem_append_right _ (List.mem_of_getElem? (i := 675) (by decide +kernel)), rfl⟩
theorem k_m_Law_62 : Cond.methodLink R_Law 62 y_Rows_hold ∈ w_tb := List.mem_filter.mpr ⟨List.mem_append_right _ (List.mem_of_getElem? (i := 352) (by decide +kernel)), rfl⟩
theorem k_m_Law_66 : Cond.methodLink R_Law 66 y_Mod_hold ∈ w_tb := List.mem_filter.mpr ⟨List.mem_append_right _ (List.mem_of_getElem? (i := 679) (by decide +kernel)), rfl⟩
theorem k_m_Law_67 : Cond.methodLink R_Law 67 y_Rows_next ∈ w_tb := List.mem_filter.mpr ⟨List.mem_append_right _ (List.mem_of_getElem? (i := 356) (by decide +kernel)), rfl⟩
theorem k_m_Law_71 : Cond.methodLink R_Law 71 y_Mod_next ∈ w_tb := List.mem_filter.mpr ⟨List.mem_append_right _ (List.mem_of_getElem? (i := 683) (by decide +kernel)), rfl⟩
theorem k_m_Law_72 : Cond.methodLink R_Law 72 y_Rows_end ∈ w_tb := List.mem_filter.mpr ⟨List.mem_append_right _ (List.mem_of_getElem? (i := 402) (by decide +kernel)), rfl⟩
theorem k_m_Law_75 : Cond.methodLink R_Law 75 y_Mod_end ∈ w_tb := List.mem_filter.mpr ⟨List.mem_append_right _ (List.mem_of_getElem? (i := 709) (by decide +kernel)), rfl⟩
theorem k_m_Law_76 : Cond.methodLink R_Law 76 y_Rows_age ∈ w_tb := List.mem_filter.mpr ⟨List.mem_append_right _ (List.mem_of_getElem? (i := 418) (by decide +kernel)), rfl⟩
theorem k_m_Law_80 : Cond.methodLink R_Law 80 y_Mod_age ∈ w_tb := List.mem_filter.mpr ⟨List.mem_append_right _ (List.mem_of_getElem? (i := 713) (by decide +kernel)), rfl⟩
theorem k_m_Law_81 : Cond.methodLink R_Law 81 y_Rows_drain ∈ w_tb := List.mem_filter.mpr ⟨List.mem_append_right _ (List.mem_of_getElem? (i := 422) (by decide +kernel)), rfl⟩
theorem k_m_Law_84 : Cond.methodLink R_Law 84 y_Mod_drain ∈ w_tb := List.mem_filter.mpr ⟨List.mem_append_right _ (List.mem_of_getElem? (i := 717) (by decide +kernel)), rfl⟩
theorem k_m_Law_85 : Cond.methodLink R_Law 85 y_Rows_weight ∈ w_tb := List.mem_filter.mpr ⟨List.mem_append_right _ (List.mem_of_getElem? (i := 426) (by decide +kernel)), rfl⟩
theorem k_m_Law_88 : Cond.methodLink R_Law 88 y_Mod_weight ∈ w_tb := List.mem_filter.mpr ⟨List.mem_append_right _ (List.mem_of_getElem? (i := 721) (by decide +kernel)), rfl⟩
theorem k_m_Law_89 : Cond.methodLink R_Law 89 y_Law_share ∈ w_tb := List.mem_filter.mpr ⟨List.mem_append_right _ (List.mem_of_getElem? (i := 459) (by decide +kernel)), rfl⟩
theorem k_m_Law_94 : Cond.methodLink R_Law 94 y_Mod_share ∈ w_tb := List.mem_filter.mpr ⟨List.mem_append_right _ (List.mem_of_getElem? (i := 725) (by decide +kernel)), rfl⟩
theorem k_m_Law_95 : Cond.methodLink R_Law 95 y_Mod_thrown ∈ w_tb := List.mem_filter.mpr ⟨List.mem_append_right _ (List.mem_of_getElem? (i := 621) (by decide +kernel)), rfl⟩
theorem k_m_Law_98 : Cond.methodLink R_Law 98 y_Rows_order ∈ w_tb := List.mem_filter.mpr ⟨List.mem_append_right _ (List.mem_of_getElem? (i := 430) (by decide +kernel)), rfl⟩
theorem k_m_Law_101 : Cond.methodLink R_Law 101 y_Mod_order ∈ w_tb := List.mem_filter.mpr ⟨List.mem_append_right _ (List.mem_of_getElem? (i := 730) (by decide +kernel)), rfl⟩
theorem k_m_Law_102 : Cond.methodLink R_Law 102 y_Rows_waited ∈ w_tb := List.mem_filter.mpr ⟨List.mem_append_right _ (List.mem_of_getElem? (i := 434) (by decide +kernel)), rfl⟩
theorem k_m_Law_106 : Cond.methodLink R_Law 106 y_Mod_waited ∈ w_tb := List.mem_filter.mpr ⟨List.mem_append_right _ (List.mem_of_getElem? (i := 734) (by decide +kernel)), rfl⟩
theorem k_m_Law_107 : Cond.methodLink R_Law 107 y_Rows_state ∈ w_tb := List.mem_filter.mpr ⟨List.mem_append_right _ (List.mem_of_getElem? (i := 439) (by decide +kernel)), rfl⟩
theorem k_m_Law_110 : Cond.methodLink R_Law 110 y_Mod_state ∈ w_tb := List.mem_filter.mpr ⟨List.mem_append_right _ (List.mem_of_getElem? (i := 738) (by decide +kernel)), rfl⟩
theorem k_m_Law_111 : Cond.methodLink R_Law 111 y_Rows_count ∈ w_tb := List.mem_filter.mpr ⟨List.mem_append_right _ (List.mem_of_getElem? (i := 443) (by decide +kernel)), rfl⟩
theorem k_m_Law_114 : Cond.methodLink R_Law 114 y_Mod_count ∈ w_tb := List.mem_filter.mpr ⟨List.mem_append_right _ (List.mem_of_getElem? (i := 742) (by decide +kernel)), rfl⟩
theorem k_k_Law_38 : Cond.constantLong R_Law 38 (4294967295) ∈ w_tb := List.mem_filter.mpr ⟨List.mem_append_right _ (List.mem_of_getElem? (i := 750) (by decide +kernel)), rfl⟩
theorem k_c_Law_8 : Cond.classLink R_Law 8 "InitiatorRows" ∈ w_tb := List.mem_filter.mpr ⟨List.mem_append_right _ (List.mem_of_getElem? (i := 20) (by decide +kernel)), rfl⟩
theorem k_c_Law_16 : Cond.classLink R_Law 16 "InitiatorRowsModel" ∈ w_tb := List.mem_filter.mpr ⟨List.mem_append_right _ (List.mem_of_getElem? (i := 537) (by decide +kernel)), rfl⟩
