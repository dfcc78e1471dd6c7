/-! decode rows, and every method is right -/
variable {p : Program} {l : Launch} {e : Env} {R : Room} {s : State} {m : MethodId} {args : Array Value} {below : List Frame} {meth : Method} {c : Code} {D : va_G} {cid : Nat → ClassId} {kv : Nat → Option Nat} {N0 : Nat} {xs : Nat → Int32} {Ls n0 z0 nF zE d : Nat} {ρ0 : List Nat} {Qq : zQq} {r0 : Option Value} {hF : zH}
theorem dL_law_0 : decode cL_law 0 = .ok (.new 7, 3) := by decide +kernel
theorem dL_law_3 : decode cL_law 3 = .ok (.dup, 1) := by decide +kernel
theorem dL_law_4 : decode cL_law 4 = .ok (.invokespecial 9, 3) := by decide +kernel
theorem dL_law_7 : decode cL_law 7 = .ok (.astore_n 1, 1) := by decide +kernel
theorem dL_law_8 : decode cL_law 8 = .ok (.new 10, 3) := by decide +kernel
theorem dL_law_11 : decode cL_law 11 = .ok (.dup, 1) := by decide +kernel
theorem dL_law_12 : decode cL_law 12 = .ok (.invokespecial 12, 3) := by decide +kernel
theorem dL_law_15 : decode cL_law 15 = .ok (.astore_n 2, 1) := by decide +kernel
theorem dL_law_16 : decode cL_law 16 = .ok (.iconst 0, 1) := by decide +kernel
theorem dL_law_17 : decode cL_law 17 = .ok (.istore_n 3, 1) := by decide +kernel
theorem dL_law_18 : decode cL_law 18 = .ok (.iload_n 3, 1) := by decide +kernel
theorem dL_law_19 : decode cL_law 19 = .ok (.aload_n 0, 1) := by decide +kernel
theorem dL_law_20 : decode cL_law 20 = .ok (.arraylength, 1) := by decide +kernel
theorem dL_law_21 : decode cL_law 21 = .ok (.bipush 6, 2) := by decide +kernel
theorem dL_law_23 : decode cL_law 23 = .ok (.isub, 1) := by decide +kernel
theorem dL_law_24 : decode cL_law 24 = .ok (.if_icmp .gt 1233, 3) := by decide +kernel
theorem dL_law_27 : decode cL_law 27 = .ok (.aload_n 0, 1) := by decide +kernel
theorem dL_law_28 : decode cL_law 28 = .ok (.iload_n 3, 1) := by decide +kernel
theorem dL_law_29 : decode cL_law 29 = .ok (.iaload, 1) := by decide +kernel
theorem dL_law_30 : decode cL_law 30 = .ok (.bipush 31, 2) := by decide +kernel
theorem dL_law_32 : decode cL_law 32 = .ok (.iand, 1) := by decide +kernel
theorem dL_law_33 : decode cL_law 33 = .ok (.tableswitch 1218 0 31 #[143, 196, 229, 272, 321, 344, 387, 410, 423, 446, 469, 502, 535, 578, 621, 644, 688, 722, 755, 778, 811, 824, 857, 870, 883, 926, 949, 982, 1005, 1048, 1121, 1155], 143) := by decide +kernel
theorem dL_law_176 : decode cL_law 176 = .ok (.aload_n 1, 1) := by decide +kernel
theorem dL_law_177 : decode cL_law 177 = .ok (.aload_n 0, 1) := by decide +kernel
theorem dL_law_178 : decode cL_law 178 = .ok (.iload_n 3, 1) := by decide +kernel
theorem dL_law_179 : decode cL_law 179 = .ok (.iconst 1, 1) := by decide +kernel
theorem dL_law_180 : decode cL_law 180 = .ok (.iadd, 1) := by decide +kernel
theorem dL_law_181 : decode cL_law 181 = .ok (.iaload, 1) := by decide +kernel
theorem dL_law_182 : decode cL_law 182 = .ok (.aload_n 0, 1) := by decide +kernel
theorem dL_law_183 : decode cL_law 183 = .ok (.iload_n 3, 1) := by decide +kernel
theorem dL_law_184 : decode cL_law 184 = .ok (.iconst 2, 1) := by decide +kernel
theorem dL_law_185 : decode cL_law 185 = .ok (.iadd, 1) := by decide +kernel
theorem dL_law_186 : decode cL_law 186 = .ok (.iaload, 1) := by decide +kernel
theorem dL_law_187 : decode cL_law 187 = .ok (.aload_n 0, 1) := by decide +kernel
theorem dL_law_188 : decode cL_law 188 = .ok (.iload_n 3, 1) := by decide +kernel
theorem dL_law_189 : decode cL_law 189 = .ok (.iconst 3, 1) := by decide +kernel
theorem dL_law_190 : decode cL_law 190 = .ok (.iadd, 1) := by decide +kernel
theorem dL_law_191 : decode cL_law 191 = .ok (.iaload, 1) := by decide +kernel
theorem dL_law_192 : decode cL_law 192 = .ok (.aload_n 0, 1) := by decide +kernel
theorem dL_law_193 : decode cL_law 193 = .ok (.iload_n 3, 1) := by decide +kernel
theorem dL_law_194 : decode cL_law 194 = .ok (.iconst 4, 1) := by decide +kernel
theorem dL_law_195 : decode cL_law 195 = .ok (.iadd, 1) := by decide +kernel
theorem dL_law_196 : decode cL_law 196 = .ok (.iaload, 1) := by decide +kernel
theorem dL_law_197 : decode cL_law 197 = .ok (.invokevirtual 13, 3) := by decide +kernel
theorem dL_law_200 : decode cL_law 200 = .ok (.aload_n 2, 1) := by decide +kernel
theorem dL_law_201 : decode cL_law 201 = .ok (.aload_n 0, 1) := by decide +kernel
theorem dL_law_202 : decode cL_law 202 = .ok (.iload_n 3, 1) := by decide +kernel
theorem dL_law_203 : decode cL_law 203 = .ok (.iconst 1, 1) := by decide +kernel
theorem dL_law_204 : decode cL_law 204 = .ok (.iadd, 1) := by decide +kernel
theorem dL_law_205 : decode cL_law 205 = .ok (.iaload, 1) := by decide +kernel
theorem dL_law_206 : decode cL_law 206 = .ok (.aload_n 0, 1) := by decide +kernel
theorem dL_law_207 : decode cL_law 207 = .ok (.iload_n 3, 1) := by decide +kernel
theorem dL_law_208 : decode cL_law 208 = .ok (.iconst 2, 1) := by decide +kernel
theorem dL_law_209 : decode cL_law 209 = .ok (.iadd, 1) := by decide +kernel
theorem dL_law_210 : decode cL_law 210 = .ok (.iaload, 1) := by decide +kernel
theorem dL_law_211 : decode cL_law 211 = .ok (.aload_n 0, 1) := by decide +kernel
theorem dL_law_212 : decode cL_law 212 = .ok (.iload_n 3, 1) := by decide +kernel
theorem dL_law_213 : decode cL_law 213 = .ok (.iconst 3, 1) := by decide +kernel
theorem dL_law_214 : decode cL_law 214 = .ok (.iadd, 1) := by decide +kernel
theorem dL_law_215 : decode cL_law 215 = .ok (.iaload, 1) := by decide +kernel
theorem dL_law_216 : decode cL_law 216 = .ok (.aload_n 0, 1) := by decide +kernel
theorem dL_law_217 : decode cL_law 217 = .ok (.iload_n 3, 1) := by decide +kernel
theorem dL_law_218 : decode cL_law 218 = .ok (.iconst 4, 1) := by decide +kernel
theorem dL_law_219 : decode cL_law 219 = .ok (.iadd, 1) := by decide +kernel
theorem dL_law_220 : decode cL_law 220 = .ok (.iaload, 1) := by decide +kernel
theorem dL_law_221 : decode cL_law 221 = .ok (.invokevirtual 17, 3) := by decide +kernel
theorem dL_law_224 : decode cL_law 224 = .ok (.if_icmp .eq 1027, 3) := by decide +kernel
theorem dL_law_227 : decode cL_law 227 = .ok (.iconst 0, 1) := by decide +kernel
theorem dL_law_228 : decode cL_law 228 = .ok (.ireturn, 1) := by decide +kernel
theorem dL_law_229 : decode cL_law 229 = .ok (.aload_n 1, 1) := by decide +kernel
theorem dL_law_230 : decode cL_law 230 = .ok (.aload_n 0, 1) := by decide +kernel
theorem dL_law_231 : decode cL_law 231 = .ok (.iload_n 3, 1) := by decide +kernel
theorem dL_law_232 : decode cL_law 232 = .ok (.iconst 1, 1) := by decide +kernel
theorem dL_law_233 : decode cL_law 233 = .ok (.iadd, 1) := by decide +kernel
theorem dL_law_234 : decode cL_law 234 = .ok (.iaload, 1) := by decide +kernel
theorem dL_law_235 : decode cL_law 235 = .ok (.aload_n 0, 1) := by decide +kernel
theorem dL_law_236 : decode cL_law 236 = .ok (.iload_n 3, 1) := by decide +kernel
theorem dL_law_237 : decode cL_law 237 = .ok (.iconst 2, 1) := by decide +kernel
theorem dL_law_238 : decode cL_law 238 = .ok (.iadd, 1) := by decide +kernel
theorem dL_law_239 : decode cL_law 239 = .ok (.iaload, 1) := by decide +kernel
theorem dL_law_240 : decode cL_law 240 = .ok (.invokevirtual 18, 3) := by decide +kernel
theorem dL_law_243 : decode cL_law 243 = .ok (.aload_n 2, 1) := by decide +kernel
theorem dL_law_244 : decode cL_law 244 = .ok (.aload_n 0, 1) := by decide +kernel
theorem dL_law_245 : decode cL_law 245 = .ok (.iload_n 3, 1) := by decide +kernel
theorem dL_law_246 : decode cL_law 246 = .ok (.iconst 1, 1) := by decide +kernel
theorem dL_law_247 : decode cL_law 247 = .ok (.iadd, 1) := by decide +kernel
theorem dL_law_248 : decode cL_law 248 = .ok (.iaload, 1) := by decide +kernel
theorem dL_law_249 : decode cL_law 249 = .ok (.aload_n 0, 1) := by decide +kernel
theorem dL_law_250 : decode cL_law 250 = .ok (.iload_n 3, 1) := by decide +kernel
theorem dL_law_251 : decode cL_law 251 = .ok (.iconst 2, 1) := by decide +kernel
theorem dL_law_252 : decode cL_law 252 = .ok (.iadd, 1) := by decide +kernel
theorem dL_law_253 : decode cL_law 253 = .ok (.iaload, 1) := by decide +kernel
theorem dL_law_254 : decode cL_law 254 = .ok (.invokevirtual 22, 3) := by decide +kernel
theorem dL_law_257 : decode cL_law 257 = .ok (.if_icmp .eq 994, 3) := by decide +kernel
theorem dL_law_260 : decode cL_law 260 = .ok (.iconst 0, 1) := by decide +kernel
theorem dL_law_261 : decode cL_law 261 = .ok (.ireturn, 1) := by decide +kernel
theorem dL_law_262 : decode cL_law 262 = .ok (.aload_n 1, 1) := by decide +kernel
theorem dL_law_263 : decode cL_law 263 = .ok (.aload_n 0, 1) := by decide +kernel
theorem dL_law_264 : decode cL_law 264 = .ok (.iload_n 3, 1) := by decide +kernel
theorem dL_law_265 : decode cL_law 265 = .ok (.iconst 1, 1) := by decide +kernel
theorem dL_law_266 : decode cL_law 266 = .ok (.iadd, 1) := by decide +kernel
theorem dL_law_267 : decode cL_law 267 = .ok (.iaload, 1) := by decide +kernel
theorem dL_law_268 : decode cL_law 268 = .ok (.aload_n 0, 1) := by decide +kernel
theorem dL_law_269 : decode cL_law 269 = .ok (.iload_n 3, 1) := by decide +kernel
theorem dL_law_270 : decode cL_law 270 = .ok (.iconst 2, 1) := by decide +kernel
theorem dL_law_271 : decode cL_law 271 = .ok (.iadd, 1) := by decide +kernel
theorem dL_law_272 : decode cL_law 272 = .ok (.iaload, 1) := by decide +kernel
theorem dL_law_273 : decode cL_law 273 = .ok (.aload_n 0, 1) := by decide +kernel
theorem dL_law_274 : decode cL_law 274 = .ok (.iload_n 3, 1) := by decide +kernel
theorem dL_law_275 : decode cL_law 275 = .ok (.iconst 3, 1) := by decide +kernel
theorem dL_law_276 : decode cL_law 276 = .ok (.iadd, 1) := by decide +kernel
theorem dL_law_277 : decode cL_law 277 = .ok (.iaload, 1) := by decide +kernel
theorem dL_law_278 : decode cL_law 278 = .ok (.invokevirtual 23, 3) := by decide +kernel
theorem dL_law_281 : decode cL_law 281 = .ok (.aload_n 2, 1) := by decide +kernel
theorem dL_law_282 : decode cL_law 282 = .ok (.aload_n 0, 1) := by decide +kernel
theorem dL_law_283 : decode cL_law 283 = .ok (.iload_n 3, 1) := by decide +kernel
theorem dL_law_284 : decode cL_law 284 = .ok (.iconst 1, 1) := by decide +kernel
theorem dL_law_285 : decode cL_law 285 = .ok (.iadd, 1) := by decide +kernel
theorem dL_law_286 : decode cL_law 286 = .ok (.iaload, 1) := by decide +kernel
theorem dL_law_287 : decode cL_law 287 = .ok (.aload_n 0, 1) := by decide +kernel
theorem dL_law_288 : decode cL_law 288 = .ok (.iload_n 3, 1) := by decide +kernel
theorem dL_law_289 : decode cL_law 289 = .ok (.iconst 2, 1) := by decide +kernel
theorem dL_law_290 : decode cL_law 290 = .ok (.iadd, 1) := by decide +kernel
theorem dL_law_291 : decode cL_law 291 = .ok (.iaload, 1) := by decide +kernel
theorem dL_law_292 : decode cL_law 292 = .ok (.aload_n 0, 1) := by decide +kernel
theorem dL_law_293 : decode cL_law 293 = .ok (.iload_n 3, 1) := by decide +kernel
theorem dL_law_294 : decode cL_law 294 = .ok (.iconst 3, 1) := by decide +kernel
theorem dL_law_295 : decode cL_law 295 = .ok (.iadd, 1) := by decide +kernel
theorem dL_law_296 : decode cL_law 296 = .ok (.iaload, 1) := by decide +kernel
theorem dL_law_297 : decode cL_law 297 = .ok (.invokevirtual 27, 3) := by decide +kernel
theorem dL_law_300 : decode cL_law 300 = .ok (.if_icmp .eq 951, 3) := by decide +kernel
theorem dL_law_303 : decode cL_law 303 = .ok (.iconst 0, 1) := by decide +kernel
theorem dL_law_304 : decode cL_law 304 = .ok (.ireturn, 1) := by decide +kernel
theorem dL_law_305 : decode cL_law 305 = .ok (.aload_n 1, 1) := by decide +kernel
theorem dL_law_306 : decode cL_law 306 = .ok (.aload_n 0, 1) := by decide +kernel
theorem dL_law_307 : decode cL_law 307 = .ok (.iload_n 3, 1) := by decide +kernel
theorem dL_law_308 : decode cL_law 308 = .ok (.iconst 1, 1) := by decide +kernel
theorem dL_law_309 : decode cL_law 309 = .ok (.iadd, 1) := by decide +kernel
theorem dL_law_310 : decode cL_law 310 = .ok (.iaload, 1) := by decide +kernel
theorem dL_law_311 : decode cL_law 311 = .ok (.aload_n 0, 1) := by decide +kernel
theorem dL_law_312 : decode cL_law 312 = .ok (.iload_n 3, 1) := by decide +kernel
theorem dL_law_313 : decode cL_law 313 = .ok (.iconst 2, 1) := by decide +kernel
theorem dL_law_314 : decode cL_law 314 = .ok (.iadd, 1) := by decide +kernel
theorem dL_law_315 : decode cL_law 315 = .ok (.iaload, 1) := by decide +kernel
theorem dL_law_316 : decode cL_law 316 = .ok (.ifCond .eq 7, 3) := by decide +kernel
theorem dL_law_319 : decode cL_law 319 = .ok (.iconst 1, 1) := by decide +kernel
theorem dL_law_320 : decode cL_law 320 = .ok (.goto 4, 3) := by decide +kernel
theorem dL_law_323 : decode cL_law 323 = .ok (.iconst 0, 1) := by decide +kernel
theorem dL_law_324 : decode cL_law 324 = .ok (.invokevirtual 28, 3) := by decide +kernel
theorem dL_law_327 : decode cL_law 327 = .ok (.aload_n 2, 1) := by decide +kernel
theorem dL_law_328 : decode cL_law 328 = .ok (.aload_n 0, 1) := by decide +kernel
theorem dL_law_329 : decode cL_law 329 = .ok (.iload_n 3, 1) := by decide +kernel
theorem dL_law_330 : decode cL_law 330 = .ok (.iconst 1, 1) := by decide +kernel
theorem dL_law_331 : decode cL_law 331 = .ok (.iadd, 1) := by decide +kernel
theorem dL_law_332 : decode cL_law 332 = .ok (.iaload, 1) := by decide +kernel
theorem dL_law_333 : decode cL_law 333 = .ok (.aload_n 0, 1) := by decide +kernel
theorem dL_law_334 : decode cL_law 334 = .ok (.iload_n 3, 1) := by decide +kernel
theorem dL_law_335 : decode cL_law 335 = .ok (.iconst 2, 1) := by decide +kernel
theorem dL_law_336 : decode cL_law 336 = .ok (.iadd, 1) := by decide +kernel
theorem dL_law_337 : decode cL_law 337 = .ok (.iaload, 1) := by decide +kernel
theorem dL_law_338 : decode cL_law 338 = .ok (.ifCond .eq 7, 3) := by decide +kernel
theorem dL_law_341 : decode cL_law 341 = .ok (.iconst 1, 1) := by decide +kernel
theorem dL_law_342 : decode cL_law 342 = .ok (.goto 4, 3) := by decide +kernel
theorem dL_law_345 : decode cL_law 345 = .ok (.iconst 0, 1) := by decide +kernel
theorem dL_law_346 : decode cL_law 346 = .ok (.invokevirtual 32, 3) := by decide +kernel
theorem dL_law_349 : decode cL_law 349 = .ok (.if_icmp .eq 902, 3) := by decide +kernel
theorem dL_law_352 : decode cL_law 352 = .ok (.iconst 0, 1) := by decide +kernel
theorem dL_law_353 : decode cL_law 353 = .ok (.ireturn, 1) := by decide +kernel
theorem dL_law_354 : decode cL_law 354 = .ok (.aload_n 1, 1) := by decide +kernel
theorem dL_law_355 : decode cL_law 355 = .ok (.aload_n 0, 1) := by decide +kernel
theorem dL_law_356 : decode cL_law 356 = .ok (.iload_n 3, 1) := by decide +kernel
theorem dL_law_357 : decode cL_law 357 = .ok (.iconst 1, 1) := by decide +kernel
theorem dL_law_358 : decode cL_law 358 = .ok (.iadd, 1) := by decide +kernel
theorem dL_law_359 : decode cL_law 359 = .ok (.iaload, 1) := by decide +kernel
theorem dL_law_360 : decode cL_law 360 = .ok (.invokevirtual 33, 3) := by decide +kernel
theorem dL_law_363 : decode cL_law 363 = .ok (.aload_n 2, 1) := by decide +kernel
theorem dL_law_364 : decode cL_law 364 = .ok (.aload_n 0, 1) := by decide +kernel
theorem dL_law_365 : decode cL_law 365 = .ok (.iload_n 3, 1) := by decide +kernel
theorem dL_law_366 : decode cL_law 366 = .ok (.iconst 1, 1) := by decide +kernel
theorem dL_law_367 : decode cL_law 367 = .ok (.iadd, 1) := by decide +kernel
theorem dL_law_368 : decode cL_law 368 = .ok (.iaload, 1) := by decide +kernel
theorem dL_law_369 : decode cL_law 369 = .ok (.invokevirtual 37, 3) := by decide +kernel
theorem dL_law_372 : decode cL_law 372 = .ok (.if_icmp .eq 879, 3) := by decide +kernel
theorem dL_law_375 : decode cL_law 375 = .ok (.iconst 0, 1) := by decide +kernel
theorem dL_law_376 : decode cL_law 376 = .ok (.ireturn, 1) := by decide +kernel
theorem dL_law_377 : decode cL_law 377 = .ok (.aload_n 1, 1) := by decide +kernel
theorem dL_law_378 : decode cL_law 378 = .ok (.aload_n 0, 1) := by decide +kernel
theorem dL_law_379 : decode cL_law 379 = .ok (.iload_n 3, 1) := by decide +kernel
theorem dL_law_380 : decode cL_law 380 = .ok (.iconst 1, 1) := by decide +kernel
theorem dL_law_381 : decode cL_law 381 = .ok (.iadd, 1) := by decide +kernel
theorem dL_law_382 : decode cL_law 382 = .ok (.iaload, 1) := by decide +kernel
theorem dL_law_383 : decode cL_law 383 = .ok (.aload_n 0, 1) := by decide +kernel
theorem dL_law_384 : decode cL_law 384 = .ok (.iload_n 3, 1) := by decide +kernel
theorem dL_law_385 : decode cL_law 385 = .ok (.iconst 2, 1) := by decide +kernel
theorem dL_law_386 : decode cL_law 386 = .ok (.iadd, 1) := by decide +kernel
theorem dL_law_387 : decode cL_law 387 = .ok (.iaload, 1) := by decide +kernel
theorem dL_law_388 : decode cL_law 388 = .ok (.aload_n 0, 1) := by decide +kernel
theorem dL_law_389 : decode cL_law 389 = .ok (.iload_n 3, 1) := by decide +kernel
theorem dL_law_390 : decode cL_law 390 = .ok (.iconst 3, 1) := by decide +kernel
theorem dL_law_391 : decode cL_law 391 = .ok (.iadd, 1) := by decide +kernel
theorem dL_law_392 : decode cL_law 392 = .ok (.iaload, 1) := by decide +kernel
theorem dL_law_393 : decode cL_law 393 = .ok (.invokevirtual 38, 3) := by decide +kernel
theorem dL_law_396 : decode cL_law 396 = .ok (.aload_n 2, 1) := by decide +kernel
theorem dL_law_397 : decode cL_law 397 = .ok (.aload_n 0, 1) := by decide +kernel
theorem dL_law_398 : decode cL_law 398 = .ok (.iload_n 3, 1) := by decide +kernel
theorem dL_law_399 : decode cL_law 399 = .ok (.iconst 1, 1) := by decide +kernel
theorem dL_law_400 : decode cL_law 400 = .ok (.iadd, 1) := by decide +kernel
theorem dL_law_401 : decode cL_law 401 = .ok (.iaload, 1) := by decide +kernel
theorem dL_law_402 : decode cL_law 402 = .ok (.aload_n 0, 1) := by decide +kernel
theorem dL_law_403 : decode cL_law 403 = .ok (.iload_n 3, 1) := by decide +kernel
theorem dL_law_404 : decode cL_law 404 = .ok (.iconst 2, 1) := by decide +kernel
theorem dL_law_405 : decode cL_law 405 = .ok (.iadd, 1) := by decide +kernel
theorem dL_law_406 : decode cL_law 406 = .ok (.iaload, 1) := by decide +kernel
theorem dL_law_407 : decode cL_law 407 = .ok (.aload_n 0, 1) := by decide +kernel
theorem dL_law_408 : decode cL_law 408 = .ok (.iload_n 3, 1) := by decide +kernel
theorem dL_law_409 : decode cL_law 409 = .ok (.iconst 3, 1) := by decide +kernel
theorem dL_law_410 : decode cL_law 410 = .ok (.iadd, 1) := by decide +kernel
theorem dL_law_411 : decode cL_law 411 = .ok (.iaload, 1) := by decide +kernel
theorem dL_law_412 : decode cL_law 412 = .ok (.invokevirtual 41, 3) := by decide +kernel
theorem dL_law_415 : decode cL_law 415 = .ok (.if_icmp .eq 836, 3) := by decide +kernel
theorem dL_law_418 : decode cL_law 418 = .ok (.iconst 0, 1) := by decide +kernel
theorem dL_law_419 : decode cL_law 419 = .ok (.ireturn, 1) := by decide +kernel
theorem dL_law_420 : decode cL_law 420 = .ok (.aload_n 1, 1) := by decide +kernel
theorem dL_law_421 : decode cL_law 421 = .ok (.aload_n 0, 1) := by decide +kernel
theorem dL_law_422 : decode cL_law 422 = .ok (.iload_n 3, 1) := by decide +kernel
theorem dL_law_423 : decode cL_law 423 = .ok (.iconst 1, 1) := by decide +kernel
theorem dL_law_424 : decode cL_law 424 = .ok (.iadd, 1) := by decide +kernel
theorem dL_law_425 : decode cL_law 425 = .ok (.iaload, 1) := by decide +kernel
theorem dL_law_426 : decode cL_law 426 = .ok (.invokevirtual 42, 3) := by decide +kernel
theorem dL_law_429 : decode cL_law 429 = .ok (.aload_n 2, 1) := by decide +kernel
theorem dL_law_430 : decode cL_law 430 = .ok (.aload_n 0, 1) := by decide +kernel
theorem dL_law_431 : decode cL_law 431 = .ok (.iload_n 3, 1) := by decide +kernel
theorem dL_law_432 : decode cL_law 432 = .ok (.iconst 1, 1) := by decide +kernel
theorem dL_law_433 : decode cL_law 433 = .ok (.iadd, 1) := by decide +kernel
theorem dL_law_434 : decode cL_law 434 = .ok (.iaload, 1) := by decide +kernel
theorem dL_law_435 : decode cL_law 435 = .ok (.invokevirtual 45, 3) := by decide +kernel
theorem dL_law_438 : decode cL_law 438 = .ok (.if_icmp .eq 813, 3) := by decide +kernel
theorem dL_law_441 : decode cL_law 441 = .ok (.iconst 0, 1) := by decide +kernel
theorem dL_law_442 : decode cL_law 442 = .ok (.ireturn, 1) := by decide +kernel
theorem dL_law_443 : decode cL_law 443 = .ok (.aload_n 1, 1) := by decide +kernel
theorem dL_law_444 : decode cL_law 444 = .ok (.invokevirtual 46, 3) := by decide +kernel
theorem dL_law_447 : decode cL_law 447 = .ok (.aload_n 2, 1) := by decide +kernel
theorem dL_law_448 : decode cL_law 448 = .ok (.invokevirtual 50, 3) := by decide +kernel
theorem dL_law_451 : decode cL_law 451 = .ok (.if_icmp .eq 800, 3) := by decide +kernel
theorem dL_law_454 : decode cL_law 454 = .ok (.iconst 0, 1) := by decide +kernel
theorem dL_law_455 : decode cL_law 455 = .ok (.ireturn, 1) := by decide +kernel
theorem dL_law_456 : decode cL_law 456 = .ok (.aload_n 1, 1) := by decide +kernel
theorem dL_law_457 : decode cL_law 457 = .ok (.aload_n 0, 1) := by decide +kernel
theorem dL_law_458 : decode cL_law 458 = .ok (.iload_n 3, 1) := by decide +kernel
theorem dL_law_459 : decode cL_law 459 = .ok (.iconst 1, 1) := by decide +kernel
theorem dL_law_460 : decode cL_law 460 = .ok (.iadd, 1) := by decide +kernel
theorem dL_law_461 : decode cL_law 461 = .ok (.iaload, 1) := by decide +kernel
theorem dL_law_462 : decode cL_law 462 = .ok (.invokevirtual 51, 3) := by decide +kernel
theorem dL_law_465 : decode cL_law 465 = .ok (.aload_n 2, 1) := by decide +kernel
theorem dL_law_466 : decode cL_law 466 = .ok (.aload_n 0, 1) := by decide +kernel
theorem dL_law_467 : decode cL_law 467 = .ok (.iload_n 3, 1) := by decide +kernel
theorem dL_law_468 : decode cL_law 468 = .ok (.iconst 1, 1) := by decide +kernel
theorem dL_law_469 : decode cL_law 469 = .ok (.iadd, 1) := by decide +kernel
theorem dL_law_470 : decode cL_law 470 = .ok (.iaload, 1) := by decide +kernel
theorem dL_law_471 : decode cL_law 471 = .ok (.invokevirtual 54, 3) := by decide +kernel
theorem dL_law_474 : decode cL_law 474 = .ok (.if_icmp .eq 777, 3) := by decide +kernel
theorem dL_law_477 : decode cL_law 477 = .ok (.iconst 0, 1) := by decide +kernel
theorem dL_law_478 : decode cL_law 478 = .ok (.ireturn, 1) := by decide +kernel
theorem dL_law_479 : decode cL_law 479 = .ok (.aload_n 1, 1) := by decide +kernel
theorem dL_law_480 : decode cL_law 480 = .ok (.aload_n 0, 1) := by decide +kernel
theorem dL_law_481 : decode cL_law 481 = .ok (.iload_n 3, 1) := by decide +kernel
theorem dL_law_482 : decode cL_law 482 = .ok (.iconst 1, 1) := by decide +kernel
theorem dL_law_483 : decode cL_law 483 = .ok (.iadd, 1) := by decide +kernel
theorem dL_law_484 : decode cL_law 484 = .ok (.iaload, 1) := by decide +kernel
theorem dL_law_485 : decode cL_law 485 = .ok (.invokevirtual 55, 3) := by decide +kernel
theorem dL_law_488 : decode cL_law 488 = .ok (.aload_n 2, 1) := by decide +kernel
theorem dL_law_489 : decode cL_law 489 = .ok (.aload_n 0, 1) := by decide +kernel
theorem dL_law_490 : decode cL_law 490 = .ok (.iload_n 3, 1) := by decide +kernel
theorem dL_law_491 : decode cL_law 491 = .ok (.iconst 1, 1) := by decide +kernel
theorem dL_law_492 : decode cL_law 492 = .ok (.iadd, 1) := by decide +kernel
theorem dL_law_493 : decode cL_law 493 = .ok (.iaload, 1) := by decide +kernel
theorem dL_law_494 : decode cL_law 494 = .ok (.invokevirtual 58, 3) := by decide +kernel
theorem dL_law_497 : decode cL_law 497 = .ok (.if_icmp .eq 754, 3) := by decide +kernel
theorem dL_law_500 : decode cL_law 500 = .ok (.iconst 0, 1) := by decide +kernel
theorem dL_law_501 : decode cL_law 501 = .ok (.ireturn, 1) := by decide +kernel
theorem dL_law_502 : decode cL_law 502 = .ok (.aload_n 1, 1) := by decide +kernel
theorem dL_law_503 : decode cL_law 503 = .ok (.aload_n 0, 1) := by decide +kernel
theorem dL_law_504 : decode cL_law 504 = .ok (.iload_n 3, 1) := by decide +kernel
theorem dL_law_505 : decode cL_law 505 = .ok (.iconst 1, 1) := by decide +kernel
theorem dL_law_506 : decode cL_law 506 = .ok (.iadd, 1) := by decide +kernel
theorem dL_law_507 : decode cL_law 507 = .ok (.iaload, 1) := by decide +kernel
theorem dL_law_508 : decode cL_law 508 = .ok (.aload_n 0, 1) := by decide +kernel
theorem dL_law_509 : decode cL_law 509 = .ok (.iload_n 3, 1) := by decide +kernel
theorem dL_law_510 : decode cL_law 510 = .ok (.iconst 2, 1) := by decide +kernel
theorem dL_law_511 : decode cL_law 511 = .ok (.iadd, 1) := by decide +kernel
theorem dL_law_512 : decode cL_law 512 = .ok (.iaload, 1) := by decide +kernel
theorem dL_law_513 : decode cL_law 513 = .ok (.invokevirtual 59, 3) := by decide +kernel
theorem dL_law_516 : decode cL_law 516 = .ok (.aload_n 2, 1) := by decide +kernel
theorem dL_law_517 : decode cL_law 517 = .ok (.aload_n 0, 1) := by decide +kernel
theorem dL_law_518 : decode cL_law 518 = .ok (.iload_n 3, 1) := by decide +kernel
theorem dL_law_519 : decode cL_law 519 = .ok (.iconst 1, 1) := by decide +kernel
theorem dL_law_520 : decode cL_law 520 = .ok (.iadd, 1) := by decide +kernel
theorem dL_law_521 : decode cL_law 521 = .ok (.iaload, 1) := by decide +kernel
theorem dL_law_522 : decode cL_law 522 = .ok (.aload_n 0, 1) := by decide +kernel
theorem dL_law_523 : decode cL_law 523 = .ok (.iload_n 3, 1) := by decide +kernel
theorem dL_law_524 : decode cL_law 524 = .ok (.iconst 2, 1) := by decide +kernel
theorem dL_law_525 : decode cL_law 525 = .ok (.iadd, 1) := by decide +kernel
theorem dL_law_526 : decode cL_law 526 = .ok (.iaload, 1) := by decide +kernel
theorem dL_law_527 : decode cL_law 527 = .ok (.invokevirtual 62, 3) := by decide +kernel
theorem dL_law_530 : decode cL_law 530 = .ok (.if_icmp .eq 721, 3) := by decide +kernel
theorem dL_law_533 : decode cL_law 533 = .ok (.iconst 0, 1) := by decide +kernel
theorem dL_law_534 : decode cL_law 534 = .ok (.ireturn, 1) := by decide +kernel
theorem dL_law_535 : decode cL_law 535 = .ok (.aload_n 1, 1) := by decide +kernel
theorem dL_law_536 : decode cL_law 536 = .ok (.aload_n 0, 1) := by decide +kernel
theorem dL_law_537 : decode cL_law 537 = .ok (.iload_n 3, 1) := by decide +kernel
theorem dL_law_538 : decode cL_law 538 = .ok (.iconst 1, 1) := by decide +kernel
theorem dL_law_539 : decode cL_law 539 = .ok (.iadd, 1) := by decide +kernel
theorem dL_law_540 : decode cL_law 540 = .ok (.iaload, 1) := by decide +kernel
theorem dL_law_541 : decode cL_law 541 = .ok (.aload_n 0, 1) := by decide +kernel
theorem dL_law_542 : decode cL_law 542 = .ok (.iload_n 3, 1) := by decide +kernel
theorem dL_law_543 : decode cL_law 543 = .ok (.iconst 2, 1) := by decide +kernel
theorem dL_law_544 : decode cL_law 544 = .ok (.iadd, 1) := by decide +kernel
theorem dL_law_545 : decode cL_law 545 = .ok (.iaload, 1) := by decide +kernel
theorem dL_law_546 : decode cL_law 546 = .ok (.invokevirtual 63, 3) := by decide +kernel
theorem dL_law_549 : decode cL_law 549 = .ok (.aload_n 2, 1) := by decide +kernel
theorem dL_law_550 : decode cL_law 550 = .ok (.aload_n 0, 1) := by decide +kernel
theorem dL_law_551 : decode cL_law 551 = .ok (.iload_n 3, 1) := by decide +kernel
theorem dL_law_552 : decode cL_law 552 = .ok (.iconst 1, 1) := by decide +kernel
theorem dL_law_553 : decode cL_law 553 = .ok (.iadd, 1) := by decide +kernel
theorem dL_law_554 : decode cL_law 554 = .ok (.iaload, 1) := by decide +kernel
theorem dL_law_555 : decode cL_law 555 = .ok (.aload_n 0, 1) := by decide +kernel
theorem dL_law_556 : decode cL_law 556 = .ok (.iload_n 3, 1) := by decide +kernel
theorem dL_law_557 : decode cL_law 557 = .ok (.iconst 2, 1) := by decide +kernel
theorem dL_law_558 : decode cL_law 558 = .ok (.iadd, 1) := by decide +kernel
theorem dL_law_559 : decode cL_law 559 = .ok (.iaload, 1) := by decide +kernel
theorem dL_law_560 : decode cL_law 560 = .ok (.invokevirtual 66, 3) := by decide +kernel
theorem dL_law_563 : decode cL_law 563 = .ok (.if_icmp .eq 688, 3) := by decide +kernel
theorem dL_law_566 : decode cL_law 566 = .ok (.iconst 0, 1) := by decide +kernel
theorem dL_law_567 : decode cL_law 567 = .ok (.ireturn, 1) := by decide +kernel
theorem dL_law_568 : decode cL_law 568 = .ok (.aload_n 1, 1) := by decide +kernel
theorem dL_law_569 : decode cL_law 569 = .ok (.aload_n 0, 1) := by decide +kernel
theorem dL_law_570 : decode cL_law 570 = .ok (.iload_n 3, 1) := by decide +kernel
theorem dL_law_571 : decode cL_law 571 = .ok (.iconst 1, 1) := by decide +kernel
theorem dL_law_572 : decode cL_law 572 = .ok (.iadd, 1) := by decide +kernel
theorem dL_law_573 : decode cL_law 573 = .ok (.iaload, 1) := by decide +kernel
theorem dL_law_574 : decode cL_law 574 = .ok (.aload_n 0, 1) := by decide +kernel
theorem dL_law_575 : decode cL_law 575 = .ok (.iload_n 3, 1) := by decide +kernel
theorem dL_law_576 : decode cL_law 576 = .ok (.iconst 2, 1) := by decide +kernel
theorem dL_law_577 : decode cL_law 577 = .ok (.iadd, 1) := by decide +kernel
theorem dL_law_578 : decode cL_law 578 = .ok (.iaload, 1) := by decide +kernel
theorem dL_law_579 : decode cL_law 579 = .ok (.aload_n 0, 1) := by decide +kernel
theorem dL_law_580 : decode cL_law 580 = .ok (.iload_n 3, 1) := by decide +kernel
theorem dL_law_581 : decode cL_law 581 = .ok (.iconst 3, 1) := by decide +kernel
theorem dL_law_582 : decode cL_law 582 = .ok (.iadd, 1) := by decide +kernel
theorem dL_law_583 : decode cL_law 583 = .ok (.iaload, 1) := by decide +kernel
theorem dL_law_584 : decode cL_law 584 = .ok (.invokevirtual 67, 3) := by decide +kernel
theorem dL_law_587 : decode cL_law 587 = .ok (.aload_n 2, 1) := by decide +kernel
theorem dL_law_588 : decode cL_law 588 = .ok (.aload_n 0, 1) := by decide +kernel
theorem dL_law_589 : decode cL_law 589 = .ok (.iload_n 3, 1) := by decide +kernel
theorem dL_law_590 : decode cL_law 590 = .ok (.iconst 1, 1) := by decide +kernel
theorem dL_law_591 : decode cL_law 591 = .ok (.iadd, 1) := by decide +kernel
theorem dL_law_592 : decode cL_law 592 = .ok (.iaload, 1) := by decide +kernel
theorem dL_law_593 : decode cL_law 593 = .ok (.aload_n 0, 1) := by decide +kernel
theorem dL_law_594 : decode cL_law 594 = .ok (.iload_n 3, 1) := by decide +kernel
theorem dL_law_595 : decode cL_law 595 = .ok (.iconst 2, 1) := by decide +kernel
theorem dL_law_596 : decode cL_law 596 = .ok (.iadd, 1) := by decide +kernel
theorem dL_law_597 : decode cL_law 597 = .ok (.iaload, 1) := by decide +kernel
theorem dL_law_598 : decode cL_law 598 = .ok (.aload_n 0, 1) := by decide +kernel
theorem dL_law_599 : decode cL_law 599 = .ok (.iload_n 3, 1) := by decide +kernel
theorem dL_law_600 : decode cL_law 600 = .ok (.iconst 3, 1) := by decide +kernel
theorem dL_law_601 : decode cL_law 601 = .ok (.iadd, 1) := by decide +kernel
theorem dL_law_602 : decode cL_law 602 = .ok (.iaload, 1) := by decide +kernel
theorem dL_law_603 : decode cL_law 603 = .ok (.invokevirtual 70, 3) := by decide +kernel
theorem dL_law_606 : decode cL_law 606 = .ok (.if_icmp .eq 645, 3) := by decide +kernel
theorem dL_law_609 : decode cL_law 609 = .ok (.iconst 0, 1) := by decide +kernel
theorem dL_law_610 : decode cL_law 610 = .ok (.ireturn, 1) := by decide +kernel
theorem dL_law_611 : decode cL_law 611 = .ok (.aload_n 1, 1) := by decide +kernel
theorem dL_law_612 : decode cL_law 612 = .ok (.aload_n 0, 1) := by decide +kernel
theorem dL_law_613 : decode cL_law 613 = .ok (.iload_n 3, 1) := by decide +kernel
theorem dL_law_614 : decode cL_law 614 = .ok (.iconst 1, 1) := by decide +kernel
theorem dL_law_615 : decode cL_law 615 = .ok (.iadd, 1) := by decide +kernel
theorem dL_law_616 : decode cL_law 616 = .ok (.iaload, 1) := by decide +kernel
theorem dL_law_617 : decode cL_law 617 = .ok (.aload_n 0, 1) := by decide +kernel
theorem dL_law_618 : decode cL_law 618 = .ok (.iload_n 3, 1) := by decide +kernel
theorem dL_law_619 : decode cL_law 619 = .ok (.iconst 2, 1) := by decide +kernel
theorem dL_law_620 : decode cL_law 620 = .ok (.iadd, 1) := by decide +kernel
theorem dL_law_621 : decode cL_law 621 = .ok (.iaload, 1) := by decide +kernel
theorem dL_law_622 : decode cL_law 622 = .ok (.aload_n 0, 1) := by decide +kernel
theorem dL_law_623 : decode cL_law 623 = .ok (.iload_n 3, 1) := by decide +kernel
theorem dL_law_624 : decode cL_law 624 = .ok (.iconst 3, 1) := by decide +kernel
theorem dL_law_625 : decode cL_law 625 = .ok (.iadd, 1) := by decide +kernel
theorem dL_law_626 : decode cL_law 626 = .ok (.iaload, 1) := by decide +kernel
theorem dL_law_627 : decode cL_law 627 = .ok (.invokevirtual 71, 3) := by decide +kernel
theorem dL_law_630 : decode cL_law 630 = .ok (.aload_n 2, 1) := by decide +kernel
theorem dL_law_631 : decode cL_law 631 = .ok (.aload_n 0, 1) := by decide +kernel
theorem dL_law_632 : decode cL_law 632 = .ok (.iload_n 3, 1) := by decide +kernel
theorem dL_law_633 : decode cL_law 633 = .ok (.iconst 1, 1) := by decide +kernel
theorem dL_law_634 : decode cL_law 634 = .ok (.iadd, 1) := by decide +kernel
theorem dL_law_635 : decode cL_law 635 = .ok (.iaload, 1) := by decide +kernel
theorem dL_law_636 : decode cL_law 636 = .ok (.aload_n 0, 1) := by decide +kernel
theorem dL_law_637 : decode cL_law 637 = .ok (.iload_n 3, 1) := by decide +kernel
theorem dL_law_638 : decode cL_law 638 = .ok (.iconst 2, 1) := by decide +kernel
theorem dL_law_639 : decode cL_law 639 = .ok (.iadd, 1) := by decide +kernel
theorem dL_law_640 : decode cL_law 640 = .ok (.iaload, 1) := by decide +kernel
theorem dL_law_641 : decode cL_law 641 = .ok (.aload_n 0, 1) := by decide +kernel
theorem dL_law_642 : decode cL_law 642 = .ok (.iload_n 3, 1) := by decide +kernel
theorem dL_law_643 : decode cL_law 643 = .ok (.iconst 3, 1) := by decide +kernel
theorem dL_law_644 : decode cL_law 644 = .ok (.iadd, 1) := by decide +kernel
theorem dL_law_645 : decode cL_law 645 = .ok (.iaload, 1) := by decide +kernel
theorem dL_law_646 : decode cL_law 646 = .ok (.invokevirtual 74, 3) := by decide +kernel
theorem dL_law_649 : decode cL_law 649 = .ok (.if_icmp .eq 602, 3) := by decide +kernel
theorem dL_law_652 : decode cL_law 652 = .ok (.iconst 0, 1) := by decide +kernel
theorem dL_law_653 : decode cL_law 653 = .ok (.ireturn, 1) := by decide +kernel
theorem dL_law_654 : decode cL_law 654 = .ok (.aload_n 1, 1) := by decide +kernel
theorem dL_law_655 : decode cL_law 655 = .ok (.aload_n 0, 1) := by decide +kernel
theorem dL_law_656 : decode cL_law 656 = .ok (.iload_n 3, 1) := by decide +kernel
theorem dL_law_657 : decode cL_law 657 = .ok (.iconst 1, 1) := by decide +kernel
theorem dL_law_658 : decode cL_law 658 = .ok (.iadd, 1) := by decide +kernel
theorem dL_law_659 : decode cL_law 659 = .ok (.iaload, 1) := by decide +kernel
theorem dL_law_660 : decode cL_law 660 = .ok (.invokevirtual 75, 3) := by decide +kernel
theorem dL_law_663 : decode cL_law 663 = .ok (.aload_n 2, 1) := by decide +kernel
theorem dL_law_664 : decode cL_law 664 = .ok (.aload_n 0, 1) := by decide +kernel
theorem dL_law_665 : decode cL_law 665 = .ok (.iload_n 3, 1) := by decide +kernel
theorem dL_law_666 : decode cL_law 666 = .ok (.iconst 1, 1) := by decide +kernel
theorem dL_law_667 : decode cL_law 667 = .ok (.iadd, 1) := by decide +kernel
theorem dL_law_668 : decode cL_law 668 = .ok (.iaload, 1) := by decide +kernel
theorem dL_law_669 : decode cL_law 669 = .ok (.invokevirtual 78, 3) := by decide +kernel
theorem dL_law_672 : decode cL_law 672 = .ok (.if_icmp .eq 579, 3) := by decide +kernel
theorem dL_law_675 : decode cL_law 675 = .ok (.iconst 0, 1) := by decide +kernel
theorem dL_law_676 : decode cL_law 676 = .ok (.ireturn, 1) := by decide +kernel
theorem dL_law_677 : decode cL_law 677 = .ok (.aload_n 1, 1) := by decide +kernel
theorem dL_law_678 : decode cL_law 678 = .ok (.aload_n 0, 1) := by decide +kernel
theorem dL_law_679 : decode cL_law 679 = .ok (.iload_n 3, 1) := by decide +kernel
theorem dL_law_680 : decode cL_law 680 = .ok (.iconst 1, 1) := by decide +kernel
theorem dL_law_681 : decode cL_law 681 = .ok (.iadd, 1) := by decide +kernel
theorem dL_law_682 : decode cL_law 682 = .ok (.iaload, 1) := by decide +kernel
theorem dL_law_683 : decode cL_law 683 = .ok (.aload_n 0, 1) := by decide +kernel
theorem dL_law_684 : decode cL_law 684 = .ok (.iload_n 3, 1) := by decide +kernel
theorem dL_law_685 : decode cL_law 685 = .ok (.iconst 2, 1) := by decide +kernel
theorem dL_law_686 : decode cL_law 686 = .ok (.iadd, 1) := by decide +kernel
theorem dL_law_687 : decode cL_law 687 = .ok (.iaload, 1) := by decide +kernel
theorem dL_law_688 : decode cL_law 688 = .ok (.aload_n 0, 1) := by decide +kernel
theorem dL_law_689 : decode cL_law 689 = .ok (.iload_n 3, 1) := by decide +kernel
theorem dL_law_690 : decode cL_law 690 = .ok (.iconst 3, 1) := by decide +kernel
theorem dL_law_691 : decode cL_law 691 = .ok (.iadd, 1) := by decide +kernel
theorem dL_law_692 : decode cL_law 692 = .ok (.iaload, 1) := by decide +kernel
theorem dL_law_693 : decode cL_law 693 = .ok (.invokevirtual 79, 3) := by decide +kernel
theorem dL_law_696 : decode cL_law 696 = .ok (.aload_n 2, 1) := by decide +kernel
theorem dL_law_697 : decode cL_law 697 = .ok (.aload_n 0, 1) := by decide +kernel
theorem dL_law_698 : decode cL_law 698 = .ok (.iload_n 3, 1) := by decide +kernel
theorem dL_law_699 : decode cL_law 699 = .ok (.iconst 1, 1) := by decide +kernel
theorem dL_law_700 : decode cL_law 700 = .ok (.iadd, 1) := by decide +kernel
theorem dL_law_701 : decode cL_law 701 = .ok (.iaload, 1) := by decide +kernel
theorem dL_law_702 : decode cL_law 702 = .ok (.aload_n 0, 1) := by decide +kernel
theorem dL_law_703 : decode cL_law 703 = .ok (.iload_n 3, 1) := by decide +kernel
theorem dL_law_704 : decode cL_law 704 = .ok (.iconst 2, 1) := by decide +kernel
theorem dL_law_705 : decode cL_law 705 = .ok (.iadd, 1) := by decide +kernel
theorem dL_law_706 : decode cL_law 706 = .ok (.iaload, 1) := by decide +kernel
theorem dL_law_707 : decode cL_law 707 = .ok (.aload_n 0, 1) := by decide +kernel
theorem dL_law_708 : decode cL_law 708 = .ok (.iload_n 3, 1) := by decide +kernel
theorem dL_law_709 : decode cL_law 709 = .ok (.iconst 3, 1) := by decide +kernel
theorem dL_law_710 : decode cL_law 710 = .ok (.iadd, 1) := by decide +kernel
theorem dL_law_711 : decode cL_law 711 = .ok (.iaload, 1) := by decide +kernel
theorem dL_law_712 : decode cL_law 712 = .ok (.invokevirtual 83, 3) := by decide +kernel
theorem dL_law_715 : decode cL_law 715 = .ok (.lcmp, 1) := by decide +kernel
theorem dL_law_716 : decode cL_law 716 = .ok (.ifCond .eq 535, 3) := by decide +kernel
theorem dL_law_719 : decode cL_law 719 = .ok (.iconst 0, 1) := by decide +kernel
theorem dL_law_720 : decode cL_law 720 = .ok (.ireturn, 1) := by decide +kernel
theorem dL_law_721 : decode cL_law 721 = .ok (.aload_n 1, 1) := by decide +kernel
theorem dL_law_722 : decode cL_law 722 = .ok (.aload_n 0, 1) := by decide +kernel
theorem dL_law_723 : decode cL_law 723 = .ok (.iload_n 3, 1) := by decide +kernel
theorem dL_law_724 : decode cL_law 724 = .ok (.iconst 1, 1) := by decide +kernel
theorem dL_law_725 : decode cL_law 725 = .ok (.iadd, 1) := by decide +kernel
theorem dL_law_726 : decode cL_law 726 = .ok (.iaload, 1) := by decide +kernel
theorem dL_law_727 : decode cL_law 727 = .ok (.aload_n 0, 1) := by decide +kernel
theorem dL_law_728 : decode cL_law 728 = .ok (.iload_n 3, 1) := by decide +kernel
theorem dL_law_729 : decode cL_law 729 = .ok (.iconst 2, 1) := by decide +kernel
theorem dL_law_730 : decode cL_law 730 = .ok (.iadd, 1) := by decide +kernel
theorem dL_law_731 : decode cL_law 731 = .ok (.iaload, 1) := by decide +kernel
theorem dL_law_732 : decode cL_law 732 = .ok (.invokevirtual 84, 3) := by decide +kernel
theorem dL_law_735 : decode cL_law 735 = .ok (.aload_n 2, 1) := by decide +kernel
theorem dL_law_736 : decode cL_law 736 = .ok (.aload_n 0, 1) := by decide +kernel
theorem dL_law_737 : decode cL_law 737 = .ok (.iload_n 3, 1) := by decide +kernel
theorem dL_law_738 : decode cL_law 738 = .ok (.iconst 1, 1) := by decide +kernel
theorem dL_law_739 : decode cL_law 739 = .ok (.iadd, 1) := by decide +kernel
theorem dL_law_740 : decode cL_law 740 = .ok (.iaload, 1) := by decide +kernel
theorem dL_law_741 : decode cL_law 741 = .ok (.aload_n 0, 1) := by decide +kernel
theorem dL_law_742 : decode cL_law 742 = .ok (.iload_n 3, 1) := by decide +kernel
theorem dL_law_743 : decode cL_law 743 = .ok (.iconst 2, 1) := by decide +kernel
theorem dL_law_744 : decode cL_law 744 = .ok (.iadd, 1) := by decide +kernel
theorem dL_law_745 : decode cL_law 745 = .ok (.iaload, 1) := by decide +kernel
theorem dL_law_746 : decode cL_law 746 = .ok (.invokevirtual 88, 3) := by decide +kernel
theorem dL_law_749 : decode cL_law 749 = .ok (.lcmp, 1) := by decide +kernel
theorem dL_law_750 : decode cL_law 750 = .ok (.ifCond .eq 501, 3) := by decide +kernel
theorem dL_law_753 : decode cL_law 753 = .ok (.iconst 0, 1) := by decide +kernel
theorem dL_law_754 : decode cL_law 754 = .ok (.ireturn, 1) := by decide +kernel
theorem dL_law_755 : decode cL_law 755 = .ok (.aload_n 1, 1) := by decide +kernel
theorem dL_law_756 : decode cL_law 756 = .ok (.aload_n 0, 1) := by decide +kernel
theorem dL_law_757 : decode cL_law 757 = .ok (.iload_n 3, 1) := by decide +kernel
theorem dL_law_758 : decode cL_law 758 = .ok (.iconst 1, 1) := by decide +kernel
theorem dL_law_759 : decode cL_law 759 = .ok (.iadd, 1) := by decide +kernel
theorem dL_law_760 : decode cL_law 760 = .ok (.iaload, 1) := by decide +kernel
theorem dL_law_761 : decode cL_law 761 = .ok (.aload_n 0, 1) := by decide +kernel
theorem dL_law_762 : decode cL_law 762 = .ok (.iload_n 3, 1) := by decide +kernel
theorem dL_law_763 : decode cL_law 763 = .ok (.iconst 2, 1) := by decide +kernel
theorem dL_law_764 : decode cL_law 764 = .ok (.iadd, 1) := by decide +kernel
theorem dL_law_765 : decode cL_law 765 = .ok (.iaload, 1) := by decide +kernel
theorem dL_law_766 : decode cL_law 766 = .ok (.invokevirtual 89, 3) := by decide +kernel
theorem dL_law_769 : decode cL_law 769 = .ok (.aload_n 2, 1) := by decide +kernel
theorem dL_law_770 : decode cL_law 770 = .ok (.aload_n 0, 1) := by decide +kernel
theorem dL_law_771 : decode cL_law 771 = .ok (.iload_n 3, 1) := by decide +kernel
theorem dL_law_772 : decode cL_law 772 = .ok (.iconst 1, 1) := by decide +kernel
theorem dL_law_773 : decode cL_law 773 = .ok (.iadd, 1) := by decide +kernel
theorem dL_law_774 : decode cL_law 774 = .ok (.iaload, 1) := by decide +kernel
theorem dL_law_775 : decode cL_law 775 = .ok (.aload_n 0, 1) := by decide +kernel
theorem dL_law_776 : decode cL_law 776 = .ok (.iload_n 3, 1) := by decide +kernel
theorem dL_law_777 : decode cL_law 777 = .ok (.iconst 2, 1) := by decide +kernel
theorem dL_law_778 : decode cL_law 778 = .ok (.iadd, 1) := by decide +kernel
theorem dL_law_779 : decode cL_law 779 = .ok (.iaload, 1) := by decide +kernel
theorem dL_law_780 : decode cL_law 780 = .ok (.invokevirtual 92, 3) := by decide +kernel
theorem dL_law_783 : decode cL_law 783 = .ok (.if_icmp .eq 468, 3) := by decide +kernel
theorem dL_law_786 : decode cL_law 786 = .ok (.iconst 0, 1) := by decide +kernel
theorem dL_law_787 : decode cL_law 787 = .ok (.ireturn, 1) := by decide +kernel
theorem dL_law_788 : decode cL_law 788 = .ok (.aload_n 1, 1) := by decide +kernel
theorem dL_law_789 : decode cL_law 789 = .ok (.aload_n 0, 1) := by decide +kernel
theorem dL_law_790 : decode cL_law 790 = .ok (.iload_n 3, 1) := by decide +kernel
theorem dL_law_791 : decode cL_law 791 = .ok (.iconst 1, 1) := by decide +kernel
theorem dL_law_792 : decode cL_law 792 = .ok (.iadd, 1) := by decide +kernel
theorem dL_law_793 : decode cL_law 793 = .ok (.iaload, 1) := by decide +kernel
theorem dL_law_794 : decode cL_law 794 = .ok (.invokevirtual 93, 3) := by decide +kernel
theorem dL_law_797 : decode cL_law 797 = .ok (.aload_n 2, 1) := by decide +kernel
theorem dL_law_798 : decode cL_law 798 = .ok (.aload_n 0, 1) := by decide +kernel
theorem dL_law_799 : decode cL_law 799 = .ok (.iload_n 3, 1) := by decide +kernel
theorem dL_law_800 : decode cL_law 800 = .ok (.iconst 1, 1) := by decide +kernel
theorem dL_law_801 : decode cL_law 801 = .ok (.iadd, 1) := by decide +kernel
theorem dL_law_802 : decode cL_law 802 = .ok (.iaload, 1) := by decide +kernel
theorem dL_law_803 : decode cL_law 803 = .ok (.invokevirtual 96, 3) := by decide +kernel
theorem dL_law_806 : decode cL_law 806 = .ok (.if_icmp .eq 445, 3) := by decide +kernel
theorem dL_law_809 : decode cL_law 809 = .ok (.iconst 0, 1) := by decide +kernel
theorem dL_law_810 : decode cL_law 810 = .ok (.ireturn, 1) := by decide +kernel
theorem dL_law_811 : decode cL_law 811 = .ok (.aload_n 1, 1) := by decide +kernel
theorem dL_law_812 : decode cL_law 812 = .ok (.aload_n 0, 1) := by decide +kernel
theorem dL_law_813 : decode cL_law 813 = .ok (.iload_n 3, 1) := by decide +kernel
theorem dL_law_814 : decode cL_law 814 = .ok (.iconst 1, 1) := by decide +kernel
theorem dL_law_815 : decode cL_law 815 = .ok (.iadd, 1) := by decide +kernel
theorem dL_law_816 : decode cL_law 816 = .ok (.iaload, 1) := by decide +kernel
theorem dL_law_817 : decode cL_law 817 = .ok (.aload_n 0, 1) := by decide +kernel
theorem dL_law_818 : decode cL_law 818 = .ok (.iload_n 3, 1) := by decide +kernel
theorem dL_law_819 : decode cL_law 819 = .ok (.iconst 2, 1) := by decide +kernel
theorem dL_law_820 : decode cL_law 820 = .ok (.iadd, 1) := by decide +kernel
theorem dL_law_821 : decode cL_law 821 = .ok (.iaload, 1) := by decide +kernel
theorem dL_law_822 : decode cL_law 822 = .ok (.invokevirtual 97, 3) := by decide +kernel
theorem dL_law_825 : decode cL_law 825 = .ok (.aload_n 2, 1) := by decide +kernel
theorem dL_law_826 : decode cL_law 826 = .ok (.aload_n 0, 1) := by decide +kernel
theorem dL_law_827 : decode cL_law 827 = .ok (.iload_n 3, 1) := by decide +kernel
theorem dL_law_828 : decode cL_law 828 = .ok (.iconst 1, 1) := by decide +kernel
theorem dL_law_829 : decode cL_law 829 = .ok (.iadd, 1) := by decide +kernel
theorem dL_law_830 : decode cL_law 830 = .ok (.iaload, 1) := by decide +kernel
theorem dL_law_831 : decode cL_law 831 = .ok (.aload_n 0, 1) := by decide +kernel
theorem dL_law_832 : decode cL_law 832 = .ok (.iload_n 3, 1) := by decide +kernel
theorem dL_law_833 : decode cL_law 833 = .ok (.iconst 2, 1) := by decide +kernel
theorem dL_law_834 : decode cL_law 834 = .ok (.iadd, 1) := by decide +kernel
theorem dL_law_835 : decode cL_law 835 = .ok (.iaload, 1) := by decide +kernel
theorem dL_law_836 : decode cL_law 836 = .ok (.invokevirtual 100, 3) := by decide +kernel
theorem dL_law_839 : decode cL_law 839 = .ok (.if_icmp .eq 412, 3) := by decide +kernel
theorem dL_law_842 : decode cL_law 842 = .ok (.iconst 0, 1) := by decide +kernel
theorem dL_law_843 : decode cL_law 843 = .ok (.ireturn, 1) := by decide +kernel
theorem dL_law_844 : decode cL_law 844 = .ok (.aload_n 1, 1) := by decide +kernel
theorem dL_law_845 : decode cL_law 845 = .ok (.invokevirtual 101, 3) := by decide +kernel
theorem dL_law_848 : decode cL_law 848 = .ok (.aload_n 2, 1) := by decide +kernel
theorem dL_law_849 : decode cL_law 849 = .ok (.invokevirtual 104, 3) := by decide +kernel
theorem dL_law_852 : decode cL_law 852 = .ok (.if_icmp .eq 399, 3) := by decide +kernel
theorem dL_law_855 : decode cL_law 855 = .ok (.iconst 0, 1) := by decide +kernel
theorem dL_law_856 : decode cL_law 856 = .ok (.ireturn, 1) := by decide +kernel
theorem dL_law_857 : decode cL_law 857 = .ok (.aload_n 1, 1) := by decide +kernel
theorem dL_law_858 : decode cL_law 858 = .ok (.aload_n 0, 1) := by decide +kernel
theorem dL_law_859 : decode cL_law 859 = .ok (.iload_n 3, 1) := by decide +kernel
theorem dL_law_860 : decode cL_law 860 = .ok (.iconst 1, 1) := by decide +kernel
theorem dL_law_861 : decode cL_law 861 = .ok (.iadd, 1) := by decide +kernel
theorem dL_law_862 : decode cL_law 862 = .ok (.iaload, 1) := by decide +kernel
theorem dL_law_863 : decode cL_law 863 = .ok (.aload_n 0, 1) := by decide +kernel
theorem dL_law_864 : decode cL_law 864 = .ok (.iload_n 3, 1) := by decide +kernel
theorem dL_law_865 : decode cL_law 865 = .ok (.iconst 2, 1) := by decide +kernel
theorem dL_law_866 : decode cL_law 866 = .ok (.iadd, 1) := by decide +kernel
theorem dL_law_867 : decode cL_law 867 = .ok (.iaload, 1) := by decide +kernel
theorem dL_law_868 : decode cL_law 868 = .ok (.invokevirtual 105, 3) := by decide +kernel
theorem dL_law_871 : decode cL_law 871 = .ok (.aload_n 2, 1) := by decide +kernel
theorem dL_law_872 : decode cL_law 872 = .ok (.aload_n 0, 1) := by decide +kernel
theorem dL_law_873 : decode cL_law 873 = .ok (.iload_n 3, 1) := by decide +kernel
theorem dL_law_874 : decode cL_law 874 = .ok (.iconst 1, 1) := by decide +kernel
theorem dL_law_875 : decode cL_law 875 = .ok (.iadd, 1) := by decide +kernel
theorem dL_law_876 : decode cL_law 876 = .ok (.iaload, 1) := by decide +kernel
theorem dL_law_877 : decode cL_law 877 = .ok (.aload_n 0, 1) := by decide +kernel
theorem dL_law_878 : decode cL_law 878 = .ok (.iload_n 3, 1) := by decide +kernel
theorem dL_law_879 : decode cL_law 879 = .ok (.iconst 2, 1) := by decide +kernel
theorem dL_law_880 : decode cL_law 880 = .ok (.iadd, 1) := by decide +kernel
theorem dL_law_881 : decode cL_law 881 = .ok (.iaload, 1) := by decide +kernel
theorem dL_law_882 : decode cL_law 882 = .ok (.invokevirtual 108, 3) := by decide +kernel
theorem dL_law_885 : decode cL_law 885 = .ok (.if_icmp .eq 366, 3) := by decide +kernel
theorem dL_law_888 : decode cL_law 888 = .ok (.iconst 0, 1) := by decide +kernel
theorem dL_law_889 : decode cL_law 889 = .ok (.ireturn, 1) := by decide +kernel
theorem dL_law_890 : decode cL_law 890 = .ok (.aload_n 1, 1) := by decide +kernel
theorem dL_law_891 : decode cL_law 891 = .ok (.invokevirtual 109, 3) := by decide +kernel
theorem dL_law_894 : decode cL_law 894 = .ok (.aload_n 2, 1) := by decide +kernel
theorem dL_law_895 : decode cL_law 895 = .ok (.invokevirtual 112, 3) := by decide +kernel
theorem dL_law_898 : decode cL_law 898 = .ok (.if_icmp .eq 353, 3) := by decide +kernel
theorem dL_law_901 : decode cL_law 901 = .ok (.iconst 0, 1) := by decide +kernel
theorem dL_law_902 : decode cL_law 902 = .ok (.ireturn, 1) := by decide +kernel
theorem dL_law_903 : decode cL_law 903 = .ok (.aload_n 1, 1) := by decide +kernel
theorem dL_law_904 : decode cL_law 904 = .ok (.invokevirtual 113, 3) := by decide +kernel
theorem dL_law_907 : decode cL_law 907 = .ok (.aload_n 2, 1) := by decide +kernel
theorem dL_law_908 : decode cL_law 908 = .ok (.invokevirtual 116, 3) := by decide +kernel
theorem dL_law_911 : decode cL_law 911 = .ok (.if_icmp .eq 340, 3) := by decide +kernel
theorem dL_law_914 : decode cL_law 914 = .ok (.iconst 0, 1) := by decide +kernel
theorem dL_law_915 : decode cL_law 915 = .ok (.ireturn, 1) := by decide +kernel
theorem dL_law_916 : decode cL_law 916 = .ok (.aload_n 1, 1) := by decide +kernel
theorem dL_law_917 : decode cL_law 917 = .ok (.aload_n 0, 1) := by decide +kernel
theorem dL_law_918 : decode cL_law 918 = .ok (.iload_n 3, 1) := by decide +kernel
theorem dL_law_919 : decode cL_law 919 = .ok (.iconst 1, 1) := by decide +kernel
theorem dL_law_920 : decode cL_law 920 = .ok (.iadd, 1) := by decide +kernel
theorem dL_law_921 : decode cL_law 921 = .ok (.iaload, 1) := by decide +kernel
theorem dL_law_922 : decode cL_law 922 = .ok (.aload_n 0, 1) := by decide +kernel
theorem dL_law_923 : decode cL_law 923 = .ok (.iload_n 3, 1) := by decide +kernel
theorem dL_law_924 : decode cL_law 924 = .ok (.iconst 2, 1) := by decide +kernel
theorem dL_law_925 : decode cL_law 925 = .ok (.iadd, 1) := by decide +kernel
theorem dL_law_926 : decode cL_law 926 = .ok (.iaload, 1) := by decide +kernel
theorem dL_law_927 : decode cL_law 927 = .ok (.aload_n 0, 1) := by decide +kernel
theorem dL_law_928 : decode cL_law 928 = .ok (.iload_n 3, 1) := by decide +kernel
theorem dL_law_929 : decode cL_law 929 = .ok (.iconst 3, 1) := by decide +kernel
theorem dL_law_930 : decode cL_law 930 = .ok (.iadd, 1) := by decide +kernel
theorem dL_law_931 : decode cL_law 931 = .ok (.iaload, 1) := by decide +kernel
theorem dL_law_932 : decode cL_law 932 = .ok (.invokevirtual 117, 3) := by decide +kernel
theorem dL_law_935 : decode cL_law 935 = .ok (.aload_n 2, 1) := by decide +kernel
theorem dL_law_936 : decode cL_law 936 = .ok (.aload_n 0, 1) := by decide +kernel
theorem dL_law_937 : decode cL_law 937 = .ok (.iload_n 3, 1) := by decide +kernel
theorem dL_law_938 : decode cL_law 938 = .ok (.iconst 1, 1) := by decide +kernel
theorem dL_law_939 : decode cL_law 939 = .ok (.iadd, 1) := by decide +kernel
theorem dL_law_940 : decode cL_law 940 = .ok (.iaload, 1) := by decide +kernel
theorem dL_law_941 : decode cL_law 941 = .ok (.aload_n 0, 1) := by decide +kernel
theorem dL_law_942 : decode cL_law 942 = .ok (.iload_n 3, 1) := by decide +kernel
theorem dL_law_943 : decode cL_law 943 = .ok (.iconst 2, 1) := by decide +kernel
theorem dL_law_944 : decode cL_law 944 = .ok (.iadd, 1) := by decide +kernel
theorem dL_law_945 : decode cL_law 945 = .ok (.iaload, 1) := by decide +kernel
theorem dL_law_946 : decode cL_law 946 = .ok (.aload_n 0, 1) := by decide +kernel
theorem dL_law_947 : decode cL_law 947 = .ok (.iload_n 3, 1) := by decide +kernel
theorem dL_law_948 : decode cL_law 948 = .ok (.iconst 3, 1) := by decide +kernel
theorem dL_law_949 : decode cL_law 949 = .ok (.iadd, 1) := by decide +kernel
theorem dL_law_950 : decode cL_law 950 = .ok (.iaload, 1) := by decide +kernel
theorem dL_law_951 : decode cL_law 951 = .ok (.invokevirtual 120, 3) := by decide +kernel
theorem dL_law_954 : decode cL_law 954 = .ok (.if_icmp .eq 297, 3) := by decide +kernel
theorem dL_law_957 : decode cL_law 957 = .ok (.iconst 0, 1) := by decide +kernel
theorem dL_law_958 : decode cL_law 958 = .ok (.ireturn, 1) := by decide +kernel
theorem dL_law_959 : decode cL_law 959 = .ok (.aload_n 1, 1) := by decide +kernel
theorem dL_law_960 : decode cL_law 960 = .ok (.aload_n 0, 1) := by decide +kernel
theorem dL_law_961 : decode cL_law 961 = .ok (.iload_n 3, 1) := by decide +kernel
theorem dL_law_962 : decode cL_law 962 = .ok (.iconst 1, 1) := by decide +kernel
theorem dL_law_963 : decode cL_law 963 = .ok (.iadd, 1) := by decide +kernel
theorem dL_law_964 : decode cL_law 964 = .ok (.iaload, 1) := by decide +kernel
theorem dL_law_965 : decode cL_law 965 = .ok (.invokevirtual 121, 3) := by decide +kernel
theorem dL_law_968 : decode cL_law 968 = .ok (.aload_n 2, 1) := by decide +kernel
theorem dL_law_969 : decode cL_law 969 = .ok (.aload_n 0, 1) := by decide +kernel
theorem dL_law_970 : decode cL_law 970 = .ok (.iload_n 3, 1) := by decide +kernel
theorem dL_law_971 : decode cL_law 971 = .ok (.iconst 1, 1) := by decide +kernel
theorem dL_law_972 : decode cL_law 972 = .ok (.iadd, 1) := by decide +kernel
theorem dL_law_973 : decode cL_law 973 = .ok (.iaload, 1) := by decide +kernel
theorem dL_law_974 : decode cL_law 974 = .ok (.invokevirtual 124, 3) := by decide +kernel
theorem dL_law_977 : decode cL_law 977 = .ok (.if_icmp .eq 274, 3) := by decide +kernel
theorem dL_law_980 : decode cL_law 980 = .ok (.iconst 0, 1) := by decide +kernel
theorem dL_law_981 : decode cL_law 981 = .ok (.ireturn, 1) := by decide +kernel
theorem dL_law_982 : decode cL_law 982 = .ok (.aload_n 1, 1) := by decide +kernel
theorem dL_law_983 : decode cL_law 983 = .ok (.aload_n 0, 1) := by decide +kernel
theorem dL_law_984 : decode cL_law 984 = .ok (.iload_n 3, 1) := by decide +kernel
theorem dL_law_985 : decode cL_law 985 = .ok (.iconst 1, 1) := by decide +kernel
theorem dL_law_986 : decode cL_law 986 = .ok (.iadd, 1) := by decide +kernel
theorem dL_law_987 : decode cL_law 987 = .ok (.iaload, 1) := by decide +kernel
theorem dL_law_988 : decode cL_law 988 = .ok (.aload_n 0, 1) := by decide +kernel
theorem dL_law_989 : decode cL_law 989 = .ok (.iload_n 3, 1) := by decide +kernel
theorem dL_law_990 : decode cL_law 990 = .ok (.iconst 2, 1) := by decide +kernel
theorem dL_law_991 : decode cL_law 991 = .ok (.iadd, 1) := by decide +kernel
theorem dL_law_992 : decode cL_law 992 = .ok (.iaload, 1) := by decide +kernel
theorem dL_law_993 : decode cL_law 993 = .ok (.invokevirtual 125, 3) := by decide +kernel
theorem dL_law_996 : decode cL_law 996 = .ok (.aload_n 2, 1) := by decide +kernel
theorem dL_law_997 : decode cL_law 997 = .ok (.aload_n 0, 1) := by decide +kernel
theorem dL_law_998 : decode cL_law 998 = .ok (.iload_n 3, 1) := by decide +kernel
theorem dL_law_999 : decode cL_law 999 = .ok (.iconst 1, 1) := by decide +kernel
theorem dL_law_1000 : decode cL_law 1000 = .ok (.iadd, 1) := by decide +kernel
theorem dL_law_1001 : decode cL_law 1001 = .ok (.iaload, 1) := by decide +kernel
theorem dL_law_1002 : decode cL_law 1002 = .ok (.aload_n 0, 1) := by decide +kernel
theorem dL_law_1003 : decode cL_law 1003 = .ok (.iload_n 3, 1) := by decide +kernel
theorem dL_law_1004 : decode cL_law 1004 = .ok (.iconst 2, 1) := by decide +kernel
theorem dL_law_1005 : decode cL_law 1005 = .ok (.iadd, 1) := by decide +kernel
theorem dL_law_1006 : decode cL_law 1006 = .ok (.iaload, 1) := by decide +kernel
theorem dL_law_1007 : decode cL_law 1007 = .ok (.invokevirtual 128, 3) := by decide +kernel
theorem dL_law_1010 : decode cL_law 1010 = .ok (.if_icmp .eq 241, 3) := by decide +kernel
theorem dL_law_1013 : decode cL_law 1013 = .ok (.iconst 0, 1) := by decide +kernel
theorem dL_law_1014 : decode cL_law 1014 = .ok (.ireturn, 1) := by decide +kernel
theorem dL_law_1015 : decode cL_law 1015 = .ok (.aload_n 1, 1) := by decide +kernel
theorem dL_law_1016 : decode cL_law 1016 = .ok (.aload_n 0, 1) := by decide +kernel
theorem dL_law_1017 : decode cL_law 1017 = .ok (.iload_n 3, 1) := by decide +kernel
theorem dL_law_1018 : decode cL_law 1018 = .ok (.iconst 1, 1) := by decide +kernel
theorem dL_law_1019 : decode cL_law 1019 = .ok (.iadd, 1) := by decide +kernel
theorem dL_law_1020 : decode cL_law 1020 = .ok (.iaload, 1) := by decide +kernel
theorem dL_law_1021 : decode cL_law 1021 = .ok (.invokevirtual 129, 3) := by decide +kernel
theorem dL_law_1024 : decode cL_law 1024 = .ok (.aload_n 2, 1) := by decide +kernel
theorem dL_law_1025 : decode cL_law 1025 = .ok (.aload_n 0, 1) := by decide +kernel
theorem dL_law_1026 : decode cL_law 1026 = .ok (.iload_n 3, 1) := by decide +kernel
theorem dL_law_1027 : decode cL_law 1027 = .ok (.iconst 1, 1) := by decide +kernel
theorem dL_law_1028 : decode cL_law 1028 = .ok (.iadd, 1) := by decide +kernel
theorem dL_law_1029 : decode cL_law 1029 = .ok (.iaload, 1) := by decide +kernel
theorem dL_law_1030 : decode cL_law 1030 = .ok (.invokevirtual 132, 3) := by decide +kernel
theorem dL_law_1033 : decode cL_law 1033 = .ok (.if_icmp .eq 218, 3) := by decide +kernel
theorem dL_law_1036 : decode cL_law 1036 = .ok (.iconst 0, 1) := by decide +kernel
theorem dL_law_1037 : decode cL_law 1037 = .ok (.ireturn, 1) := by decide +kernel
theorem dL_law_1038 : decode cL_law 1038 = .ok (.aload_n 1, 1) := by decide +kernel
theorem dL_law_1039 : decode cL_law 1039 = .ok (.aload_n 0, 1) := by decide +kernel
theorem dL_law_1040 : decode cL_law 1040 = .ok (.iload_n 3, 1) := by decide +kernel
theorem dL_law_1041 : decode cL_law 1041 = .ok (.iconst 1, 1) := by decide +kernel
theorem dL_law_1042 : decode cL_law 1042 = .ok (.iadd, 1) := by decide +kernel
theorem dL_law_1043 : decode cL_law 1043 = .ok (.iaload, 1) := by decide +kernel
theorem dL_law_1044 : decode cL_law 1044 = .ok (.aload_n 0, 1) := by decide +kernel
theorem dL_law_1045 : decode cL_law 1045 = .ok (.iload_n 3, 1) := by decide +kernel
theorem dL_law_1046 : decode cL_law 1046 = .ok (.iconst 2, 1) := by decide +kernel
theorem dL_law_1047 : decode cL_law 1047 = .ok (.iadd, 1) := by decide +kernel
theorem dL_law_1048 : decode cL_law 1048 = .ok (.iaload, 1) := by decide +kernel
theorem dL_law_1049 : decode cL_law 1049 = .ok (.aload_n 0, 1) := by decide +kernel
theorem dL_law_1050 : decode cL_law 1050 = .ok (.iload_n 3, 1) := by decide +kernel
theorem dL_law_1051 : decode cL_law 1051 = .ok (.iconst 3, 1) := by decide +kernel
theorem dL_law_1052 : decode cL_law 1052 = .ok (.iadd, 1) := by decide +kernel
theorem dL_law_1053 : decode cL_law 1053 = .ok (.iaload, 1) := by decide +kernel
theorem dL_law_1054 : decode cL_law 1054 = .ok (.invokevirtual 133, 3) := by decide +kernel
theorem dL_law_1057 : decode cL_law 1057 = .ok (.aload_n 2, 1) := by decide +kernel
theorem dL_law_1058 : decode cL_law 1058 = .ok (.aload_n 0, 1) := by decide +kernel
theorem dL_law_1059 : decode cL_law 1059 = .ok (.iload_n 3, 1) := by decide +kernel
theorem dL_law_1060 : decode cL_law 1060 = .ok (.iconst 1, 1) := by decide +kernel
theorem dL_law_1061 : decode cL_law 1061 = .ok (.iadd, 1) := by decide +kernel
theorem dL_law_1062 : decode cL_law 1062 = .ok (.iaload, 1) := by decide +kernel
theorem dL_law_1063 : decode cL_law 1063 = .ok (.aload_n 0, 1) := by decide +kernel
theorem dL_law_1064 : decode cL_law 1064 = .ok (.iload_n 3, 1) := by decide +kernel
theorem dL_law_1065 : decode cL_law 1065 = .ok (.iconst 2, 1) := by decide +kernel
theorem dL_law_1066 : decode cL_law 1066 = .ok (.iadd, 1) := by decide +kernel
theorem dL_law_1067 : decode cL_law 1067 = .ok (.iaload, 1) := by decide +kernel
theorem dL_law_1068 : decode cL_law 1068 = .ok (.aload_n 0, 1) := by decide +kernel
theorem dL_law_1069 : decode cL_law 1069 = .ok (.iload_n 3, 1) := by decide +kernel
theorem dL_law_1070 : decode cL_law 1070 = .ok (.iconst 3, 1) := by decide +kernel
theorem dL_law_1071 : decode cL_law 1071 = .ok (.iadd, 1) := by decide +kernel
theorem dL_law_1072 : decode cL_law 1072 = .ok (.iaload, 1) := by decide +kernel
theorem dL_law_1073 : decode cL_law 1073 = .ok (.invokevirtual 136, 3) := by decide +kernel
theorem dL_law_1076 : decode cL_law 1076 = .ok (.if_icmp .eq 175, 3) := by decide +kernel
theorem dL_law_1079 : decode cL_law 1079 = .ok (.iconst 0, 1) := by decide +kernel
theorem dL_law_1080 : decode cL_law 1080 = .ok (.ireturn, 1) := by decide +kernel
theorem dL_law_1081 : decode cL_law 1081 = .ok (.aload_n 1, 1) := by decide +kernel
theorem dL_law_1082 : decode cL_law 1082 = .ok (.aload_n 0, 1) := by decide +kernel
theorem dL_law_1083 : decode cL_law 1083 = .ok (.iload_n 3, 1) := by decide +kernel
theorem dL_law_1084 : decode cL_law 1084 = .ok (.iconst 1, 1) := by decide +kernel
theorem dL_law_1085 : decode cL_law 1085 = .ok (.iadd, 1) := by decide +kernel
theorem dL_law_1086 : decode cL_law 1086 = .ok (.iaload, 1) := by decide +kernel
theorem dL_law_1087 : decode cL_law 1087 = .ok (.aload_n 0, 1) := by decide +kernel
theorem dL_law_1088 : decode cL_law 1088 = .ok (.iload_n 3, 1) := by decide +kernel
theorem dL_law_1089 : decode cL_law 1089 = .ok (.iconst 2, 1) := by decide +kernel
theorem dL_law_1090 : decode cL_law 1090 = .ok (.iadd, 1) := by decide +kernel
theorem dL_law_1091 : decode cL_law 1091 = .ok (.iaload, 1) := by decide +kernel
theorem dL_law_1092 : decode cL_law 1092 = .ok (.aload_n 0, 1) := by decide +kernel
theorem dL_law_1093 : decode cL_law 1093 = .ok (.iload_n 3, 1) := by decide +kernel
theorem dL_law_1094 : decode cL_law 1094 = .ok (.iconst 3, 1) := by decide +kernel
theorem dL_law_1095 : decode cL_law 1095 = .ok (.iadd, 1) := by decide +kernel
theorem dL_law_1096 : decode cL_law 1096 = .ok (.iaload, 1) := by decide +kernel
theorem dL_law_1097 : decode cL_law 1097 = .ok (.i2l, 1) := by decide +kernel
theorem dL_law_1098 : decode cL_law 1098 = .ok (.bipush 32, 2) := by decide +kernel
theorem dL_law_1100 : decode cL_law 1100 = .ok (.lshl, 1) := by decide +kernel
theorem dL_law_1101 : decode cL_law 1101 = .ok (.aload_n 0, 1) := by decide +kernel
theorem dL_law_1102 : decode cL_law 1102 = .ok (.iload_n 3, 1) := by decide +kernel
theorem dL_law_1103 : decode cL_law 1103 = .ok (.iconst 4, 1) := by decide +kernel
theorem dL_law_1104 : decode cL_law 1104 = .ok (.iadd, 1) := by decide +kernel
theorem dL_law_1105 : decode cL_law 1105 = .ok (.iaload, 1) := by decide +kernel
theorem dL_law_1106 : decode cL_law 1106 = .ok (.i2l, 1) := by decide +kernel
theorem dL_law_1107 : decode cL_law 1107 = .ok (.ldc2_w 137, 3) := by decide +kernel
theorem dL_law_1110 : decode cL_law 1110 = .ok (.land, 1) := by decide +kernel
theorem dL_law_1111 : decode cL_law 1111 = .ok (.lor, 1) := by decide +kernel
theorem dL_law_1112 : decode cL_law 1112 = .ok (.invokevirtual 139, 3) := by decide +kernel
theorem dL_law_1115 : decode cL_law 1115 = .ok (.aload_n 2, 1) := by decide +kernel
theorem dL_law_1116 : decode cL_law 1116 = .ok (.aload_n 0, 1) := by decide +kernel
theorem dL_law_1117 : decode cL_law 1117 = .ok (.iload_n 3, 1) := by decide +kernel
theorem dL_law_1118 : decode cL_law 1118 = .ok (.iconst 1, 1) := by decide +kernel
theorem dL_law_1119 : decode cL_law 1119 = .ok (.iadd, 1) := by decide +kernel
theorem dL_law_1120 : decode cL_law 1120 = .ok (.iaload, 1) := by decide +kernel
theorem dL_law_1121 : decode cL_law 1121 = .ok (.aload_n 0, 1) := by decide +kernel
theorem dL_law_1122 : decode cL_law 1122 = .ok (.iload_n 3, 1) := by decide +kernel
theorem dL_law_1123 : decode cL_law 1123 = .ok (.iconst 2, 1) := by decide +kernel
theorem dL_law_1124 : decode cL_law 1124 = .ok (.iadd, 1) := by decide +kernel
theorem dL_law_1125 : decode cL_law 1125 = .ok (.iaload, 1) := by decide +kernel
theorem dL_law_1126 : decode cL_law 1126 = .ok (.aload_n 0, 1) := by decide +kernel
theorem dL_law_1127 : decode cL_law 1127 = .ok (.iload_n 3, 1) := by decide +kernel
theorem dL_law_1128 : decode cL_law 1128 = .ok (.iconst 3, 1) := by decide +kernel
theorem dL_law_1129 : decode cL_law 1129 = .ok (.iadd, 1) := by decide +kernel
theorem dL_law_1130 : decode cL_law 1130 = .ok (.iaload, 1) := by decide +kernel
theorem dL_law_1131 : decode cL_law 1131 = .ok (.i2l, 1) := by decide +kernel
theorem dL_law_1132 : decode cL_law 1132 = .ok (.bipush 32, 2) := by decide +kernel
theorem dL_law_1134 : decode cL_law 1134 = .ok (.lshl, 1) := by decide +kernel
theorem dL_law_1135 : decode cL_law 1135 = .ok (.aload_n 0, 1) := by decide +kernel
theorem dL_law_1136 : decode cL_law 1136 = .ok (.iload_n 3, 1) := by decide +kernel
theorem dL_law_1137 : decode cL_law 1137 = .ok (.iconst 4, 1) := by decide +kernel
theorem dL_law_1138 : decode cL_law 1138 = .ok (.iadd, 1) := by decide +kernel
theorem dL_law_1139 : decode cL_law 1139 = .ok (.iaload, 1) := by decide +kernel
theorem dL_law_1140 : decode cL_law 1140 = .ok (.i2l, 1) := by decide +kernel
theorem dL_law_1141 : decode cL_law 1141 = .ok (.ldc2_w 137, 3) := by decide +kernel
theorem dL_law_1144 : decode cL_law 1144 = .ok (.land, 1) := by decide +kernel
theorem dL_law_1145 : decode cL_law 1145 = .ok (.lor, 1) := by decide +kernel
theorem dL_law_1146 : decode cL_law 1146 = .ok (.invokevirtual 143, 3) := by decide +kernel
theorem dL_law_1149 : decode cL_law 1149 = .ok (.if_icmp .eq 102, 3) := by decide +kernel
theorem dL_law_1152 : decode cL_law 1152 = .ok (.iconst 0, 1) := by decide +kernel
theorem dL_law_1153 : decode cL_law 1153 = .ok (.ireturn, 1) := by decide +kernel
theorem dL_law_1154 : decode cL_law 1154 = .ok (.aload_n 1, 1) := by decide +kernel
theorem dL_law_1155 : decode cL_law 1155 = .ok (.aload_n 0, 1) := by decide +kernel
theorem dL_law_1156 : decode cL_law 1156 = .ok (.iload_n 3, 1) := by decide +kernel
theorem dL_law_1157 : decode cL_law 1157 = .ok (.iconst 1, 1) := by decide +kernel
theorem dL_law_1158 : decode cL_law 1158 = .ok (.iadd, 1) := by decide +kernel
theorem dL_law_1159 : decode cL_law 1159 = .ok (.iaload, 1) := by decide +kernel
theorem dL_law_1160 : decode cL_law 1160 = .ok (.aload_n 0, 1) := by decide +kernel
theorem dL_law_1161 : decode cL_law 1161 = .ok (.iload_n 3, 1) := by decide +kernel
theorem dL_law_1162 : decode cL_law 1162 = .ok (.iconst 2, 1) := by decide +kernel
theorem dL_law_1163 : decode cL_law 1163 = .ok (.iadd, 1) := by decide +kernel
theorem dL_law_1164 : decode cL_law 1164 = .ok (.iaload, 1) := by decide +kernel
theorem dL_law_1165 : decode cL_law 1165 = .ok (.invokevirtual 144, 3) := by decide +kernel
theorem dL_law_1168 : decode cL_law 1168 = .ok (.aload_n 2, 1) := by decide +kernel
theorem dL_law_1169 : decode cL_law 1169 = .ok (.aload_n 0, 1) := by decide +kernel
theorem dL_law_1170 : decode cL_law 1170 = .ok (.iload_n 3, 1) := by decide +kernel
theorem dL_law_1171 : decode cL_law 1171 = .ok (.iconst 1, 1) := by decide +kernel
theorem dL_law_1172 : decode cL_law 1172 = .ok (.iadd, 1) := by decide +kernel
theorem dL_law_1173 : decode cL_law 1173 = .ok (.iaload, 1) := by decide +kernel
theorem dL_law_1174 : decode cL_law 1174 = .ok (.aload_n 0, 1) := by decide +kernel
theorem dL_law_1175 : decode cL_law 1175 = .ok (.iload_n 3, 1) := by decide +kernel
theorem dL_law_1176 : decode cL_law 1176 = .ok (.iconst 2, 1) := by decide +kernel
theorem dL_law_1177 : decode cL_law 1177 = .ok (.iadd, 1) := by decide +kernel
theorem dL_law_1178 : decode cL_law 1178 = .ok (.iaload, 1) := by decide +kernel
theorem dL_law_1179 : decode cL_law 1179 = .ok (.invokevirtual 147, 3) := by decide +kernel
theorem dL_law_1182 : decode cL_law 1182 = .ok (.lcmp, 1) := by decide +kernel
theorem dL_law_1183 : decode cL_law 1183 = .ok (.ifCond .eq 68, 3) := by decide +kernel
theorem dL_law_1186 : decode cL_law 1186 = .ok (.iconst 0, 1) := by decide +kernel
theorem dL_law_1187 : decode cL_law 1187 = .ok (.ireturn, 1) := by decide +kernel
theorem dL_law_1188 : decode cL_law 1188 = .ok (.aload_n 1, 1) := by decide +kernel
theorem dL_law_1189 : decode cL_law 1189 = .ok (.aload_n 0, 1) := by decide +kernel
theorem dL_law_1190 : decode cL_law 1190 = .ok (.iload_n 3, 1) := by decide +kernel
theorem dL_law_1191 : decode cL_law 1191 = .ok (.iconst 1, 1) := by decide +kernel
theorem dL_law_1192 : decode cL_law 1192 = .ok (.iadd, 1) := by decide +kernel
theorem dL_law_1193 : decode cL_law 1193 = .ok (.iaload, 1) := by decide +kernel
theorem dL_law_1194 : decode cL_law 1194 = .ok (.aload_n 0, 1) := by decide +kernel
theorem dL_law_1195 : decode cL_law 1195 = .ok (.iload_n 3, 1) := by decide +kernel
theorem dL_law_1196 : decode cL_law 1196 = .ok (.iconst 2, 1) := by decide +kernel
theorem dL_law_1197 : decode cL_law 1197 = .ok (.iadd, 1) := by decide +kernel
theorem dL_law_1198 : decode cL_law 1198 = .ok (.iaload, 1) := by decide +kernel
theorem dL_law_1199 : decode cL_law 1199 = .ok (.aload_n 0, 1) := by decide +kernel
theorem dL_law_1200 : decode cL_law 1200 = .ok (.iload_n 3, 1) := by decide +kernel
theorem dL_law_1201 : decode cL_law 1201 = .ok (.iconst 3, 1) := by decide +kernel
theorem dL_law_1202 : decode cL_law 1202 = .ok (.iadd, 1) := by decide +kernel
theorem dL_law_1203 : decode cL_law 1203 = .ok (.iaload, 1) := by decide +kernel
theorem dL_law_1204 : decode cL_law 1204 = .ok (.aload_n 0, 1) := by decide +kernel
theorem dL_law_1205 : decode cL_law 1205 = .ok (.iload_n 3, 1) := by decide +kernel
theorem dL_law_1206 : decode cL_law 1206 = .ok (.iconst 4, 1) := by decide +kernel
theorem dL_law_1207 : decode cL_law 1207 = .ok (.iadd, 1) := by decide +kernel
theorem dL_law_1208 : decode cL_law 1208 = .ok (.iaload, 1) := by decide +kernel
theorem dL_law_1209 : decode cL_law 1209 = .ok (.aload_n 0, 1) := by decide +kernel
theorem dL_law_1210 : decode cL_law 1210 = .ok (.iload_n 3, 1) := by decide +kernel
theorem dL_law_1211 : decode cL_law 1211 = .ok (.iconst 5, 1) := by decide +kernel
theorem dL_law_1212 : decode cL_law 1212 = .ok (.iadd, 1) := by decide +kernel
theorem dL_law_1213 : decode cL_law 1213 = .ok (.iaload, 1) := by decide +kernel
theorem dL_law_1214 : decode cL_law 1214 = .ok (.invokevirtual 148, 3) := by decide +kernel
theorem dL_law_1217 : decode cL_law 1217 = .ok (.aload_n 2, 1) := by decide +kernel
theorem dL_law_1218 : decode cL_law 1218 = .ok (.aload_n 0, 1) := by decide +kernel
theorem dL_law_1219 : decode cL_law 1219 = .ok (.iload_n 3, 1) := by decide +kernel
theorem dL_law_1220 : decode cL_law 1220 = .ok (.iconst 1, 1) := by decide +kernel
theorem dL_law_1221 : decode cL_law 1221 = .ok (.iadd, 1) := by decide +kernel
theorem dL_law_1222 : decode cL_law 1222 = .ok (.iaload, 1) := by decide +kernel
theorem dL_law_1223 : decode cL_law 1223 = .ok (.aload_n 0, 1) := by decide +kernel
theorem dL_law_1224 : decode cL_law 1224 = .ok (.iload_n 3, 1) := by decide +kernel
theorem dL_law_1225 : decode cL_law 1225 = .ok (.iconst 2, 1) := by decide +kernel
theorem dL_law_1226 : decode cL_law 1226 = .ok (.iadd, 1) := by decide +kernel
theorem dL_law_1227 : decode cL_law 1227 = .ok (.iaload, 1) := by decide +kernel
theorem dL_law_1228 : decode cL_law 1228 = .ok (.aload_n 0, 1) := by decide +kernel
theorem dL_law_1229 : decode cL_law 1229 = .ok (.iload_n 3, 1) := by decide +kernel
theorem dL_law_1230 : decode cL_law 1230 = .ok (.iconst 3, 1) := by decide +kernel
theorem dL_law_1231 : decode cL_law 1231 = .ok (.iadd, 1) := by decide +kernel
theorem dL_law_1232 : decode cL_law 1232 = .ok (.iaload, 1) := by decide +kernel
theorem dL_law_1233 : decode cL_law 1233 = .ok (.aload_n 0, 1) := by decide +kernel
theorem dL_law_1234 : decode cL_law 1234 = .ok (.iload_n 3, 1) := by decide +kernel
theorem dL_law_1235 : decode cL_law 1235 = .ok (.iconst 4, 1) := by decide +kernel
theorem dL_law_1236 : decode cL_law 1236 = .ok (.iadd, 1) := by decide +kernel
theorem dL_law_1237 : decode cL_law 1237 = .ok (.iaload, 1) := by decide +kernel
theorem dL_law_1238 : decode cL_law 1238 = .ok (.aload_n 0, 1) := by decide +kernel
theorem dL_law_1239 : decode cL_law 1239 = .ok (.iload_n 3, 1) := by decide +kernel
theorem dL_law_1240 : decode cL_law 1240 = .ok (.iconst 5, 1) := by decide +kernel
theorem dL_law_1241 : decode cL_law 1241 = .ok (.iadd, 1) := by decide +kernel
theorem dL_law_1242 : decode cL_law 1242 = .ok (.iaload, 1) := by decide +kernel
theorem dL_law_1243 : decode cL_law 1243 = .ok (.invokevirtual 152, 3) := by decide +kernel
theorem dL_law_1246 : decode cL_law 1246 = .ok (.if_icmp .eq 5, 3) := by decide +kernel
theorem dL_law_1249 : decode cL_law 1249 = .ok (.iconst 0, 1) := by decide +kernel
theorem dL_law_1250 : decode cL_law 1250 = .ok (.ireturn, 1) := by decide +kernel
theorem dL_law_1251 : decode cL_law 1251 = .ok (.iinc 3 6, 3) := by decide +kernel
theorem dL_law_1254 : decode cL_law 1254 = .ok (.goto (-1236), 3) := by decide +kernel
theorem dL_law_1257 : decode cL_law 1257 = .ok (.iconst 1, 1) := by decide +kernel
theorem dL_law_1258 : decode cL_law 1258 = .ok (.ireturn, 1) := by decide +kernel
theorem sd1301_0 {Qf : State → Prop} (F : zFx p l R s m args meth c D cid kv N0 xs Ls RL cL_law 4 n0 z0 nF zE d) (IH : zAllM l D cid kv N0 xs Ls d) (hend : ∀ pc, decode code pc = .ok (.ireturn, 1) → zSo p l e R s m args below meth c D cid kv N0 xs Ls 4 Qf ρ0 n0 z0 nF zE Qq (zCall d) pc (op_rI (fun x => x = 0 ∨ x = 1))) : zSoL p l e R s m args below meth c D cid kv N0 xs Ls 4 Qf ρ0 n0 z0 nF zE Qq (zCall d) zt1301_0 := zc_so (si_new F rfl inT7 (by decide) tyX7_ok nwX7 tb_17 tb_18 tb_1 dL_law_0)
  (zc_so (si_dup F dL_law_3)
  (zc_so (si_cI  F (IH 701 mm701) mp701 (by decide) rfl tb_19 mi701 mn701 mc701 dL_law_4)
  (zc_so (si_astore_n F dL_law_7 rfl)
  (zc_so (si_new F rfl inT8 (by decide) tyX8_ok nwX8 tb_695 tb_696 tb_10 dL_law_8)
  (zc_so (si_dup F dL_law_11)
  (zc_so (si_cI  F (IH 801 mm801) mp801 (by decide) rfl tb_697 mi801 mn801 mc801 dL_law_12)
  (zc_so (si_astore_n F dL_law_15 rfl)
  (zc_so (si_iconst F dL_law_16 rfl)
  (zc_so (si_istore_n F dL_law_17 rfl)
  (zc_so (si_iload_n F dL_law_18 rfl)
  (zc_so (si_aload_n F dL_law_19 rfl)
  (zc_so (so_lenI F.1.1 F.1.2.1 F.2.1 dL_law_20)
  (zc_so (si_bipush F dL_law_21 rfl)
  (zc_so (si_isub F dL_law_23)
  (zc_so (si_icgt F dL_law_24 rfl)
  (zc_so (si_aload_n F dL_law_27 rfl)
  (zc_so (si_iload_n F dL_law_28 rfl)
  (zc_so (so_iaI F.1.1 F.1.2.1 F.2.1 dL_law_29)
  (zc_so (si_bipush F dL_law_30 rfl)
  (zc_so (si_iand F dL_law_32)
  (zc_so (so_swT F.1.1 F.1.2.1 dL_law_33 rfl rfl ⟨rfl, rfl, ⟨rfl, rfl, ⟨rfl, rfl, ⟨rfl, rfl, ⟨rfl, rfl, ⟨rfl, rfl, ⟨rfl, rfl, ⟨rfl, rfl, ⟨rfl, rfl, ⟨rfl, rfl, ⟨rfl, rfl, ⟨rfl, rfl, ⟨rfl, rfl, ⟨rfl, rfl, ⟨rfl, rfl, ⟨rfl, rfl, ⟨rfl, rfl, ⟨rfl, rfl, ⟨rfl, rfl, ⟨rfl, rfl, ⟨rfl, rfl, ⟨rfl, rfl, ⟨rfl, rfl, ⟨rfl, rfl, ⟨rfl, rfl, ⟨rfl, rfl, ⟨rfl, rfl, ⟨rfl, rfl, ⟨rfl, rfl, ⟨rfl, rfl, ⟨rfl, rfl, ⟨rfl, rfl, trivial⟩⟩⟩⟩⟩⟩⟩⟩⟩⟩⟩⟩⟩⟩⟩⟩⟩⟩⟩⟩⟩⟩⟩⟩⟩⟩⟩⟩⟩⟩⟩⟩)
  (zc_nil))))))))))))))))))))))
theorem sd1301_1 {Qf : State → Prop} (F : zFx p l R s m args meth c D cid kv N0 xs Ls RL cL_law 4 n0 z0 nF zE d) (IH : zAllM l D cid kv N0 xs Ls d) (hend : ∀ pc, decode code pc = .ok (.ireturn, 1) → zSo p l e R s m args below meth c D cid kv N0 xs Ls 4 Qf ρ0 n0 z0 nF zE Qq (zCall d) pc (op_rI (fun x => x = 0 ∨ x = 1))) : zSoL p l e R s m args below meth c D cid kv N0 xs Ls 4 Qf ρ0 n0 z0 nF zE Qq (zCall d) zt1301_1 := zc_nil
theorem sd1301_2 {Qf : State → Prop} (F : zFx p l R s m args meth c D cid kv N0 xs Ls RL cL_law 4 n0 z0 nF zE d) (IH : zAllM l D cid kv N0 xs Ls d) (hend : ∀ pc, decode code pc = .ok (.ireturn, 1) → zSo p l e R s m args below meth c D cid kv N0 xs Ls 4 Qf ρ0 n0 z0 nF zE Qq (zCall d) pc (op_rI (fun x => x = 0 ∨ x = 1))) : zSoL p l e R s m args below meth c D cid kv N0 xs Ls 4 Qf ρ0 n0 z0 nF zE Qq (zCall d) zt1301_2 := zc_so (si_aload_n F dL_law_176 rfl)
  (zc_so (si_aload_n F dL_law_177 rfl)
  (zc_so (si_iload_n F dL_law_178 rfl)
  (zc_so (si_iconst F dL_law_179 rfl)
  (zc_so (si_iadd F dL_law_180)
  (zc_so (so_iaI F.1.1 F.1.2.1 F.2.1 dL_law_181)
  (zc_so (si_aload_n F dL_law_182 rfl)
  (zc_so (si_iload_n F dL_law_183 rfl)
  (zc_so (si_iconst F dL_law_184 rfl)
  (zc_so (si_iadd F dL_law_185)
  (zc_so (so_iaI F.1.1 F.1.2.1 F.2.1 dL_law_186)
  (zc_so (si_aload_n F dL_law_187 rfl)
  (zc_so (si_iload_n F dL_law_188 rfl)
  (zc_so (si_iconst F dL_law_189 rfl)
  (zc_so (si_iadd F dL_law_190)
  (zc_so (so_iaI F.1.1 F.1.2.1 F.2.1 dL_law_191)
  (zc_nil))))))))))))))))
theorem sd1301_3 {Qf : State → Prop} (F : zFx p l R s m args meth c D cid kv N0 xs Ls RL cL_law 4 n0 z0 nF zE d) (IH : zAllM l D cid kv N0 xs Ls d) (hend : ∀ pc, decode code pc = .ok (.ireturn, 1) → zSo p l e R s m args below meth c D cid kv N0 xs Ls 4 Qf ρ0 n0 z0 nF zE Qq (zCall d) pc (op_rI (fun x => x = 0 ∨ x = 1))) : zSoL p l e R s m args below meth c D cid kv N0 xs Ls 4 Qf ρ0 n0 z0 nF zE Qq (zCall d) zt1301_3 := zc_so (si_aload_n F dL_law_192 rfl)
  (zc_so (si_iload_n F dL_law_193 rfl)
  (zc_so (si_iconst F dL_law_194 rfl)
  (zc_so (si_iadd F dL_law_195)
  (zc_so (so_iaI F.1.1 F.1.2.1 F.2.1 dL_law_196)
  (zc_so (si_cV F (IH 702 mm702) mp702 (by decide) rfl rfl (by decide) tb_247 mi702 ms702 mn702 mc702 dL_law_197)
  (zc_so (si_aload_n F dL_law_200 rfl)
  (zc_so (si_aload_n F dL_law_201 rfl)
  (zc_so (si_iload_n F dL_law_202 rfl)
  (zc_so (si_iconst F dL_law_203 rfl)
  (zc_so (si_iadd F dL_law_204)
  (zc_so (so_iaI F.1.1 F.1.2.1 F.2.1 dL_law_205)
  (zc_so (si_aload_n F dL_law_206 rfl)
  (zc_so (si_iload_n F dL_law_207 rfl)
  (zc_so (si_iconst F dL_law_208 rfl)
  (zc_so (si_iadd F dL_law_209)
  (zc_so (so_iaI F.1.1 F.1.2.1 F.2.1 dL_law_210)
  (zc_so (si_aload_n F dL_law_211 rfl)
  (zc_so (si_iload_n F dL_law_212 rfl)
  (zc_so (si_iconst F dL_law_213 rfl)
  (zc_so (si_iadd F dL_law_214)
  (zc_so (so_iaI F.1.1 F.1.2.1 F.2.1 dL_law_215)
  (zc_so (si_aload_n F dL_law_216 rfl)
  (zc_so (si_iload_n F dL_law_217 rfl)
  (zc_so (si_iconst F dL_law_218 rfl)
  (zc_so (si_iadd F dL_law_219)
  (zc_so (so_iaI F.1.1 F.1.2.1 F.2.1 dL_law_220)
  (zc_so (si_cV F (IH 810 mm810) mp810 (by decide) rfl rfl (by decide) tb_804 mi810 ms810 mn810 mc810 dL_law_221)
  (zc_so (si_iceq F dL_law_224 rfl)
  (zc_so (si_iconst F dL_law_227 rfl)
  (zc_so (hend _ dL_law_228)
  (zc_so (si_aload_n F dL_law_229 rfl)
  (zc_so (si_aload_n F dL_law_230 rfl)
  (zc_so (si_iload_n F dL_law_231 rfl)
  (zc_so (si_iconst F dL_law_232 rfl)
  (zc_so (si_iadd F dL_law_233)
  (zc_so (so_iaI F.1.1 F.1.2.1 F.2.1 dL_law_234)
  (zc_so (si_aload_n F dL_law_235 rfl)
  (zc_so (si_iload_n F dL_law_236 rfl)
  (zc_so (si_iconst F dL_law_237 rfl)
  (zc_so (si_iadd F dL_law_238)
  (zc_so (so_iaI F.1.1 F.1.2.1 F.2.1 dL_law_239)
  (zc_so (si_cV F (IH 703 mm703) mp703 (by decide) rfl rfl (by decide) tb_262 mi703 ms703 mn703 mc703 dL_law_240)
  (zc_so (si_aload_n F dL_law_243 rfl)
  (zc_so (si_aload_n F dL_law_244 rfl)
  (zc_so (si_iload_n F dL_law_245 rfl)
  (zc_so (si_iconst F dL_law_246 rfl)
  (zc_so (si_iadd F dL_law_247)
  (zc_so (so_iaI F.1.1 F.1.2.1 F.2.1 dL_law_248)
  (zc_so (si_aload_n F dL_law_249 rfl)
  (zc_so (si_iload_n F dL_law_250 rfl)
  (zc_so (si_iconst F dL_law_251 rfl)
  (zc_so (si_iadd F dL_law_252)
  (zc_so (so_iaI F.1.1 F.1.2.1 F.2.1 dL_law_253)
  (zc_so (si_cV F (IH 811 mm811) mp811 (by decide) rfl rfl (by decide) tb_811 mi811 ms811 mn811 mc811 dL_law_254)
  (zc_nil)))))))))))))))))))))))))))))))))))))))))))))))))))))))
theorem sd1301_4 {Qf : State → Prop} (F : zFx p l R s m args meth c D cid kv N0 xs Ls RL cL_law 4 n0 z0 nF zE d) (IH : zAllM l D cid kv N0 xs Ls d) (hend : ∀ pc, decode code pc = .ok (.ireturn, 1) → zSo p l e R s m args below meth c D cid kv N0 xs Ls 4 Qf ρ0 n0 z0 nF zE Qq (zCall d) pc (op_rI (fun x => x = 0 ∨ x = 1))) : zSoL p l e R s m args below meth c D cid kv N0 xs Ls 4 Qf ρ0 n0 z0 nF zE Qq (zCall d) zt1301_4 := zc_so (si_iceq F dL_law_257 rfl)
  (zc_so (si_iconst F dL_law_260 rfl)
  (zc_so (hend _ dL_law_261)
  (zc_so (si_aload_n F dL_law_262 rfl)
  (zc_so (si_aload_n F dL_law_263 rfl)
  (zc_so (si_iload_n F dL_law_264 rfl)
  (zc_so (si_iconst F dL_law_265 rfl)
  (zc_so (si_iadd F dL_law_266)
  (zc_so (so_iaI F.1.1 F.1.2.1 F.2.1 dL_law_267)
  (zc_so (si_aload_n F dL_law_268 rfl)
  (zc_so (si_iload_n F dL_law_269 rfl)
  (zc_so (si_iconst F dL_law_270 rfl)
  (zc_so (si_iadd F dL_law_271)
  (zc_so (so_iaI F.1.1 F.1.2.1 F.2.1 dL_law_272)
  (zc_so (si_aload_n F dL_law_273 rfl)
  (zc_so (si_iload_n F dL_law_274 rfl)
  (zc_so (si_iconst F dL_law_275 rfl)
  (zc_so (si_iadd F dL_law_276)
  (zc_so (so_iaI F.1.1 F.1.2.1 F.2.1 dL_law_277)
  (zc_so (si_cV F (IH 704 mm704) mp704 (by decide) rfl rfl (by decide) tb_321 mi704 ms704 mn704 mc704 dL_law_278)
  (zc_so (si_aload_n F dL_law_281 rfl)
  (zc_so (si_aload_n F dL_law_282 rfl)
  (zc_so (si_iload_n F dL_law_283 rfl)
  (zc_so (si_iconst F dL_law_284 rfl)
  (zc_so (si_iadd F dL_law_285)
  (zc_so (so_iaI F.1.1 F.1.2.1 F.2.1 dL_law_286)
  (zc_so (si_aload_n F dL_law_287 rfl)
  (zc_so (si_iload_n F dL_law_288 rfl)
  (zc_so (si_iconst F dL_law_289 rfl)
  (zc_so (si_iadd F dL_law_290)
  (zc_so (so_iaI F.1.1 F.1.2.1 F.2.1 dL_law_291)
  (zc_so (si_aload_n F dL_law_292 rfl)
  (zc_so (si_iload_n F dL_law_293 rfl)
  (zc_so (si_iconst F dL_law_294 rfl)
  (zc_so (si_iadd F dL_law_295)
  (zc_so (so_iaI F.1.1 F.1.2.1 F.2.1 dL_law_296)
  (zc_so (si_cV F (IH 812 mm812) mp812 (by decide) rfl rfl (by decide) tb_892 mi812 ms812 mn812 mc812 dL_law_297)
  (zc_so (si_iceq F dL_law_300 rfl)
  (zc_so (si_iconst F dL_law_303 rfl)
  (zc_so (hend _ dL_law_304)
  (zc_so (si_aload_n F dL_law_305 rfl)
  (zc_so (si_aload_n F dL_law_306 rfl)
  (zc_so (si_iload_n F dL_law_307 rfl)
  (zc_so (si_iconst F dL_law_308 rfl)
  (zc_so (si_iadd F dL_law_309)
  (zc_so (so_iaI F.1.1 F.1.2.1 F.2.1 dL_law_310)
  (zc_so (si_aload_n F dL_law_311 rfl)
  (zc_so (si_iload_n F dL_law_312 rfl)
  (zc_so (si_iconst F dL_law_313 rfl)
  (zc_so (si_iadd F dL_law_314)
  (zc_so (so_iaI F.1.1 F.1.2.1 F.2.1 dL_law_315)
  (zc_so (si_ifeq F dL_law_316 rfl)
  (zc_so (si_iconst F dL_law_319 rfl)
  (zc_nil)))))))))))))))))))))))))))))))))))))))))))))))))))))
theorem sd1301_5 {Qf : State → Prop} (F : zFx p l R s m args meth c D cid kv N0 xs Ls RL cL_law 4 n0 z0 nF zE d) (IH : zAllM l D cid kv N0 xs Ls d) (hend : ∀ pc, decode code pc = .ok (.ireturn, 1) → zSo p l e R s m args below meth c D cid kv N0 xs Ls 4 Qf ρ0 n0 z0 nF zE Qq (zCall d) pc (op_rI (fun x => x = 0 ∨ x = 1))) : zSoL p l e R s m args below meth c D cid kv N0 xs Ls 4 Qf ρ0 n0 z0 nF zE Qq (zCall d) zt1301_5 := zc_so (si_goto F dL_law_320 rfl)
  (zc_so (si_iconst F dL_law_323 rfl)
  (zc_so (si_cV F (IH 705 mm705) mp705 (by decide) rfl rfl (by decide) tb_326 mi705 ms705 mn705 mc705 dL_law_324)
  (zc_so (si_aload_n F dL_law_327 rfl)
  (zc_so (si_aload_n F dL_law_328 rfl)
  (zc_so (si_iload_n F dL_law_329 rfl)
  (zc_so (si_iconst F dL_law_330 rfl)
  (zc_so (si_iadd F dL_law_331)
  (zc_so (so_iaI F.1.1 F.1.2.1 F.2.1 dL_law_332)
  (zc_so (si_aload_n F dL_law_333 rfl)
  (zc_so (si_iload_n F dL_law_334 rfl)
  (zc_so (si_iconst F dL_law_335 rfl)
  (zc_so (si_iadd F dL_law_336)
  (zc_so (so_iaI F.1.1 F.1.2.1 F.2.1 dL_law_337)
  (zc_so (si_ifeq F dL_law_338 rfl)
  (zc_so (si_iconst F dL_law_341 rfl)
  (zc_so (si_goto F dL_law_342 rfl)
  (zc_so (si_iconst F dL_law_345 rfl)
  (zc_so (si_cV F (IH 814 mm814) mp814 (by decide) rfl rfl (by decide) tb_896 mi814 ms814 mn814 mc814 dL_law_346)
  (zc_so (si_iceq F dL_law_349 rfl)
  (zc_so (si_iconst F dL_law_352 rfl)
  (zc_so (hend _ dL_law_353)
  (zc_so (si_aload_n F dL_law_354 rfl)
  (zc_so (si_aload_n F dL_law_355 rfl)
  (zc_so (si_iload_n F dL_law_356 rfl)
  (zc_so (si_iconst F dL_law_357 rfl)
  (zc_so (si_iadd F dL_law_358)
  (zc_so (so_iaI F.1.1 F.1.2.1 F.2.1 dL_law_359)
  (zc_so (si_cV F (IH 706 mm706) mp706 (by decide) rfl rfl (by decide) tb_334 mi706 ms706 mn706 mc706 dL_law_360)
  (zc_so (si_aload_n F dL_law_363 rfl)
  (zc_so (si_aload_n F dL_law_364 rfl)
  (zc_so (si_iload_n F dL_law_365 rfl)
  (zc_so (si_iconst F dL_law_366 rfl)
  (zc_so (si_iadd F dL_law_367)
  (zc_so (so_iaI F.1.1 F.1.2.1 F.2.1 dL_law_368)
  (zc_so (si_cV F (IH 815 mm815) mp815 (by decide) rfl rfl (by decide) tb_904 mi815 ms815 mn815 mc815 dL_law_369)
  (zc_so (si_iceq F dL_law_372 rfl)
  (zc_so (si_iconst F dL_law_375 rfl)
  (zc_so (hend _ dL_law_376)
  (zc_so (si_aload_n F dL_law_377 rfl)
  (zc_so (si_aload_n F dL_law_378 rfl)
  (zc_so (si_iload_n F dL_law_379 rfl)
  (zc_so (si_iconst F dL_law_380 rfl)
  (zc_so (si_iadd F dL_law_381)
  (zc_so (so_iaI F.1.1 F.1.2.1 F.2.1 dL_law_382)
  (zc_so (si_aload_n F dL_law_383 rfl)
  (zc_nil))))))))))))))))))))))))))))))))))))))))))))))
theorem sd1301_6 {Qf : State → Prop} (F : zFx p l R s m args meth c D cid kv N0 xs Ls RL cL_law 4 n0 z0 nF zE d) (IH : zAllM l D cid kv N0 xs Ls d) (hend : ∀ pc, decode code pc = .ok (.ireturn, 1) → zSo p l e R s m args below meth c D cid kv N0 xs Ls 4 Qf ρ0 n0 z0 nF zE Qq (zCall d) pc (op_rI (fun x => x = 0 ∨ x = 1))) : zSoL p l e R s m args below meth c D cid kv N0 xs Ls 4 Qf ρ0 n0 z0 nF zE Qq (zCall d) zt1301_6 := zc_so (si_iload_n F dL_law_384 rfl)
  (zc_so (si_iconst F dL_law_385 rfl)
  (zc_so (si_iadd F dL_law_386)
  (zc_so (so_iaI F.1.1 F.1.2.1 F.2.1 dL_law_387)
  (zc_so (si_aload_n F dL_law_388 rfl)
  (zc_so (si_iload_n F dL_law_389 rfl)
  (zc_so (si_iconst F dL_law_390 rfl)
  (zc_so (si_iadd F dL_law_391)
  (zc_so (so_iaI F.1.1 F.1.2.1 F.2.1 dL_law_392)
  (zc_so (si_cV F (IH 707 mm707) mp707 (by decide) rfl rfl (by decide) tb_339 mi707 ms707 mn707 mc707 dL_law_393)
  (zc_so (si_aload_n F dL_law_396 rfl)
  (zc_so (si_aload_n F dL_law_397 rfl)
  (zc_so (si_iload_n F dL_law_398 rfl)
  (zc_so (si_iconst F dL_law_399 rfl)
  (zc_so (si_iadd F dL_law_400)
  (zc_so (so_iaI F.1.1 F.1.2.1 F.2.1 dL_law_401)
  (zc_so (si_aload_n F dL_law_402 rfl)
  (zc_so (si_iload_n F dL_law_403 rfl)
  (zc_so (si_iconst F dL_law_404 rfl)
  (zc_so (si_iadd F dL_law_405)
  (zc_so (so_iaI F.1.1 F.1.2.1 F.2.1 dL_law_406)
  (zc_so (si_aload_n F dL_law_407 rfl)
  (zc_so (si_iload_n F dL_law_408 rfl)
  (zc_so (si_iconst F dL_law_409 rfl)
  (zc_so (si_iadd F dL_law_410)
  (zc_so (so_iaI F.1.1 F.1.2.1 F.2.1 dL_law_411)
  (zc_so (si_cV F (IH 816 mm816) mp816 (by decide) rfl rfl (by decide) tb_909 mi816 ms816 mn816 mc816 dL_law_412)
  (zc_so (si_iceq F dL_law_415 rfl)
  (zc_so (si_iconst F dL_law_418 rfl)
  (zc_so (hend _ dL_law_419)
  (zc_so (si_aload_n F dL_law_420 rfl)
  (zc_so (si_aload_n F dL_law_421 rfl)
  (zc_so (si_iload_n F dL_law_422 rfl)
  (zc_so (si_iconst F dL_law_423 rfl)
  (zc_so (si_iadd F dL_law_424)
  (zc_so (so_iaI F.1.1 F.1.2.1 F.2.1 dL_law_425)
  (zc_so (si_cV F (IH 708 mm708) mp708 (by decide) rfl rfl (by decide) tb_343 mi708 ms708 mn708 mc708 dL_law_426)
  (zc_so (si_aload_n F dL_law_429 rfl)
  (zc_so (si_aload_n F dL_law_430 rfl)
  (zc_so (si_iload_n F dL_law_431 rfl)
  (zc_so (si_iconst F dL_law_432 rfl)
  (zc_so (si_iadd F dL_law_433)
  (zc_so (so_iaI F.1.1 F.1.2.1 F.2.1 dL_law_434)
  (zc_so (si_cV F (IH 817 mm817) mp817 (by decide) rfl rfl (by decide) tb_913 mi817 ms817 mn817 mc817 dL_law_435)
  (zc_so (si_iceq F dL_law_438 rfl)
  (zc_so (si_iconst F dL_law_441 rfl)
  (zc_so (hend _ dL_law_442)
  (zc_so (si_aload_n F dL_law_443 rfl)
  (zc_so (si_cV F (IH 709 mm709) mp709 (by decide) rfl rfl (by decide) tb_351 mi709 ms709 mn709 mc709 dL_law_444)
  (zc_so (si_aload_n F dL_law_447 rfl)
  (zc_nil))))))))))))))))))))))))))))))))))))))))))))))))))
theorem sd1301_7 {Qf : State → Prop} (F : zFx p l R s m args meth c D cid kv N0 xs Ls RL cL_law 4 n0 z0 nF zE d) (IH : zAllM l D cid kv N0 xs Ls d) (hend : ∀ pc, decode code pc = .ok (.ireturn, 1) → zSo p l e R s m args below meth c D cid kv N0 xs Ls 4 Qf ρ0 n0 z0 nF zE Qq (zCall d) pc (op_rI (fun x => x = 0 ∨ x = 1))) : zSoL p l e R s m args below meth c D cid kv N0 xs Ls 4 Qf ρ0 n0 z0 nF zE Qq (zCall d) zt1301_7 := zc_so (si_cV F (IH 829 mm829) mp829 (by decide) rfl rfl (by decide) tb_917 mi829 ms829 mn829 mc829 dL_law_448)
  (zc_so (si_iceq F dL_law_451 rfl)
  (zc_so (si_iconst F dL_law_454 rfl)
  (zc_so (hend _ dL_law_455)
  (zc_so (si_aload_n F dL_law_456 rfl)
  (zc_so (si_aload_n F dL_law_457 rfl)
  (zc_so (si_iload_n F dL_law_458 rfl)
  (zc_so (si_iconst F dL_law_459 rfl)
  (zc_so (si_iadd F dL_law_460)
  (zc_so (so_iaI F.1.1 F.1.2.1 F.2.1 dL_law_461)
  (zc_so (si_cV F (IH 710 mm710) mp710 (by decide) rfl rfl (by decide) tb_464 mi710 ms710 mn710 mc710 dL_law_462)
  (zc_so (si_aload_n F dL_law_465 rfl)
  (zc_so (si_aload_n F dL_law_466 rfl)
  (zc_so (si_iload_n F dL_law_467 rfl)
  (zc_so (si_iconst F dL_law_468 rfl)
  (zc_so (si_iadd F dL_law_469)
  (zc_so (so_iaI F.1.1 F.1.2.1 F.2.1 dL_law_470)
  (zc_so (si_cV F (IH 839 mm839) mp839 (by decide) rfl rfl (by decide) tb_921 mi839 ms839 mn839 mc839 dL_law_471)
  (zc_so (si_iceq F dL_law_474 rfl)
  (zc_so (si_iconst F dL_law_477 rfl)
  (zc_so (hend _ dL_law_478)
  (zc_so (si_aload_n F dL_law_479 rfl)
  (zc_so (si_aload_n F dL_law_480 rfl)
  (zc_so (si_iload_n F dL_law_481 rfl)
  (zc_so (si_iconst F dL_law_482 rfl)
  (zc_so (si_iadd F dL_law_483)
  (zc_so (so_iaI F.1.1 F.1.2.1 F.2.1 dL_law_484)
  (zc_so (si_cV F (IH 711 mm711) mp711 (by decide) rfl rfl (by decide) tb_474 mi711 ms711 mn711 mc711 dL_law_485)
  (zc_so (si_aload_n F dL_law_488 rfl)
  (zc_so (si_aload_n F dL_law_489 rfl)
  (zc_so (si_iload_n F dL_law_490 rfl)
  (zc_so (si_iconst F dL_law_491 rfl)
  (zc_so (si_iadd F dL_law_492)
  (zc_so (so_iaI F.1.1 F.1.2.1 F.2.1 dL_law_493)
  (zc_so (si_cV F (IH 840 mm840) mp840 (by decide) rfl rfl (by decide) tb_937 mi840 ms840 mn840 mc840 dL_law_494)
  (zc_so (si_iceq F dL_law_497 rfl)
  (zc_so (si_iconst F dL_law_500 rfl)
  (zc_so (hend _ dL_law_501)
  (zc_so (si_aload_n F dL_law_502 rfl)
  (zc_so (si_aload_n F dL_law_503 rfl)
  (zc_so (si_iload_n F dL_law_504 rfl)
  (zc_so (si_iconst F dL_law_505 rfl)
  (zc_so (si_iadd F dL_law_506)
  (zc_so (so_iaI F.1.1 F.1.2.1 F.2.1 dL_law_507)
  (zc_so (si_aload_n F dL_law_508 rfl)
  (zc_so (si_iload_n F dL_law_509 rfl)
  (zc_so (si_iconst F dL_law_510 rfl)
  (zc_so (si_iadd F dL_law_511)
  (zc_nil))))))))))))))))))))))))))))))))))))))))))))))))
theorem sd1301_8 {Qf : State → Prop} (F : zFx p l R s m args meth c D cid kv N0 xs Ls RL cL_law 4 n0 z0 nF zE d) (IH : zAllM l D cid kv N0 xs Ls d) (hend : ∀ pc, decode code pc = .ok (.ireturn, 1) → zSo p l e R s m args below meth c D cid kv N0 xs Ls 4 Qf ρ0 n0 z0 nF zE Qq (zCall d) pc (op_rI (fun x => x = 0 ∨ x = 1))) : zSoL p l e R s m args below meth c D cid kv N0 xs Ls 4 Qf ρ0 n0 z0 nF zE Qq (zCall d) zt1301_8 := zc_so (so_iaI F.1.1 F.1.2.1 F.2.1 dL_law_512)
  (zc_so (si_cV F (IH 712 mm712) mp712 (by decide) rfl rfl (by decide) tb_478 mi712 ms712 mn712 mc712 dL_law_513)
  (zc_so (si_aload_n F dL_law_516 rfl)
  (zc_so (si_aload_n F dL_law_517 rfl)
  (zc_so (si_iload_n F dL_law_518 rfl)
  (zc_so (si_iconst F dL_law_519 rfl)
  (zc_so (si_iadd F dL_law_520)
  (zc_so (so_iaI F.1.1 F.1.2.1 F.2.1 dL_law_521)
  (zc_so (si_aload_n F dL_law_522 rfl)
  (zc_so (si_iload_n F dL_law_523 rfl)
  (zc_so (si_iconst F dL_law_524 rfl)
  (zc_so (si_iadd F dL_law_525)
  (zc_so (so_iaI F.1.1 F.1.2.1 F.2.1 dL_law_526)
  (zc_so (si_cV F (IH 841 mm841) mp841 (by decide) rfl rfl (by decide) tb_945 mi841 ms841 mn841 mc841 dL_law_527)
  (zc_so (si_iceq F dL_law_530 rfl)
  (zc_so (si_iconst F dL_law_533 rfl)
  (zc_so (hend _ dL_law_534)
  (zc_so (si_aload_n F dL_law_535 rfl)
  (zc_so (si_aload_n F dL_law_536 rfl)
  (zc_so (si_iload_n F dL_law_537 rfl)
  (zc_so (si_iconst F dL_law_538 rfl)
  (zc_so (si_iadd F dL_law_539)
  (zc_so (so_iaI F.1.1 F.1.2.1 F.2.1 dL_law_540)
  (zc_so (si_aload_n F dL_law_541 rfl)
  (zc_so (si_iload_n F dL_law_542 rfl)
  (zc_so (si_iconst F dL_law_543 rfl)
  (zc_so (si_iadd F dL_law_544)
  (zc_so (so_iaI F.1.1 F.1.2.1 F.2.1 dL_law_545)
  (zc_so (si_cV F (IH 714 mm714) mp714 (by decide) rfl rfl (by decide) tb_482 mi714 ms714 mn714 mc714 dL_law_546)
  (zc_so (si_aload_n F dL_law_549 rfl)
  (zc_so (si_aload_n F dL_law_550 rfl)
  (zc_so (si_iload_n F dL_law_551 rfl)
  (zc_so (si_iconst F dL_law_552 rfl)
  (zc_so (si_iadd F dL_law_553)
  (zc_so (so_iaI F.1.1 F.1.2.1 F.2.1 dL_law_554)
  (zc_so (si_aload_n F dL_law_555 rfl)
  (zc_so (si_iload_n F dL_law_556 rfl)
  (zc_so (si_iconst F dL_law_557 rfl)
  (zc_so (si_iadd F dL_law_558)
  (zc_so (so_iaI F.1.1 F.1.2.1 F.2.1 dL_law_559)
  (zc_so (si_cV F (IH 846 mm846) mp846 (by decide) rfl rfl (by decide) tb_949 mi846 ms846 mn846 mc846 dL_law_560)
  (zc_so (si_iceq F dL_law_563 rfl)
  (zc_so (si_iconst F dL_law_566 rfl)
  (zc_so (hend _ dL_law_567)
  (zc_so (si_aload_n F dL_law_568 rfl)
  (zc_so (si_aload_n F dL_law_569 rfl)
  (zc_so (si_iload_n F dL_law_570 rfl)
  (zc_so (si_iconst F dL_law_571 rfl)
  (zc_so (si_iadd F dL_law_572)
  (zc_so (so_iaI F.1.1 F.1.2.1 F.2.1 dL_law_573)
  (zc_so (si_aload_n F dL_law_574 rfl)
  (zc_so (si_iload_n F dL_law_575 rfl)
  (zc_nil))))))))))))))))))))))))))))))))))))))))))))))))))))
theorem sd1301_9 {Qf : State → Prop} (F : zFx p l R s m args meth c D cid kv N0 xs Ls RL cL_law 4 n0 z0 nF zE d) (IH : zAllM l D cid kv N0 xs Ls d) (hend : ∀ pc, decode code pc = .ok (.ireturn, 1) → zSo p l e R s m args below meth c D cid kv N0 xs Ls 4 Qf ρ0 n0 z0 nF zE Qq (zCall d) pc (op_rI (fun x => x = 0 ∨ x = 1))) : zSoL p l e R s m args below meth c D cid kv N0 xs Ls 4 Qf ρ0 n0 z0 nF zE Qq (zCall d) zt1301_9 := zc_so (si_iconst F dL_law_576 rfl)
  (zc_so (si_iadd F dL_law_577)
  (zc_so (so_iaI F.1.1 F.1.2.1 F.2.1 dL_law_578)
  (zc_so (si_aload_n F dL_law_579 rfl)
  (zc_so (si_iload_n F dL_law_580 rfl)
  (zc_so (si_iconst F dL_law_581 rfl)
  (zc_so (si_iadd F dL_law_582)
  (zc_so (so_iaI F.1.1 F.1.2.1 F.2.1 dL_law_583)
  (zc_so (si_cV F (IH 720 mm720) mp720 (by decide) rfl rfl (by decide) tb_512 mi720 ms720 mn720 mc720 dL_law_584)
  (zc_so (si_aload_n F dL_law_587 rfl)
  (zc_so (si_aload_n F dL_law_588 rfl)
  (zc_so (si_iload_n F dL_law_589 rfl)
  (zc_so (si_iconst F dL_law_590 rfl)
  (zc_so (si_iadd F dL_law_591)
  (zc_so (so_iaI F.1.1 F.1.2.1 F.2.1 dL_law_592)
  (zc_so (si_aload_n F dL_law_593 rfl)
  (zc_so (si_iload_n F dL_law_594 rfl)
  (zc_so (si_iconst F dL_law_595 rfl)
  (zc_so (si_iadd F dL_law_596)
  (zc_so (so_iaI F.1.1 F.1.2.1 F.2.1 dL_law_597)
  (zc_so (si_aload_n F dL_law_598 rfl)
  (zc_so (si_iload_n F dL_law_599 rfl)
  (zc_so (si_iconst F dL_law_600 rfl)
  (zc_so (si_iadd F dL_law_601)
  (zc_so (so_iaI F.1.1 F.1.2.1 F.2.1 dL_law_602)
  (zc_so (si_cV F (IH 847 mm847) mp847 (by decide) rfl rfl (by decide) tb_969 mi847 ms847 mn847 mc847 dL_law_603)
  (zc_so (si_iceq F dL_law_606 rfl)
  (zc_so (si_iconst F dL_law_609 rfl)
  (zc_so (hend _ dL_law_610)
  (zc_so (si_aload_n F dL_law_611 rfl)
  (zc_so (si_aload_n F dL_law_612 rfl)
  (zc_so (si_iload_n F dL_law_613 rfl)
  (zc_so (si_iconst F dL_law_614 rfl)
  (zc_so (si_iadd F dL_law_615)
  (zc_so (so_iaI F.1.1 F.1.2.1 F.2.1 dL_law_616)
  (zc_so (si_aload_n F dL_law_617 rfl)
  (zc_so (si_iload_n F dL_law_618 rfl)
  (zc_so (si_iconst F dL_law_619 rfl)
  (zc_so (si_iadd F dL_law_620)
  (zc_so (so_iaI F.1.1 F.1.2.1 F.2.1 dL_law_621)
  (zc_so (si_aload_n F dL_law_622 rfl)
  (zc_so (si_iload_n F dL_law_623 rfl)
  (zc_so (si_iconst F dL_law_624 rfl)
  (zc_so (si_iadd F dL_law_625)
  (zc_so (so_iaI F.1.1 F.1.2.1 F.2.1 dL_law_626)
  (zc_so (si_cV F (IH 721 mm721) mp721 (by decide) rfl rfl (by decide) tb_524 mi721 ms721 mn721 mc721 dL_law_627)
  (zc_so (si_aload_n F dL_law_630 rfl)
  (zc_so (si_aload_n F dL_law_631 rfl)
  (zc_so (si_iload_n F dL_law_632 rfl)
  (zc_so (si_iconst F dL_law_633 rfl)
  (zc_so (si_iadd F dL_law_634)
  (zc_so (so_iaI F.1.1 F.1.2.1 F.2.1 dL_law_635)
  (zc_so (si_aload_n F dL_law_636 rfl)
  (zc_so (si_iload_n F dL_law_637 rfl)
  (zc_so (si_iconst F dL_law_638 rfl)
  (zc_so (si_iadd F dL_law_639)
  (zc_nil))))))))))))))))))))))))))))))))))))))))))))))))))))))))
theorem sd1301_10 {Qf : State → Prop} (F : zFx p l R s m args meth c D cid kv N0 xs Ls RL cL_law 4 n0 z0 nF zE d) (IH : zAllM l D cid kv N0 xs Ls d) (hend : ∀ pc, decode code pc = .ok (.ireturn, 1) → zSo p l e R s m args below meth c D cid kv N0 xs Ls 4 Qf ρ0 n0 z0 nF zE Qq (zCall d) pc (op_rI (fun x => x = 0 ∨ x = 1))) : zSoL p l e R s m args below meth c D cid kv N0 xs Ls 4 Qf ρ0 n0 z0 nF zE Qq (zCall d) zt1301_10 := zc_so (so_iaI F.1.1 F.1.2.1 F.2.1 dL_law_640)
  (zc_so (si_aload_n F dL_law_641 rfl)
  (zc_so (si_iload_n F dL_law_642 rfl)
  (zc_so (si_iconst F dL_law_643 rfl)
  (zc_so (si_iadd F dL_law_644)
  (zc_so (so_iaI F.1.1 F.1.2.1 F.2.1 dL_law_645)
  (zc_so (si_cV F (IH 850 mm850) mp850 (by decide) rfl rfl (by decide) tb_973 mi850 ms850 mn850 mc850 dL_law_646)
  (zc_so (si_iceq F dL_law_649 rfl)
  (zc_so (si_iconst F dL_law_652 rfl)
  (zc_so (hend _ dL_law_653)
  (zc_so (si_aload_n F dL_law_654 rfl)
  (zc_so (si_aload_n F dL_law_655 rfl)
  (zc_so (si_iload_n F dL_law_656 rfl)
  (zc_so (si_iconst F dL_law_657 rfl)
  (zc_so (si_iadd F dL_law_658)
  (zc_so (so_iaI F.1.1 F.1.2.1 F.2.1 dL_law_659)
  (zc_so (si_cV F (IH 722 mm722) mp722 (by decide) rfl rfl (by decide) tb_546 mi722 ms722 mn722 mc722 dL_law_660)
  (zc_so (si_aload_n F dL_law_663 rfl)
  (zc_so (si_aload_n F dL_law_664 rfl)
  (zc_so (si_iload_n F dL_law_665 rfl)
  (zc_so (si_iconst F dL_law_666 rfl)
  (zc_so (si_iadd F dL_law_667)
  (zc_so (so_iaI F.1.1 F.1.2.1 F.2.1 dL_law_668)
  (zc_so (si_cV F (IH 851 mm851) mp851 (by decide) rfl rfl (by decide) tb_985 mi851 ms851 mn851 mc851 dL_law_669)
  (zc_so (si_iceq F dL_law_672 rfl)
  (zc_so (si_iconst F dL_law_675 rfl)
  (zc_so (hend _ dL_law_676)
  (zc_so (si_aload_n F dL_law_677 rfl)
  (zc_so (si_aload_n F dL_law_678 rfl)
  (zc_so (si_iload_n F dL_law_679 rfl)
  (zc_so (si_iconst F dL_law_680 rfl)
  (zc_so (si_iadd F dL_law_681)
  (zc_so (so_iaI F.1.1 F.1.2.1 F.2.1 dL_law_682)
  (zc_so (si_aload_n F dL_law_683 rfl)
  (zc_so (si_iload_n F dL_law_684 rfl)
  (zc_so (si_iconst F dL_law_685 rfl)
  (zc_so (si_iadd F dL_law_686)
  (zc_so (so_iaI F.1.1 F.1.2.1 F.2.1 dL_law_687)
  (zc_so (si_aload_n F dL_law_688 rfl)
  (zc_so (si_iload_n F dL_law_689 rfl)
  (zc_so (si_iconst F dL_law_690 rfl)
  (zc_so (si_iadd F dL_law_691)
  (zc_so (so_iaI F.1.1 F.1.2.1 F.2.1 dL_law_692)
  (zc_so (si_cV F (IH 724 mm724) mp724 (by decide) rfl rfl (by decide) tb_550 mi724 ms724 mn724 mc724 dL_law_693)
  (zc_so (si_aload_n F dL_law_696 rfl)
  (zc_so (si_aload_n F dL_law_697 rfl)
  (zc_so (si_iload_n F dL_law_698 rfl)
  (zc_so (si_iconst F dL_law_699 rfl)
  (zc_so (si_iadd F dL_law_700)
  (zc_so (so_iaI F.1.1 F.1.2.1 F.2.1 dL_law_701)
  (zc_so (si_aload_n F dL_law_702 rfl)
  (zc_so (si_iload_n F dL_law_703 rfl)
  (zc_nil))))))))))))))))))))))))))))))))))))))))))))))))))))
theorem sd1301_11 {Qf : State → Prop} (F : zFx p l R s m args meth c D cid kv N0 xs Ls RL cL_law 4 n0 z0 nF zE d) (IH : zAllM l D cid kv N0 xs Ls d) (hend : ∀ pc, decode code pc = .ok (.ireturn, 1) → zSo p l e R s m args below meth c D cid kv N0 xs Ls 4 Qf ρ0 n0 z0 nF zE Qq (zCall d) pc (op_rI (fun x => x = 0 ∨ x = 1))) : zSoL p l e R s m args below meth c D cid kv N0 xs Ls 4 Qf ρ0 n0 z0 nF zE Qq (zCall d) zt1301_11 := zc_so (si_iconst F dL_law_704 rfl)
  (zc_so (si_iadd F dL_law_705)
  (zc_so (so_iaI F.1.1 F.1.2.1 F.2.1 dL_law_706)
  (zc_so (si_aload_n F dL_law_707 rfl)
  (zc_so (si_iload_n F dL_law_708 rfl)
  (zc_so (si_iconst F dL_law_709 rfl)
  (zc_so (si_iadd F dL_law_710)
  (zc_so (so_iaI F.1.1 F.1.2.1 F.2.1 dL_law_711)
  (zc_so (si_cV F (IH 853 mm853) mp853 (by decide) rfl rfl (by decide) tb_989 mi853 ms853 mn853 mc853 dL_law_712)
  (zc_so (si_lcmp F dL_law_715)
  (zc_so (si_ifeq F dL_law_716 rfl)
  (zc_so (si_iconst F dL_law_719 rfl)
  (zc_so (hend _ dL_law_720)
  (zc_so (si_aload_n F dL_law_721 rfl)
  (zc_so (si_aload_n F dL_law_722 rfl)
  (zc_so (si_iload_n F dL_law_723 rfl)
  (zc_so (si_iconst F dL_law_724 rfl)
  (zc_so (si_iadd F dL_law_725)
  (zc_so (so_iaI F.1.1 F.1.2.1 F.2.1 dL_law_726)
  (zc_so (si_aload_n F dL_law_727 rfl)
  (zc_so (si_iload_n F dL_law_728 rfl)
  (zc_so (si_iconst F dL_law_729 rfl)
  (zc_so (si_iadd F dL_law_730)
  (zc_so (so_iaI F.1.1 F.1.2.1 F.2.1 dL_law_731)
  (zc_so (si_cV F (IH 725 mm725) mp725 (by decide) rfl rfl (by decide) tb_558 mi725 ms725 mn725 mc725 dL_law_732)
  (zc_so (si_aload_n F dL_law_735 rfl)
  (zc_so (si_aload_n F dL_law_736 rfl)
  (zc_so (si_iload_n F dL_law_737 rfl)
  (zc_so (si_iconst F dL_law_738 rfl)
  (zc_so (si_iadd F dL_law_739)
  (zc_so (so_iaI F.1.1 F.1.2.1 F.2.1 dL_law_740)
  (zc_so (si_aload_n F dL_law_741 rfl)
  (zc_so (si_iload_n F dL_law_742 rfl)
  (zc_so (si_iconst F dL_law_743 rfl)
  (zc_so (si_iadd F dL_law_744)
  (zc_so (so_iaI F.1.1 F.1.2.1 F.2.1 dL_law_745)
  (zc_so (si_cV F (IH 854 mm854) mp854 (by decide) rfl rfl (by decide) tb_998 mi854 ms854 mn854 mc854 dL_law_746)
  (zc_so (si_lcmp F dL_law_749)
  (zc_so (si_ifeq F dL_law_750 rfl)
  (zc_so (si_iconst F dL_law_753 rfl)
  (zc_so (hend _ dL_law_754)
  (zc_so (si_aload_n F dL_law_755 rfl)
  (zc_so (si_aload_n F dL_law_756 rfl)
  (zc_so (si_iload_n F dL_law_757 rfl)
  (zc_so (si_iconst F dL_law_758 rfl)
  (zc_so (si_iadd F dL_law_759)
  (zc_so (so_iaI F.1.1 F.1.2.1 F.2.1 dL_law_760)
  (zc_so (si_aload_n F dL_law_761 rfl)
  (zc_so (si_iload_n F dL_law_762 rfl)
  (zc_so (si_iconst F dL_law_763 rfl)
  (zc_so (si_iadd F dL_law_764)
  (zc_so (so_iaI F.1.1 F.1.2.1 F.2.1 dL_law_765)
  (zc_so (si_cV F (IH 727 mm727) mp727 (by decide) rfl rfl (by decide) tb_562 mi727 ms727 mn727 mc727 dL_law_766)
  (zc_nil)))))))))))))))))))))))))))))))))))))))))))))))))))))
theorem sd1301_12 {Qf : State → Prop} (F : zFx p l R s m args meth c D cid kv N0 xs Ls RL cL_law 4 n0 z0 nF zE d) (IH : zAllM l D cid kv N0 xs Ls d) (hend : ∀ pc, decode code pc = .ok (.ireturn, 1) → zSo p l e R s m args below meth c D cid kv N0 xs Ls 4 Qf ρ0 n0 z0 nF zE Qq (zCall d) pc (op_rI (fun x => x = 0 ∨ x = 1))) : zSoL p l e R s m args below meth c D cid kv N0 xs Ls 4 Qf ρ0 n0 z0 nF zE Qq (zCall d) zt1301_12 := zc_so (si_aload_n F dL_law_769 rfl)
  (zc_so (si_aload_n F dL_law_770 rfl)
  (zc_so (si_iload_n F dL_law_771 rfl)
  (zc_so (si_iconst F dL_law_772 rfl)
  (zc_so (si_iadd F dL_law_773)
  (zc_so (so_iaI F.1.1 F.1.2.1 F.2.1 dL_law_774)
  (zc_so (si_aload_n F dL_law_775 rfl)
  (zc_so (si_iload_n F dL_law_776 rfl)
  (zc_so (si_iconst F dL_law_777 rfl)
  (zc_so (si_iadd F dL_law_778)
  (zc_so (so_iaI F.1.1 F.1.2.1 F.2.1 dL_law_779)
  (zc_so (si_cV F (IH 855 mm855) mp855 (by decide) rfl rfl (by decide) tb_1002 mi855 ms855 mn855 mc855 dL_law_780)
  (zc_so (si_iceq F dL_law_783 rfl)
  (zc_so (si_iconst F dL_law_786 rfl)
  (zc_so (hend _ dL_law_787)
  (zc_so (si_aload_n F dL_law_788 rfl)
  (zc_so (si_aload_n F dL_law_789 rfl)
  (zc_so (si_iload_n F dL_law_790 rfl)
  (zc_so (si_iconst F dL_law_791 rfl)
  (zc_so (si_iadd F dL_law_792)
  (zc_so (so_iaI F.1.1 F.1.2.1 F.2.1 dL_law_793)
  (zc_so (si_cV F (IH 728 mm728) mp728 (by decide) rfl rfl (by decide) tb_566 mi728 ms728 mn728 mc728 dL_law_794)
  (zc_so (si_aload_n F dL_law_797 rfl)
  (zc_so (si_aload_n F dL_law_798 rfl)
  (zc_so (si_iload_n F dL_law_799 rfl)
  (zc_so (si_iconst F dL_law_800 rfl)
  (zc_so (si_iadd F dL_law_801)
  (zc_so (so_iaI F.1.1 F.1.2.1 F.2.1 dL_law_802)
  (zc_so (si_cV F (IH 857 mm857) mp857 (by decide) rfl rfl (by decide) tb_1006 mi857 ms857 mn857 mc857 dL_law_803)
  (zc_so (si_iceq F dL_law_806 rfl)
  (zc_so (si_iconst F dL_law_809 rfl)
  (zc_so (hend _ dL_law_810)
  (zc_so (si_aload_n F dL_law_811 rfl)
  (zc_so (si_aload_n F dL_law_812 rfl)
  (zc_so (si_iload_n F dL_law_813 rfl)
  (zc_so (si_iconst F dL_law_814 rfl)
  (zc_so (si_iadd F dL_law_815)
  (zc_so (so_iaI F.1.1 F.1.2.1 F.2.1 dL_law_816)
  (zc_so (si_aload_n F dL_law_817 rfl)
  (zc_so (si_iload_n F dL_law_818 rfl)
  (zc_so (si_iconst F dL_law_819 rfl)
  (zc_so (si_iadd F dL_law_820)
  (zc_so (so_iaI F.1.1 F.1.2.1 F.2.1 dL_law_821)
  (zc_so (si_cV F (IH 730 mm730) mp730 (by decide) rfl rfl (by decide) tb_575 mi730 ms730 mn730 mc730 dL_law_822)
  (zc_so (si_aload_n F dL_law_825 rfl)
  (zc_so (si_aload_n F dL_law_826 rfl)
  (zc_so (si_iload_n F dL_law_827 rfl)
  (zc_so (si_iconst F dL_law_828 rfl)
  (zc_so (si_iadd F dL_law_829)
  (zc_so (so_iaI F.1.1 F.1.2.1 F.2.1 dL_law_830)
  (zc_so (si_aload_n F dL_law_831 rfl)
  (zc_nil)))))))))))))))))))))))))))))))))))))))))))))))))))
theorem sd1301_13 {Qf : State → Prop} (F : zFx p l R s m args meth c D cid kv N0 xs Ls RL cL_law 4 n0 z0 nF zE d) (IH : zAllM l D cid kv N0 xs Ls d) (hend : ∀ pc, decode code pc = .ok (.ireturn, 1) → zSo p l e R s m args below meth c D cid kv N0 xs Ls 4 Qf ρ0 n0 z0 nF zE Qq (zCall d) pc (op_rI (fun x => x = 0 ∨ x = 1))) : zSoL p l e R s m args below meth c D cid kv N0 xs Ls 4 Qf ρ0 n0 z0 nF zE Qq (zCall d) zt1301_13 := zc_so (si_iload_n F dL_law_832 rfl)
  (zc_so (si_iconst F dL_law_833 rfl)
  (zc_so (si_iadd F dL_law_834)
  (zc_so (so_iaI F.1.1 F.1.2.1 F.2.1 dL_law_835)
  (zc_so (si_cV F (IH 858 mm858) mp858 (by decide) rfl rfl (by decide) tb_1014 mi858 ms858 mn858 mc858 dL_law_836)
  (zc_so (si_iceq F dL_law_839 rfl)
  (zc_so (si_iconst F dL_law_842 rfl)
  (zc_so (hend _ dL_law_843)
  (zc_so (si_aload_n F dL_law_844 rfl)
  (zc_so (si_cV F (IH 731 mm731) mp731 (by decide) rfl rfl (by decide) tb_579 mi731 ms731 mn731 mc731 dL_law_845)
  (zc_so (si_aload_n F dL_law_848 rfl)
  (zc_so (si_cV F (IH 859 mm859) mp859 (by decide) rfl rfl (by decide) tb_1018 mi859 ms859 mn859 mc859 dL_law_849)
  (zc_so (si_iceq F dL_law_852 rfl)
  (zc_so (si_iconst F dL_law_855 rfl)
  (zc_so (hend _ dL_law_856)
  (zc_so (si_aload_n F dL_law_857 rfl)
  (zc_so (si_aload_n F dL_law_858 rfl)
  (zc_so (si_iload_n F dL_law_859 rfl)
  (zc_so (si_iconst F dL_law_860 rfl)
  (zc_so (si_iadd F dL_law_861)
  (zc_so (so_iaI F.1.1 F.1.2.1 F.2.1 dL_law_862)
  (zc_so (si_aload_n F dL_law_863 rfl)
  (zc_so (si_iload_n F dL_law_864 rfl)
  (zc_so (si_iconst F dL_law_865 rfl)
  (zc_so (si_iadd F dL_law_866)
  (zc_so (so_iaI F.1.1 F.1.2.1 F.2.1 dL_law_867)
  (zc_so (si_cV F (IH 732 mm732) mp732 (by decide) rfl rfl (by decide) tb_584 mi732 ms732 mn732 mc732 dL_law_868)
  (zc_so (si_aload_n F dL_law_871 rfl)
  (zc_so (si_aload_n F dL_law_872 rfl)
  (zc_so (si_iload_n F dL_law_873 rfl)
  (zc_so (si_iconst F dL_law_874 rfl)
  (zc_so (si_iadd F dL_law_875)
  (zc_so (so_iaI F.1.1 F.1.2.1 F.2.1 dL_law_876)
  (zc_so (si_aload_n F dL_law_877 rfl)
  (zc_so (si_iload_n F dL_law_878 rfl)
  (zc_so (si_iconst F dL_law_879 rfl)
  (zc_so (si_iadd F dL_law_880)
  (zc_so (so_iaI F.1.1 F.1.2.1 F.2.1 dL_law_881)
  (zc_so (si_cV F (IH 872 mm872) mp872 (by decide) rfl rfl (by decide) tb_1069 mi872 ms872 mn872 mc872 dL_law_882)
  (zc_so (si_iceq F dL_law_885 rfl)
  (zc_so (si_iconst F dL_law_888 rfl)
  (zc_so (hend _ dL_law_889)
  (zc_so (si_aload_n F dL_law_890 rfl)
  (zc_so (si_cV F (IH 733 mm733) mp733 (by decide) rfl rfl (by decide) tb_592 mi733 ms733 mn733 mc733 dL_law_891)
  (zc_so (si_aload_n F dL_law_894 rfl)
  (zc_so (si_cV F (IH 805 mm805) mp805 (by decide) rfl rfl (by decide) tb_793 mi805 ms805 mn805 mc805 dL_law_895)
  (zc_nil))))))))))))))))))))))))))))))))))))))))))))))
theorem sd1301_14 {Qf : State → Prop} (F : zFx p l R s m args meth c D cid kv N0 xs Ls RL cL_law 4 n0 z0 nF zE d) (IH : zAllM l D cid kv N0 xs Ls d) (hend : ∀ pc, decode code pc = .ok (.ireturn, 1) → zSo p l e R s m args below meth c D cid kv N0 xs Ls 4 Qf ρ0 n0 z0 nF zE Qq (zCall d) pc (op_rI (fun x => x = 0 ∨ x = 1))) : zSoL p l e R s m args below meth c D cid kv N0 xs Ls 4 Qf ρ0 n0 z0 nF zE Qq (zCall d) zt1301_14 := zc_so (si_iceq F dL_law_898 rfl)
  (zc_so (si_iconst F dL_law_901 rfl)
  (zc_so (hend _ dL_law_902)
  (zc_so (si_aload_n F dL_law_903 rfl)
  (zc_so (si_cV F (IH 734 mm734) mp734 (by decide) rfl rfl (by decide) tb_605 mi734 ms734 mn734 mc734 dL_law_904)
  (zc_so (si_aload_n F dL_law_907 rfl)
  (zc_so (si_cV F (IH 806 mm806) mp806 (by decide) rfl rfl (by decide) tb_800 mi806 ms806 mn806 mc806 dL_law_908)
  (zc_so (si_iceq F dL_law_911 rfl)
  (zc_so (si_iconst F dL_law_914 rfl)
  (zc_so (hend _ dL_law_915)
  (zc_so (si_aload_n F dL_law_916 rfl)
  (zc_so (si_aload_n F dL_law_917 rfl)
  (zc_so (si_iload_n F dL_law_918 rfl)
  (zc_so (si_iconst F dL_law_919 rfl)
  (zc_so (si_iadd F dL_law_920)
  (zc_so (so_iaI F.1.1 F.1.2.1 F.2.1 dL_law_921)
  (zc_so (si_aload_n F dL_law_922 rfl)
  (zc_so (si_iload_n F dL_law_923 rfl)
  (zc_so (si_iconst F dL_law_924 rfl)
  (zc_so (si_iadd F dL_law_925)
  (zc_so (so_iaI F.1.1 F.1.2.1 F.2.1 dL_law_926)
  (zc_so (si_aload_n F dL_law_927 rfl)
  (zc_so (si_iload_n F dL_law_928 rfl)
  (zc_so (si_iconst F dL_law_929 rfl)
  (zc_so (si_iadd F dL_law_930)
  (zc_so (so_iaI F.1.1 F.1.2.1 F.2.1 dL_law_931)
  (zc_so (si_cV F (IH 735 mm735) mp735 (by decide) rfl rfl (by decide) tb_609 mi735 ms735 mn735 mc735 dL_law_932)
  (zc_so (si_aload_n F dL_law_935 rfl)
  (zc_so (si_aload_n F dL_law_936 rfl)
  (zc_so (si_iload_n F dL_law_937 rfl)
  (zc_so (si_iconst F dL_law_938 rfl)
  (zc_so (si_iadd F dL_law_939)
  (zc_so (so_iaI F.1.1 F.1.2.1 F.2.1 dL_law_940)
  (zc_so (si_aload_n F dL_law_941 rfl)
  (zc_so (si_iload_n F dL_law_942 rfl)
  (zc_so (si_iconst F dL_law_943 rfl)
  (zc_so (si_iadd F dL_law_944)
  (zc_so (so_iaI F.1.1 F.1.2.1 F.2.1 dL_law_945)
  (zc_so (si_aload_n F dL_law_946 rfl)
  (zc_so (si_iload_n F dL_law_947 rfl)
  (zc_so (si_iconst F dL_law_948 rfl)
  (zc_so (si_iadd F dL_law_949)
  (zc_so (so_iaI F.1.1 F.1.2.1 F.2.1 dL_law_950)
  (zc_so (si_cV F (IH 863 mm863) mp863 (by decide) rfl rfl (by decide) tb_1022 mi863 ms863 mn863 mc863 dL_law_951)
  (zc_so (si_iceq F dL_law_954 rfl)
  (zc_so (si_iconst F dL_law_957 rfl)
  (zc_so (hend _ dL_law_958)
  (zc_so (si_aload_n F dL_law_959 rfl)
  (zc_nil))))))))))))))))))))))))))))))))))))))))))))))))
theorem sd1301_15 {Qf : State → Prop} (F : zFx p l R s m args meth c D cid kv N0 xs Ls RL cL_law 4 n0 z0 nF zE d) (IH : zAllM l D cid kv N0 xs Ls d) (hend : ∀ pc, decode code pc = .ok (.ireturn, 1) → zSo p l e R s m args below meth c D cid kv N0 xs Ls 4 Qf ρ0 n0 z0 nF zE Qq (zCall d) pc (op_rI (fun x => x = 0 ∨ x = 1))) : zSoL p l e R s m args below meth c D cid kv N0 xs Ls 4 Qf ρ0 n0 z0 nF zE Qq (zCall d) zt1301_15 := zc_so (si_aload_n F dL_law_960 rfl)
  (zc_so (si_iload_n F dL_law_961 rfl)
  (zc_so (si_iconst F dL_law_962 rfl)
  (zc_so (si_iadd F dL_law_963)
  (zc_so (so_iaI F.1.1 F.1.2.1 F.2.1 dL_law_964)
  (zc_so (si_cV F (IH 736 mm736) mp736 (by decide) rfl rfl (by decide) tb_642 mi736 ms736 mn736 mc736 dL_law_965)
  (zc_so (si_aload_n F dL_law_968 rfl)
  (zc_so (si_aload_n F dL_law_969 rfl)
  (zc_so (si_iload_n F dL_law_970 rfl)
  (zc_so (si_iconst F dL_law_971 rfl)
  (zc_so (si_iadd F dL_law_972)
  (zc_so (so_iaI F.1.1 F.1.2.1 F.2.1 dL_law_973)
  (zc_so (si_cV F (IH 864 mm864) mp864 (by decide) rfl rfl (by decide) tb_1038 mi864 ms864 mn864 mc864 dL_law_974)
  (zc_so (si_iceq F dL_law_977 rfl)
  (zc_so (si_iconst F dL_law_980 rfl)
  (zc_so (hend _ dL_law_981)
  (zc_so (si_aload_n F dL_law_982 rfl)
  (zc_so (si_aload_n F dL_law_983 rfl)
  (zc_so (si_iload_n F dL_law_984 rfl)
  (zc_so (si_iconst F dL_law_985 rfl)
  (zc_so (si_iadd F dL_law_986)
  (zc_so (so_iaI F.1.1 F.1.2.1 F.2.1 dL_law_987)
  (zc_so (si_aload_n F dL_law_988 rfl)
  (zc_so (si_iload_n F dL_law_989 rfl)
  (zc_so (si_iconst F dL_law_990 rfl)
  (zc_so (si_iadd F dL_law_991)
  (zc_so (so_iaI F.1.1 F.1.2.1 F.2.1 dL_law_992)
  (zc_so (si_cV F (IH 737 mm737) mp737 (by decide) rfl rfl (by decide) tb_651 mi737 ms737 mn737 mc737 dL_law_993)
  (zc_so (si_aload_n F dL_law_996 rfl)
  (zc_so (si_aload_n F dL_law_997 rfl)
  (zc_so (si_iload_n F dL_law_998 rfl)
  (zc_so (si_iconst F dL_law_999 rfl)
  (zc_so (si_iadd F dL_law_1000)
  (zc_so (so_iaI F.1.1 F.1.2.1 F.2.1 dL_law_1001)
  (zc_so (si_aload_n F dL_law_1002 rfl)
  (zc_so (si_iload_n F dL_law_1003 rfl)
  (zc_so (si_iconst F dL_law_1004 rfl)
  (zc_so (si_iadd F dL_law_1005)
  (zc_so (so_iaI F.1.1 F.1.2.1 F.2.1 dL_law_1006)
  (zc_so (si_cV F (IH 865 mm865) mp865 (by decide) rfl rfl (by decide) tb_1042 mi865 ms865 mn865 mc865 dL_law_1007)
  (zc_so (si_iceq F dL_law_1010 rfl)
  (zc_so (si_iconst F dL_law_1013 rfl)
  (zc_so (hend _ dL_law_1014)
  (zc_so (si_aload_n F dL_law_1015 rfl)
  (zc_so (si_aload_n F dL_law_1016 rfl)
  (zc_so (si_iload_n F dL_law_1017 rfl)
  (zc_so (si_iconst F dL_law_1018 rfl)
  (zc_so (si_iadd F dL_law_1019)
  (zc_so (so_iaI F.1.1 F.1.2.1 F.2.1 dL_law_1020)
  (zc_so (si_cV F (IH 738 mm738) mp738 (by decide) rfl rfl (by decide) tb_658 mi738 ms738 mn738 mc738 dL_law_1021)
  (zc_nil))))))))))))))))))))))))))))))))))))))))))))))))))
theorem sd1301_16 {Qf : State → Prop} (F : zFx p l R s m args meth c D cid kv N0 xs Ls RL cL_law 4 n0 z0 nF zE d) (IH : zAllM l D cid kv N0 xs Ls d) (hend : ∀ pc, decode code pc = .ok (.ireturn, 1) → zSo p l e R s m args below meth c D cid kv N0 xs Ls 4 Qf ρ0 n0 z0 nF zE Qq (zCall d) pc (op_rI (fun x => x = 0 ∨ x = 1))) : zSoL p l e R s m args below meth c D cid kv N0 xs Ls 4 Qf ρ0 n0 z0 nF zE Qq (zCall d) zt1301_16 := zc_so (si_aload_n F dL_law_1024 rfl)
  (zc_so (si_aload_n F dL_law_1025 rfl)
  (zc_so (si_iload_n F dL_law_1026 rfl)
  (zc_so (si_iconst F dL_law_1027 rfl)
  (zc_so (si_iadd F dL_law_1028)
  (zc_so (so_iaI F.1.1 F.1.2.1 F.2.1 dL_law_1029)
  (zc_so (si_cV F (IH 866 mm866) mp866 (by decide) rfl rfl (by decide) tb_1046 mi866 ms866 mn866 mc866 dL_law_1030)
  (zc_so (si_iceq F dL_law_1033 rfl)
  (zc_so (si_iconst F dL_law_1036 rfl)
  (zc_so (hend _ dL_law_1037)
  (zc_so (si_aload_n F dL_law_1038 rfl)
  (zc_so (si_aload_n F dL_law_1039 rfl)
  (zc_so (si_iload_n F dL_law_1040 rfl)
  (zc_so (si_iconst F dL_law_1041 rfl)
  (zc_so (si_iadd F dL_law_1042)
  (zc_so (so_iaI F.1.1 F.1.2.1 F.2.1 dL_law_1043)
  (zc_so (si_aload_n F dL_law_1044 rfl)
  (zc_so (si_iload_n F dL_law_1045 rfl)
  (zc_so (si_iconst F dL_law_1046 rfl)
  (zc_so (si_iadd F dL_law_1047)
  (zc_so (so_iaI F.1.1 F.1.2.1 F.2.1 dL_law_1048)
  (zc_so (si_aload_n F dL_law_1049 rfl)
  (zc_so (si_iload_n F dL_law_1050 rfl)
  (zc_so (si_iconst F dL_law_1051 rfl)
  (zc_so (si_iadd F dL_law_1052)
  (zc_so (so_iaI F.1.1 F.1.2.1 F.2.1 dL_law_1053)
  (zc_so (si_cV F (IH 739 mm739) mp739 (by decide) rfl rfl (by decide) tb_662 mi739 ms739 mn739 mc739 dL_law_1054)
  (zc_so (si_aload_n F dL_law_1057 rfl)
  (zc_so (si_aload_n F dL_law_1058 rfl)
  (zc_so (si_iload_n F dL_law_1059 rfl)
  (zc_so (si_iconst F dL_law_1060 rfl)
  (zc_so (si_iadd F dL_law_1061)
  (zc_so (so_iaI F.1.1 F.1.2.1 F.2.1 dL_law_1062)
  (zc_so (si_aload_n F dL_law_1063 rfl)
  (zc_so (si_iload_n F dL_law_1064 rfl)
  (zc_so (si_iconst F dL_law_1065 rfl)
  (zc_so (si_iadd F dL_law_1066)
  (zc_so (so_iaI F.1.1 F.1.2.1 F.2.1 dL_law_1067)
  (zc_so (si_aload_n F dL_law_1068 rfl)
  (zc_so (si_iload_n F dL_law_1069 rfl)
  (zc_so (si_iconst F dL_law_1070 rfl)
  (zc_so (si_iadd F dL_law_1071)
  (zc_so (so_iaI F.1.1 F.1.2.1 F.2.1 dL_law_1072)
  (zc_so (si_cV F (IH 868 mm868) mp868 (by decide) rfl rfl (by decide) tb_1050 mi868 ms868 mn868 mc868 dL_law_1073)
  (zc_so (si_iceq F dL_law_1076 rfl)
  (zc_so (si_iconst F dL_law_1079 rfl)
  (zc_so (hend _ dL_law_1080)
  (zc_so (si_aload_n F dL_law_1081 rfl)
  (zc_so (si_aload_n F dL_law_1082 rfl)
  (zc_so (si_iload_n F dL_law_1083 rfl)
  (zc_so (si_iconst F dL_law_1084 rfl)
  (zc_so (si_iadd F dL_law_1085)
  (zc_so (so_iaI F.1.1 F.1.2.1 F.2.1 dL_law_1086)
  (zc_so (si_aload_n F dL_law_1087 rfl)
  (zc_nil))))))))))))))))))))))))))))))))))))))))))))))))))))))
theorem sd1301_17 {Qf : State → Prop} (F : zFx p l R s m args meth c D cid kv N0 xs Ls RL cL_law 4 n0 z0 nF zE d) (IH : zAllM l D cid kv N0 xs Ls d) (hend : ∀ pc, decode code pc = .ok (.ireturn, 1) → zSo p l e R s m args below meth c D cid kv N0 xs Ls 4 Qf ρ0 n0 z0 nF zE Qq (zCall d) pc (op_rI (fun x => x = 0 ∨ x = 1))) : zSoL p l e R s m args below meth c D cid kv N0 xs Ls 4 Qf ρ0 n0 z0 nF zE Qq (zCall d) zt1301_17 := zc_so (si_iload_n F dL_law_1088 rfl)
  (zc_so (si_iconst F dL_law_1089 rfl)
  (zc_so (si_iadd F dL_law_1090)
  (zc_so (so_iaI F.1.1 F.1.2.1 F.2.1 dL_law_1091)
  (zc_so (si_aload_n F dL_law_1092 rfl)
  (zc_so (si_iload_n F dL_law_1093 rfl)
  (zc_so (si_iconst F dL_law_1094 rfl)
  (zc_so (si_iadd F dL_law_1095)
  (zc_so (so_iaI F.1.1 F.1.2.1 F.2.1 dL_law_1096)
  (zc_so (si_i2l F dL_law_1097)
  (zc_so (si_bipush F dL_law_1098 rfl)
  (zc_so (si_lshl F dL_law_1100)
  (zc_so (si_aload_n F dL_law_1101 rfl)
  (zc_so (si_iload_n F dL_law_1102 rfl)
  (zc_so (si_iconst F dL_law_1103 rfl)
  (zc_so (si_iadd F dL_law_1104)
  (zc_so (so_iaI F.1.1 F.1.2.1 F.2.1 dL_law_1105)
  (zc_so (si_i2l F dL_law_1106)
  (zc_so (si_ldc2_w F dL_law_1107 tb_1073)
  (zc_so (si_land F dL_law_1110)
  (zc_so (si_lor F dL_law_1111)
  (zc_so (si_cV F (IH 740 mm740) mp740 (by decide) rfl rfl (by decide) tb_672 mi740 ms740 mn740 mc740 dL_law_1112)
  (zc_so (si_aload_n F dL_law_1115 rfl)
  (zc_so (si_aload_n F dL_law_1116 rfl)
  (zc_so (si_iload_n F dL_law_1117 rfl)
  (zc_so (si_iconst F dL_law_1118 rfl)
  (zc_so (si_iadd F dL_law_1119)
  (zc_so (so_iaI F.1.1 F.1.2.1 F.2.1 dL_law_1120)
  (zc_so (si_aload_n F dL_law_1121 rfl)
  (zc_so (si_iload_n F dL_law_1122 rfl)
  (zc_so (si_iconst F dL_law_1123 rfl)
  (zc_so (si_iadd F dL_law_1124)
  (zc_so (so_iaI F.1.1 F.1.2.1 F.2.1 dL_law_1125)
  (zc_so (si_aload_n F dL_law_1126 rfl)
  (zc_so (si_iload_n F dL_law_1127 rfl)
  (zc_so (si_iconst F dL_law_1128 rfl)
  (zc_so (si_iadd F dL_law_1129)
  (zc_so (so_iaI F.1.1 F.1.2.1 F.2.1 dL_law_1130)
  (zc_so (si_i2l F dL_law_1131)
  (zc_so (si_bipush F dL_law_1132 rfl)
  (zc_so (si_lshl F dL_law_1134)
  (zc_so (si_aload_n F dL_law_1135 rfl)
  (zc_so (si_iload_n F dL_law_1136 rfl)
  (zc_so (si_iconst F dL_law_1137 rfl)
  (zc_so (si_iadd F dL_law_1138)
  (zc_so (so_iaI F.1.1 F.1.2.1 F.2.1 dL_law_1139)
  (zc_so (si_i2l F dL_law_1140)
  (zc_so (si_ldc2_w F dL_law_1141 tb_1073)
  (zc_so (si_land F dL_law_1144)
  (zc_so (si_lor F dL_law_1145)
  (zc_so (si_cV F (IH 869 mm869) mp869 (by decide) rfl rfl (by decide) tb_1057 mi869 ms869 mn869 mc869 dL_law_1146)
  (zc_so (si_iceq F dL_law_1149 rfl)
  (zc_nil))))))))))))))))))))))))))))))))))))))))))))))))))))
theorem sd1301_18 {Qf : State → Prop} (F : zFx p l R s m args meth c D cid kv N0 xs Ls RL cL_law 4 n0 z0 nF zE d) (IH : zAllM l D cid kv N0 xs Ls d) (hend : ∀ pc, decode code pc = .ok (.ireturn, 1) → zSo p l e R s m args below meth c D cid kv N0 xs Ls 4 Qf ρ0 n0 z0 nF zE Qq (zCall d) pc (op_rI (fun x => x = 0 ∨ x = 1))) : zSoL p l e R s m args below meth c D cid kv N0 xs Ls 4 Qf ρ0 n0 z0 nF zE Qq (zCall d) zt1301_18 := zc_so (si_iconst F dL_law_1152 rfl)
  (zc_so (hend _ dL_law_1153)
  (zc_so (si_aload_n F dL_law_1154 rfl)
  (zc_so (si_aload_n F dL_law_1155 rfl)
  (zc_so (si_iload_n F dL_law_1156 rfl)
  (zc_so (si_iconst F dL_law_1157 rfl)
  (zc_so (si_iadd F dL_law_1158)
  (zc_so (so_iaI F.1.1 F.1.2.1 F.2.1 dL_law_1159)
  (zc_so (si_aload_n F dL_law_1160 rfl)
  (zc_so (si_iload_n F dL_law_1161 rfl)
  (zc_so (si_iconst F dL_law_1162 rfl)
  (zc_so (si_iadd F dL_law_1163)
  (zc_so (so_iaI F.1.1 F.1.2.1 F.2.1 dL_law_1164)
  (zc_so (si_cV F (IH 741 mm741) mp741 (by decide) rfl rfl (by decide) tb_680 mi741 ms741 mn741 mc741 dL_law_1165)
  (zc_so (si_aload_n F dL_law_1168 rfl)
  (zc_so (si_aload_n F dL_law_1169 rfl)
  (zc_so (si_iload_n F dL_law_1170 rfl)
  (zc_so (si_iconst F dL_law_1171 rfl)
  (zc_so (si_iadd F dL_law_1172)
  (zc_so (so_iaI F.1.1 F.1.2.1 F.2.1 dL_law_1173)
  (zc_so (si_aload_n F dL_law_1174 rfl)
  (zc_so (si_iload_n F dL_law_1175 rfl)
  (zc_so (si_iconst F dL_law_1176 rfl)
  (zc_so (si_iadd F dL_law_1177)
  (zc_so (so_iaI F.1.1 F.1.2.1 F.2.1 dL_law_1178)
  (zc_so (si_cV F (IH 870 mm870) mp870 (by decide) rfl rfl (by decide) tb_1061 mi870 ms870 mn870 mc870 dL_law_1179)
  (zc_so (si_lcmp F dL_law_1182)
  (zc_so (si_ifeq F dL_law_1183 rfl)
  (zc_so (si_iconst F dL_law_1186 rfl)
  (zc_so (hend _ dL_law_1187)
  (zc_so (si_aload_n F dL_law_1188 rfl)
  (zc_so (si_aload_n F dL_law_1189 rfl)
  (zc_so (si_iload_n F dL_law_1190 rfl)
  (zc_so (si_iconst F dL_law_1191 rfl)
  (zc_so (si_iadd F dL_law_1192)
  (zc_so (so_iaI F.1.1 F.1.2.1 F.2.1 dL_law_1193)
  (zc_so (si_aload_n F dL_law_1194 rfl)
  (zc_so (si_iload_n F dL_law_1195 rfl)
  (zc_so (si_iconst F dL_law_1196 rfl)
  (zc_so (si_iadd F dL_law_1197)
  (zc_so (so_iaI F.1.1 F.1.2.1 F.2.1 dL_law_1198)
  (zc_so (si_aload_n F dL_law_1199 rfl)
  (zc_so (si_iload_n F dL_law_1200 rfl)
  (zc_so (si_iconst F dL_law_1201 rfl)
  (zc_so (si_iadd F dL_law_1202)
  (zc_so (so_iaI F.1.1 F.1.2.1 F.2.1 dL_law_1203)
  (zc_so (si_aload_n F dL_law_1204 rfl)
  (zc_so (si_iload_n F dL_law_1205 rfl)
  (zc_so (si_iconst F dL_law_1206 rfl)
  (zc_so (si_iadd F dL_law_1207)
  (zc_so (so_iaI F.1.1 F.1.2.1 F.2.1 dL_law_1208)
  (zc_so (si_aload_n F dL_law_1209 rfl)
  (zc_so (si_iload_n F dL_law_1210 rfl)
  (zc_so (si_iconst F dL_law_1211 rfl)
  (zc_so (si_iadd F dL_law_1212)
  (zc_so (so_iaI F.1.1 F.1.2.1 F.2.1 dL_law_1213)
  (zc_so (si_cV F (IH 742 mm742) mp742 (by decide) rfl rfl (by decide) tb_684 mi742 ms742 mn742 mc742 dL_law_1214)
  (zc_nil)))))))))))))))))))))))))))))))))))))))))))))))))))))))))
theorem sd1301_19 {Qf : State → Prop} (F : zFx p l R s m args meth c D cid kv N0 xs Ls RL cL_law 4 n0 z0 nF zE d) (IH : zAllM l D cid kv N0 xs Ls d) (hend : ∀ pc, decode code pc = .ok (.ireturn, 1) → zSo p l e R s m args below meth c D cid kv N0 xs Ls 4 Qf ρ0 n0 z0 nF zE Qq (zCall d) pc (op_rI (fun x => x = 0 ∨ x = 1))) : zSoL p l e R s m args below meth c D cid kv N0 xs Ls 4 Qf ρ0 n0 z0 nF zE Qq (zCall d) zt1301_19 := zc_so (si_aload_n F dL_law_1217 rfl)
  (zc_so (si_aload_n F dL_law_1218 rfl)
  (zc_so (si_iload_n F dL_law_1219 rfl)
  (zc_so (si_iconst F dL_law_1220 rfl)
  (zc_so (si_iadd F dL_law_1221)
  (zc_so (so_iaI F.1.1 F.1.2.1 F.2.1 dL_law_1222)
  (zc_so (si_aload_n F dL_law_1223 rfl)
  (zc_so (si_iload_n F dL_law_1224 rfl)
  (zc_so (si_iconst F dL_law_1225 rfl)
  (zc_so (si_iadd F dL_law_1226)
  (zc_so (so_iaI F.1.1 F.1.2.1 F.2.1 dL_law_1227)
  (zc_so (si_aload_n F dL_law_1228 rfl)
  (zc_so (si_iload_n F dL_law_1229 rfl)
  (zc_so (si_iconst F dL_law_1230 rfl)
  (zc_so (si_iadd F dL_law_1231)
  (zc_so (so_iaI F.1.1 F.1.2.1 F.2.1 dL_law_1232)
  (zc_so (si_aload_n F dL_law_1233 rfl)
  (zc_so (si_iload_n F dL_law_1234 rfl)
  (zc_so (si_iconst F dL_law_1235 rfl)
  (zc_so (si_iadd F dL_law_1236)
  (zc_so (so_iaI F.1.1 F.1.2.1 F.2.1 dL_law_1237)
  (zc_so (si_aload_n F dL_law_1238 rfl)
  (zc_so (si_iload_n F dL_law_1239 rfl)
  (zc_so (si_iconst F dL_law_1240 rfl)
  (zc_so (si_iadd F dL_law_1241)
  (zc_so (so_iaI F.1.1 F.1.2.1 F.2.1 dL_law_1242)
  (zc_so (si_cV F (IH 871 mm871) mp871 (by decide) rfl rfl (by decide) tb_1065 mi871 ms871 mn871 mc871 dL_law_1243)
  (zc_so (si_iceq F dL_law_1246 rfl)
  (zc_so (si_iconst F dL_law_1249 rfl)
  (zc_so (hend _ dL_law_1250)
  (zc_so (si_iinc F dL_law_1251 rfl)
  (zc_so (si_goto F dL_law_1254 rfl)
  (zc_so (si_iconst F dL_law_1257 rfl)
  (zc_so (hend _ dL_law_1258)
  (zc_nil))))))))))))))))))))))))))))))))))
theorem sd1301 {Qf : State → Prop} (F : zFx p l R s m args meth c D cid kv N0 xs Ls RL cL_law 4 n0 z0 nF zE d) (IH : zAllM l D cid kv N0 xs Ls d) (hend : ∀ pc, decode code pc = .ok (.ireturn, 1) → zSo p l e R s m args below meth c D cid kv N0 xs Ls 4 Qf ρ0 n0 z0 nF zE Qq (zCall d) pc (op_rI (fun x => x = 0 ∨ x = 1))) (pc : Nat) : zSo p l e R s m args below meth c D cid kv N0 xs Ls 4 Qf ρ0 n0 z0 nF zE Qq (zCall d) pc (zTab 1301 pc) := zc_tab [zt1301_0, zt1301_1, zt1301_2, zt1301_3, zt1301_4, zt1301_5, zt1301_6, zt1301_7, zt1301_8, zt1301_9, zt1301_10, zt1301_11, zt1301_12, zt1301_13, zt1301_14, zt1301_15, zt1301_16, zt1301_17, zt1301_18, zt1301_19] (zc_cons (sd1301_0 F IH hend) (zc_cons (sd1301_1 F IH hend) (zc_cons (sd1301_2 F IH hend) (zc_cons (sd1301_3 F IH hend) (zc_cons (sd1301_4 F IH hend) (zc_cons (sd1301_5 F IH hend) (zc_cons (sd1301_6 F IH hend) (zc_cons (sd1301_7 F IH hend) (zc_cons (sd1301_8 F IH hend) (zc_cons (sd1301_9 F IH hend) (zc_cons (sd1301_10 F IH hend) (zc_cons (sd1301_11 F IH hend) (zc_cons (sd1301_12 F IH hend) (zc_cons (sd1301_13 F IH hend) (zc_cons (sd1301_14 F IH hend) (zc_cons (sd1301_15 F IH hend) (zc_cons (sd1301_16 F IH hend) (zc_cons (sd1301_17 F IH hend) (zc_cons (sd1301_18 F IH hend) (zc_cons (sd1301_19 F IH hend) zc_end))))))))))))))))))))
