/-! ===== the law: a case each (written by gen61.py) ===== -/
theorem dL_0 : decode code 0 = .ok (.new 7, 3) := by decide +kernel
theorem dL_3 : decode code 3 = .ok (.dup, 1) := by decide +kernel
theorem dL_4 : decode code 4 = .ok (.invokespecial 9, 3) := by decide +kernel
theorem dL_7 : decode code 7 = .ok (.astore_n 1, 1) := by decide +kernel
theorem dL_8 : decode code 8 = .ok (.new 10, 3) := by decide +kernel
theorem dL_11 : decode code 11 = .ok (.dup, 1) := by decide +kernel
theorem dL_12 : decode code 12 = .ok (.invokespecial 12, 3) := by decide +kernel
theorem dL_15 : decode code 15 = .ok (.astore_n 2, 1) := by decide +kernel
theorem dL_16 : decode code 16 = .ok (.iconst 0, 1) := by decide +kernel
theorem dL_17 : decode code 17 = .ok (.istore_n 3, 1) := by decide +kernel
theorem dL_18 : decode code 18 = .ok (.iload_n 3, 1) := by decide +kernel
theorem dL_19 : decode code 19 = .ok (.aload_n 0, 1) := by decide +kernel
theorem dL_20 : decode code 20 = .ok (.arraylength, 1) := by decide +kernel
theorem dL_21 : decode code 21 = .ok (.bipush 6, 2) := by decide +kernel
theorem dL_23 : decode code 23 = .ok (.isub, 1) := by decide +kernel
theorem dL_24 : decode code 24 = .ok (.if_icmp .gt 824, 3) := by decide +kernel
theorem dL_27 : decode code 27 = .ok (.aload_n 0, 1) := by decide +kernel
theorem dL_28 : decode code 28 = .ok (.iload_n 3, 1) := by decide +kernel
theorem dL_29 : decode code 29 = .ok (.iaload, 1) := by decide +kernel
theorem dL_30 : decode code 30 = .ok (.bipush 31, 2) := by decide +kernel
theorem dL_32 : decode code 32 = .ok (.iand, 1) := by decide +kernel
theorem dL_33 : decode code 33 = .ok (.tableswitch 809 0 21 #[103, 136, 179, 212, 245, 268, 311, 354, 377, 390, 413, 446, 459, 492, 555, 588, 621, 664, 697, 730, 753, 786], 103) := by decide +kernel
theorem dL_136 : decode code 136 = .ok (.aload_n 1, 1) := by decide +kernel
theorem dL_137 : decode code 137 = .ok (.aload_n 0, 1) := by decide +kernel
theorem dL_138 : decode code 138 = .ok (.iload_n 3, 1) := by decide +kernel
theorem dL_139 : decode code 139 = .ok (.iconst 1, 1) := by decide +kernel
theorem dL_140 : decode code 140 = .ok (.iadd, 1) := by decide +kernel
theorem dL_141 : decode code 141 = .ok (.iaload, 1) := by decide +kernel
theorem dL_142 : decode code 142 = .ok (.aload_n 0, 1) := by decide +kernel
theorem dL_143 : decode code 143 = .ok (.iload_n 3, 1) := by decide +kernel
theorem dL_144 : decode code 144 = .ok (.iconst 2, 1) := by decide +kernel
theorem dL_145 : decode code 145 = .ok (.iadd, 1) := by decide +kernel
theorem dL_146 : decode code 146 = .ok (.iaload, 1) := by decide +kernel
theorem dL_147 : decode code 147 = .ok (.invokevirtual 13, 3) := by decide +kernel
theorem dL_150 : decode code 150 = .ok (.aload_n 2, 1) := by decide +kernel
theorem dL_151 : decode code 151 = .ok (.aload_n 0, 1) := by decide +kernel
theorem dL_152 : decode code 152 = .ok (.iload_n 3, 1) := by decide +kernel
theorem dL_153 : decode code 153 = .ok (.iconst 1, 1) := by decide +kernel
theorem dL_154 : decode code 154 = .ok (.iadd, 1) := by decide +kernel
theorem dL_155 : decode code 155 = .ok (.iaload, 1) := by decide +kernel
theorem dL_156 : decode code 156 = .ok (.aload_n 0, 1) := by decide +kernel
theorem dL_157 : decode code 157 = .ok (.iload_n 3, 1) := by decide +kernel
theorem dL_158 : decode code 158 = .ok (.iconst 2, 1) := by decide +kernel
theorem dL_159 : decode code 159 = .ok (.iadd, 1) := by decide +kernel
theorem dL_160 : decode code 160 = .ok (.iaload, 1) := by decide +kernel
theorem dL_161 : decode code 161 = .ok (.invokevirtual 17, 3) := by decide +kernel
theorem dL_164 : decode code 164 = .ok (.if_icmp .eq 678, 3) := by decide +kernel
theorem dL_167 : decode code 167 = .ok (.iconst 0, 1) := by decide +kernel
theorem dL_168 : decode code 168 = .ok (.ireturn, 1) := by decide +kernel
theorem dL_169 : decode code 169 = .ok (.aload_n 1, 1) := by decide +kernel
theorem dL_170 : decode code 170 = .ok (.aload_n 0, 1) := by decide +kernel
theorem dL_171 : decode code 171 = .ok (.iload_n 3, 1) := by decide +kernel
theorem dL_172 : decode code 172 = .ok (.iconst 1, 1) := by decide +kernel
theorem dL_173 : decode code 173 = .ok (.iadd, 1) := by decide +kernel
theorem dL_174 : decode code 174 = .ok (.iaload, 1) := by decide +kernel
theorem dL_175 : decode code 175 = .ok (.aload_n 0, 1) := by decide +kernel
theorem dL_176 : decode code 176 = .ok (.iload_n 3, 1) := by decide +kernel
theorem dL_177 : decode code 177 = .ok (.iconst 2, 1) := by decide +kernel
theorem dL_178 : decode code 178 = .ok (.iadd, 1) := by decide +kernel
theorem dL_179 : decode code 179 = .ok (.iaload, 1) := by decide +kernel
theorem dL_180 : decode code 180 = .ok (.aload_n 0, 1) := by decide +kernel
theorem dL_181 : decode code 181 = .ok (.iload_n 3, 1) := by decide +kernel
theorem dL_182 : decode code 182 = .ok (.iconst 3, 1) := by decide +kernel
theorem dL_183 : decode code 183 = .ok (.iadd, 1) := by decide +kernel
theorem dL_184 : decode code 184 = .ok (.iaload, 1) := by decide +kernel
theorem dL_185 : decode code 185 = .ok (.invokevirtual 18, 3) := by decide +kernel
theorem dL_188 : decode code 188 = .ok (.aload_n 2, 1) := by decide +kernel
theorem dL_189 : decode code 189 = .ok (.aload_n 0, 1) := by decide +kernel
theorem dL_190 : decode code 190 = .ok (.iload_n 3, 1) := by decide +kernel
theorem dL_191 : decode code 191 = .ok (.iconst 1, 1) := by decide +kernel
theorem dL_192 : decode code 192 = .ok (.iadd, 1) := by decide +kernel
theorem dL_193 : decode code 193 = .ok (.iaload, 1) := by decide +kernel
theorem dL_194 : decode code 194 = .ok (.aload_n 0, 1) := by decide +kernel
theorem dL_195 : decode code 195 = .ok (.iload_n 3, 1) := by decide +kernel
theorem dL_196 : decode code 196 = .ok (.iconst 2, 1) := by decide +kernel
theorem dL_197 : decode code 197 = .ok (.iadd, 1) := by decide +kernel
theorem dL_198 : decode code 198 = .ok (.iaload, 1) := by decide +kernel
theorem dL_199 : decode code 199 = .ok (.aload_n 0, 1) := by decide +kernel
theorem dL_200 : decode code 200 = .ok (.iload_n 3, 1) := by decide +kernel
theorem dL_201 : decode code 201 = .ok (.iconst 3, 1) := by decide +kernel
theorem dL_202 : decode code 202 = .ok (.iadd, 1) := by decide +kernel
theorem dL_203 : decode code 203 = .ok (.iaload, 1) := by decide +kernel
theorem dL_204 : decode code 204 = .ok (.invokevirtual 22, 3) := by decide +kernel
theorem dL_207 : decode code 207 = .ok (.if_icmp .eq 635, 3) := by decide +kernel
theorem dL_210 : decode code 210 = .ok (.iconst 0, 1) := by decide +kernel
theorem dL_211 : decode code 211 = .ok (.ireturn, 1) := by decide +kernel
theorem dL_212 : decode code 212 = .ok (.aload_n 1, 1) := by decide +kernel
theorem dL_213 : decode code 213 = .ok (.aload_n 0, 1) := by decide +kernel
theorem dL_214 : decode code 214 = .ok (.iload_n 3, 1) := by decide +kernel
theorem dL_215 : decode code 215 = .ok (.iconst 1, 1) := by decide +kernel
theorem dL_216 : decode code 216 = .ok (.iadd, 1) := by decide +kernel
theorem dL_217 : decode code 217 = .ok (.iaload, 1) := by decide +kernel
theorem dL_218 : decode code 218 = .ok (.aload_n 0, 1) := by decide +kernel
theorem dL_219 : decode code 219 = .ok (.iload_n 3, 1) := by decide +kernel
theorem dL_220 : decode code 220 = .ok (.iconst 2, 1) := by decide +kernel
theorem dL_221 : decode code 221 = .ok (.iadd, 1) := by decide +kernel
theorem dL_222 : decode code 222 = .ok (.iaload, 1) := by decide +kernel
theorem dL_223 : decode code 223 = .ok (.invokevirtual 23, 3) := by decide +kernel
theorem dL_226 : decode code 226 = .ok (.aload_n 2, 1) := by decide +kernel
theorem dL_227 : decode code 227 = .ok (.aload_n 0, 1) := by decide +kernel
theorem dL_228 : decode code 228 = .ok (.iload_n 3, 1) := by decide +kernel
theorem dL_229 : decode code 229 = .ok (.iconst 1, 1) := by decide +kernel
theorem dL_230 : decode code 230 = .ok (.iadd, 1) := by decide +kernel
theorem dL_231 : decode code 231 = .ok (.iaload, 1) := by decide +kernel
theorem dL_232 : decode code 232 = .ok (.aload_n 0, 1) := by decide +kernel
theorem dL_233 : decode code 233 = .ok (.iload_n 3, 1) := by decide +kernel
theorem dL_234 : decode code 234 = .ok (.iconst 2, 1) := by decide +kernel
theorem dL_235 : decode code 235 = .ok (.iadd, 1) := by decide +kernel
theorem dL_236 : decode code 236 = .ok (.iaload, 1) := by decide +kernel
theorem dL_237 : decode code 237 = .ok (.invokevirtual 26, 3) := by decide +kernel
theorem dL_240 : decode code 240 = .ok (.if_icmp .eq 602, 3) := by decide +kernel
theorem dL_243 : decode code 243 = .ok (.iconst 0, 1) := by decide +kernel
theorem dL_244 : decode code 244 = .ok (.ireturn, 1) := by decide +kernel
theorem dL_245 : decode code 245 = .ok (.aload_n 1, 1) := by decide +kernel
theorem dL_246 : decode code 246 = .ok (.aload_n 0, 1) := by decide +kernel
theorem dL_247 : decode code 247 = .ok (.iload_n 3, 1) := by decide +kernel
theorem dL_248 : decode code 248 = .ok (.iconst 1, 1) := by decide +kernel
theorem dL_249 : decode code 249 = .ok (.iadd, 1) := by decide +kernel
theorem dL_250 : decode code 250 = .ok (.iaload, 1) := by decide +kernel
theorem dL_251 : decode code 251 = .ok (.aload_n 0, 1) := by decide +kernel
theorem dL_252 : decode code 252 = .ok (.iload_n 3, 1) := by decide +kernel
theorem dL_253 : decode code 253 = .ok (.iconst 2, 1) := by decide +kernel
theorem dL_254 : decode code 254 = .ok (.iadd, 1) := by decide +kernel
theorem dL_255 : decode code 255 = .ok (.iaload, 1) := by decide +kernel
theorem dL_256 : decode code 256 = .ok (.invokevirtual 27, 3) := by decide +kernel
theorem dL_259 : decode code 259 = .ok (.aload_n 2, 1) := by decide +kernel
theorem dL_260 : decode code 260 = .ok (.aload_n 0, 1) := by decide +kernel
theorem dL_261 : decode code 261 = .ok (.iload_n 3, 1) := by decide +kernel
theorem dL_262 : decode code 262 = .ok (.iconst 1, 1) := by decide +kernel
theorem dL_263 : decode code 263 = .ok (.iadd, 1) := by decide +kernel
theorem dL_264 : decode code 264 = .ok (.iaload, 1) := by decide +kernel
theorem dL_265 : decode code 265 = .ok (.aload_n 0, 1) := by decide +kernel
theorem dL_266 : decode code 266 = .ok (.iload_n 3, 1) := by decide +kernel
theorem dL_267 : decode code 267 = .ok (.iconst 2, 1) := by decide +kernel
theorem dL_268 : decode code 268 = .ok (.iadd, 1) := by decide +kernel
theorem dL_269 : decode code 269 = .ok (.iaload, 1) := by decide +kernel
theorem dL_270 : decode code 270 = .ok (.invokevirtual 30, 3) := by decide +kernel
theorem dL_273 : decode code 273 = .ok (.if_icmp .eq 569, 3) := by decide +kernel
theorem dL_276 : decode code 276 = .ok (.iconst 0, 1) := by decide +kernel
theorem dL_277 : decode code 277 = .ok (.ireturn, 1) := by decide +kernel
theorem dL_278 : decode code 278 = .ok (.aload_n 1, 1) := by decide +kernel
theorem dL_279 : decode code 279 = .ok (.aload_n 0, 1) := by decide +kernel
theorem dL_280 : decode code 280 = .ok (.iload_n 3, 1) := by decide +kernel
theorem dL_281 : decode code 281 = .ok (.iconst 1, 1) := by decide +kernel
theorem dL_282 : decode code 282 = .ok (.iadd, 1) := by decide +kernel
theorem dL_283 : decode code 283 = .ok (.iaload, 1) := by decide +kernel
theorem dL_284 : decode code 284 = .ok (.invokevirtual 31, 3) := by decide +kernel
theorem dL_287 : decode code 287 = .ok (.aload_n 2, 1) := by decide +kernel
theorem dL_288 : decode code 288 = .ok (.aload_n 0, 1) := by decide +kernel
theorem dL_289 : decode code 289 = .ok (.iload_n 3, 1) := by decide +kernel
theorem dL_290 : decode code 290 = .ok (.iconst 1, 1) := by decide +kernel
theorem dL_291 : decode code 291 = .ok (.iadd, 1) := by decide +kernel
theorem dL_292 : decode code 292 = .ok (.iaload, 1) := by decide +kernel
theorem dL_293 : decode code 293 = .ok (.invokevirtual 35, 3) := by decide +kernel
theorem dL_296 : decode code 296 = .ok (.if_icmp .eq 546, 3) := by decide +kernel
theorem dL_299 : decode code 299 = .ok (.iconst 0, 1) := by decide +kernel
theorem dL_300 : decode code 300 = .ok (.ireturn, 1) := by decide +kernel
theorem dL_301 : decode code 301 = .ok (.aload_n 1, 1) := by decide +kernel
theorem dL_302 : decode code 302 = .ok (.aload_n 0, 1) := by decide +kernel
theorem dL_303 : decode code 303 = .ok (.iload_n 3, 1) := by decide +kernel
theorem dL_304 : decode code 304 = .ok (.iconst 1, 1) := by decide +kernel
theorem dL_305 : decode code 305 = .ok (.iadd, 1) := by decide +kernel
theorem dL_306 : decode code 306 = .ok (.iaload, 1) := by decide +kernel
theorem dL_307 : decode code 307 = .ok (.aload_n 0, 1) := by decide +kernel
theorem dL_308 : decode code 308 = .ok (.iload_n 3, 1) := by decide +kernel
theorem dL_309 : decode code 309 = .ok (.iconst 2, 1) := by decide +kernel
theorem dL_310 : decode code 310 = .ok (.iadd, 1) := by decide +kernel
theorem dL_311 : decode code 311 = .ok (.iaload, 1) := by decide +kernel
theorem dL_312 : decode code 312 = .ok (.aload_n 0, 1) := by decide +kernel
theorem dL_313 : decode code 313 = .ok (.iload_n 3, 1) := by decide +kernel
theorem dL_314 : decode code 314 = .ok (.iconst 3, 1) := by decide +kernel
theorem dL_315 : decode code 315 = .ok (.iadd, 1) := by decide +kernel
theorem dL_316 : decode code 316 = .ok (.iaload, 1) := by decide +kernel
theorem dL_317 : decode code 317 = .ok (.invokevirtual 36, 3) := by decide +kernel
theorem dL_320 : decode code 320 = .ok (.aload_n 2, 1) := by decide +kernel
theorem dL_321 : decode code 321 = .ok (.aload_n 0, 1) := by decide +kernel
theorem dL_322 : decode code 322 = .ok (.iload_n 3, 1) := by decide +kernel
theorem dL_323 : decode code 323 = .ok (.iconst 1, 1) := by decide +kernel
theorem dL_324 : decode code 324 = .ok (.iadd, 1) := by decide +kernel
theorem dL_325 : decode code 325 = .ok (.iaload, 1) := by decide +kernel
theorem dL_326 : decode code 326 = .ok (.aload_n 0, 1) := by decide +kernel
theorem dL_327 : decode code 327 = .ok (.iload_n 3, 1) := by decide +kernel
theorem dL_328 : decode code 328 = .ok (.iconst 2, 1) := by decide +kernel
theorem dL_329 : decode code 329 = .ok (.iadd, 1) := by decide +kernel
theorem dL_330 : decode code 330 = .ok (.iaload, 1) := by decide +kernel
theorem dL_331 : decode code 331 = .ok (.aload_n 0, 1) := by decide +kernel
theorem dL_332 : decode code 332 = .ok (.iload_n 3, 1) := by decide +kernel
theorem dL_333 : decode code 333 = .ok (.iconst 3, 1) := by decide +kernel
theorem dL_334 : decode code 334 = .ok (.iadd, 1) := by decide +kernel
theorem dL_335 : decode code 335 = .ok (.iaload, 1) := by decide +kernel
theorem dL_336 : decode code 336 = .ok (.invokevirtual 40, 3) := by decide +kernel
theorem dL_339 : decode code 339 = .ok (.if_icmp .eq 503, 3) := by decide +kernel
theorem dL_342 : decode code 342 = .ok (.iconst 0, 1) := by decide +kernel
theorem dL_343 : decode code 343 = .ok (.ireturn, 1) := by decide +kernel
theorem dL_344 : decode code 344 = .ok (.aload_n 1, 1) := by decide +kernel
theorem dL_345 : decode code 345 = .ok (.aload_n 0, 1) := by decide +kernel
theorem dL_346 : decode code 346 = .ok (.iload_n 3, 1) := by decide +kernel
theorem dL_347 : decode code 347 = .ok (.iconst 1, 1) := by decide +kernel
theorem dL_348 : decode code 348 = .ok (.iadd, 1) := by decide +kernel
theorem dL_349 : decode code 349 = .ok (.iaload, 1) := by decide +kernel
theorem dL_350 : decode code 350 = .ok (.aload_n 0, 1) := by decide +kernel
theorem dL_351 : decode code 351 = .ok (.iload_n 3, 1) := by decide +kernel
theorem dL_352 : decode code 352 = .ok (.iconst 2, 1) := by decide +kernel
theorem dL_353 : decode code 353 = .ok (.iadd, 1) := by decide +kernel
theorem dL_354 : decode code 354 = .ok (.iaload, 1) := by decide +kernel
theorem dL_355 : decode code 355 = .ok (.aload_n 0, 1) := by decide +kernel
theorem dL_356 : decode code 356 = .ok (.iload_n 3, 1) := by decide +kernel
theorem dL_357 : decode code 357 = .ok (.iconst 3, 1) := by decide +kernel
theorem dL_358 : decode code 358 = .ok (.iadd, 1) := by decide +kernel
theorem dL_359 : decode code 359 = .ok (.iaload, 1) := by decide +kernel
theorem dL_360 : decode code 360 = .ok (.invokevirtual 41, 3) := by decide +kernel
theorem dL_363 : decode code 363 = .ok (.aload_n 2, 1) := by decide +kernel
theorem dL_364 : decode code 364 = .ok (.aload_n 0, 1) := by decide +kernel
theorem dL_365 : decode code 365 = .ok (.iload_n 3, 1) := by decide +kernel
theorem dL_366 : decode code 366 = .ok (.iconst 1, 1) := by decide +kernel
theorem dL_367 : decode code 367 = .ok (.iadd, 1) := by decide +kernel
theorem dL_368 : decode code 368 = .ok (.iaload, 1) := by decide +kernel
theorem dL_369 : decode code 369 = .ok (.aload_n 0, 1) := by decide +kernel
theorem dL_370 : decode code 370 = .ok (.iload_n 3, 1) := by decide +kernel
theorem dL_371 : decode code 371 = .ok (.iconst 2, 1) := by decide +kernel
theorem dL_372 : decode code 372 = .ok (.iadd, 1) := by decide +kernel
theorem dL_373 : decode code 373 = .ok (.iaload, 1) := by decide +kernel
theorem dL_374 : decode code 374 = .ok (.aload_n 0, 1) := by decide +kernel
theorem dL_375 : decode code 375 = .ok (.iload_n 3, 1) := by decide +kernel
theorem dL_376 : decode code 376 = .ok (.iconst 3, 1) := by decide +kernel
theorem dL_377 : decode code 377 = .ok (.iadd, 1) := by decide +kernel
theorem dL_378 : decode code 378 = .ok (.iaload, 1) := by decide +kernel
theorem dL_379 : decode code 379 = .ok (.invokevirtual 44, 3) := by decide +kernel
theorem dL_382 : decode code 382 = .ok (.if_icmp .eq 460, 3) := by decide +kernel
theorem dL_385 : decode code 385 = .ok (.iconst 0, 1) := by decide +kernel
theorem dL_386 : decode code 386 = .ok (.ireturn, 1) := by decide +kernel
theorem dL_387 : decode code 387 = .ok (.aload_n 1, 1) := by decide +kernel
theorem dL_388 : decode code 388 = .ok (.aload_n 0, 1) := by decide +kernel
theorem dL_389 : decode code 389 = .ok (.iload_n 3, 1) := by decide +kernel
theorem dL_390 : decode code 390 = .ok (.iconst 1, 1) := by decide +kernel
theorem dL_391 : decode code 391 = .ok (.iadd, 1) := by decide +kernel
theorem dL_392 : decode code 392 = .ok (.iaload, 1) := by decide +kernel
theorem dL_393 : decode code 393 = .ok (.invokevirtual 45, 3) := by decide +kernel
theorem dL_396 : decode code 396 = .ok (.aload_n 2, 1) := by decide +kernel
theorem dL_397 : decode code 397 = .ok (.aload_n 0, 1) := by decide +kernel
theorem dL_398 : decode code 398 = .ok (.iload_n 3, 1) := by decide +kernel
theorem dL_399 : decode code 399 = .ok (.iconst 1, 1) := by decide +kernel
theorem dL_400 : decode code 400 = .ok (.iadd, 1) := by decide +kernel
theorem dL_401 : decode code 401 = .ok (.iaload, 1) := by decide +kernel
theorem dL_402 : decode code 402 = .ok (.invokevirtual 49, 3) := by decide +kernel
theorem dL_405 : decode code 405 = .ok (.if_icmp .eq 437, 3) := by decide +kernel
theorem dL_408 : decode code 408 = .ok (.iconst 0, 1) := by decide +kernel
theorem dL_409 : decode code 409 = .ok (.ireturn, 1) := by decide +kernel
theorem dL_410 : decode code 410 = .ok (.aload_n 1, 1) := by decide +kernel
theorem dL_411 : decode code 411 = .ok (.invokevirtual 50, 3) := by decide +kernel
theorem dL_414 : decode code 414 = .ok (.aload_n 2, 1) := by decide +kernel
theorem dL_415 : decode code 415 = .ok (.invokevirtual 54, 3) := by decide +kernel
theorem dL_418 : decode code 418 = .ok (.if_icmp .eq 424, 3) := by decide +kernel
theorem dL_421 : decode code 421 = .ok (.iconst 0, 1) := by decide +kernel
theorem dL_422 : decode code 422 = .ok (.ireturn, 1) := by decide +kernel
theorem dL_423 : decode code 423 = .ok (.aload_n 1, 1) := by decide +kernel
theorem dL_424 : decode code 424 = .ok (.aload_n 0, 1) := by decide +kernel
theorem dL_425 : decode code 425 = .ok (.iload_n 3, 1) := by decide +kernel
theorem dL_426 : decode code 426 = .ok (.iconst 1, 1) := by decide +kernel
theorem dL_427 : decode code 427 = .ok (.iadd, 1) := by decide +kernel
theorem dL_428 : decode code 428 = .ok (.iaload, 1) := by decide +kernel
theorem dL_429 : decode code 429 = .ok (.invokevirtual 55, 3) := by decide +kernel
theorem dL_432 : decode code 432 = .ok (.aload_n 2, 1) := by decide +kernel
theorem dL_433 : decode code 433 = .ok (.aload_n 0, 1) := by decide +kernel
theorem dL_434 : decode code 434 = .ok (.iload_n 3, 1) := by decide +kernel
theorem dL_435 : decode code 435 = .ok (.iconst 1, 1) := by decide +kernel
theorem dL_436 : decode code 436 = .ok (.iadd, 1) := by decide +kernel
theorem dL_437 : decode code 437 = .ok (.iaload, 1) := by decide +kernel
theorem dL_438 : decode code 438 = .ok (.invokevirtual 58, 3) := by decide +kernel
theorem dL_441 : decode code 441 = .ok (.if_icmp .eq 401, 3) := by decide +kernel
theorem dL_444 : decode code 444 = .ok (.iconst 0, 1) := by decide +kernel
theorem dL_445 : decode code 445 = .ok (.ireturn, 1) := by decide +kernel
theorem dL_446 : decode code 446 = .ok (.aload_n 1, 1) := by decide +kernel
theorem dL_447 : decode code 447 = .ok (.aload_n 0, 1) := by decide +kernel
theorem dL_448 : decode code 448 = .ok (.iload_n 3, 1) := by decide +kernel
theorem dL_449 : decode code 449 = .ok (.iconst 1, 1) := by decide +kernel
theorem dL_450 : decode code 450 = .ok (.iadd, 1) := by decide +kernel
theorem dL_451 : decode code 451 = .ok (.iaload, 1) := by decide +kernel
theorem dL_452 : decode code 452 = .ok (.aload_n 0, 1) := by decide +kernel
theorem dL_453 : decode code 453 = .ok (.iload_n 3, 1) := by decide +kernel
theorem dL_454 : decode code 454 = .ok (.iconst 2, 1) := by decide +kernel
theorem dL_455 : decode code 455 = .ok (.iadd, 1) := by decide +kernel
theorem dL_456 : decode code 456 = .ok (.iaload, 1) := by decide +kernel
theorem dL_457 : decode code 457 = .ok (.invokevirtual 59, 3) := by decide +kernel
theorem dL_460 : decode code 460 = .ok (.aload_n 2, 1) := by decide +kernel
theorem dL_461 : decode code 461 = .ok (.aload_n 0, 1) := by decide +kernel
theorem dL_462 : decode code 462 = .ok (.iload_n 3, 1) := by decide +kernel
theorem dL_463 : decode code 463 = .ok (.iconst 1, 1) := by decide +kernel
theorem dL_464 : decode code 464 = .ok (.iadd, 1) := by decide +kernel
theorem dL_465 : decode code 465 = .ok (.iaload, 1) := by decide +kernel
theorem dL_466 : decode code 466 = .ok (.aload_n 0, 1) := by decide +kernel
theorem dL_467 : decode code 467 = .ok (.iload_n 3, 1) := by decide +kernel
theorem dL_468 : decode code 468 = .ok (.iconst 2, 1) := by decide +kernel
theorem dL_469 : decode code 469 = .ok (.iadd, 1) := by decide +kernel
theorem dL_470 : decode code 470 = .ok (.iaload, 1) := by decide +kernel
theorem dL_471 : decode code 471 = .ok (.invokevirtual 62, 3) := by decide +kernel
theorem dL_474 : decode code 474 = .ok (.if_icmp .eq 368, 3) := by decide +kernel
theorem dL_477 : decode code 477 = .ok (.iconst 0, 1) := by decide +kernel
theorem dL_478 : decode code 478 = .ok (.ireturn, 1) := by decide +kernel
theorem dL_479 : decode code 479 = .ok (.aload_n 1, 1) := by decide +kernel
theorem dL_480 : decode code 480 = .ok (.invokevirtual 63, 3) := by decide +kernel
theorem dL_483 : decode code 483 = .ok (.aload_n 2, 1) := by decide +kernel
theorem dL_484 : decode code 484 = .ok (.invokevirtual 66, 3) := by decide +kernel
theorem dL_487 : decode code 487 = .ok (.if_icmp .eq 355, 3) := by decide +kernel
theorem dL_490 : decode code 490 = .ok (.iconst 0, 1) := by decide +kernel
theorem dL_491 : decode code 491 = .ok (.ireturn, 1) := by decide +kernel
theorem dL_492 : decode code 492 = .ok (.aload_n 1, 1) := by decide +kernel
theorem dL_493 : decode code 493 = .ok (.aload_n 0, 1) := by decide +kernel
theorem dL_494 : decode code 494 = .ok (.iload_n 3, 1) := by decide +kernel
theorem dL_495 : decode code 495 = .ok (.iconst 1, 1) := by decide +kernel
theorem dL_496 : decode code 496 = .ok (.iadd, 1) := by decide +kernel
theorem dL_497 : decode code 497 = .ok (.iaload, 1) := by decide +kernel
theorem dL_498 : decode code 498 = .ok (.aload_n 0, 1) := by decide +kernel
theorem dL_499 : decode code 499 = .ok (.iload_n 3, 1) := by decide +kernel
theorem dL_500 : decode code 500 = .ok (.iconst 2, 1) := by decide +kernel
theorem dL_501 : decode code 501 = .ok (.iadd, 1) := by decide +kernel
theorem dL_502 : decode code 502 = .ok (.iaload, 1) := by decide +kernel
theorem dL_503 : decode code 503 = .ok (.invokevirtual 67, 3) := by decide +kernel
theorem dL_506 : decode code 506 = .ok (.aload_n 2, 1) := by decide +kernel
theorem dL_507 : decode code 507 = .ok (.aload_n 0, 1) := by decide +kernel
theorem dL_508 : decode code 508 = .ok (.iload_n 3, 1) := by decide +kernel
theorem dL_509 : decode code 509 = .ok (.iconst 1, 1) := by decide +kernel
theorem dL_510 : decode code 510 = .ok (.iadd, 1) := by decide +kernel
theorem dL_511 : decode code 511 = .ok (.iaload, 1) := by decide +kernel
theorem dL_512 : decode code 512 = .ok (.aload_n 0, 1) := by decide +kernel
theorem dL_513 : decode code 513 = .ok (.iload_n 3, 1) := by decide +kernel
theorem dL_514 : decode code 514 = .ok (.iconst 2, 1) := by decide +kernel
theorem dL_515 : decode code 515 = .ok (.iadd, 1) := by decide +kernel
theorem dL_516 : decode code 516 = .ok (.iaload, 1) := by decide +kernel
theorem dL_517 : decode code 517 = .ok (.invokevirtual 70, 3) := by decide +kernel
theorem dL_520 : decode code 520 = .ok (.if_icmp .eq 322, 3) := by decide +kernel
theorem dL_523 : decode code 523 = .ok (.iconst 0, 1) := by decide +kernel
theorem dL_524 : decode code 524 = .ok (.ireturn, 1) := by decide +kernel
theorem dL_525 : decode code 525 = .ok (.aload_n 1, 1) := by decide +kernel
theorem dL_526 : decode code 526 = .ok (.aload_n 0, 1) := by decide +kernel
theorem dL_527 : decode code 527 = .ok (.iload_n 3, 1) := by decide +kernel
theorem dL_528 : decode code 528 = .ok (.iconst 1, 1) := by decide +kernel
theorem dL_529 : decode code 529 = .ok (.iadd, 1) := by decide +kernel
theorem dL_530 : decode code 530 = .ok (.iaload, 1) := by decide +kernel
theorem dL_531 : decode code 531 = .ok (.aload_n 0, 1) := by decide +kernel
theorem dL_532 : decode code 532 = .ok (.iload_n 3, 1) := by decide +kernel
theorem dL_533 : decode code 533 = .ok (.iconst 2, 1) := by decide +kernel
theorem dL_534 : decode code 534 = .ok (.iadd, 1) := by decide +kernel
theorem dL_535 : decode code 535 = .ok (.iaload, 1) := by decide +kernel
theorem dL_536 : decode code 536 = .ok (.aload_n 0, 1) := by decide +kernel
theorem dL_537 : decode code 537 = .ok (.iload_n 3, 1) := by decide +kernel
theorem dL_538 : decode code 538 = .ok (.iconst 3, 1) := by decide +kernel
theorem dL_539 : decode code 539 = .ok (.iadd, 1) := by decide +kernel
theorem dL_540 : decode code 540 = .ok (.iaload, 1) := by decide +kernel
theorem dL_541 : decode code 541 = .ok (.aload_n 0, 1) := by decide +kernel
theorem dL_542 : decode code 542 = .ok (.iload_n 3, 1) := by decide +kernel
theorem dL_543 : decode code 543 = .ok (.iconst 4, 1) := by decide +kernel
theorem dL_544 : decode code 544 = .ok (.iadd, 1) := by decide +kernel
theorem dL_545 : decode code 545 = .ok (.iaload, 1) := by decide +kernel
theorem dL_546 : decode code 546 = .ok (.aload_n 0, 1) := by decide +kernel
theorem dL_547 : decode code 547 = .ok (.iload_n 3, 1) := by decide +kernel
theorem dL_548 : decode code 548 = .ok (.iconst 5, 1) := by decide +kernel
theorem dL_549 : decode code 549 = .ok (.iadd, 1) := by decide +kernel
theorem dL_550 : decode code 550 = .ok (.iaload, 1) := by decide +kernel
theorem dL_551 : decode code 551 = .ok (.invokevirtual 71, 3) := by decide +kernel
theorem dL_554 : decode code 554 = .ok (.aload_n 2, 1) := by decide +kernel
theorem dL_555 : decode code 555 = .ok (.aload_n 0, 1) := by decide +kernel
theorem dL_556 : decode code 556 = .ok (.iload_n 3, 1) := by decide +kernel
theorem dL_557 : decode code 557 = .ok (.iconst 1, 1) := by decide +kernel
theorem dL_558 : decode code 558 = .ok (.iadd, 1) := by decide +kernel
theorem dL_559 : decode code 559 = .ok (.iaload, 1) := by decide +kernel
theorem dL_560 : decode code 560 = .ok (.aload_n 0, 1) := by decide +kernel
theorem dL_561 : decode code 561 = .ok (.iload_n 3, 1) := by decide +kernel
theorem dL_562 : decode code 562 = .ok (.iconst 2, 1) := by decide +kernel
theorem dL_563 : decode code 563 = .ok (.iadd, 1) := by decide +kernel
theorem dL_564 : decode code 564 = .ok (.iaload, 1) := by decide +kernel
theorem dL_565 : decode code 565 = .ok (.aload_n 0, 1) := by decide +kernel
theorem dL_566 : decode code 566 = .ok (.iload_n 3, 1) := by decide +kernel
theorem dL_567 : decode code 567 = .ok (.iconst 3, 1) := by decide +kernel
theorem dL_568 : decode code 568 = .ok (.iadd, 1) := by decide +kernel
theorem dL_569 : decode code 569 = .ok (.iaload, 1) := by decide +kernel
theorem dL_570 : decode code 570 = .ok (.aload_n 0, 1) := by decide +kernel
theorem dL_571 : decode code 571 = .ok (.iload_n 3, 1) := by decide +kernel
theorem dL_572 : decode code 572 = .ok (.iconst 4, 1) := by decide +kernel
theorem dL_573 : decode code 573 = .ok (.iadd, 1) := by decide +kernel
theorem dL_574 : decode code 574 = .ok (.iaload, 1) := by decide +kernel
theorem dL_575 : decode code 575 = .ok (.aload_n 0, 1) := by decide +kernel
theorem dL_576 : decode code 576 = .ok (.iload_n 3, 1) := by decide +kernel
theorem dL_577 : decode code 577 = .ok (.iconst 5, 1) := by decide +kernel
theorem dL_578 : decode code 578 = .ok (.iadd, 1) := by decide +kernel
theorem dL_579 : decode code 579 = .ok (.iaload, 1) := by decide +kernel
theorem dL_580 : decode code 580 = .ok (.invokevirtual 75, 3) := by decide +kernel
theorem dL_583 : decode code 583 = .ok (.if_icmp .eq 259, 3) := by decide +kernel
theorem dL_586 : decode code 586 = .ok (.iconst 0, 1) := by decide +kernel
theorem dL_587 : decode code 587 = .ok (.ireturn, 1) := by decide +kernel
theorem dL_588 : decode code 588 = .ok (.aload_n 1, 1) := by decide +kernel
theorem dL_589 : decode code 589 = .ok (.aload_n 0, 1) := by decide +kernel
theorem dL_590 : decode code 590 = .ok (.iload_n 3, 1) := by decide +kernel
theorem dL_591 : decode code 591 = .ok (.iconst 1, 1) := by decide +kernel
theorem dL_592 : decode code 592 = .ok (.iadd, 1) := by decide +kernel
theorem dL_593 : decode code 593 = .ok (.iaload, 1) := by decide +kernel
theorem dL_594 : decode code 594 = .ok (.aload_n 0, 1) := by decide +kernel
theorem dL_595 : decode code 595 = .ok (.iload_n 3, 1) := by decide +kernel
theorem dL_596 : decode code 596 = .ok (.iconst 2, 1) := by decide +kernel
theorem dL_597 : decode code 597 = .ok (.iadd, 1) := by decide +kernel
theorem dL_598 : decode code 598 = .ok (.iaload, 1) := by decide +kernel
theorem dL_599 : decode code 599 = .ok (.invokevirtual 76, 3) := by decide +kernel
theorem dL_602 : decode code 602 = .ok (.aload_n 2, 1) := by decide +kernel
theorem dL_603 : decode code 603 = .ok (.aload_n 0, 1) := by decide +kernel
theorem dL_604 : decode code 604 = .ok (.iload_n 3, 1) := by decide +kernel
theorem dL_605 : decode code 605 = .ok (.iconst 1, 1) := by decide +kernel
theorem dL_606 : decode code 606 = .ok (.iadd, 1) := by decide +kernel
theorem dL_607 : decode code 607 = .ok (.iaload, 1) := by decide +kernel
theorem dL_608 : decode code 608 = .ok (.aload_n 0, 1) := by decide +kernel
theorem dL_609 : decode code 609 = .ok (.iload_n 3, 1) := by decide +kernel
theorem dL_610 : decode code 610 = .ok (.iconst 2, 1) := by decide +kernel
theorem dL_611 : decode code 611 = .ok (.iadd, 1) := by decide +kernel
theorem dL_612 : decode code 612 = .ok (.iaload, 1) := by decide +kernel
theorem dL_613 : decode code 613 = .ok (.invokevirtual 80, 3) := by decide +kernel
theorem dL_616 : decode code 616 = .ok (.if_icmp .eq 226, 3) := by decide +kernel
theorem dL_619 : decode code 619 = .ok (.iconst 0, 1) := by decide +kernel
theorem dL_620 : decode code 620 = .ok (.ireturn, 1) := by decide +kernel
theorem dL_621 : decode code 621 = .ok (.aload_n 1, 1) := by decide +kernel
theorem dL_622 : decode code 622 = .ok (.aload_n 0, 1) := by decide +kernel
theorem dL_623 : decode code 623 = .ok (.iload_n 3, 1) := by decide +kernel
theorem dL_624 : decode code 624 = .ok (.iconst 1, 1) := by decide +kernel
theorem dL_625 : decode code 625 = .ok (.iadd, 1) := by decide +kernel
theorem dL_626 : decode code 626 = .ok (.iaload, 1) := by decide +kernel
theorem dL_627 : decode code 627 = .ok (.aload_n 0, 1) := by decide +kernel
theorem dL_628 : decode code 628 = .ok (.iload_n 3, 1) := by decide +kernel
theorem dL_629 : decode code 629 = .ok (.iconst 2, 1) := by decide +kernel
theorem dL_630 : decode code 630 = .ok (.iadd, 1) := by decide +kernel
theorem dL_631 : decode code 631 = .ok (.iaload, 1) := by decide +kernel
theorem dL_632 : decode code 632 = .ok (.invokevirtual 81, 3) := by decide +kernel
theorem dL_635 : decode code 635 = .ok (.aload_n 2, 1) := by decide +kernel
theorem dL_636 : decode code 636 = .ok (.aload_n 0, 1) := by decide +kernel
theorem dL_637 : decode code 637 = .ok (.iload_n 3, 1) := by decide +kernel
theorem dL_638 : decode code 638 = .ok (.iconst 1, 1) := by decide +kernel
theorem dL_639 : decode code 639 = .ok (.iadd, 1) := by decide +kernel
theorem dL_640 : decode code 640 = .ok (.iaload, 1) := by decide +kernel
theorem dL_641 : decode code 641 = .ok (.aload_n 0, 1) := by decide +kernel
theorem dL_642 : decode code 642 = .ok (.iload_n 3, 1) := by decide +kernel
theorem dL_643 : decode code 643 = .ok (.iconst 2, 1) := by decide +kernel
theorem dL_644 : decode code 644 = .ok (.iadd, 1) := by decide +kernel
theorem dL_645 : decode code 645 = .ok (.iaload, 1) := by decide +kernel
theorem dL_646 : decode code 646 = .ok (.invokevirtual 84, 3) := by decide +kernel
theorem dL_649 : decode code 649 = .ok (.if_icmp .eq 193, 3) := by decide +kernel
theorem dL_652 : decode code 652 = .ok (.iconst 0, 1) := by decide +kernel
theorem dL_653 : decode code 653 = .ok (.ireturn, 1) := by decide +kernel
theorem dL_654 : decode code 654 = .ok (.aload_n 1, 1) := by decide +kernel
theorem dL_655 : decode code 655 = .ok (.aload_n 0, 1) := by decide +kernel
theorem dL_656 : decode code 656 = .ok (.iload_n 3, 1) := by decide +kernel
theorem dL_657 : decode code 657 = .ok (.iconst 1, 1) := by decide +kernel
theorem dL_658 : decode code 658 = .ok (.iadd, 1) := by decide +kernel
theorem dL_659 : decode code 659 = .ok (.iaload, 1) := by decide +kernel
theorem dL_660 : decode code 660 = .ok (.aload_n 0, 1) := by decide +kernel
theorem dL_661 : decode code 661 = .ok (.iload_n 3, 1) := by decide +kernel
theorem dL_662 : decode code 662 = .ok (.iconst 2, 1) := by decide +kernel
theorem dL_663 : decode code 663 = .ok (.iadd, 1) := by decide +kernel
theorem dL_664 : decode code 664 = .ok (.iaload, 1) := by decide +kernel
theorem dL_665 : decode code 665 = .ok (.aload_n 0, 1) := by decide +kernel
theorem dL_666 : decode code 666 = .ok (.iload_n 3, 1) := by decide +kernel
theorem dL_667 : decode code 667 = .ok (.iconst 3, 1) := by decide +kernel
theorem dL_668 : decode code 668 = .ok (.iadd, 1) := by decide +kernel
theorem dL_669 : decode code 669 = .ok (.iaload, 1) := by decide +kernel
theorem dL_670 : decode code 670 = .ok (.invokevirtual 85, 3) := by decide +kernel
theorem dL_673 : decode code 673 = .ok (.aload_n 2, 1) := by decide +kernel
theorem dL_674 : decode code 674 = .ok (.aload_n 0, 1) := by decide +kernel
theorem dL_675 : decode code 675 = .ok (.iload_n 3, 1) := by decide +kernel
theorem dL_676 : decode code 676 = .ok (.iconst 1, 1) := by decide +kernel
theorem dL_677 : decode code 677 = .ok (.iadd, 1) := by decide +kernel
theorem dL_678 : decode code 678 = .ok (.iaload, 1) := by decide +kernel
theorem dL_679 : decode code 679 = .ok (.aload_n 0, 1) := by decide +kernel
theorem dL_680 : decode code 680 = .ok (.iload_n 3, 1) := by decide +kernel
theorem dL_681 : decode code 681 = .ok (.iconst 2, 1) := by decide +kernel
theorem dL_682 : decode code 682 = .ok (.iadd, 1) := by decide +kernel
theorem dL_683 : decode code 683 = .ok (.iaload, 1) := by decide +kernel
theorem dL_684 : decode code 684 = .ok (.aload_n 0, 1) := by decide +kernel
theorem dL_685 : decode code 685 = .ok (.iload_n 3, 1) := by decide +kernel
theorem dL_686 : decode code 686 = .ok (.iconst 3, 1) := by decide +kernel
theorem dL_687 : decode code 687 = .ok (.iadd, 1) := by decide +kernel
theorem dL_688 : decode code 688 = .ok (.iaload, 1) := by decide +kernel
theorem dL_689 : decode code 689 = .ok (.invokevirtual 88, 3) := by decide +kernel
theorem dL_692 : decode code 692 = .ok (.if_icmp .eq 150, 3) := by decide +kernel
theorem dL_695 : decode code 695 = .ok (.iconst 0, 1) := by decide +kernel
theorem dL_696 : decode code 696 = .ok (.ireturn, 1) := by decide +kernel
theorem dL_697 : decode code 697 = .ok (.aload_n 1, 1) := by decide +kernel
theorem dL_698 : decode code 698 = .ok (.aload_n 0, 1) := by decide +kernel
theorem dL_699 : decode code 699 = .ok (.iload_n 3, 1) := by decide +kernel
theorem dL_700 : decode code 700 = .ok (.iconst 1, 1) := by decide +kernel
theorem dL_701 : decode code 701 = .ok (.iadd, 1) := by decide +kernel
theorem dL_702 : decode code 702 = .ok (.iaload, 1) := by decide +kernel
theorem dL_703 : decode code 703 = .ok (.aload_n 0, 1) := by decide +kernel
theorem dL_704 : decode code 704 = .ok (.iload_n 3, 1) := by decide +kernel
theorem dL_705 : decode code 705 = .ok (.iconst 2, 1) := by decide +kernel
theorem dL_706 : decode code 706 = .ok (.iadd, 1) := by decide +kernel
theorem dL_707 : decode code 707 = .ok (.iaload, 1) := by decide +kernel
theorem dL_708 : decode code 708 = .ok (.invokevirtual 89, 3) := by decide +kernel
theorem dL_711 : decode code 711 = .ok (.aload_n 2, 1) := by decide +kernel
theorem dL_712 : decode code 712 = .ok (.aload_n 0, 1) := by decide +kernel
theorem dL_713 : decode code 713 = .ok (.iload_n 3, 1) := by decide +kernel
theorem dL_714 : decode code 714 = .ok (.iconst 1, 1) := by decide +kernel
theorem dL_715 : decode code 715 = .ok (.iadd, 1) := by decide +kernel
theorem dL_716 : decode code 716 = .ok (.iaload, 1) := by decide +kernel
theorem dL_717 : decode code 717 = .ok (.aload_n 0, 1) := by decide +kernel
theorem dL_718 : decode code 718 = .ok (.iload_n 3, 1) := by decide +kernel
theorem dL_719 : decode code 719 = .ok (.iconst 2, 1) := by decide +kernel
theorem dL_720 : decode code 720 = .ok (.iadd, 1) := by decide +kernel
theorem dL_721 : decode code 721 = .ok (.iaload, 1) := by decide +kernel
theorem dL_722 : decode code 722 = .ok (.invokevirtual 92, 3) := by decide +kernel
theorem dL_725 : decode code 725 = .ok (.if_icmp .eq 117, 3) := by decide +kernel
theorem dL_728 : decode code 728 = .ok (.iconst 0, 1) := by decide +kernel
theorem dL_729 : decode code 729 = .ok (.ireturn, 1) := by decide +kernel
theorem dL_730 : decode code 730 = .ok (.aload_n 1, 1) := by decide +kernel
theorem dL_731 : decode code 731 = .ok (.aload_n 0, 1) := by decide +kernel
theorem dL_732 : decode code 732 = .ok (.iload_n 3, 1) := by decide +kernel
theorem dL_733 : decode code 733 = .ok (.iconst 1, 1) := by decide +kernel
theorem dL_734 : decode code 734 = .ok (.iadd, 1) := by decide +kernel
theorem dL_735 : decode code 735 = .ok (.iaload, 1) := by decide +kernel
theorem dL_736 : decode code 736 = .ok (.aload_n 0, 1) := by decide +kernel
theorem dL_737 : decode code 737 = .ok (.iload_n 3, 1) := by decide +kernel
theorem dL_738 : decode code 738 = .ok (.iconst 2, 1) := by decide +kernel
theorem dL_739 : decode code 739 = .ok (.iadd, 1) := by decide +kernel
theorem dL_740 : decode code 740 = .ok (.iaload, 1) := by decide +kernel
theorem dL_741 : decode code 741 = .ok (.invokevirtual 93, 3) := by decide +kernel
theorem dL_744 : decode code 744 = .ok (.aload_n 2, 1) := by decide +kernel
theorem dL_745 : decode code 745 = .ok (.aload_n 0, 1) := by decide +kernel
theorem dL_746 : decode code 746 = .ok (.iload_n 3, 1) := by decide +kernel
theorem dL_747 : decode code 747 = .ok (.iconst 1, 1) := by decide +kernel
theorem dL_748 : decode code 748 = .ok (.iadd, 1) := by decide +kernel
theorem dL_749 : decode code 749 = .ok (.iaload, 1) := by decide +kernel
theorem dL_750 : decode code 750 = .ok (.aload_n 0, 1) := by decide +kernel
theorem dL_751 : decode code 751 = .ok (.iload_n 3, 1) := by decide +kernel
theorem dL_752 : decode code 752 = .ok (.iconst 2, 1) := by decide +kernel
theorem dL_753 : decode code 753 = .ok (.iadd, 1) := by decide +kernel
theorem dL_754 : decode code 754 = .ok (.iaload, 1) := by decide +kernel
theorem dL_755 : decode code 755 = .ok (.invokevirtual 96, 3) := by decide +kernel
theorem dL_758 : decode code 758 = .ok (.if_icmp .eq 84, 3) := by decide +kernel
theorem dL_761 : decode code 761 = .ok (.iconst 0, 1) := by decide +kernel
theorem dL_762 : decode code 762 = .ok (.ireturn, 1) := by decide +kernel
theorem dL_763 : decode code 763 = .ok (.aload_n 1, 1) := by decide +kernel
theorem dL_764 : decode code 764 = .ok (.aload_n 0, 1) := by decide +kernel
theorem dL_765 : decode code 765 = .ok (.iload_n 3, 1) := by decide +kernel
theorem dL_766 : decode code 766 = .ok (.iconst 1, 1) := by decide +kernel
theorem dL_767 : decode code 767 = .ok (.iadd, 1) := by decide +kernel
theorem dL_768 : decode code 768 = .ok (.iaload, 1) := by decide +kernel
theorem dL_769 : decode code 769 = .ok (.invokevirtual 97, 3) := by decide +kernel
theorem dL_772 : decode code 772 = .ok (.aload_n 2, 1) := by decide +kernel
theorem dL_773 : decode code 773 = .ok (.aload_n 0, 1) := by decide +kernel
theorem dL_774 : decode code 774 = .ok (.iload_n 3, 1) := by decide +kernel
theorem dL_775 : decode code 775 = .ok (.iconst 1, 1) := by decide +kernel
theorem dL_776 : decode code 776 = .ok (.iadd, 1) := by decide +kernel
theorem dL_777 : decode code 777 = .ok (.iaload, 1) := by decide +kernel
theorem dL_778 : decode code 778 = .ok (.invokevirtual 100, 3) := by decide +kernel
theorem dL_781 : decode code 781 = .ok (.if_icmp .eq 61, 3) := by decide +kernel
theorem dL_784 : decode code 784 = .ok (.iconst 0, 1) := by decide +kernel
theorem dL_785 : decode code 785 = .ok (.ireturn, 1) := by decide +kernel
theorem dL_786 : decode code 786 = .ok (.aload_n 1, 1) := by decide +kernel
theorem dL_787 : decode code 787 = .ok (.aload_n 0, 1) := by decide +kernel
theorem dL_788 : decode code 788 = .ok (.iload_n 3, 1) := by decide +kernel
theorem dL_789 : decode code 789 = .ok (.iconst 1, 1) := by decide +kernel
theorem dL_790 : decode code 790 = .ok (.iadd, 1) := by decide +kernel
theorem dL_791 : decode code 791 = .ok (.iaload, 1) := by decide +kernel
theorem dL_792 : decode code 792 = .ok (.aload_n 0, 1) := by decide +kernel
theorem dL_793 : decode code 793 = .ok (.iload_n 3, 1) := by decide +kernel
theorem dL_794 : decode code 794 = .ok (.iconst 2, 1) := by decide +kernel
theorem dL_795 : decode code 795 = .ok (.iadd, 1) := by decide +kernel
theorem dL_796 : decode code 796 = .ok (.iaload, 1) := by decide +kernel
theorem dL_797 : decode code 797 = .ok (.invokevirtual 101, 3) := by decide +kernel
theorem dL_800 : decode code 800 = .ok (.aload_n 2, 1) := by decide +kernel
theorem dL_801 : decode code 801 = .ok (.aload_n 0, 1) := by decide +kernel
theorem dL_802 : decode code 802 = .ok (.iload_n 3, 1) := by decide +kernel
theorem dL_803 : decode code 803 = .ok (.iconst 1, 1) := by decide +kernel
theorem dL_804 : decode code 804 = .ok (.iadd, 1) := by decide +kernel
theorem dL_805 : decode code 805 = .ok (.iaload, 1) := by decide +kernel
theorem dL_806 : decode code 806 = .ok (.aload_n 0, 1) := by decide +kernel
theorem dL_807 : decode code 807 = .ok (.iload_n 3, 1) := by decide +kernel
theorem dL_808 : decode code 808 = .ok (.iconst 2, 1) := by decide +kernel
theorem dL_809 : decode code 809 = .ok (.iadd, 1) := by decide +kernel
theorem dL_810 : decode code 810 = .ok (.iaload, 1) := by decide +kernel
theorem dL_811 : decode code 811 = .ok (.invokevirtual 104, 3) := by decide +kernel
theorem dL_814 : decode code 814 = .ok (.if_icmp .eq 28, 3) := by decide +kernel
theorem dL_817 : decode code 817 = .ok (.iconst 0, 1) := by decide +kernel
theorem dL_818 : decode code 818 = .ok (.ireturn, 1) := by decide +kernel
theorem dL_819 : decode code 819 = .ok (.aload_n 1, 1) := by decide +kernel
theorem dL_820 : decode code 820 = .ok (.aload_n 0, 1) := by decide +kernel
theorem dL_821 : decode code 821 = .ok (.iload_n 3, 1) := by decide +kernel
theorem dL_822 : decode code 822 = .ok (.iconst 1, 1) := by decide +kernel
theorem dL_823 : decode code 823 = .ok (.iadd, 1) := by decide +kernel
theorem dL_824 : decode code 824 = .ok (.iaload, 1) := by decide +kernel
theorem dL_825 : decode code 825 = .ok (.invokevirtual 105, 3) := by decide +kernel
theorem dL_828 : decode code 828 = .ok (.aload_n 2, 1) := by decide +kernel
theorem dL_829 : decode code 829 = .ok (.aload_n 0, 1) := by decide +kernel
theorem dL_830 : decode code 830 = .ok (.iload_n 3, 1) := by decide +kernel
theorem dL_831 : decode code 831 = .ok (.iconst 1, 1) := by decide +kernel
theorem dL_832 : decode code 832 = .ok (.iadd, 1) := by decide +kernel
theorem dL_833 : decode code 833 = .ok (.iaload, 1) := by decide +kernel
theorem dL_834 : decode code 834 = .ok (.invokevirtual 108, 3) := by decide +kernel
theorem dL_837 : decode code 837 = .ok (.if_icmp .eq 5, 3) := by decide +kernel
theorem dL_840 : decode code 840 = .ok (.iconst 0, 1) := by decide +kernel
theorem dL_841 : decode code 841 = .ok (.ireturn, 1) := by decide +kernel
theorem dL_842 : decode code 842 = .ok (.iinc 3 6, 3) := by decide +kernel
theorem dL_845 : decode code 845 = .ok (.goto (-827), 3) := by decide +kernel
theorem dL_848 : decode code 848 = .ok (.iconst 1, 1) := by decide +kernel
theorem dL_849 : decode code 849 = .ok (.ireturn, 1) := by decide +kernel
set_option maxRecDepth 100000 in
set_option maxHeartbeats 4000000 in
theorem lc_0 {p : Program} {l : Launch} {e : Env} {s : State} {m : MethodId} {below : List Frame} {meth : Method} {c : Code} {G : aG} {b L : Nat} {xs : Nat → Int32} {cells slots : Nat} {Q : State → Prop} (hL : L ≤ 3072) (C0 : lw_At p s m meth c b L xs) (hK : va_K G.2.1 vwCl (atys G.2.2) s) (hc : cells ≤ 600000) (hs : slots ≤ 7302250) {i : Nat} {mm : AM} {H : Heap} {locs : List Loc} {ls : Array Slot} (hi : i + 6 ≤ L) (hI : INV mm) (hP : va_P G.2.1 vwCl (wd G.1 G.2.2 mm) H) (hD : va_D (fun q : Nat => s.heap.size ≤ q) (wd G.1 G.2.2 mm)) (hS : va_S (fun q : Nat => s.heap.size ≤ q) s.heap H locs) (hl : lv_has ls 4 [(0, .ref b), (1, .ref (G.1 0)), (2, .ref (G.1 34)), (3, .int (nI i))]) (kk : ∀ (mm' : AM) (H : Heap) (locs : List Loc), INV mm' → va_P G.2.1 vwCl (wd G.1 G.2.2 mm') H → va_D (fun q : Nat => s.heap.size ≤ q) (wd G.1 G.2.2 mm') → va_S (fun q : Nat => s.heap.size ≤ q) s.heap H locs → W p l e room_1 s m #[Value.ref b] below meth c H locs cells slots Q (F0 m 842 ls [])) : W p l e room_1 s m #[Value.ref b] below meth c H locs cells slots Q (F0 m 136 ls []) := by
  obtain ⟨hx, hb, -⟩ := id C0
  refine lv_aload_n hx hb dL_136 rfl (lv_at hl 1 rfl) ?_
  refine l_ld (j := 1) hL C0 hi hS hl (by omega) (by decide) dL_137 dL_138 dL_139 dL_140 dL_141 ?_
  refine l_ld (j := 2) hL C0 hi hS hl (by omega) (by decide) dL_142 dL_143 dL_144 dL_145 dL_146 ?_
  obtain ⟨Qc, ⟨d, hd, hC⟩, hcont⟩ := p_person hI (xs (i + 1)) (xs (i + 2))
  refine l_call (idx := 13) (y := kX5_person) (q := 0) (as := [.inl (xs (i + 1)), .inl (xs (i + 2))]) (rest := []) C0 hK hc hs hP hD hS (by decide) hd hC (fs := [some 1, some 4, some 7, some 10, some 13, some 15, some 25, some 27, some 31, some 32, some 33, none, none]) rfl (by show _ = some 2; decide +kernel) hl.1 (Nat.le_of_ble_eq_true rfl) dL_147 (fun r u H locs hq hP hD hS => ?_)
  obtain ⟨Qm, ⟨d', hd', hM⟩, hfin⟩ := hcont r u hq
  refine lv_aload_n hx hb dL_150 rfl (lv_at hl 2 rfl) ?_
  refine l_ld (j := 1) hL C0 hi hS hl (by omega) (by decide) dL_151 dL_152 dL_153 dL_154 dL_155 ?_
  refine l_ld (j := 2) hL C0 hi hS hl (by omega) (by decide) dL_156 dL_157 dL_158 dL_159 dL_160 ?_
  refine l_call (idx := 17) (y := kX6_person) (q := 34) (as := [.inl (xs (i + 1)), .inl (xs (i + 2))]) (rest := (r.map Value.int).toList ++ []) C0 hK hc hs hP hD hS (by decide) hd' hM (fs := [some 35, none, none, none, none, none, none, some 36, some 37, some 38, some 39, some 40, some 41, some 42, some 43, some 44, some 45, some 46, some 47, some 48, some 49, some 50, some 51, some 52, some 53, some 54, some 55, some 56, some 57, some 58, none, some 59, none, none]) rfl (by show _ = some 2; decide +kernel) hl.1 (cat_opt r) dL_161 (fun r' v H locs hq hP hD hS => ?_)
  obtain ⟨⟨x, rfl, rfl⟩, hI'⟩ := hfin r' v hq
  refine lv_icmp_eq (x := x) (y := x) (rest := []) (tgt := 842) hx hb dL_164 (by decide) (fun _ => ?_) (fun q => absurd rfl q)
  exact kk v H locs hI' hP hD hS
set_option maxRecDepth 100000 in
set_option maxHeartbeats 4000000 in
theorem lc_1 {p : Program} {l : Launch} {e : Env} {s : State} {m : MethodId} {below : List Frame} {meth : Method} {c : Code} {G : aG} {b L : Nat} {xs : Nat → Int32} {cells slots : Nat} {Q : State → Prop} (hL : L ≤ 3072) (C0 : lw_At p s m meth c b L xs) (hK : va_K G.2.1 vwCl (atys G.2.2) s) (hc : cells ≤ 600000) (hs : slots ≤ 7302250) {i : Nat} {mm : AM} {H : Heap} {locs : List Loc} {ls : Array Slot} (hi : i + 6 ≤ L) (hI : INV mm) (hP : va_P G.2.1 vwCl (wd G.1 G.2.2 mm) H) (hD : va_D (fun q : Nat => s.heap.size ≤ q) (wd G.1 G.2.2 mm)) (hS : va_S (fun q : Nat => s.heap.size ≤ q) s.heap H locs) (hl : lv_has ls 4 [(0, .ref b), (1, .ref (G.1 0)), (2, .ref (G.1 34)), (3, .int (nI i))]) (kk : ∀ (mm' : AM) (H : Heap) (locs : List Loc), INV mm' → va_P G.2.1 vwCl (wd G.1 G.2.2 mm') H → va_D (fun q : Nat => s.heap.size ≤ q) (wd G.1 G.2.2 mm') → va_S (fun q : Nat => s.heap.size ≤ q) s.heap H locs → W p l e room_1 s m #[Value.ref b] below meth c H locs cells slots Q (F0 m 842 ls [])) : W p l e room_1 s m #[Value.ref b] below meth c H locs cells slots Q (F0 m 169 ls []) := by
  obtain ⟨hx, hb, -⟩ := id C0
  refine lv_aload_n hx hb dL_169 rfl (lv_at hl 1 rfl) ?_
  refine l_ld (j := 1) hL C0 hi hS hl (by omega) (by decide) dL_170 dL_171 dL_172 dL_173 dL_174 ?_
  refine l_ld (j := 2) hL C0 hi hS hl (by omega) (by decide) dL_175 dL_176 dL_177 dL_178 dL_179 ?_
  refine l_ld (j := 3) hL C0 hi hS hl (by omega) (by decide) dL_180 dL_181 dL_182 dL_183 dL_184 ?_
  obtain ⟨Qc, ⟨d, hd, hC⟩, hcont⟩ := p_lived hI (xs (i + 1)) (xs (i + 2)) (xs (i + 3))
  refine l_call (idx := 18) (y := kX5_lived) (q := 0) (as := [.inl (xs (i + 1)), .inl (xs (i + 2)), .inl (xs (i + 3))]) (rest := []) C0 hK hc hs hP hD hS (by decide) hd hC (fs := [some 1, some 4, some 7, some 10, some 13, some 15, some 25, some 27, some 31, some 32, some 33, none, none]) rfl (by show _ = some 3; decide +kernel) hl.1 (Nat.le_of_ble_eq_true rfl) dL_185 (fun r u H locs hq hP hD hS => ?_)
  obtain ⟨Qm, ⟨d', hd', hM⟩, hfin⟩ := hcont r u hq
  refine lv_aload_n hx hb dL_188 rfl (lv_at hl 2 rfl) ?_
  refine l_ld (j := 1) hL C0 hi hS hl (by omega) (by decide) dL_189 dL_190 dL_191 dL_192 dL_193 ?_
  refine l_ld (j := 2) hL C0 hi hS hl (by omega) (by decide) dL_194 dL_195 dL_196 dL_197 dL_198 ?_
  refine l_ld (j := 3) hL C0 hi hS hl (by omega) (by decide) dL_199 dL_200 dL_201 dL_202 dL_203 ?_
  refine l_call (idx := 22) (y := kX6_lived) (q := 34) (as := [.inl (xs (i + 1)), .inl (xs (i + 2)), .inl (xs (i + 3))]) (rest := (r.map Value.int).toList ++ []) C0 hK hc hs hP hD hS (by decide) hd' hM (fs := [some 35, none, none, none, none, none, none, some 36, some 37, some 38, some 39, some 40, some 41, some 42, some 43, some 44, some 45, some 46, some 47, some 48, some 49, some 50, some 51, some 52, some 53, some 54, some 55, some 56, some 57, some 58, none, some 59, none, none]) rfl (by show _ = some 3; decide +kernel) hl.1 (cat_opt r) dL_204 (fun r' v H locs hq hP hD hS => ?_)
  obtain ⟨⟨x, rfl, rfl⟩, hI'⟩ := hfin r' v hq
  refine lv_icmp_eq (x := x) (y := x) (rest := []) (tgt := 842) hx hb dL_207 (by decide) (fun _ => ?_) (fun q => absurd rfl q)
  exact kk v H locs hI' hP hD hS
set_option maxRecDepth 100000 in
set_option maxHeartbeats 4000000 in
theorem lc_2 {p : Program} {l : Launch} {e : Env} {s : State} {m : MethodId} {below : List Frame} {meth : Method} {c : Code} {G : aG} {b L : Nat} {xs : Nat → Int32} {cells slots : Nat} {Q : State → Prop} (hL : L ≤ 3072) (C0 : lw_At p s m meth c b L xs) (hK : va_K G.2.1 vwCl (atys G.2.2) s) (hc : cells ≤ 600000) (hs : slots ≤ 7302250) {i : Nat} {mm : AM} {H : Heap} {locs : List Loc} {ls : Array Slot} (hi : i + 6 ≤ L) (hI : INV mm) (hP : va_P G.2.1 vwCl (wd G.1 G.2.2 mm) H) (hD : va_D (fun q : Nat => s.heap.size ≤ q) (wd G.1 G.2.2 mm)) (hS : va_S (fun q : Nat => s.heap.size ≤ q) s.heap H locs) (hl : lv_has ls 4 [(0, .ref b), (1, .ref (G.1 0)), (2, .ref (G.1 34)), (3, .int (nI i))]) (kk : ∀ (mm' : AM) (H : Heap) (locs : List Loc), INV mm' → va_P G.2.1 vwCl (wd G.1 G.2.2 mm') H → va_D (fun q : Nat => s.heap.size ≤ q) (wd G.1 G.2.2 mm') → va_S (fun q : Nat => s.heap.size ≤ q) s.heap H locs → W p l e room_1 s m #[Value.ref b] below meth c H locs cells slots Q (F0 m 842 ls [])) : W p l e room_1 s m #[Value.ref b] below meth c H locs cells slots Q (F0 m 212 ls []) := by
  obtain ⟨hx, hb, -⟩ := id C0
  refine lv_aload_n hx hb dL_212 rfl (lv_at hl 1 rfl) ?_
  refine l_ld (j := 1) hL C0 hi hS hl (by omega) (by decide) dL_213 dL_214 dL_215 dL_216 dL_217 ?_
  refine l_ld (j := 2) hL C0 hi hS hl (by omega) (by decide) dL_218 dL_219 dL_220 dL_221 dL_222 ?_
  obtain ⟨Qc, ⟨d, hd, hC⟩, hcont⟩ := p_formula hI (xs (i + 1)) (xs (i + 2))
  refine l_call (idx := 23) (y := kX5_formula) (q := 0) (as := [.inl (xs (i + 1)), .inl (xs (i + 2))]) (rest := []) C0 hK hc hs hP hD hS (by decide) hd hC (fs := [some 1, some 4, some 7, some 10, some 13, some 15, some 25, some 27, some 31, some 32, some 33, none, none]) rfl (by show _ = some 2; decide +kernel) hl.1 (Nat.le_of_ble_eq_true rfl) dL_223 (fun r u H locs hq hP hD hS => ?_)
  obtain ⟨Qm, ⟨d', hd', hM⟩, hfin⟩ := hcont r u hq
  refine lv_aload_n hx hb dL_226 rfl (lv_at hl 2 rfl) ?_
  refine l_ld (j := 1) hL C0 hi hS hl (by omega) (by decide) dL_227 dL_228 dL_229 dL_230 dL_231 ?_
  refine l_ld (j := 2) hL C0 hi hS hl (by omega) (by decide) dL_232 dL_233 dL_234 dL_235 dL_236 ?_
  refine l_call (idx := 26) (y := kX6_formula) (q := 34) (as := [.inl (xs (i + 1)), .inl (xs (i + 2))]) (rest := (r.map Value.int).toList ++ []) C0 hK hc hs hP hD hS (by decide) hd' hM (fs := [some 35, none, none, none, none, none, none, some 36, some 37, some 38, some 39, some 40, some 41, some 42, some 43, some 44, some 45, some 46, some 47, some 48, some 49, some 50, some 51, some 52, some 53, some 54, some 55, some 56, some 57, some 58, none, some 59, none, none]) rfl (by show _ = some 2; decide +kernel) hl.1 (cat_opt r) dL_237 (fun r' v H locs hq hP hD hS => ?_)
  obtain ⟨⟨x, rfl, rfl⟩, hI'⟩ := hfin r' v hq
  refine lv_icmp_eq (x := x) (y := x) (rest := []) (tgt := 842) hx hb dL_240 (by decide) (fun _ => ?_) (fun q => absurd rfl q)
  exact kk v H locs hI' hP hD hS
set_option maxRecDepth 100000 in
set_option maxHeartbeats 4000000 in
theorem lc_3 {p : Program} {l : Launch} {e : Env} {s : State} {m : MethodId} {below : List Frame} {meth : Method} {c : Code} {G : aG} {b L : Nat} {xs : Nat → Int32} {cells slots : Nat} {Q : State → Prop} (hL : L ≤ 3072) (C0 : lw_At p s m meth c b L xs) (hK : va_K G.2.1 vwCl (atys G.2.2) s) (hc : cells ≤ 600000) (hs : slots ≤ 7302250) {i : Nat} {mm : AM} {H : Heap} {locs : List Loc} {ls : Array Slot} (hi : i + 6 ≤ L) (hI : INV mm) (hP : va_P G.2.1 vwCl (wd G.1 G.2.2 mm) H) (hD : va_D (fun q : Nat => s.heap.size ≤ q) (wd G.1 G.2.2 mm)) (hS : va_S (fun q : Nat => s.heap.size ≤ q) s.heap H locs) (hl : lv_has ls 4 [(0, .ref b), (1, .ref (G.1 0)), (2, .ref (G.1 34)), (3, .int (nI i))]) (kk : ∀ (mm' : AM) (H : Heap) (locs : List Loc), INV mm' → va_P G.2.1 vwCl (wd G.1 G.2.2 mm') H → va_D (fun q : Nat => s.heap.size ≤ q) (wd G.1 G.2.2 mm') → va_S (fun q : Nat => s.heap.size ≤ q) s.heap H locs → W p l e room_1 s m #[Value.ref b] below meth c H locs cells slots Q (F0 m 842 ls [])) : W p l e room_1 s m #[Value.ref b] below meth c H locs cells slots Q (F0 m 245 ls []) := by
  obtain ⟨hx, hb, -⟩ := id C0
  refine lv_aload_n hx hb dL_245 rfl (lv_at hl 1 rfl) ?_
  refine l_ld (j := 1) hL C0 hi hS hl (by omega) (by decide) dL_246 dL_247 dL_248 dL_249 dL_250 ?_
  refine l_ld (j := 2) hL C0 hi hS hl (by omega) (by decide) dL_251 dL_252 dL_253 dL_254 dL_255 ?_
  obtain ⟨Qc, ⟨d, hd, hC⟩, hcont⟩ := p_seal hI (xs (i + 1)) (xs (i + 2))
  refine l_call (idx := 27) (y := kX5_seal) (q := 0) (as := [.inl (xs (i + 1)), .inl (xs (i + 2))]) (rest := []) C0 hK hc hs hP hD hS (by decide) hd hC (fs := [some 1, some 4, some 7, some 10, some 13, some 15, some 25, some 27, some 31, some 32, some 33, none, none]) rfl (by show _ = some 2; decide +kernel) hl.1 (Nat.le_of_ble_eq_true rfl) dL_256 (fun r u H locs hq hP hD hS => ?_)
  obtain ⟨Qm, ⟨d', hd', hM⟩, hfin⟩ := hcont r u hq
  refine lv_aload_n hx hb dL_259 rfl (lv_at hl 2 rfl) ?_
  refine l_ld (j := 1) hL C0 hi hS hl (by omega) (by decide) dL_260 dL_261 dL_262 dL_263 dL_264 ?_
  refine l_ld (j := 2) hL C0 hi hS hl (by omega) (by decide) dL_265 dL_266 dL_267 dL_268 dL_269 ?_
  refine l_call (idx := 30) (y := kX6_seal) (q := 34) (as := [.inl (xs (i + 1)), .inl (xs (i + 2))]) (rest := (r.map Value.int).toList ++ []) C0 hK hc hs hP hD hS (by decide) hd' hM (fs := [some 35, none, none, none, none, none, none, some 36, some 37, some 38, some 39, some 40, some 41, some 42, some 43, some 44, some 45, some 46, some 47, some 48, some 49, some 50, some 51, some 52, some 53, some 54, some 55, some 56, some 57, some 58, none, some 59, none, none]) rfl (by show _ = some 2; decide +kernel) hl.1 (cat_opt r) dL_270 (fun r' v H locs hq hP hD hS => ?_)
  obtain ⟨⟨x, rfl, rfl⟩, hI'⟩ := hfin r' v hq
  refine lv_icmp_eq (x := x) (y := x) (rest := []) (tgt := 842) hx hb dL_273 (by decide) (fun _ => ?_) (fun q => absurd rfl q)
  exact kk v H locs hI' hP hD hS
set_option maxRecDepth 100000 in
set_option maxHeartbeats 4000000 in
theorem lc_4 {p : Program} {l : Launch} {e : Env} {s : State} {m : MethodId} {below : List Frame} {meth : Method} {c : Code} {G : aG} {b L : Nat} {xs : Nat → Int32} {cells slots : Nat} {Q : State → Prop} (hL : L ≤ 3072) (C0 : lw_At p s m meth c b L xs) (hK : va_K G.2.1 vwCl (atys G.2.2) s) (hc : cells ≤ 600000) (hs : slots ≤ 7302250) {i : Nat} {mm : AM} {H : Heap} {locs : List Loc} {ls : Array Slot} (hi : i + 6 ≤ L) (hI : INV mm) (hP : va_P G.2.1 vwCl (wd G.1 G.2.2 mm) H) (hD : va_D (fun q : Nat => s.heap.size ≤ q) (wd G.1 G.2.2 mm)) (hS : va_S (fun q : Nat => s.heap.size ≤ q) s.heap H locs) (hl : lv_has ls 4 [(0, .ref b), (1, .ref (G.1 0)), (2, .ref (G.1 34)), (3, .int (nI i))]) (kk : ∀ (mm' : AM) (H : Heap) (locs : List Loc), INV mm' → va_P G.2.1 vwCl (wd G.1 G.2.2 mm') H → va_D (fun q : Nat => s.heap.size ≤ q) (wd G.1 G.2.2 mm') → va_S (fun q : Nat => s.heap.size ≤ q) s.heap H locs → W p l e room_1 s m #[Value.ref b] below meth c H locs cells slots Q (F0 m 842 ls [])) : W p l e room_1 s m #[Value.ref b] below meth c H locs cells slots Q (F0 m 278 ls []) := by
  obtain ⟨hx, hb, -⟩ := id C0
  refine lv_aload_n hx hb dL_278 rfl (lv_at hl 1 rfl) ?_
  refine l_ld (j := 1) hL C0 hi hS hl (by omega) (by decide) dL_279 dL_280 dL_281 dL_282 dL_283 ?_
  obtain ⟨Qc, ⟨d, hd, hC⟩, hcont⟩ := p_span hI (xs (i + 1))
  refine l_call (idx := 31) (y := kX5_span) (q := 0) (as := [.inl (xs (i + 1))]) (rest := []) C0 hK hc hs hP hD hS (by decide) hd hC (fs := [some 1, some 4, some 7, some 10, some 13, some 15, some 25, some 27, some 31, some 32, some 33, none, none]) rfl (by show _ = some 1; decide +kernel) hl.1 (Nat.le_of_ble_eq_true rfl) dL_284 (fun r u H locs hq hP hD hS => ?_)
  obtain ⟨Qm, ⟨d', hd', hM⟩, hfin⟩ := hcont r u hq
  refine lv_aload_n hx hb dL_287 rfl (lv_at hl 2 rfl) ?_
  refine l_ld (j := 1) hL C0 hi hS hl (by omega) (by decide) dL_288 dL_289 dL_290 dL_291 dL_292 ?_
  refine l_call (idx := 35) (y := kX6_span) (q := 34) (as := [.inl (xs (i + 1))]) (rest := (r.map Value.int).toList ++ []) C0 hK hc hs hP hD hS (by decide) hd' hM (fs := [some 35, none, none, none, none, none, none, some 36, some 37, some 38, some 39, some 40, some 41, some 42, some 43, some 44, some 45, some 46, some 47, some 48, some 49, some 50, some 51, some 52, some 53, some 54, some 55, some 56, some 57, some 58, none, some 59, none, none]) rfl (by show _ = some 1; decide +kernel) hl.1 (cat_opt r) dL_293 (fun r' v H locs hq hP hD hS => ?_)
  obtain ⟨⟨x, rfl, rfl⟩, hI'⟩ := hfin r' v hq
  refine lv_icmp_eq (x := x) (y := x) (rest := []) (tgt := 842) hx hb dL_296 (by decide) (fun _ => ?_) (fun q => absurd rfl q)
  exact kk v H locs hI' hP hD hS
set_option maxRecDepth 100000 in
set_option maxHeartbeats 4000000 in
theorem lc_5 {p : Program} {l : Launch} {e : Env} {s : State} {m : MethodId} {below : List Frame} {meth : Method} {c : Code} {G : aG} {b L : Nat} {xs : Nat → Int32} {cells slots : Nat} {Q : State → Prop} (hL : L ≤ 3072) (C0 : lw_At p s m meth c b L xs) (hK : va_K G.2.1 vwCl (atys G.2.2) s) (hc : cells ≤ 600000) (hs : slots ≤ 7302250) {i : Nat} {mm : AM} {H : Heap} {locs : List Loc} {ls : Array Slot} (hi : i + 6 ≤ L) (hI : INV mm) (hP : va_P G.2.1 vwCl (wd G.1 G.2.2 mm) H) (hD : va_D (fun q : Nat => s.heap.size ≤ q) (wd G.1 G.2.2 mm)) (hS : va_S (fun q : Nat => s.heap.size ≤ q) s.heap H locs) (hl : lv_has ls 4 [(0, .ref b), (1, .ref (G.1 0)), (2, .ref (G.1 34)), (3, .int (nI i))]) (kk : ∀ (mm' : AM) (H : Heap) (locs : List Loc), INV mm' → va_P G.2.1 vwCl (wd G.1 G.2.2 mm') H → va_D (fun q : Nat => s.heap.size ≤ q) (wd G.1 G.2.2 mm') → va_S (fun q : Nat => s.heap.size ≤ q) s.heap H locs → W p l e room_1 s m #[Value.ref b] below meth c H locs cells slots Q (F0 m 842 ls [])) : W p l e room_1 s m #[Value.ref b] below meth c H locs cells slots Q (F0 m 301 ls []) := by
  obtain ⟨hx, hb, -⟩ := id C0
  refine lv_aload_n hx hb dL_301 rfl (lv_at hl 1 rfl) ?_
  refine l_ld (j := 1) hL C0 hi hS hl (by omega) (by decide) dL_302 dL_303 dL_304 dL_305 dL_306 ?_
  refine l_ld (j := 2) hL C0 hi hS hl (by omega) (by decide) dL_307 dL_308 dL_309 dL_310 dL_311 ?_
  refine l_ld (j := 3) hL C0 hi hS hl (by omega) (by decide) dL_312 dL_313 dL_314 dL_315 dL_316 ?_
  obtain ⟨Qc, ⟨d, hd, hC⟩, hcont⟩ := p_deed hI (xs (i + 1)) (xs (i + 2)) (xs (i + 3))
  refine l_call (idx := 36) (y := kX5_deed) (q := 0) (as := [.inl (xs (i + 1)), .inl (xs (i + 2)), .inl (xs (i + 3))]) (rest := []) C0 hK hc hs hP hD hS (by decide) hd hC (fs := [some 1, some 4, some 7, some 10, some 13, some 15, some 25, some 27, some 31, some 32, some 33, none, none]) rfl (by show _ = some 3; decide +kernel) hl.1 (Nat.le_of_ble_eq_true rfl) dL_317 (fun r u H locs hq hP hD hS => ?_)
  obtain ⟨Qm, ⟨d', hd', hM⟩, hfin⟩ := hcont r u hq
  refine lv_aload_n hx hb dL_320 rfl (lv_at hl 2 rfl) ?_
  refine l_ld (j := 1) hL C0 hi hS hl (by omega) (by decide) dL_321 dL_322 dL_323 dL_324 dL_325 ?_
  refine l_ld (j := 2) hL C0 hi hS hl (by omega) (by decide) dL_326 dL_327 dL_328 dL_329 dL_330 ?_
  refine l_ld (j := 3) hL C0 hi hS hl (by omega) (by decide) dL_331 dL_332 dL_333 dL_334 dL_335 ?_
  refine l_call (idx := 40) (y := kX6_deed) (q := 34) (as := [.inl (xs (i + 1)), .inl (xs (i + 2)), .inl (xs (i + 3))]) (rest := (r.map Value.int).toList ++ []) C0 hK hc hs hP hD hS (by decide) hd' hM (fs := [some 35, none, none, none, none, none, none, some 36, some 37, some 38, some 39, some 40, some 41, some 42, some 43, some 44, some 45, some 46, some 47, some 48, some 49, some 50, some 51, some 52, some 53, some 54, some 55, some 56, some 57, some 58, none, some 59, none, none]) rfl (by show _ = some 3; decide +kernel) hl.1 (cat_opt r) dL_336 (fun r' v H locs hq hP hD hS => ?_)
  obtain ⟨⟨x, rfl, rfl⟩, hI'⟩ := hfin r' v hq
  refine lv_icmp_eq (x := x) (y := x) (rest := []) (tgt := 842) hx hb dL_339 (by decide) (fun _ => ?_) (fun q => absurd rfl q)
  exact kk v H locs hI' hP hD hS
set_option maxRecDepth 100000 in
set_option maxHeartbeats 4000000 in
theorem lc_6 {p : Program} {l : Launch} {e : Env} {s : State} {m : MethodId} {below : List Frame} {meth : Method} {c : Code} {G : aG} {b L : Nat} {xs : Nat → Int32} {cells slots : Nat} {Q : State → Prop} (hL : L ≤ 3072) (C0 : lw_At p s m meth c b L xs) (hK : va_K G.2.1 vwCl (atys G.2.2) s) (hc : cells ≤ 600000) (hs : slots ≤ 7302250) {i : Nat} {mm : AM} {H : Heap} {locs : List Loc} {ls : Array Slot} (hi : i + 6 ≤ L) (hI : INV mm) (hP : va_P G.2.1 vwCl (wd G.1 G.2.2 mm) H) (hD : va_D (fun q : Nat => s.heap.size ≤ q) (wd G.1 G.2.2 mm)) (hS : va_S (fun q : Nat => s.heap.size ≤ q) s.heap H locs) (hl : lv_has ls 4 [(0, .ref b), (1, .ref (G.1 0)), (2, .ref (G.1 34)), (3, .int (nI i))]) (kk : ∀ (mm' : AM) (H : Heap) (locs : List Loc), INV mm' → va_P G.2.1 vwCl (wd G.1 G.2.2 mm') H → va_D (fun q : Nat => s.heap.size ≤ q) (wd G.1 G.2.2 mm') → va_S (fun q : Nat => s.heap.size ≤ q) s.heap H locs → W p l e room_1 s m #[Value.ref b] below meth c H locs cells slots Q (F0 m 842 ls [])) : W p l e room_1 s m #[Value.ref b] below meth c H locs cells slots Q (F0 m 344 ls []) := by
  obtain ⟨hx, hb, -⟩ := id C0
  refine lv_aload_n hx hb dL_344 rfl (lv_at hl 1 rfl) ?_
  refine l_ld (j := 1) hL C0 hi hS hl (by omega) (by decide) dL_345 dL_346 dL_347 dL_348 dL_349 ?_
  refine l_ld (j := 2) hL C0 hi hS hl (by omega) (by decide) dL_350 dL_351 dL_352 dL_353 dL_354 ?_
  refine l_ld (j := 3) hL C0 hi hS hl (by omega) (by decide) dL_355 dL_356 dL_357 dL_358 dL_359 ?_
  obtain ⟨Qc, ⟨d, hd, hC⟩, hcont⟩ := p_mark hI (xs (i + 1)) (xs (i + 2)) (xs (i + 3))
  refine l_call (idx := 41) (y := kX5_mark) (q := 0) (as := [.inl (xs (i + 1)), .inl (xs (i + 2)), .inl (xs (i + 3))]) (rest := []) C0 hK hc hs hP hD hS (by decide) hd hC (fs := [some 1, some 4, some 7, some 10, some 13, some 15, some 25, some 27, some 31, some 32, some 33, none, none]) rfl (by show _ = some 3; decide +kernel) hl.1 (Nat.le_of_ble_eq_true rfl) dL_360 (fun r u H locs hq hP hD hS => ?_)
  obtain ⟨Qm, ⟨d', hd', hM⟩, hfin⟩ := hcont r u hq
  refine lv_aload_n hx hb dL_363 rfl (lv_at hl 2 rfl) ?_
  refine l_ld (j := 1) hL C0 hi hS hl (by omega) (by decide) dL_364 dL_365 dL_366 dL_367 dL_368 ?_
  refine l_ld (j := 2) hL C0 hi hS hl (by omega) (by decide) dL_369 dL_370 dL_371 dL_372 dL_373 ?_
  refine l_ld (j := 3) hL C0 hi hS hl (by omega) (by decide) dL_374 dL_375 dL_376 dL_377 dL_378 ?_
  refine l_call (idx := 44) (y := kX6_mark) (q := 34) (as := [.inl (xs (i + 1)), .inl (xs (i + 2)), .inl (xs (i + 3))]) (rest := (r.map Value.int).toList ++ []) C0 hK hc hs hP hD hS (by decide) hd' hM (fs := [some 35, none, none, none, none, none, none, some 36, some 37, some 38, some 39, some 40, some 41, some 42, some 43, some 44, some 45, some 46, some 47, some 48, some 49, some 50, some 51, some 52, some 53, some 54, some 55, some 56, some 57, some 58, none, some 59, none, none]) rfl (by show _ = some 3; decide +kernel) hl.1 (cat_opt r) dL_379 (fun r' v H locs hq hP hD hS => ?_)
  obtain ⟨⟨x, rfl, rfl⟩, hI'⟩ := hfin r' v hq
  refine lv_icmp_eq (x := x) (y := x) (rest := []) (tgt := 842) hx hb dL_382 (by decide) (fun _ => ?_) (fun q => absurd rfl q)
  exact kk v H locs hI' hP hD hS
set_option maxRecDepth 100000 in
set_option maxHeartbeats 4000000 in
theorem lc_7 {p : Program} {l : Launch} {e : Env} {s : State} {m : MethodId} {below : List Frame} {meth : Method} {c : Code} {G : aG} {b L : Nat} {xs : Nat → Int32} {cells slots : Nat} {Q : State → Prop} (hL : L ≤ 3072) (C0 : lw_At p s m meth c b L xs) (hK : va_K G.2.1 vwCl (atys G.2.2) s) (hc : cells ≤ 600000) (hs : slots ≤ 7302250) {i : Nat} {mm : AM} {H : Heap} {locs : List Loc} {ls : Array Slot} (hi : i + 6 ≤ L) (hI : INV mm) (hP : va_P G.2.1 vwCl (wd G.1 G.2.2 mm) H) (hD : va_D (fun q : Nat => s.heap.size ≤ q) (wd G.1 G.2.2 mm)) (hS : va_S (fun q : Nat => s.heap.size ≤ q) s.heap H locs) (hl : lv_has ls 4 [(0, .ref b), (1, .ref (G.1 0)), (2, .ref (G.1 34)), (3, .int (nI i))]) (kk : ∀ (mm' : AM) (H : Heap) (locs : List Loc), INV mm' → va_P G.2.1 vwCl (wd G.1 G.2.2 mm') H → va_D (fun q : Nat => s.heap.size ≤ q) (wd G.1 G.2.2 mm') → va_S (fun q : Nat => s.heap.size ≤ q) s.heap H locs → W p l e room_1 s m #[Value.ref b] below meth c H locs cells slots Q (F0 m 842 ls [])) : W p l e room_1 s m #[Value.ref b] below meth c H locs cells slots Q (F0 m 387 ls []) := by
  obtain ⟨hx, hb, -⟩ := id C0
  refine lv_aload_n hx hb dL_387 rfl (lv_at hl 1 rfl) ?_
  refine l_ld (j := 1) hL C0 hi hS hl (by omega) (by decide) dL_388 dL_389 dL_390 dL_391 dL_392 ?_
  obtain ⟨Qc, ⟨d, hd, hC⟩, hcont⟩ := p_agree hI (xs (i + 1))
  refine l_call (idx := 45) (y := kX5_agree) (q := 0) (as := [.inl (xs (i + 1))]) (rest := []) C0 hK hc hs hP hD hS (by decide) hd hC (fs := [some 1, some 4, some 7, some 10, some 13, some 15, some 25, some 27, some 31, some 32, some 33, none, none]) rfl (by show _ = some 1; decide +kernel) hl.1 (Nat.le_of_ble_eq_true rfl) dL_393 (fun r u H locs hq hP hD hS => ?_)
  obtain ⟨Qm, ⟨d', hd', hM⟩, hfin⟩ := hcont r u hq
  refine lv_aload_n hx hb dL_396 rfl (lv_at hl 2 rfl) ?_
  refine l_ld (j := 1) hL C0 hi hS hl (by omega) (by decide) dL_397 dL_398 dL_399 dL_400 dL_401 ?_
  refine l_call (idx := 49) (y := kX6_agree) (q := 34) (as := [.inl (xs (i + 1))]) (rest := (r.map Value.int).toList ++ []) C0 hK hc hs hP hD hS (by decide) hd' hM (fs := [some 35, none, none, none, none, none, none, some 36, some 37, some 38, some 39, some 40, some 41, some 42, some 43, some 44, some 45, some 46, some 47, some 48, some 49, some 50, some 51, some 52, some 53, some 54, some 55, some 56, some 57, some 58, none, some 59, none, none]) rfl (by show _ = some 1; decide +kernel) hl.1 (cat_opt r) dL_402 (fun r' v H locs hq hP hD hS => ?_)
  obtain ⟨⟨x, rfl, rfl⟩, hI'⟩ := hfin r' v hq
  refine lv_icmp_eq (x := x) (y := x) (rest := []) (tgt := 842) hx hb dL_405 (by decide) (fun _ => ?_) (fun q => absurd rfl q)
  exact kk v H locs hI' hP hD hS
set_option maxRecDepth 100000 in
set_option maxHeartbeats 4000000 in
theorem lc_8 {p : Program} {l : Launch} {e : Env} {s : State} {m : MethodId} {below : List Frame} {meth : Method} {c : Code} {G : aG} {b L : Nat} {xs : Nat → Int32} {cells slots : Nat} {Q : State → Prop} (hL : L ≤ 3072) (C0 : lw_At p s m meth c b L xs) (hK : va_K G.2.1 vwCl (atys G.2.2) s) (hc : cells ≤ 600000) (hs : slots ≤ 7302250) {i : Nat} {mm : AM} {H : Heap} {locs : List Loc} {ls : Array Slot} (hi : i + 6 ≤ L) (hI : INV mm) (hP : va_P G.2.1 vwCl (wd G.1 G.2.2 mm) H) (hD : va_D (fun q : Nat => s.heap.size ≤ q) (wd G.1 G.2.2 mm)) (hS : va_S (fun q : Nat => s.heap.size ≤ q) s.heap H locs) (hl : lv_has ls 4 [(0, .ref b), (1, .ref (G.1 0)), (2, .ref (G.1 34)), (3, .int (nI i))]) (kk : ∀ (mm' : AM) (H : Heap) (locs : List Loc), INV mm' → va_P G.2.1 vwCl (wd G.1 G.2.2 mm') H → va_D (fun q : Nat => s.heap.size ≤ q) (wd G.1 G.2.2 mm') → va_S (fun q : Nat => s.heap.size ≤ q) s.heap H locs → W p l e room_1 s m #[Value.ref b] below meth c H locs cells slots Q (F0 m 842 ls [])) : W p l e room_1 s m #[Value.ref b] below meth c H locs cells slots Q (F0 m 410 ls []) := by
  obtain ⟨hx, hb, -⟩ := id C0
  refine lv_aload_n hx hb dL_410 rfl (lv_at hl 1 rfl) ?_
  obtain ⟨Qc, ⟨d, hd, hC⟩, hcont⟩ := p_forged hI
  refine l_call (idx := 50) (y := kX5_forged) (q := 0) (as := []) (rest := []) C0 hK hc hs hP hD hS (by decide) hd hC (fs := [some 1, some 4, some 7, some 10, some 13, some 15, some 25, some 27, some 31, some 32, some 33, none, none]) rfl (by show _ = some 0; decide +kernel) hl.1 (Nat.le_of_ble_eq_true rfl) dL_411 (fun r u H locs hq hP hD hS => ?_)
  obtain ⟨Qm, ⟨d', hd', hM⟩, hfin⟩ := hcont r u hq
  refine lv_aload_n hx hb dL_414 rfl (lv_at hl 2 rfl) ?_
  refine l_call (idx := 54) (y := kX6_forged) (q := 34) (as := []) (rest := (r.map Value.int).toList ++ []) C0 hK hc hs hP hD hS (by decide) hd' hM (fs := [some 35, none, none, none, none, none, none, some 36, some 37, some 38, some 39, some 40, some 41, some 42, some 43, some 44, some 45, some 46, some 47, some 48, some 49, some 50, some 51, some 52, some 53, some 54, some 55, some 56, some 57, some 58, none, some 59, none, none]) rfl (by show _ = some 0; decide +kernel) hl.1 (cat_opt r) dL_415 (fun r' v H locs hq hP hD hS => ?_)
  obtain ⟨⟨x, rfl, rfl⟩, hI'⟩ := hfin r' v hq
  refine lv_icmp_eq (x := x) (y := x) (rest := []) (tgt := 842) hx hb dL_418 (by decide) (fun _ => ?_) (fun q => absurd rfl q)
  exact kk v H locs hI' hP hD hS
set_option maxRecDepth 100000 in
set_option maxHeartbeats 4000000 in
theorem lc_9 {p : Program} {l : Launch} {e : Env} {s : State} {m : MethodId} {below : List Frame} {meth : Method} {c : Code} {G : aG} {b L : Nat} {xs : Nat → Int32} {cells slots : Nat} {Q : State → Prop} (hL : L ≤ 3072) (C0 : lw_At p s m meth c b L xs) (hK : va_K G.2.1 vwCl (atys G.2.2) s) (hc : cells ≤ 600000) (hs : slots ≤ 7302250) {i : Nat} {mm : AM} {H : Heap} {locs : List Loc} {ls : Array Slot} (hi : i + 6 ≤ L) (hI : INV mm) (hP : va_P G.2.1 vwCl (wd G.1 G.2.2 mm) H) (hD : va_D (fun q : Nat => s.heap.size ≤ q) (wd G.1 G.2.2 mm)) (hS : va_S (fun q : Nat => s.heap.size ≤ q) s.heap H locs) (hl : lv_has ls 4 [(0, .ref b), (1, .ref (G.1 0)), (2, .ref (G.1 34)), (3, .int (nI i))]) (kk : ∀ (mm' : AM) (H : Heap) (locs : List Loc), INV mm' → va_P G.2.1 vwCl (wd G.1 G.2.2 mm') H → va_D (fun q : Nat => s.heap.size ≤ q) (wd G.1 G.2.2 mm') → va_S (fun q : Nat => s.heap.size ≤ q) s.heap H locs → W p l e room_1 s m #[Value.ref b] below meth c H locs cells slots Q (F0 m 842 ls [])) : W p l e room_1 s m #[Value.ref b] below meth c H locs cells slots Q (F0 m 423 ls []) := by
  obtain ⟨hx, hb, -⟩ := id C0
  refine lv_aload_n hx hb dL_423 rfl (lv_at hl 1 rfl) ?_
  refine l_ld (j := 1) hL C0 hi hS hl (by omega) (by decide) dL_424 dL_425 dL_426 dL_427 dL_428 ?_
  obtain ⟨Qc, ⟨d, hd, hC⟩, hcont⟩ := p_weight hI (xs (i + 1))
  refine l_call (idx := 55) (y := kX5_weight) (q := 0) (as := [.inl (xs (i + 1))]) (rest := []) C0 hK hc hs hP hD hS (by decide) hd hC (fs := [some 1, some 4, some 7, some 10, some 13, some 15, some 25, some 27, some 31, some 32, some 33, none, none]) rfl (by show _ = some 1; decide +kernel) hl.1 (Nat.le_of_ble_eq_true rfl) dL_429 (fun r u H locs hq hP hD hS => ?_)
  obtain ⟨Qm, ⟨d', hd', hM⟩, hfin⟩ := hcont r u hq
  refine lv_aload_n hx hb dL_432 rfl (lv_at hl 2 rfl) ?_
  refine l_ld (j := 1) hL C0 hi hS hl (by omega) (by decide) dL_433 dL_434 dL_435 dL_436 dL_437 ?_
  refine l_call (idx := 58) (y := kX6_weight) (q := 34) (as := [.inl (xs (i + 1))]) (rest := (r.map Value.int).toList ++ []) C0 hK hc hs hP hD hS (by decide) hd' hM (fs := [some 35, none, none, none, none, none, none, some 36, some 37, some 38, some 39, some 40, some 41, some 42, some 43, some 44, some 45, some 46, some 47, some 48, some 49, some 50, some 51, some 52, some 53, some 54, some 55, some 56, some 57, some 58, none, some 59, none, none]) rfl (by show _ = some 1; decide +kernel) hl.1 (cat_opt r) dL_438 (fun r' v H locs hq hP hD hS => ?_)
  obtain ⟨⟨x, rfl, rfl⟩, hI'⟩ := hfin r' v hq
  refine lv_icmp_eq (x := x) (y := x) (rest := []) (tgt := 842) hx hb dL_441 (by decide) (fun _ => ?_) (fun q => absurd rfl q)
  exact kk v H locs hI' hP hD hS
set_option maxRecDepth 100000 in
set_option maxHeartbeats 4000000 in
theorem lc_10 {p : Program} {l : Launch} {e : Env} {s : State} {m : MethodId} {below : List Frame} {meth : Method} {c : Code} {G : aG} {b L : Nat} {xs : Nat → Int32} {cells slots : Nat} {Q : State → Prop} (hL : L ≤ 3072) (C0 : lw_At p s m meth c b L xs) (hK : va_K G.2.1 vwCl (atys G.2.2) s) (hc : cells ≤ 600000) (hs : slots ≤ 7302250) {i : Nat} {mm : AM} {H : Heap} {locs : List Loc} {ls : Array Slot} (hi : i + 6 ≤ L) (hI : INV mm) (hP : va_P G.2.1 vwCl (wd G.1 G.2.2 mm) H) (hD : va_D (fun q : Nat => s.heap.size ≤ q) (wd G.1 G.2.2 mm)) (hS : va_S (fun q : Nat => s.heap.size ≤ q) s.heap H locs) (hl : lv_has ls 4 [(0, .ref b), (1, .ref (G.1 0)), (2, .ref (G.1 34)), (3, .int (nI i))]) (kk : ∀ (mm' : AM) (H : Heap) (locs : List Loc), INV mm' → va_P G.2.1 vwCl (wd G.1 G.2.2 mm') H → va_D (fun q : Nat => s.heap.size ≤ q) (wd G.1 G.2.2 mm') → va_S (fun q : Nat => s.heap.size ≤ q) s.heap H locs → W p l e room_1 s m #[Value.ref b] below meth c H locs cells slots Q (F0 m 842 ls [])) : W p l e room_1 s m #[Value.ref b] below meth c H locs cells slots Q (F0 m 446 ls []) := by
  obtain ⟨hx, hb, -⟩ := id C0
  refine lv_aload_n hx hb dL_446 rfl (lv_at hl 1 rfl) ?_
  refine l_ld (j := 1) hL C0 hi hS hl (by omega) (by decide) dL_447 dL_448 dL_449 dL_450 dL_451 ?_
  refine l_ld (j := 2) hL C0 hi hS hl (by omega) (by decide) dL_452 dL_453 dL_454 dL_455 dL_456 ?_
  obtain ⟨Qc, ⟨d, hd, hC⟩, hcont⟩ := p_year hI (xs (i + 1)) (xs (i + 2))
  refine l_call (idx := 59) (y := kX5_year) (q := 0) (as := [.inl (xs (i + 1)), .inl (xs (i + 2))]) (rest := []) C0 hK hc hs hP hD hS (by decide) hd hC (fs := [some 1, some 4, some 7, some 10, some 13, some 15, some 25, some 27, some 31, some 32, some 33, none, none]) rfl (by show _ = some 2; decide +kernel) hl.1 (Nat.le_of_ble_eq_true rfl) dL_457 (fun r u H locs hq hP hD hS => ?_)
  obtain ⟨Qm, ⟨d', hd', hM⟩, hfin⟩ := hcont r u hq
  refine lv_aload_n hx hb dL_460 rfl (lv_at hl 2 rfl) ?_
  refine l_ld (j := 1) hL C0 hi hS hl (by omega) (by decide) dL_461 dL_462 dL_463 dL_464 dL_465 ?_
  refine l_ld (j := 2) hL C0 hi hS hl (by omega) (by decide) dL_466 dL_467 dL_468 dL_469 dL_470 ?_
  refine l_call (idx := 62) (y := kX6_year) (q := 34) (as := [.inl (xs (i + 1)), .inl (xs (i + 2))]) (rest := (r.map Value.int).toList ++ []) C0 hK hc hs hP hD hS (by decide) hd' hM (fs := [some 35, none, none, none, none, none, none, some 36, some 37, some 38, some 39, some 40, some 41, some 42, some 43, some 44, some 45, some 46, some 47, some 48, some 49, some 50, some 51, some 52, some 53, some 54, some 55, some 56, some 57, some 58, none, some 59, none, none]) rfl (by show _ = some 2; decide +kernel) hl.1 (cat_opt r) dL_471 (fun r' v H locs hq hP hD hS => ?_)
  obtain ⟨⟨x, rfl, rfl⟩, hI'⟩ := hfin r' v hq
  refine lv_icmp_eq (x := x) (y := x) (rest := []) (tgt := 842) hx hb dL_474 (by decide) (fun _ => ?_) (fun q => absurd rfl q)
  exact kk v H locs hI' hP hD hS
set_option maxRecDepth 100000 in
set_option maxHeartbeats 4000000 in
theorem lc_11 {p : Program} {l : Launch} {e : Env} {s : State} {m : MethodId} {below : List Frame} {meth : Method} {c : Code} {G : aG} {b L : Nat} {xs : Nat → Int32} {cells slots : Nat} {Q : State → Prop} (hL : L ≤ 3072) (C0 : lw_At p s m meth c b L xs) (hK : va_K G.2.1 vwCl (atys G.2.2) s) (hc : cells ≤ 600000) (hs : slots ≤ 7302250) {i : Nat} {mm : AM} {H : Heap} {locs : List Loc} {ls : Array Slot} (hi : i + 6 ≤ L) (hI : INV mm) (hP : va_P G.2.1 vwCl (wd G.1 G.2.2 mm) H) (hD : va_D (fun q : Nat => s.heap.size ≤ q) (wd G.1 G.2.2 mm)) (hS : va_S (fun q : Nat => s.heap.size ≤ q) s.heap H locs) (hl : lv_has ls 4 [(0, .ref b), (1, .ref (G.1 0)), (2, .ref (G.1 34)), (3, .int (nI i))]) (kk : ∀ (mm' : AM) (H : Heap) (locs : List Loc), INV mm' → va_P G.2.1 vwCl (wd G.1 G.2.2 mm') H → va_D (fun q : Nat => s.heap.size ≤ q) (wd G.1 G.2.2 mm') → va_S (fun q : Nat => s.heap.size ≤ q) s.heap H locs → W p l e room_1 s m #[Value.ref b] below meth c H locs cells slots Q (F0 m 842 ls [])) : W p l e room_1 s m #[Value.ref b] below meth c H locs cells slots Q (F0 m 479 ls []) := by
  obtain ⟨hx, hb, -⟩ := id C0
  refine lv_aload_n hx hb dL_479 rfl (lv_at hl 1 rfl) ?_
  obtain ⟨Qc, ⟨d, hd, hC⟩, hcont⟩ := p_quarrel hI
  refine l_call (idx := 63) (y := kX5_quarrel) (q := 0) (as := []) (rest := []) C0 hK hc hs hP hD hS (by decide) hd hC (fs := [some 1, some 4, some 7, some 10, some 13, some 15, some 25, some 27, some 31, some 32, some 33, none, none]) rfl (by show _ = some 0; decide +kernel) hl.1 (Nat.le_of_ble_eq_true rfl) dL_480 (fun r u H locs hq hP hD hS => ?_)
  obtain ⟨Qm, ⟨d', hd', hM⟩, hfin⟩ := hcont r u hq
  refine lv_aload_n hx hb dL_483 rfl (lv_at hl 2 rfl) ?_
  refine l_call (idx := 66) (y := kX6_quarrel) (q := 34) (as := []) (rest := (r.map Value.int).toList ++ []) C0 hK hc hs hP hD hS (by decide) hd' hM (fs := [some 35, none, none, none, none, none, none, some 36, some 37, some 38, some 39, some 40, some 41, some 42, some 43, some 44, some 45, some 46, some 47, some 48, some 49, some 50, some 51, some 52, some 53, some 54, some 55, some 56, some 57, some 58, none, some 59, none, none]) rfl (by show _ = some 0; decide +kernel) hl.1 (cat_opt r) dL_484 (fun r' v H locs hq hP hD hS => ?_)
  obtain ⟨⟨x, rfl, rfl⟩, hI'⟩ := hfin r' v hq
  refine lv_icmp_eq (x := x) (y := x) (rest := []) (tgt := 842) hx hb dL_487 (by decide) (fun _ => ?_) (fun q => absurd rfl q)
  exact kk v H locs hI' hP hD hS
set_option maxRecDepth 100000 in
set_option maxHeartbeats 4000000 in
theorem lc_12 {p : Program} {l : Launch} {e : Env} {s : State} {m : MethodId} {below : List Frame} {meth : Method} {c : Code} {G : aG} {b L : Nat} {xs : Nat → Int32} {cells slots : Nat} {Q : State → Prop} (hL : L ≤ 3072) (C0 : lw_At p s m meth c b L xs) (hK : va_K G.2.1 vwCl (atys G.2.2) s) (hc : cells ≤ 600000) (hs : slots ≤ 7302250) {i : Nat} {mm : AM} {H : Heap} {locs : List Loc} {ls : Array Slot} (hi : i + 6 ≤ L) (hI : INV mm) (hP : va_P G.2.1 vwCl (wd G.1 G.2.2 mm) H) (hD : va_D (fun q : Nat => s.heap.size ≤ q) (wd G.1 G.2.2 mm)) (hS : va_S (fun q : Nat => s.heap.size ≤ q) s.heap H locs) (hl : lv_has ls 4 [(0, .ref b), (1, .ref (G.1 0)), (2, .ref (G.1 34)), (3, .int (nI i))]) (kk : ∀ (mm' : AM) (H : Heap) (locs : List Loc), INV mm' → va_P G.2.1 vwCl (wd G.1 G.2.2 mm') H → va_D (fun q : Nat => s.heap.size ≤ q) (wd G.1 G.2.2 mm') → va_S (fun q : Nat => s.heap.size ≤ q) s.heap H locs → W p l e room_1 s m #[Value.ref b] below meth c H locs cells slots Q (F0 m 842 ls [])) : W p l e room_1 s m #[Value.ref b] below meth c H locs cells slots Q (F0 m 492 ls []) := by
  obtain ⟨hx, hb, -⟩ := id C0
  refine lv_aload_n hx hb dL_492 rfl (lv_at hl 1 rfl) ?_
  refine l_ld (j := 1) hL C0 hi hS hl (by omega) (by decide) dL_493 dL_494 dL_495 dL_496 dL_497 ?_
  refine l_ld (j := 2) hL C0 hi hS hl (by omega) (by decide) dL_498 dL_499 dL_500 dL_501 dL_502 ?_
  obtain ⟨Qc, ⟨d, hd, hC⟩, hcont⟩ := p_sure hI (xs (i + 1)) (xs (i + 2))
  refine l_call (idx := 67) (y := kX5_sure) (q := 0) (as := [.inl (xs (i + 1)), .inl (xs (i + 2))]) (rest := []) C0 hK hc hs hP hD hS (by decide) hd hC (fs := [some 1, some 4, some 7, some 10, some 13, some 15, some 25, some 27, some 31, some 32, some 33, none, none]) rfl (by show _ = some 2; decide +kernel) hl.1 (Nat.le_of_ble_eq_true rfl) dL_503 (fun r u H locs hq hP hD hS => ?_)
  obtain ⟨Qm, ⟨d', hd', hM⟩, hfin⟩ := hcont r u hq
  refine lv_aload_n hx hb dL_506 rfl (lv_at hl 2 rfl) ?_
  refine l_ld (j := 1) hL C0 hi hS hl (by omega) (by decide) dL_507 dL_508 dL_509 dL_510 dL_511 ?_
  refine l_ld (j := 2) hL C0 hi hS hl (by omega) (by decide) dL_512 dL_513 dL_514 dL_515 dL_516 ?_
  refine l_call (idx := 70) (y := kX6_sure) (q := 34) (as := [.inl (xs (i + 1)), .inl (xs (i + 2))]) (rest := (r.map Value.int).toList ++ []) C0 hK hc hs hP hD hS (by decide) hd' hM (fs := [some 35, none, none, none, none, none, none, some 36, some 37, some 38, some 39, some 40, some 41, some 42, some 43, some 44, some 45, some 46, some 47, some 48, some 49, some 50, some 51, some 52, some 53, some 54, some 55, some 56, some 57, some 58, none, some 59, none, none]) rfl (by show _ = some 2; decide +kernel) hl.1 (cat_opt r) dL_517 (fun r' v H locs hq hP hD hS => ?_)
  obtain ⟨⟨x, rfl, rfl⟩, hI'⟩ := hfin r' v hq
  refine lv_icmp_eq (x := x) (y := x) (rest := []) (tgt := 842) hx hb dL_520 (by decide) (fun _ => ?_) (fun q => absurd rfl q)
  exact kk v H locs hI' hP hD hS
set_option maxRecDepth 100000 in
set_option maxHeartbeats 4000000 in
theorem lc_13 {p : Program} {l : Launch} {e : Env} {s : State} {m : MethodId} {below : List Frame} {meth : Method} {c : Code} {G : aG} {b L : Nat} {xs : Nat → Int32} {cells slots : Nat} {Q : State → Prop} (hL : L ≤ 3072) (C0 : lw_At p s m meth c b L xs) (hK : va_K G.2.1 vwCl (atys G.2.2) s) (hc : cells ≤ 600000) (hs : slots ≤ 7302250) {i : Nat} {mm : AM} {H : Heap} {locs : List Loc} {ls : Array Slot} (hi : i + 6 ≤ L) (hI : INV mm) (hP : va_P G.2.1 vwCl (wd G.1 G.2.2 mm) H) (hD : va_D (fun q : Nat => s.heap.size ≤ q) (wd G.1 G.2.2 mm)) (hS : va_S (fun q : Nat => s.heap.size ≤ q) s.heap H locs) (hl : lv_has ls 4 [(0, .ref b), (1, .ref (G.1 0)), (2, .ref (G.1 34)), (3, .int (nI i))]) (kk : ∀ (mm' : AM) (H : Heap) (locs : List Loc), INV mm' → va_P G.2.1 vwCl (wd G.1 G.2.2 mm') H → va_D (fun q : Nat => s.heap.size ≤ q) (wd G.1 G.2.2 mm') → va_S (fun q : Nat => s.heap.size ≤ q) s.heap H locs → W p l e room_1 s m #[Value.ref b] below meth c H locs cells slots Q (F0 m 842 ls [])) : W p l e room_1 s m #[Value.ref b] below meth c H locs cells slots Q (F0 m 525 ls []) := by
  obtain ⟨hx, hb, -⟩ := id C0
  refine lv_aload_n hx hb dL_525 rfl (lv_at hl 1 rfl) ?_
  refine l_ld (j := 1) hL C0 hi hS hl (by omega) (by decide) dL_526 dL_527 dL_528 dL_529 dL_530 ?_
  refine l_ld (j := 2) hL C0 hi hS hl (by omega) (by decide) dL_531 dL_532 dL_533 dL_534 dL_535 ?_
  refine l_ld (j := 3) hL C0 hi hS hl (by omega) (by decide) dL_536 dL_537 dL_538 dL_539 dL_540 ?_
  refine l_ld (j := 4) hL C0 hi hS hl (by omega) (by decide) dL_541 dL_542 dL_543 dL_544 dL_545 ?_
  refine l_ld (j := 5) hL C0 hi hS hl (by omega) (by decide) dL_546 dL_547 dL_548 dL_549 dL_550 ?_
  obtain ⟨Qc, ⟨d, hd, hC⟩, hcont⟩ := p_feed hI (xs (i + 1)) (xs (i + 2)) (xs (i + 3)) (xs (i + 4)) (xs (i + 5))
  refine l_call (idx := 71) (y := kX5_feed) (q := 0) (as := [.inl (xs (i + 1)), .inl (xs (i + 2)), .inl (xs (i + 3)), .inl (xs (i + 4)), .inl (xs (i + 5))]) (rest := []) C0 hK hc hs hP hD hS (by decide) hd hC (fs := [some 1, some 4, some 7, some 10, some 13, some 15, some 25, some 27, some 31, some 32, some 33, none, none]) rfl (by show _ = some 5; decide +kernel) hl.1 (Nat.le_of_ble_eq_true rfl) dL_551 (fun r u H locs hq hP hD hS => ?_)
  obtain ⟨Qm, ⟨d', hd', hM⟩, hfin⟩ := hcont r u hq
  refine lv_aload_n hx hb dL_554 rfl (lv_at hl 2 rfl) ?_
  refine l_ld (j := 1) hL C0 hi hS hl (by omega) (by decide) dL_555 dL_556 dL_557 dL_558 dL_559 ?_
  refine l_ld (j := 2) hL C0 hi hS hl (by omega) (by decide) dL_560 dL_561 dL_562 dL_563 dL_564 ?_
  refine l_ld (j := 3) hL C0 hi hS hl (by omega) (by decide) dL_565 dL_566 dL_567 dL_568 dL_569 ?_
  refine l_ld (j := 4) hL C0 hi hS hl (by omega) (by decide) dL_570 dL_571 dL_572 dL_573 dL_574 ?_
  refine l_ld (j := 5) hL C0 hi hS hl (by omega) (by decide) dL_575 dL_576 dL_577 dL_578 dL_579 ?_
  refine l_call (idx := 75) (y := kX6_feed) (q := 34) (as := [.inl (xs (i + 1)), .inl (xs (i + 2)), .inl (xs (i + 3)), .inl (xs (i + 4)), .inl (xs (i + 5))]) (rest := (r.map Value.int).toList ++ []) C0 hK hc hs hP hD hS (by decide) hd' hM (fs := [some 35, none, none, none, none, none, none, some 36, some 37, some 38, some 39, some 40, some 41, some 42, some 43, some 44, some 45, some 46, some 47, some 48, some 49, some 50, some 51, some 52, some 53, some 54, some 55, some 56, some 57, some 58, none, some 59, none, none]) rfl (by show _ = some 5; decide +kernel) hl.1 (cat_opt r) dL_580 (fun r' v H locs hq hP hD hS => ?_)
  obtain ⟨⟨x, rfl, rfl⟩, hI'⟩ := hfin r' v hq
  refine lv_icmp_eq (x := x) (y := x) (rest := []) (tgt := 842) hx hb dL_583 (by decide) (fun _ => ?_) (fun q => absurd rfl q)
  exact kk v H locs hI' hP hD hS
set_option maxRecDepth 100000 in
set_option maxHeartbeats 4000000 in
theorem lc_14 {p : Program} {l : Launch} {e : Env} {s : State} {m : MethodId} {below : List Frame} {meth : Method} {c : Code} {G : aG} {b L : Nat} {xs : Nat → Int32} {cells slots : Nat} {Q : State → Prop} (hL : L ≤ 3072) (C0 : lw_At p s m meth c b L xs) (hK : va_K G.2.1 vwCl (atys G.2.2) s) (hc : cells ≤ 600000) (hs : slots ≤ 7302250) {i : Nat} {mm : AM} {H : Heap} {locs : List Loc} {ls : Array Slot} (hi : i + 6 ≤ L) (hI : INV mm) (hP : va_P G.2.1 vwCl (wd G.1 G.2.2 mm) H) (hD : va_D (fun q : Nat => s.heap.size ≤ q) (wd G.1 G.2.2 mm)) (hS : va_S (fun q : Nat => s.heap.size ≤ q) s.heap H locs) (hl : lv_has ls 4 [(0, .ref b), (1, .ref (G.1 0)), (2, .ref (G.1 34)), (3, .int (nI i))]) (kk : ∀ (mm' : AM) (H : Heap) (locs : List Loc), INV mm' → va_P G.2.1 vwCl (wd G.1 G.2.2 mm') H → va_D (fun q : Nat => s.heap.size ≤ q) (wd G.1 G.2.2 mm') → va_S (fun q : Nat => s.heap.size ≤ q) s.heap H locs → W p l e room_1 s m #[Value.ref b] below meth c H locs cells slots Q (F0 m 842 ls [])) : W p l e room_1 s m #[Value.ref b] below meth c H locs cells slots Q (F0 m 588 ls []) := by
  obtain ⟨hx, hb, -⟩ := id C0
  refine lv_aload_n hx hb dL_588 rfl (lv_at hl 1 rfl) ?_
  refine l_ld (j := 1) hL C0 hi hS hl (by omega) (by decide) dL_589 dL_590 dL_591 dL_592 dL_593 ?_
  refine l_ld (j := 2) hL C0 hi hS hl (by omega) (by decide) dL_594 dL_595 dL_596 dL_597 dL_598 ?_
  obtain ⟨Qc, ⟨d, hd, hC⟩, hcont⟩ := p_words hI (xs (i + 1)) (xs (i + 2))
  refine l_call (idx := 76) (y := kX5_words) (q := 0) (as := [.inl (xs (i + 1)), .inl (xs (i + 2))]) (rest := []) C0 hK hc hs hP hD hS (by decide) hd hC (fs := [some 1, some 4, some 7, some 10, some 13, some 15, some 25, some 27, some 31, some 32, some 33, none, none]) rfl (by show _ = some 2; decide +kernel) hl.1 (Nat.le_of_ble_eq_true rfl) dL_599 (fun r u H locs hq hP hD hS => ?_)
  obtain ⟨Qm, ⟨d', hd', hM⟩, hfin⟩ := hcont r u hq
  refine lv_aload_n hx hb dL_602 rfl (lv_at hl 2 rfl) ?_
  refine l_ld (j := 1) hL C0 hi hS hl (by omega) (by decide) dL_603 dL_604 dL_605 dL_606 dL_607 ?_
  refine l_ld (j := 2) hL C0 hi hS hl (by omega) (by decide) dL_608 dL_609 dL_610 dL_611 dL_612 ?_
  refine l_call (idx := 80) (y := kX6_words) (q := 34) (as := [.inl (xs (i + 1)), .inl (xs (i + 2))]) (rest := (r.map Value.int).toList ++ []) C0 hK hc hs hP hD hS (by decide) hd' hM (fs := [some 35, none, none, none, none, none, none, some 36, some 37, some 38, some 39, some 40, some 41, some 42, some 43, some 44, some 45, some 46, some 47, some 48, some 49, some 50, some 51, some 52, some 53, some 54, some 55, some 56, some 57, some 58, none, some 59, none, none]) rfl (by show _ = some 2; decide +kernel) hl.1 (cat_opt r) dL_613 (fun r' v H locs hq hP hD hS => ?_)
  obtain ⟨⟨x, rfl, rfl⟩, hI'⟩ := hfin r' v hq
  refine lv_icmp_eq (x := x) (y := x) (rest := []) (tgt := 842) hx hb dL_616 (by decide) (fun _ => ?_) (fun q => absurd rfl q)
  exact kk v H locs hI' hP hD hS
set_option maxRecDepth 100000 in
set_option maxHeartbeats 4000000 in
theorem lc_15 {p : Program} {l : Launch} {e : Env} {s : State} {m : MethodId} {below : List Frame} {meth : Method} {c : Code} {G : aG} {b L : Nat} {xs : Nat → Int32} {cells slots : Nat} {Q : State → Prop} (hL : L ≤ 3072) (C0 : lw_At p s m meth c b L xs) (hK : va_K G.2.1 vwCl (atys G.2.2) s) (hc : cells ≤ 600000) (hs : slots ≤ 7302250) {i : Nat} {mm : AM} {H : Heap} {locs : List Loc} {ls : Array Slot} (hi : i + 6 ≤ L) (hI : INV mm) (hP : va_P G.2.1 vwCl (wd G.1 G.2.2 mm) H) (hD : va_D (fun q : Nat => s.heap.size ≤ q) (wd G.1 G.2.2 mm)) (hS : va_S (fun q : Nat => s.heap.size ≤ q) s.heap H locs) (hl : lv_has ls 4 [(0, .ref b), (1, .ref (G.1 0)), (2, .ref (G.1 34)), (3, .int (nI i))]) (kk : ∀ (mm' : AM) (H : Heap) (locs : List Loc), INV mm' → va_P G.2.1 vwCl (wd G.1 G.2.2 mm') H → va_D (fun q : Nat => s.heap.size ≤ q) (wd G.1 G.2.2 mm') → va_S (fun q : Nat => s.heap.size ≤ q) s.heap H locs → W p l e room_1 s m #[Value.ref b] below meth c H locs cells slots Q (F0 m 842 ls [])) : W p l e room_1 s m #[Value.ref b] below meth c H locs cells slots Q (F0 m 621 ls []) := by
  obtain ⟨hx, hb, -⟩ := id C0
  refine lv_aload_n hx hb dL_621 rfl (lv_at hl 1 rfl) ?_
  refine l_ld (j := 1) hL C0 hi hS hl (by omega) (by decide) dL_622 dL_623 dL_624 dL_625 dL_626 ?_
  refine l_ld (j := 2) hL C0 hi hS hl (by omega) (by decide) dL_627 dL_628 dL_629 dL_630 dL_631 ?_
  obtain ⟨Qc, ⟨d, hd, hC⟩, hcont⟩ := p_model hI (xs (i + 1)) (xs (i + 2))
  refine l_call (idx := 81) (y := kX5_model) (q := 0) (as := [.inl (xs (i + 1)), .inl (xs (i + 2))]) (rest := []) C0 hK hc hs hP hD hS (by decide) hd hC (fs := [some 1, some 4, some 7, some 10, some 13, some 15, some 25, some 27, some 31, some 32, some 33, none, none]) rfl (by show _ = some 2; decide +kernel) hl.1 (Nat.le_of_ble_eq_true rfl) dL_632 (fun r u H locs hq hP hD hS => ?_)
  obtain ⟨Qm, ⟨d', hd', hM⟩, hfin⟩ := hcont r u hq
  refine lv_aload_n hx hb dL_635 rfl (lv_at hl 2 rfl) ?_
  refine l_ld (j := 1) hL C0 hi hS hl (by omega) (by decide) dL_636 dL_637 dL_638 dL_639 dL_640 ?_
  refine l_ld (j := 2) hL C0 hi hS hl (by omega) (by decide) dL_641 dL_642 dL_643 dL_644 dL_645 ?_
  refine l_call (idx := 84) (y := kX6_model) (q := 34) (as := [.inl (xs (i + 1)), .inl (xs (i + 2))]) (rest := (r.map Value.int).toList ++ []) C0 hK hc hs hP hD hS (by decide) hd' hM (fs := [some 35, none, none, none, none, none, none, some 36, some 37, some 38, some 39, some 40, some 41, some 42, some 43, some 44, some 45, some 46, some 47, some 48, some 49, some 50, some 51, some 52, some 53, some 54, some 55, some 56, some 57, some 58, none, some 59, none, none]) rfl (by show _ = some 2; decide +kernel) hl.1 (cat_opt r) dL_646 (fun r' v H locs hq hP hD hS => ?_)
  obtain ⟨⟨x, rfl, rfl⟩, hI'⟩ := hfin r' v hq
  refine lv_icmp_eq (x := x) (y := x) (rest := []) (tgt := 842) hx hb dL_649 (by decide) (fun _ => ?_) (fun q => absurd rfl q)
  exact kk v H locs hI' hP hD hS
set_option maxRecDepth 100000 in
set_option maxHeartbeats 4000000 in
theorem lc_16 {p : Program} {l : Launch} {e : Env} {s : State} {m : MethodId} {below : List Frame} {meth : Method} {c : Code} {G : aG} {b L : Nat} {xs : Nat → Int32} {cells slots : Nat} {Q : State → Prop} (hL : L ≤ 3072) (C0 : lw_At p s m meth c b L xs) (hK : va_K G.2.1 vwCl (atys G.2.2) s) (hc : cells ≤ 600000) (hs : slots ≤ 7302250) {i : Nat} {mm : AM} {H : Heap} {locs : List Loc} {ls : Array Slot} (hi : i + 6 ≤ L) (hI : INV mm) (hP : va_P G.2.1 vwCl (wd G.1 G.2.2 mm) H) (hD : va_D (fun q : Nat => s.heap.size ≤ q) (wd G.1 G.2.2 mm)) (hS : va_S (fun q : Nat => s.heap.size ≤ q) s.heap H locs) (hl : lv_has ls 4 [(0, .ref b), (1, .ref (G.1 0)), (2, .ref (G.1 34)), (3, .int (nI i))]) (kk : ∀ (mm' : AM) (H : Heap) (locs : List Loc), INV mm' → va_P G.2.1 vwCl (wd G.1 G.2.2 mm') H → va_D (fun q : Nat => s.heap.size ≤ q) (wd G.1 G.2.2 mm') → va_S (fun q : Nat => s.heap.size ≤ q) s.heap H locs → W p l e room_1 s m #[Value.ref b] below meth c H locs cells slots Q (F0 m 842 ls [])) : W p l e room_1 s m #[Value.ref b] below meth c H locs cells slots Q (F0 m 654 ls []) := by
  obtain ⟨hx, hb, -⟩ := id C0
  refine lv_aload_n hx hb dL_654 rfl (lv_at hl 1 rfl) ?_
  refine l_ld (j := 1) hL C0 hi hS hl (by omega) (by decide) dL_655 dL_656 dL_657 dL_658 dL_659 ?_
  refine l_ld (j := 2) hL C0 hi hS hl (by omega) (by decide) dL_660 dL_661 dL_662 dL_663 dL_664 ?_
  refine l_ld (j := 3) hL C0 hi hS hl (by omega) (by decide) dL_665 dL_666 dL_667 dL_668 dL_669 ?_
  obtain ⟨Qc, ⟨d, hd, hC⟩, hcont⟩ := p_claim hI (xs (i + 1)) (xs (i + 2)) (xs (i + 3))
  refine l_call (idx := 85) (y := kX5_claim) (q := 0) (as := [.inl (xs (i + 1)), .inl (xs (i + 2)), .inl (xs (i + 3))]) (rest := []) C0 hK hc hs hP hD hS (by decide) hd hC (fs := [some 1, some 4, some 7, some 10, some 13, some 15, some 25, some 27, some 31, some 32, some 33, none, none]) rfl (by show _ = some 3; decide +kernel) hl.1 (Nat.le_of_ble_eq_true rfl) dL_670 (fun r u H locs hq hP hD hS => ?_)
  obtain ⟨Qm, ⟨d', hd', hM⟩, hfin⟩ := hcont r u hq
  refine lv_aload_n hx hb dL_673 rfl (lv_at hl 2 rfl) ?_
  refine l_ld (j := 1) hL C0 hi hS hl (by omega) (by decide) dL_674 dL_675 dL_676 dL_677 dL_678 ?_
  refine l_ld (j := 2) hL C0 hi hS hl (by omega) (by decide) dL_679 dL_680 dL_681 dL_682 dL_683 ?_
  refine l_ld (j := 3) hL C0 hi hS hl (by omega) (by decide) dL_684 dL_685 dL_686 dL_687 dL_688 ?_
  refine l_call (idx := 88) (y := kX6_claim) (q := 34) (as := [.inl (xs (i + 1)), .inl (xs (i + 2)), .inl (xs (i + 3))]) (rest := (r.map Value.int).toList ++ []) C0 hK hc hs hP hD hS (by decide) hd' hM (fs := [some 35, none, none, none, none, none, none, some 36, some 37, some 38, some 39, some 40, some 41, some 42, some 43, some 44, some 45, some 46, some 47, some 48, some 49, some 50, some 51, some 52, some 53, some 54, some 55, some 56, some 57, some 58, none, some 59, none, none]) rfl (by show _ = some 3; decide +kernel) hl.1 (cat_opt r) dL_689 (fun r' v H locs hq hP hD hS => ?_)
  obtain ⟨⟨x, rfl, rfl⟩, hI'⟩ := hfin r' v hq
  refine lv_icmp_eq (x := x) (y := x) (rest := []) (tgt := 842) hx hb dL_692 (by decide) (fun _ => ?_) (fun q => absurd rfl q)
  exact kk v H locs hI' hP hD hS
set_option maxRecDepth 100000 in
set_option maxHeartbeats 4000000 in
theorem lc_17 {p : Program} {l : Launch} {e : Env} {s : State} {m : MethodId} {below : List Frame} {meth : Method} {c : Code} {G : aG} {b L : Nat} {xs : Nat → Int32} {cells slots : Nat} {Q : State → Prop} (hL : L ≤ 3072) (C0 : lw_At p s m meth c b L xs) (hK : va_K G.2.1 vwCl (atys G.2.2) s) (hc : cells ≤ 600000) (hs : slots ≤ 7302250) {i : Nat} {mm : AM} {H : Heap} {locs : List Loc} {ls : Array Slot} (hi : i + 6 ≤ L) (hI : INV mm) (hP : va_P G.2.1 vwCl (wd G.1 G.2.2 mm) H) (hD : va_D (fun q : Nat => s.heap.size ≤ q) (wd G.1 G.2.2 mm)) (hS : va_S (fun q : Nat => s.heap.size ≤ q) s.heap H locs) (hl : lv_has ls 4 [(0, .ref b), (1, .ref (G.1 0)), (2, .ref (G.1 34)), (3, .int (nI i))]) (kk : ∀ (mm' : AM) (H : Heap) (locs : List Loc), INV mm' → va_P G.2.1 vwCl (wd G.1 G.2.2 mm') H → va_D (fun q : Nat => s.heap.size ≤ q) (wd G.1 G.2.2 mm') → va_S (fun q : Nat => s.heap.size ≤ q) s.heap H locs → W p l e room_1 s m #[Value.ref b] below meth c H locs cells slots Q (F0 m 842 ls [])) : W p l e room_1 s m #[Value.ref b] below meth c H locs cells slots Q (F0 m 697 ls []) := by
  obtain ⟨hx, hb, -⟩ := id C0
  refine lv_aload_n hx hb dL_697 rfl (lv_at hl 1 rfl) ?_
  refine l_ld (j := 1) hL C0 hi hS hl (by omega) (by decide) dL_698 dL_699 dL_700 dL_701 dL_702 ?_
  refine l_ld (j := 2) hL C0 hi hS hl (by omega) (by decide) dL_703 dL_704 dL_705 dL_706 dL_707 ?_
  obtain ⟨Qc, ⟨d, hd, hC⟩, hcont⟩ := p_clash hI (xs (i + 1)) (xs (i + 2))
  refine l_call (idx := 89) (y := kX5_clash) (q := 0) (as := [.inl (xs (i + 1)), .inl (xs (i + 2))]) (rest := []) C0 hK hc hs hP hD hS (by decide) hd hC (fs := [some 1, some 4, some 7, some 10, some 13, some 15, some 25, some 27, some 31, some 32, some 33, none, none]) rfl (by show _ = some 2; decide +kernel) hl.1 (Nat.le_of_ble_eq_true rfl) dL_708 (fun r u H locs hq hP hD hS => ?_)
  obtain ⟨Qm, ⟨d', hd', hM⟩, hfin⟩ := hcont r u hq
  refine lv_aload_n hx hb dL_711 rfl (lv_at hl 2 rfl) ?_
  refine l_ld (j := 1) hL C0 hi hS hl (by omega) (by decide) dL_712 dL_713 dL_714 dL_715 dL_716 ?_
  refine l_ld (j := 2) hL C0 hi hS hl (by omega) (by decide) dL_717 dL_718 dL_719 dL_720 dL_721 ?_
  refine l_call (idx := 92) (y := kX6_clash) (q := 34) (as := [.inl (xs (i + 1)), .inl (xs (i + 2))]) (rest := (r.map Value.int).toList ++ []) C0 hK hc hs hP hD hS (by decide) hd' hM (fs := [some 35, none, none, none, none, none, none, some 36, some 37, some 38, some 39, some 40, some 41, some 42, some 43, some 44, some 45, some 46, some 47, some 48, some 49, some 50, some 51, some 52, some 53, some 54, some 55, some 56, some 57, some 58, none, some 59, none, none]) rfl (by show _ = some 2; decide +kernel) hl.1 (cat_opt r) dL_722 (fun r' v H locs hq hP hD hS => ?_)
  obtain ⟨⟨x, rfl, rfl⟩, hI'⟩ := hfin r' v hq
  refine lv_icmp_eq (x := x) (y := x) (rest := []) (tgt := 842) hx hb dL_725 (by decide) (fun _ => ?_) (fun q => absurd rfl q)
  exact kk v H locs hI' hP hD hS
set_option maxRecDepth 100000 in
set_option maxHeartbeats 4000000 in
theorem lc_18 {p : Program} {l : Launch} {e : Env} {s : State} {m : MethodId} {below : List Frame} {meth : Method} {c : Code} {G : aG} {b L : Nat} {xs : Nat → Int32} {cells slots : Nat} {Q : State → Prop} (hL : L ≤ 3072) (C0 : lw_At p s m meth c b L xs) (hK : va_K G.2.1 vwCl (atys G.2.2) s) (hc : cells ≤ 600000) (hs : slots ≤ 7302250) {i : Nat} {mm : AM} {H : Heap} {locs : List Loc} {ls : Array Slot} (hi : i + 6 ≤ L) (hI : INV mm) (hP : va_P G.2.1 vwCl (wd G.1 G.2.2 mm) H) (hD : va_D (fun q : Nat => s.heap.size ≤ q) (wd G.1 G.2.2 mm)) (hS : va_S (fun q : Nat => s.heap.size ≤ q) s.heap H locs) (hl : lv_has ls 4 [(0, .ref b), (1, .ref (G.1 0)), (2, .ref (G.1 34)), (3, .int (nI i))]) (kk : ∀ (mm' : AM) (H : Heap) (locs : List Loc), INV mm' → va_P G.2.1 vwCl (wd G.1 G.2.2 mm') H → va_D (fun q : Nat => s.heap.size ≤ q) (wd G.1 G.2.2 mm') → va_S (fun q : Nat => s.heap.size ≤ q) s.heap H locs → W p l e room_1 s m #[Value.ref b] below meth c H locs cells slots Q (F0 m 842 ls [])) : W p l e room_1 s m #[Value.ref b] below meth c H locs cells slots Q (F0 m 730 ls []) := by
  obtain ⟨hx, hb, -⟩ := id C0
  refine lv_aload_n hx hb dL_730 rfl (lv_at hl 1 rfl) ?_
  refine l_ld (j := 1) hL C0 hi hS hl (by omega) (by decide) dL_731 dL_732 dL_733 dL_734 dL_735 ?_
  refine l_ld (j := 2) hL C0 hi hS hl (by omega) (by decide) dL_736 dL_737 dL_738 dL_739 dL_740 ?_
  obtain ⟨Qc, ⟨d, hd, hC⟩, hcont⟩ := p_court hI (xs (i + 1)) (xs (i + 2))
  refine l_call (idx := 93) (y := kX5_court) (q := 0) (as := [.inl (xs (i + 1)), .inl (xs (i + 2))]) (rest := []) C0 hK hc hs hP hD hS (by decide) hd hC (fs := [some 1, some 4, some 7, some 10, some 13, some 15, some 25, some 27, some 31, some 32, some 33, none, none]) rfl (by show _ = some 2; decide +kernel) hl.1 (Nat.le_of_ble_eq_true rfl) dL_741 (fun r u H locs hq hP hD hS => ?_)
  obtain ⟨Qm, ⟨d', hd', hM⟩, hfin⟩ := hcont r u hq
  refine lv_aload_n hx hb dL_744 rfl (lv_at hl 2 rfl) ?_
  refine l_ld (j := 1) hL C0 hi hS hl (by omega) (by decide) dL_745 dL_746 dL_747 dL_748 dL_749 ?_
  refine l_ld (j := 2) hL C0 hi hS hl (by omega) (by decide) dL_750 dL_751 dL_752 dL_753 dL_754 ?_
  refine l_call (idx := 96) (y := kX6_court) (q := 34) (as := [.inl (xs (i + 1)), .inl (xs (i + 2))]) (rest := (r.map Value.int).toList ++ []) C0 hK hc hs hP hD hS (by decide) hd' hM (fs := [some 35, none, none, none, none, none, none, some 36, some 37, some 38, some 39, some 40, some 41, some 42, some 43, some 44, some 45, some 46, some 47, some 48, some 49, some 50, some 51, some 52, some 53, some 54, some 55, some 56, some 57, some 58, none, some 59, none, none]) rfl (by show _ = some 2; decide +kernel) hl.1 (cat_opt r) dL_755 (fun r' v H locs hq hP hD hS => ?_)
  obtain ⟨⟨x, rfl, rfl⟩, hI'⟩ := hfin r' v hq
  refine lv_icmp_eq (x := x) (y := x) (rest := []) (tgt := 842) hx hb dL_758 (by decide) (fun _ => ?_) (fun q => absurd rfl q)
  exact kk v H locs hI' hP hD hS
set_option maxRecDepth 100000 in
set_option maxHeartbeats 4000000 in
theorem lc_19 {p : Program} {l : Launch} {e : Env} {s : State} {m : MethodId} {below : List Frame} {meth : Method} {c : Code} {G : aG} {b L : Nat} {xs : Nat → Int32} {cells slots : Nat} {Q : State → Prop} (hL : L ≤ 3072) (C0 : lw_At p s m meth c b L xs) (hK : va_K G.2.1 vwCl (atys G.2.2) s) (hc : cells ≤ 600000) (hs : slots ≤ 7302250) {i : Nat} {mm : AM} {H : Heap} {locs : List Loc} {ls : Array Slot} (hi : i + 6 ≤ L) (hI : INV mm) (hP : va_P G.2.1 vwCl (wd G.1 G.2.2 mm) H) (hD : va_D (fun q : Nat => s.heap.size ≤ q) (wd G.1 G.2.2 mm)) (hS : va_S (fun q : Nat => s.heap.size ≤ q) s.heap H locs) (hl : lv_has ls 4 [(0, .ref b), (1, .ref (G.1 0)), (2, .ref (G.1 34)), (3, .int (nI i))]) (kk : ∀ (mm' : AM) (H : Heap) (locs : List Loc), INV mm' → va_P G.2.1 vwCl (wd G.1 G.2.2 mm') H → va_D (fun q : Nat => s.heap.size ≤ q) (wd G.1 G.2.2 mm') → va_S (fun q : Nat => s.heap.size ≤ q) s.heap H locs → W p l e room_1 s m #[Value.ref b] below meth c H locs cells slots Q (F0 m 842 ls [])) : W p l e room_1 s m #[Value.ref b] below meth c H locs cells slots Q (F0 m 763 ls []) := by
  obtain ⟨hx, hb, -⟩ := id C0
  refine lv_aload_n hx hb dL_763 rfl (lv_at hl 1 rfl) ?_
  refine l_ld (j := 1) hL C0 hi hS hl (by omega) (by decide) dL_764 dL_765 dL_766 dL_767 dL_768 ?_
  obtain ⟨Qc, ⟨d, hd, hC⟩, hcont⟩ := p_otherwise hI (xs (i + 1))
  refine l_call (idx := 97) (y := kX5_otherwise) (q := 0) (as := [.inl (xs (i + 1))]) (rest := []) C0 hK hc hs hP hD hS (by decide) hd hC (fs := [some 1, some 4, some 7, some 10, some 13, some 15, some 25, some 27, some 31, some 32, some 33, none, none]) rfl (by show _ = some 1; decide +kernel) hl.1 (Nat.le_of_ble_eq_true rfl) dL_769 (fun r u H locs hq hP hD hS => ?_)
  obtain ⟨Qm, ⟨d', hd', hM⟩, hfin⟩ := hcont r u hq
  refine lv_aload_n hx hb dL_772 rfl (lv_at hl 2 rfl) ?_
  refine l_ld (j := 1) hL C0 hi hS hl (by omega) (by decide) dL_773 dL_774 dL_775 dL_776 dL_777 ?_
  refine l_call (idx := 100) (y := kX6_otherwise) (q := 34) (as := [.inl (xs (i + 1))]) (rest := (r.map Value.int).toList ++ []) C0 hK hc hs hP hD hS (by decide) hd' hM (fs := [some 35, none, none, none, none, none, none, some 36, some 37, some 38, some 39, some 40, some 41, some 42, some 43, some 44, some 45, some 46, some 47, some 48, some 49, some 50, some 51, some 52, some 53, some 54, some 55, some 56, some 57, some 58, none, some 59, none, none]) rfl (by show _ = some 1; decide +kernel) hl.1 (cat_opt r) dL_778 (fun r' v H locs hq hP hD hS => ?_)
  obtain ⟨⟨x, rfl, rfl⟩, hI'⟩ := hfin r' v hq
  refine lv_icmp_eq (x := x) (y := x) (rest := []) (tgt := 842) hx hb dL_781 (by decide) (fun _ => ?_) (fun q => absurd rfl q)
  exact kk v H locs hI' hP hD hS
set_option maxRecDepth 100000 in
set_option maxHeartbeats 4000000 in
theorem lc_20 {p : Program} {l : Launch} {e : Env} {s : State} {m : MethodId} {below : List Frame} {meth : Method} {c : Code} {G : aG} {b L : Nat} {xs : Nat → Int32} {cells slots : Nat} {Q : State → Prop} (hL : L ≤ 3072) (C0 : lw_At p s m meth c b L xs) (hK : va_K G.2.1 vwCl (atys G.2.2) s) (hc : cells ≤ 600000) (hs : slots ≤ 7302250) {i : Nat} {mm : AM} {H : Heap} {locs : List Loc} {ls : Array Slot} (hi : i + 6 ≤ L) (hI : INV mm) (hP : va_P G.2.1 vwCl (wd G.1 G.2.2 mm) H) (hD : va_D (fun q : Nat => s.heap.size ≤ q) (wd G.1 G.2.2 mm)) (hS : va_S (fun q : Nat => s.heap.size ≤ q) s.heap H locs) (hl : lv_has ls 4 [(0, .ref b), (1, .ref (G.1 0)), (2, .ref (G.1 34)), (3, .int (nI i))]) (kk : ∀ (mm' : AM) (H : Heap) (locs : List Loc), INV mm' → va_P G.2.1 vwCl (wd G.1 G.2.2 mm') H → va_D (fun q : Nat => s.heap.size ≤ q) (wd G.1 G.2.2 mm') → va_S (fun q : Nat => s.heap.size ≤ q) s.heap H locs → W p l e room_1 s m #[Value.ref b] below meth c H locs cells slots Q (F0 m 842 ls [])) : W p l e room_1 s m #[Value.ref b] below meth c H locs cells slots Q (F0 m 786 ls []) := by
  obtain ⟨hx, hb, -⟩ := id C0
  refine lv_aload_n hx hb dL_786 rfl (lv_at hl 1 rfl) ?_
  refine l_ld (j := 1) hL C0 hi hS hl (by omega) (by decide) dL_787 dL_788 dL_789 dL_790 dL_791 ?_
  refine l_ld (j := 2) hL C0 hi hS hl (by omega) (by decide) dL_792 dL_793 dL_794 dL_795 dL_796 ?_
  obtain ⟨Qc, ⟨d, hd, hC⟩, hcont⟩ := p_look hI (xs (i + 1)) (xs (i + 2))
  refine l_call (idx := 101) (y := kX5_look) (q := 0) (as := [.inl (xs (i + 1)), .inl (xs (i + 2))]) (rest := []) C0 hK hc hs hP hD hS (by decide) hd hC (fs := [some 1, some 4, some 7, some 10, some 13, some 15, some 25, some 27, some 31, some 32, some 33, none, none]) rfl (by show _ = some 2; decide +kernel) hl.1 (Nat.le_of_ble_eq_true rfl) dL_797 (fun r u H locs hq hP hD hS => ?_)
  obtain ⟨Qm, ⟨d', hd', hM⟩, hfin⟩ := hcont r u hq
  refine lv_aload_n hx hb dL_800 rfl (lv_at hl 2 rfl) ?_
  refine l_ld (j := 1) hL C0 hi hS hl (by omega) (by decide) dL_801 dL_802 dL_803 dL_804 dL_805 ?_
  refine l_ld (j := 2) hL C0 hi hS hl (by omega) (by decide) dL_806 dL_807 dL_808 dL_809 dL_810 ?_
  refine l_call (idx := 104) (y := kX6_look) (q := 34) (as := [.inl (xs (i + 1)), .inl (xs (i + 2))]) (rest := (r.map Value.int).toList ++ []) C0 hK hc hs hP hD hS (by decide) hd' hM (fs := [some 35, none, none, none, none, none, none, some 36, some 37, some 38, some 39, some 40, some 41, some 42, some 43, some 44, some 45, some 46, some 47, some 48, some 49, some 50, some 51, some 52, some 53, some 54, some 55, some 56, some 57, some 58, none, some 59, none, none]) rfl (by show _ = some 2; decide +kernel) hl.1 (cat_opt r) dL_811 (fun r' v H locs hq hP hD hS => ?_)
  obtain ⟨⟨x, rfl, rfl⟩, hI'⟩ := hfin r' v hq
  refine lv_icmp_eq (x := x) (y := x) (rest := []) (tgt := 842) hx hb dL_814 (by decide) (fun _ => ?_) (fun q => absurd rfl q)
  exact kk v H locs hI' hP hD hS
set_option maxRecDepth 100000 in
set_option maxHeartbeats 4000000 in
theorem lc_21 {p : Program} {l : Launch} {e : Env} {s : State} {m : MethodId} {below : List Frame} {meth : Method} {c : Code} {G : aG} {b L : Nat} {xs : Nat → Int32} {cells slots : Nat} {Q : State → Prop} (hL : L ≤ 3072) (C0 : lw_At p s m meth c b L xs) (hK : va_K G.2.1 vwCl (atys G.2.2) s) (hc : cells ≤ 600000) (hs : slots ≤ 7302250) {i : Nat} {mm : AM} {H : Heap} {locs : List Loc} {ls : Array Slot} (hi : i + 6 ≤ L) (hI : INV mm) (hP : va_P G.2.1 vwCl (wd G.1 G.2.2 mm) H) (hD : va_D (fun q : Nat => s.heap.size ≤ q) (wd G.1 G.2.2 mm)) (hS : va_S (fun q : Nat => s.heap.size ≤ q) s.heap H locs) (hl : lv_has ls 4 [(0, .ref b), (1, .ref (G.1 0)), (2, .ref (G.1 34)), (3, .int (nI i))]) (kk : ∀ (mm' : AM) (H : Heap) (locs : List Loc), INV mm' → va_P G.2.1 vwCl (wd G.1 G.2.2 mm') H → va_D (fun q : Nat => s.heap.size ≤ q) (wd G.1 G.2.2 mm') → va_S (fun q : Nat => s.heap.size ≤ q) s.heap H locs → W p l e room_1 s m #[Value.ref b] below meth c H locs cells slots Q (F0 m 842 ls [])) : W p l e room_1 s m #[Value.ref b] below meth c H locs cells slots Q (F0 m 819 ls []) := by
  obtain ⟨hx, hb, -⟩ := id C0
  refine lv_aload_n hx hb dL_819 rfl (lv_at hl 1 rfl) ?_
  refine l_ld (j := 1) hL C0 hi hS hl (by omega) (by decide) dL_820 dL_821 dL_822 dL_823 dL_824 ?_
  obtain ⟨Qc, ⟨d, hd, hC⟩, hcont⟩ := p_count hI (xs (i + 1))
  refine l_call (idx := 105) (y := kX5_count) (q := 0) (as := [.inl (xs (i + 1))]) (rest := []) C0 hK hc hs hP hD hS (by decide) hd hC (fs := [some 1, some 4, some 7, some 10, some 13, some 15, some 25, some 27, some 31, some 32, some 33, none, none]) rfl (by show _ = some 1; decide +kernel) hl.1 (Nat.le_of_ble_eq_true rfl) dL_825 (fun r u H locs hq hP hD hS => ?_)
  obtain ⟨Qm, ⟨d', hd', hM⟩, hfin⟩ := hcont r u hq
  refine lv_aload_n hx hb dL_828 rfl (lv_at hl 2 rfl) ?_
  refine l_ld (j := 1) hL C0 hi hS hl (by omega) (by decide) dL_829 dL_830 dL_831 dL_832 dL_833 ?_
  refine l_call (idx := 108) (y := kX6_count) (q := 34) (as := [.inl (xs (i + 1))]) (rest := (r.map Value.int).toList ++ []) C0 hK hc hs hP hD hS (by decide) hd' hM (fs := [some 35, none, none, none, none, none, none, some 36, some 37, some 38, some 39, some 40, some 41, some 42, some 43, some 44, some 45, some 46, some 47, some 48, some 49, some 50, some 51, some 52, some 53, some 54, some 55, some 56, some 57, some 58, none, some 59, none, none]) rfl (by show _ = some 1; decide +kernel) hl.1 (cat_opt r) dL_834 (fun r' v H locs hq hP hD hS => ?_)
  obtain ⟨⟨x, rfl, rfl⟩, hI'⟩ := hfin r' v hq
  refine lv_icmp_eq (x := x) (y := x) (rest := []) (tgt := 842) hx hb dL_837 (by decide) (fun _ => ?_) (fun q => absurd rfl q)
  exact kk v H locs hI' hP hD hS
