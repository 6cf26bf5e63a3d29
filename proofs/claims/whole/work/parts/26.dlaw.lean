theorem d0_0 : decode (xbc 0) 0 = .ok (.new 7, 3) := by decide +kernel
theorem d0_3 : decode (xbc 0) 3 = .ok (.dup, 1) := by decide +kernel
theorem d0_4 : decode (xbc 0) 4 = .ok (.invokespecial 9, 3) := by decide +kernel
theorem d0_7 : decode (xbc 0) 7 = .ok (.astore_n 1, 1) := by decide +kernel
theorem d0_8 : decode (xbc 0) 8 = .ok (.new 10, 3) := by decide +kernel
theorem d0_11 : decode (xbc 0) 11 = .ok (.dup, 1) := by decide +kernel
theorem d0_12 : decode (xbc 0) 12 = .ok (.invokespecial 12, 3) := by decide +kernel
theorem d0_15 : decode (xbc 0) 15 = .ok (.astore_n 2, 1) := by decide +kernel
theorem d0_16 : decode (xbc 0) 16 = .ok (.iconst 0, 1) := by decide +kernel
theorem d0_17 : decode (xbc 0) 17 = .ok (.istore_n 3, 1) := by decide +kernel
theorem d0_18 : decode (xbc 0) 18 = .ok (.iload_n 3, 1) := by decide +kernel
theorem d0_19 : decode (xbc 0) 19 = .ok (.aload_n 0, 1) := by decide +kernel
theorem d0_20 : decode (xbc 0) 20 = .ok (.arraylength, 1) := by decide +kernel
theorem d0_21 : decode (xbc 0) 21 = .ok (.iconst 5, 1) := by decide +kernel
theorem d0_22 : decode (xbc 0) 22 = .ok (.isub, 1) := by decide +kernel
theorem d0_23 : decode (xbc 0) 23 = .ok (.if_icmp .gt 877, 3) := by decide +kernel
theorem d0_26 : decode (xbc 0) 26 = .ok (.aload_n 0, 1) := by decide +kernel
theorem d0_27 : decode (xbc 0) 27 = .ok (.iload_n 3, 1) := by decide +kernel
theorem d0_28 : decode (xbc 0) 28 = .ok (.iaload, 1) := by decide +kernel
theorem d0_29 : decode (xbc 0) 29 = .ok (.bipush 31, 2) := by decide +kernel
theorem d0_31 : decode (xbc 0) 31 = .ok (.iand, 1) := by decide +kernel
theorem d0_32 : decode (xbc 0) 32 = .ok (.tableswitch 862 0 24 #[116, 169, 192, 205, 218, 241, 254, 287, 310, 333, 366, 390, 403, 436, 490, 544, 588, 647, 660, 683, 706, 750, 793, 816, 839], 116) := by decide +kernel
theorem d0_148 : decode (xbc 0) 148 = .ok (.aload_n 1, 1) := by decide +kernel
theorem d0_149 : decode (xbc 0) 149 = .ok (.aload_n 0, 1) := by decide +kernel
theorem d0_150 : decode (xbc 0) 150 = .ok (.iload_n 3, 1) := by decide +kernel
theorem d0_151 : decode (xbc 0) 151 = .ok (.iconst 1, 1) := by decide +kernel
theorem d0_152 : decode (xbc 0) 152 = .ok (.iadd, 1) := by decide +kernel
theorem d0_153 : decode (xbc 0) 153 = .ok (.iaload, 1) := by decide +kernel
theorem d0_154 : decode (xbc 0) 154 = .ok (.aload_n 0, 1) := by decide +kernel
theorem d0_155 : decode (xbc 0) 155 = .ok (.iload_n 3, 1) := by decide +kernel
theorem d0_156 : decode (xbc 0) 156 = .ok (.iconst 2, 1) := by decide +kernel
theorem d0_157 : decode (xbc 0) 157 = .ok (.iadd, 1) := by decide +kernel
theorem d0_158 : decode (xbc 0) 158 = .ok (.iaload, 1) := by decide +kernel
theorem d0_159 : decode (xbc 0) 159 = .ok (.aload_n 0, 1) := by decide +kernel
theorem d0_160 : decode (xbc 0) 160 = .ok (.iload_n 3, 1) := by decide +kernel
theorem d0_161 : decode (xbc 0) 161 = .ok (.iconst 3, 1) := by decide +kernel
theorem d0_162 : decode (xbc 0) 162 = .ok (.iadd, 1) := by decide +kernel
theorem d0_163 : decode (xbc 0) 163 = .ok (.iaload, 1) := by decide +kernel
theorem d0_164 : decode (xbc 0) 164 = .ok (.aload_n 0, 1) := by decide +kernel
theorem d0_165 : decode (xbc 0) 165 = .ok (.iload_n 3, 1) := by decide +kernel
theorem d0_166 : decode (xbc 0) 166 = .ok (.iconst 4, 1) := by decide +kernel
theorem d0_167 : decode (xbc 0) 167 = .ok (.iadd, 1) := by decide +kernel
theorem d0_168 : decode (xbc 0) 168 = .ok (.iaload, 1) := by decide +kernel
theorem d0_169 : decode (xbc 0) 169 = .ok (.invokevirtual 13, 3) := by decide +kernel
theorem d0_172 : decode (xbc 0) 172 = .ok (.aload_n 2, 1) := by decide +kernel
theorem d0_173 : decode (xbc 0) 173 = .ok (.aload_n 0, 1) := by decide +kernel
theorem d0_174 : decode (xbc 0) 174 = .ok (.iload_n 3, 1) := by decide +kernel
theorem d0_175 : decode (xbc 0) 175 = .ok (.iconst 1, 1) := by decide +kernel
theorem d0_176 : decode (xbc 0) 176 = .ok (.iadd, 1) := by decide +kernel
theorem d0_177 : decode (xbc 0) 177 = .ok (.iaload, 1) := by decide +kernel
theorem d0_178 : decode (xbc 0) 178 = .ok (.aload_n 0, 1) := by decide +kernel
theorem d0_179 : decode (xbc 0) 179 = .ok (.iload_n 3, 1) := by decide +kernel
theorem d0_180 : decode (xbc 0) 180 = .ok (.iconst 2, 1) := by decide +kernel
theorem d0_181 : decode (xbc 0) 181 = .ok (.iadd, 1) := by decide +kernel
theorem d0_182 : decode (xbc 0) 182 = .ok (.iaload, 1) := by decide +kernel
theorem d0_183 : decode (xbc 0) 183 = .ok (.aload_n 0, 1) := by decide +kernel
theorem d0_184 : decode (xbc 0) 184 = .ok (.iload_n 3, 1) := by decide +kernel
theorem d0_185 : decode (xbc 0) 185 = .ok (.iconst 3, 1) := by decide +kernel
theorem d0_186 : decode (xbc 0) 186 = .ok (.iadd, 1) := by decide +kernel
theorem d0_187 : decode (xbc 0) 187 = .ok (.iaload, 1) := by decide +kernel
theorem d0_188 : decode (xbc 0) 188 = .ok (.aload_n 0, 1) := by decide +kernel
theorem d0_189 : decode (xbc 0) 189 = .ok (.iload_n 3, 1) := by decide +kernel
theorem d0_190 : decode (xbc 0) 190 = .ok (.iconst 4, 1) := by decide +kernel
theorem d0_191 : decode (xbc 0) 191 = .ok (.iadd, 1) := by decide +kernel
theorem d0_192 : decode (xbc 0) 192 = .ok (.iaload, 1) := by decide +kernel
theorem d0_193 : decode (xbc 0) 193 = .ok (.invokevirtual 17, 3) := by decide +kernel
theorem d0_196 : decode (xbc 0) 196 = .ok (.if_icmp .eq 698, 3) := by decide +kernel
theorem d0_199 : decode (xbc 0) 199 = .ok (.iconst 0, 1) := by decide +kernel
theorem d0_200 : decode (xbc 0) 200 = .ok (.ireturn, 1) := by decide +kernel
theorem d0_201 : decode (xbc 0) 201 = .ok (.aload_n 1, 1) := by decide +kernel
theorem d0_202 : decode (xbc 0) 202 = .ok (.aload_n 0, 1) := by decide +kernel
theorem d0_203 : decode (xbc 0) 203 = .ok (.iload_n 3, 1) := by decide +kernel
theorem d0_204 : decode (xbc 0) 204 = .ok (.iconst 1, 1) := by decide +kernel
theorem d0_205 : decode (xbc 0) 205 = .ok (.iadd, 1) := by decide +kernel
theorem d0_206 : decode (xbc 0) 206 = .ok (.iaload, 1) := by decide +kernel
theorem d0_207 : decode (xbc 0) 207 = .ok (.invokevirtual 18, 3) := by decide +kernel
theorem d0_210 : decode (xbc 0) 210 = .ok (.aload_n 2, 1) := by decide +kernel
theorem d0_211 : decode (xbc 0) 211 = .ok (.aload_n 0, 1) := by decide +kernel
theorem d0_212 : decode (xbc 0) 212 = .ok (.iload_n 3, 1) := by decide +kernel
theorem d0_213 : decode (xbc 0) 213 = .ok (.iconst 1, 1) := by decide +kernel
theorem d0_214 : decode (xbc 0) 214 = .ok (.iadd, 1) := by decide +kernel
theorem d0_215 : decode (xbc 0) 215 = .ok (.iaload, 1) := by decide +kernel
theorem d0_216 : decode (xbc 0) 216 = .ok (.invokevirtual 22, 3) := by decide +kernel
theorem d0_219 : decode (xbc 0) 219 = .ok (.if_icmp .eq 675, 3) := by decide +kernel
theorem d0_222 : decode (xbc 0) 222 = .ok (.iconst 0, 1) := by decide +kernel
theorem d0_223 : decode (xbc 0) 223 = .ok (.ireturn, 1) := by decide +kernel
theorem d0_224 : decode (xbc 0) 224 = .ok (.aload_n 1, 1) := by decide +kernel
theorem d0_225 : decode (xbc 0) 225 = .ok (.invokevirtual 23, 3) := by decide +kernel
theorem d0_228 : decode (xbc 0) 228 = .ok (.aload_n 2, 1) := by decide +kernel
theorem d0_229 : decode (xbc 0) 229 = .ok (.invokevirtual 27, 3) := by decide +kernel
theorem d0_232 : decode (xbc 0) 232 = .ok (.if_icmp .eq 662, 3) := by decide +kernel
theorem d0_235 : decode (xbc 0) 235 = .ok (.iconst 0, 1) := by decide +kernel
theorem d0_236 : decode (xbc 0) 236 = .ok (.ireturn, 1) := by decide +kernel
theorem d0_237 : decode (xbc 0) 237 = .ok (.aload_n 1, 1) := by decide +kernel
theorem d0_238 : decode (xbc 0) 238 = .ok (.invokevirtual 28, 3) := by decide +kernel
theorem d0_241 : decode (xbc 0) 241 = .ok (.aload_n 2, 1) := by decide +kernel
theorem d0_242 : decode (xbc 0) 242 = .ok (.invokevirtual 31, 3) := by decide +kernel
theorem d0_245 : decode (xbc 0) 245 = .ok (.if_icmp .eq 649, 3) := by decide +kernel
theorem d0_248 : decode (xbc 0) 248 = .ok (.iconst 0, 1) := by decide +kernel
theorem d0_249 : decode (xbc 0) 249 = .ok (.ireturn, 1) := by decide +kernel
theorem d0_250 : decode (xbc 0) 250 = .ok (.aload_n 1, 1) := by decide +kernel
theorem d0_251 : decode (xbc 0) 251 = .ok (.aload_n 0, 1) := by decide +kernel
theorem d0_252 : decode (xbc 0) 252 = .ok (.iload_n 3, 1) := by decide +kernel
theorem d0_253 : decode (xbc 0) 253 = .ok (.iconst 1, 1) := by decide +kernel
theorem d0_254 : decode (xbc 0) 254 = .ok (.iadd, 1) := by decide +kernel
theorem d0_255 : decode (xbc 0) 255 = .ok (.iaload, 1) := by decide +kernel
theorem d0_256 : decode (xbc 0) 256 = .ok (.invokevirtual 32, 3) := by decide +kernel
theorem d0_259 : decode (xbc 0) 259 = .ok (.aload_n 2, 1) := by decide +kernel
theorem d0_260 : decode (xbc 0) 260 = .ok (.aload_n 0, 1) := by decide +kernel
theorem d0_261 : decode (xbc 0) 261 = .ok (.iload_n 3, 1) := by decide +kernel
theorem d0_262 : decode (xbc 0) 262 = .ok (.iconst 1, 1) := by decide +kernel
theorem d0_263 : decode (xbc 0) 263 = .ok (.iadd, 1) := by decide +kernel
theorem d0_264 : decode (xbc 0) 264 = .ok (.iaload, 1) := by decide +kernel
theorem d0_265 : decode (xbc 0) 265 = .ok (.invokevirtual 35, 3) := by decide +kernel
theorem d0_268 : decode (xbc 0) 268 = .ok (.if_icmp .eq 626, 3) := by decide +kernel
theorem d0_271 : decode (xbc 0) 271 = .ok (.iconst 0, 1) := by decide +kernel
theorem d0_272 : decode (xbc 0) 272 = .ok (.ireturn, 1) := by decide +kernel
theorem d0_273 : decode (xbc 0) 273 = .ok (.aload_n 1, 1) := by decide +kernel
theorem d0_274 : decode (xbc 0) 274 = .ok (.invokevirtual 36, 3) := by decide +kernel
theorem d0_277 : decode (xbc 0) 277 = .ok (.aload_n 2, 1) := by decide +kernel
theorem d0_278 : decode (xbc 0) 278 = .ok (.invokevirtual 39, 3) := by decide +kernel
theorem d0_281 : decode (xbc 0) 281 = .ok (.if_icmp .eq 613, 3) := by decide +kernel
theorem d0_284 : decode (xbc 0) 284 = .ok (.iconst 0, 1) := by decide +kernel
theorem d0_285 : decode (xbc 0) 285 = .ok (.ireturn, 1) := by decide +kernel
theorem d0_286 : decode (xbc 0) 286 = .ok (.aload_n 1, 1) := by decide +kernel
theorem d0_287 : decode (xbc 0) 287 = .ok (.aload_n 0, 1) := by decide +kernel
theorem d0_288 : decode (xbc 0) 288 = .ok (.iload_n 3, 1) := by decide +kernel
theorem d0_289 : decode (xbc 0) 289 = .ok (.iconst 1, 1) := by decide +kernel
theorem d0_290 : decode (xbc 0) 290 = .ok (.iadd, 1) := by decide +kernel
theorem d0_291 : decode (xbc 0) 291 = .ok (.iaload, 1) := by decide +kernel
theorem d0_292 : decode (xbc 0) 292 = .ok (.aload_n 0, 1) := by decide +kernel
theorem d0_293 : decode (xbc 0) 293 = .ok (.iload_n 3, 1) := by decide +kernel
theorem d0_294 : decode (xbc 0) 294 = .ok (.iconst 2, 1) := by decide +kernel
theorem d0_295 : decode (xbc 0) 295 = .ok (.iadd, 1) := by decide +kernel
theorem d0_296 : decode (xbc 0) 296 = .ok (.iaload, 1) := by decide +kernel
theorem d0_297 : decode (xbc 0) 297 = .ok (.invokevirtual 40, 3) := by decide +kernel
theorem d0_300 : decode (xbc 0) 300 = .ok (.aload_n 2, 1) := by decide +kernel
theorem d0_301 : decode (xbc 0) 301 = .ok (.aload_n 0, 1) := by decide +kernel
theorem d0_302 : decode (xbc 0) 302 = .ok (.iload_n 3, 1) := by decide +kernel
theorem d0_303 : decode (xbc 0) 303 = .ok (.iconst 1, 1) := by decide +kernel
theorem d0_304 : decode (xbc 0) 304 = .ok (.iadd, 1) := by decide +kernel
theorem d0_305 : decode (xbc 0) 305 = .ok (.iaload, 1) := by decide +kernel
theorem d0_306 : decode (xbc 0) 306 = .ok (.aload_n 0, 1) := by decide +kernel
theorem d0_307 : decode (xbc 0) 307 = .ok (.iload_n 3, 1) := by decide +kernel
theorem d0_308 : decode (xbc 0) 308 = .ok (.iconst 2, 1) := by decide +kernel
theorem d0_309 : decode (xbc 0) 309 = .ok (.iadd, 1) := by decide +kernel
theorem d0_310 : decode (xbc 0) 310 = .ok (.iaload, 1) := by decide +kernel
theorem d0_311 : decode (xbc 0) 311 = .ok (.invokevirtual 44, 3) := by decide +kernel
theorem d0_314 : decode (xbc 0) 314 = .ok (.if_icmp .eq 580, 3) := by decide +kernel
theorem d0_317 : decode (xbc 0) 317 = .ok (.iconst 0, 1) := by decide +kernel
theorem d0_318 : decode (xbc 0) 318 = .ok (.ireturn, 1) := by decide +kernel
theorem d0_319 : decode (xbc 0) 319 = .ok (.aload_n 1, 1) := by decide +kernel
theorem d0_320 : decode (xbc 0) 320 = .ok (.aload_n 0, 1) := by decide +kernel
theorem d0_321 : decode (xbc 0) 321 = .ok (.iload_n 3, 1) := by decide +kernel
theorem d0_322 : decode (xbc 0) 322 = .ok (.iconst 1, 1) := by decide +kernel
theorem d0_323 : decode (xbc 0) 323 = .ok (.iadd, 1) := by decide +kernel
theorem d0_324 : decode (xbc 0) 324 = .ok (.iaload, 1) := by decide +kernel
theorem d0_325 : decode (xbc 0) 325 = .ok (.invokevirtual 45, 3) := by decide +kernel
theorem d0_328 : decode (xbc 0) 328 = .ok (.aload_n 2, 1) := by decide +kernel
theorem d0_329 : decode (xbc 0) 329 = .ok (.aload_n 0, 1) := by decide +kernel
theorem d0_330 : decode (xbc 0) 330 = .ok (.iload_n 3, 1) := by decide +kernel
theorem d0_331 : decode (xbc 0) 331 = .ok (.iconst 1, 1) := by decide +kernel
theorem d0_332 : decode (xbc 0) 332 = .ok (.iadd, 1) := by decide +kernel
theorem d0_333 : decode (xbc 0) 333 = .ok (.iaload, 1) := by decide +kernel
theorem d0_334 : decode (xbc 0) 334 = .ok (.invokevirtual 48, 3) := by decide +kernel
theorem d0_337 : decode (xbc 0) 337 = .ok (.if_icmp .eq 557, 3) := by decide +kernel
theorem d0_340 : decode (xbc 0) 340 = .ok (.iconst 0, 1) := by decide +kernel
theorem d0_341 : decode (xbc 0) 341 = .ok (.ireturn, 1) := by decide +kernel
theorem d0_342 : decode (xbc 0) 342 = .ok (.aload_n 1, 1) := by decide +kernel
theorem d0_343 : decode (xbc 0) 343 = .ok (.aload_n 0, 1) := by decide +kernel
theorem d0_344 : decode (xbc 0) 344 = .ok (.iload_n 3, 1) := by decide +kernel
theorem d0_345 : decode (xbc 0) 345 = .ok (.iconst 1, 1) := by decide +kernel
theorem d0_346 : decode (xbc 0) 346 = .ok (.iadd, 1) := by decide +kernel
theorem d0_347 : decode (xbc 0) 347 = .ok (.iaload, 1) := by decide +kernel
theorem d0_348 : decode (xbc 0) 348 = .ok (.invokevirtual 49, 3) := by decide +kernel
theorem d0_351 : decode (xbc 0) 351 = .ok (.aload_n 2, 1) := by decide +kernel
theorem d0_352 : decode (xbc 0) 352 = .ok (.aload_n 0, 1) := by decide +kernel
theorem d0_353 : decode (xbc 0) 353 = .ok (.iload_n 3, 1) := by decide +kernel
theorem d0_354 : decode (xbc 0) 354 = .ok (.iconst 1, 1) := by decide +kernel
theorem d0_355 : decode (xbc 0) 355 = .ok (.iadd, 1) := by decide +kernel
theorem d0_356 : decode (xbc 0) 356 = .ok (.iaload, 1) := by decide +kernel
theorem d0_357 : decode (xbc 0) 357 = .ok (.invokevirtual 52, 3) := by decide +kernel
theorem d0_360 : decode (xbc 0) 360 = .ok (.if_icmp .eq 534, 3) := by decide +kernel
theorem d0_363 : decode (xbc 0) 363 = .ok (.iconst 0, 1) := by decide +kernel
theorem d0_364 : decode (xbc 0) 364 = .ok (.ireturn, 1) := by decide +kernel
theorem d0_365 : decode (xbc 0) 365 = .ok (.aload_n 1, 1) := by decide +kernel
theorem d0_366 : decode (xbc 0) 366 = .ok (.aload_n 0, 1) := by decide +kernel
theorem d0_367 : decode (xbc 0) 367 = .ok (.iload_n 3, 1) := by decide +kernel
theorem d0_368 : decode (xbc 0) 368 = .ok (.iconst 1, 1) := by decide +kernel
theorem d0_369 : decode (xbc 0) 369 = .ok (.iadd, 1) := by decide +kernel
theorem d0_370 : decode (xbc 0) 370 = .ok (.iaload, 1) := by decide +kernel
theorem d0_371 : decode (xbc 0) 371 = .ok (.aload_n 0, 1) := by decide +kernel
theorem d0_372 : decode (xbc 0) 372 = .ok (.iload_n 3, 1) := by decide +kernel
theorem d0_373 : decode (xbc 0) 373 = .ok (.iconst 2, 1) := by decide +kernel
theorem d0_374 : decode (xbc 0) 374 = .ok (.iadd, 1) := by decide +kernel
theorem d0_375 : decode (xbc 0) 375 = .ok (.iaload, 1) := by decide +kernel
theorem d0_376 : decode (xbc 0) 376 = .ok (.invokevirtual 53, 3) := by decide +kernel
theorem d0_379 : decode (xbc 0) 379 = .ok (.aload_n 2, 1) := by decide +kernel
theorem d0_380 : decode (xbc 0) 380 = .ok (.aload_n 0, 1) := by decide +kernel
theorem d0_381 : decode (xbc 0) 381 = .ok (.iload_n 3, 1) := by decide +kernel
theorem d0_382 : decode (xbc 0) 382 = .ok (.iconst 1, 1) := by decide +kernel
theorem d0_383 : decode (xbc 0) 383 = .ok (.iadd, 1) := by decide +kernel
theorem d0_384 : decode (xbc 0) 384 = .ok (.iaload, 1) := by decide +kernel
theorem d0_385 : decode (xbc 0) 385 = .ok (.aload_n 0, 1) := by decide +kernel
theorem d0_386 : decode (xbc 0) 386 = .ok (.iload_n 3, 1) := by decide +kernel
theorem d0_387 : decode (xbc 0) 387 = .ok (.iconst 2, 1) := by decide +kernel
theorem d0_388 : decode (xbc 0) 388 = .ok (.iadd, 1) := by decide +kernel
theorem d0_389 : decode (xbc 0) 389 = .ok (.iaload, 1) := by decide +kernel
theorem d0_390 : decode (xbc 0) 390 = .ok (.invokevirtual 56, 3) := by decide +kernel
theorem d0_393 : decode (xbc 0) 393 = .ok (.if_icmp .eq 501, 3) := by decide +kernel
theorem d0_396 : decode (xbc 0) 396 = .ok (.iconst 0, 1) := by decide +kernel
theorem d0_397 : decode (xbc 0) 397 = .ok (.ireturn, 1) := by decide +kernel
theorem d0_398 : decode (xbc 0) 398 = .ok (.aload_n 1, 1) := by decide +kernel
theorem d0_399 : decode (xbc 0) 399 = .ok (.aload_n 0, 1) := by decide +kernel
theorem d0_400 : decode (xbc 0) 400 = .ok (.iload_n 3, 1) := by decide +kernel
theorem d0_401 : decode (xbc 0) 401 = .ok (.iconst 1, 1) := by decide +kernel
theorem d0_402 : decode (xbc 0) 402 = .ok (.iadd, 1) := by decide +kernel
theorem d0_403 : decode (xbc 0) 403 = .ok (.iaload, 1) := by decide +kernel
theorem d0_404 : decode (xbc 0) 404 = .ok (.invokevirtual 57, 3) := by decide +kernel
theorem d0_407 : decode (xbc 0) 407 = .ok (.aload_n 2, 1) := by decide +kernel
theorem d0_408 : decode (xbc 0) 408 = .ok (.aload_n 0, 1) := by decide +kernel
theorem d0_409 : decode (xbc 0) 409 = .ok (.iload_n 3, 1) := by decide +kernel
theorem d0_410 : decode (xbc 0) 410 = .ok (.iconst 1, 1) := by decide +kernel
theorem d0_411 : decode (xbc 0) 411 = .ok (.iadd, 1) := by decide +kernel
theorem d0_412 : decode (xbc 0) 412 = .ok (.iaload, 1) := by decide +kernel
theorem d0_413 : decode (xbc 0) 413 = .ok (.invokevirtual 61, 3) := by decide +kernel
theorem d0_416 : decode (xbc 0) 416 = .ok (.lcmp, 1) := by decide +kernel
theorem d0_417 : decode (xbc 0) 417 = .ok (.ifCond .eq 477, 3) := by decide +kernel
theorem d0_420 : decode (xbc 0) 420 = .ok (.iconst 0, 1) := by decide +kernel
theorem d0_421 : decode (xbc 0) 421 = .ok (.ireturn, 1) := by decide +kernel
theorem d0_422 : decode (xbc 0) 422 = .ok (.aload_n 1, 1) := by decide +kernel
theorem d0_423 : decode (xbc 0) 423 = .ok (.invokevirtual 62, 3) := by decide +kernel
theorem d0_426 : decode (xbc 0) 426 = .ok (.aload_n 2, 1) := by decide +kernel
theorem d0_427 : decode (xbc 0) 427 = .ok (.invokevirtual 65, 3) := by decide +kernel
theorem d0_430 : decode (xbc 0) 430 = .ok (.if_icmp .eq 464, 3) := by decide +kernel
theorem d0_433 : decode (xbc 0) 433 = .ok (.iconst 0, 1) := by decide +kernel
theorem d0_434 : decode (xbc 0) 434 = .ok (.ireturn, 1) := by decide +kernel
theorem d0_435 : decode (xbc 0) 435 = .ok (.aload_n 1, 1) := by decide +kernel
theorem d0_436 : decode (xbc 0) 436 = .ok (.aload_n 0, 1) := by decide +kernel
theorem d0_437 : decode (xbc 0) 437 = .ok (.iload_n 3, 1) := by decide +kernel
theorem d0_438 : decode (xbc 0) 438 = .ok (.iconst 1, 1) := by decide +kernel
theorem d0_439 : decode (xbc 0) 439 = .ok (.iadd, 1) := by decide +kernel
theorem d0_440 : decode (xbc 0) 440 = .ok (.iaload, 1) := by decide +kernel
theorem d0_441 : decode (xbc 0) 441 = .ok (.aload_n 0, 1) := by decide +kernel
theorem d0_442 : decode (xbc 0) 442 = .ok (.iload_n 3, 1) := by decide +kernel
theorem d0_443 : decode (xbc 0) 443 = .ok (.iconst 2, 1) := by decide +kernel
theorem d0_444 : decode (xbc 0) 444 = .ok (.iadd, 1) := by decide +kernel
theorem d0_445 : decode (xbc 0) 445 = .ok (.iaload, 1) := by decide +kernel
theorem d0_446 : decode (xbc 0) 446 = .ok (.invokevirtual 66, 3) := by decide +kernel
theorem d0_449 : decode (xbc 0) 449 = .ok (.aload_n 2, 1) := by decide +kernel
theorem d0_450 : decode (xbc 0) 450 = .ok (.aload_n 0, 1) := by decide +kernel
theorem d0_451 : decode (xbc 0) 451 = .ok (.iload_n 3, 1) := by decide +kernel
theorem d0_452 : decode (xbc 0) 452 = .ok (.iconst 1, 1) := by decide +kernel
theorem d0_453 : decode (xbc 0) 453 = .ok (.iadd, 1) := by decide +kernel
theorem d0_454 : decode (xbc 0) 454 = .ok (.iaload, 1) := by decide +kernel
theorem d0_455 : decode (xbc 0) 455 = .ok (.aload_n 0, 1) := by decide +kernel
theorem d0_456 : decode (xbc 0) 456 = .ok (.iload_n 3, 1) := by decide +kernel
theorem d0_457 : decode (xbc 0) 457 = .ok (.iconst 2, 1) := by decide +kernel
theorem d0_458 : decode (xbc 0) 458 = .ok (.iadd, 1) := by decide +kernel
theorem d0_459 : decode (xbc 0) 459 = .ok (.iaload, 1) := by decide +kernel
theorem d0_460 : decode (xbc 0) 460 = .ok (.invokevirtual 69, 3) := by decide +kernel
theorem d0_463 : decode (xbc 0) 463 = .ok (.if_icmp .eq 431, 3) := by decide +kernel
theorem d0_466 : decode (xbc 0) 466 = .ok (.iconst 0, 1) := by decide +kernel
theorem d0_467 : decode (xbc 0) 467 = .ok (.ireturn, 1) := by decide +kernel
theorem d0_468 : decode (xbc 0) 468 = .ok (.aload_n 1, 1) := by decide +kernel
theorem d0_469 : decode (xbc 0) 469 = .ok (.aload_n 0, 1) := by decide +kernel
theorem d0_470 : decode (xbc 0) 470 = .ok (.iload_n 3, 1) := by decide +kernel
theorem d0_471 : decode (xbc 0) 471 = .ok (.iconst 1, 1) := by decide +kernel
theorem d0_472 : decode (xbc 0) 472 = .ok (.iadd, 1) := by decide +kernel
theorem d0_473 : decode (xbc 0) 473 = .ok (.iaload, 1) := by decide +kernel
theorem d0_474 : decode (xbc 0) 474 = .ok (.aload_n 0, 1) := by decide +kernel
theorem d0_475 : decode (xbc 0) 475 = .ok (.iload_n 3, 1) := by decide +kernel
theorem d0_476 : decode (xbc 0) 476 = .ok (.iconst 2, 1) := by decide +kernel
theorem d0_477 : decode (xbc 0) 477 = .ok (.iadd, 1) := by decide +kernel
theorem d0_478 : decode (xbc 0) 478 = .ok (.iaload, 1) := by decide +kernel
theorem d0_479 : decode (xbc 0) 479 = .ok (.aload_n 0, 1) := by decide +kernel
theorem d0_480 : decode (xbc 0) 480 = .ok (.iload_n 3, 1) := by decide +kernel
theorem d0_481 : decode (xbc 0) 481 = .ok (.iconst 3, 1) := by decide +kernel
theorem d0_482 : decode (xbc 0) 482 = .ok (.iadd, 1) := by decide +kernel
theorem d0_483 : decode (xbc 0) 483 = .ok (.iaload, 1) := by decide +kernel
theorem d0_484 : decode (xbc 0) 484 = .ok (.aload_n 0, 1) := by decide +kernel
theorem d0_485 : decode (xbc 0) 485 = .ok (.iload_n 3, 1) := by decide +kernel
theorem d0_486 : decode (xbc 0) 486 = .ok (.iconst 4, 1) := by decide +kernel
theorem d0_487 : decode (xbc 0) 487 = .ok (.iadd, 1) := by decide +kernel
theorem d0_488 : decode (xbc 0) 488 = .ok (.iaload, 1) := by decide +kernel
theorem d0_489 : decode (xbc 0) 489 = .ok (.invokevirtual 70, 3) := by decide +kernel
theorem d0_492 : decode (xbc 0) 492 = .ok (.aload_n 2, 1) := by decide +kernel
theorem d0_493 : decode (xbc 0) 493 = .ok (.aload_n 0, 1) := by decide +kernel
theorem d0_494 : decode (xbc 0) 494 = .ok (.iload_n 3, 1) := by decide +kernel
theorem d0_495 : decode (xbc 0) 495 = .ok (.iconst 1, 1) := by decide +kernel
theorem d0_496 : decode (xbc 0) 496 = .ok (.iadd, 1) := by decide +kernel
theorem d0_497 : decode (xbc 0) 497 = .ok (.iaload, 1) := by decide +kernel
theorem d0_498 : decode (xbc 0) 498 = .ok (.aload_n 0, 1) := by decide +kernel
theorem d0_499 : decode (xbc 0) 499 = .ok (.iload_n 3, 1) := by decide +kernel
theorem d0_500 : decode (xbc 0) 500 = .ok (.iconst 2, 1) := by decide +kernel
theorem d0_501 : decode (xbc 0) 501 = .ok (.iadd, 1) := by decide +kernel
theorem d0_502 : decode (xbc 0) 502 = .ok (.iaload, 1) := by decide +kernel
theorem d0_503 : decode (xbc 0) 503 = .ok (.aload_n 0, 1) := by decide +kernel
theorem d0_504 : decode (xbc 0) 504 = .ok (.iload_n 3, 1) := by decide +kernel
theorem d0_505 : decode (xbc 0) 505 = .ok (.iconst 3, 1) := by decide +kernel
theorem d0_506 : decode (xbc 0) 506 = .ok (.iadd, 1) := by decide +kernel
theorem d0_507 : decode (xbc 0) 507 = .ok (.iaload, 1) := by decide +kernel
theorem d0_508 : decode (xbc 0) 508 = .ok (.aload_n 0, 1) := by decide +kernel
theorem d0_509 : decode (xbc 0) 509 = .ok (.iload_n 3, 1) := by decide +kernel
theorem d0_510 : decode (xbc 0) 510 = .ok (.iconst 4, 1) := by decide +kernel
theorem d0_511 : decode (xbc 0) 511 = .ok (.iadd, 1) := by decide +kernel
theorem d0_512 : decode (xbc 0) 512 = .ok (.iaload, 1) := by decide +kernel
theorem d0_513 : decode (xbc 0) 513 = .ok (.invokevirtual 74, 3) := by decide +kernel
theorem d0_516 : decode (xbc 0) 516 = .ok (.lcmp, 1) := by decide +kernel
theorem d0_517 : decode (xbc 0) 517 = .ok (.ifCond .eq 377, 3) := by decide +kernel
theorem d0_520 : decode (xbc 0) 520 = .ok (.iconst 0, 1) := by decide +kernel
theorem d0_521 : decode (xbc 0) 521 = .ok (.ireturn, 1) := by decide +kernel
theorem d0_522 : decode (xbc 0) 522 = .ok (.aload_n 1, 1) := by decide +kernel
theorem d0_523 : decode (xbc 0) 523 = .ok (.aload_n 0, 1) := by decide +kernel
theorem d0_524 : decode (xbc 0) 524 = .ok (.iload_n 3, 1) := by decide +kernel
theorem d0_525 : decode (xbc 0) 525 = .ok (.iconst 1, 1) := by decide +kernel
theorem d0_526 : decode (xbc 0) 526 = .ok (.iadd, 1) := by decide +kernel
theorem d0_527 : decode (xbc 0) 527 = .ok (.iaload, 1) := by decide +kernel
theorem d0_528 : decode (xbc 0) 528 = .ok (.aload_n 0, 1) := by decide +kernel
theorem d0_529 : decode (xbc 0) 529 = .ok (.iload_n 3, 1) := by decide +kernel
theorem d0_530 : decode (xbc 0) 530 = .ok (.iconst 2, 1) := by decide +kernel
theorem d0_531 : decode (xbc 0) 531 = .ok (.iadd, 1) := by decide +kernel
theorem d0_532 : decode (xbc 0) 532 = .ok (.iaload, 1) := by decide +kernel
theorem d0_533 : decode (xbc 0) 533 = .ok (.aload_n 0, 1) := by decide +kernel
theorem d0_534 : decode (xbc 0) 534 = .ok (.iload_n 3, 1) := by decide +kernel
theorem d0_535 : decode (xbc 0) 535 = .ok (.iconst 3, 1) := by decide +kernel
theorem d0_536 : decode (xbc 0) 536 = .ok (.iadd, 1) := by decide +kernel
theorem d0_537 : decode (xbc 0) 537 = .ok (.iaload, 1) := by decide +kernel
theorem d0_538 : decode (xbc 0) 538 = .ok (.aload_n 0, 1) := by decide +kernel
theorem d0_539 : decode (xbc 0) 539 = .ok (.iload_n 3, 1) := by decide +kernel
theorem d0_540 : decode (xbc 0) 540 = .ok (.iconst 4, 1) := by decide +kernel
theorem d0_541 : decode (xbc 0) 541 = .ok (.iadd, 1) := by decide +kernel
theorem d0_542 : decode (xbc 0) 542 = .ok (.iaload, 1) := by decide +kernel
theorem d0_543 : decode (xbc 0) 543 = .ok (.invokevirtual 75, 3) := by decide +kernel
theorem d0_546 : decode (xbc 0) 546 = .ok (.aload_n 2, 1) := by decide +kernel
theorem d0_547 : decode (xbc 0) 547 = .ok (.aload_n 0, 1) := by decide +kernel
theorem d0_548 : decode (xbc 0) 548 = .ok (.iload_n 3, 1) := by decide +kernel
theorem d0_549 : decode (xbc 0) 549 = .ok (.iconst 1, 1) := by decide +kernel
theorem d0_550 : decode (xbc 0) 550 = .ok (.iadd, 1) := by decide +kernel
theorem d0_551 : decode (xbc 0) 551 = .ok (.iaload, 1) := by decide +kernel
theorem d0_552 : decode (xbc 0) 552 = .ok (.aload_n 0, 1) := by decide +kernel
theorem d0_553 : decode (xbc 0) 553 = .ok (.iload_n 3, 1) := by decide +kernel
theorem d0_554 : decode (xbc 0) 554 = .ok (.iconst 2, 1) := by decide +kernel
theorem d0_555 : decode (xbc 0) 555 = .ok (.iadd, 1) := by decide +kernel
theorem d0_556 : decode (xbc 0) 556 = .ok (.iaload, 1) := by decide +kernel
theorem d0_557 : decode (xbc 0) 557 = .ok (.aload_n 0, 1) := by decide +kernel
theorem d0_558 : decode (xbc 0) 558 = .ok (.iload_n 3, 1) := by decide +kernel
theorem d0_559 : decode (xbc 0) 559 = .ok (.iconst 3, 1) := by decide +kernel
theorem d0_560 : decode (xbc 0) 560 = .ok (.iadd, 1) := by decide +kernel
theorem d0_561 : decode (xbc 0) 561 = .ok (.iaload, 1) := by decide +kernel
theorem d0_562 : decode (xbc 0) 562 = .ok (.aload_n 0, 1) := by decide +kernel
theorem d0_563 : decode (xbc 0) 563 = .ok (.iload_n 3, 1) := by decide +kernel
theorem d0_564 : decode (xbc 0) 564 = .ok (.iconst 4, 1) := by decide +kernel
theorem d0_565 : decode (xbc 0) 565 = .ok (.iadd, 1) := by decide +kernel
theorem d0_566 : decode (xbc 0) 566 = .ok (.iaload, 1) := by decide +kernel
theorem d0_567 : decode (xbc 0) 567 = .ok (.invokevirtual 78, 3) := by decide +kernel
theorem d0_570 : decode (xbc 0) 570 = .ok (.lcmp, 1) := by decide +kernel
theorem d0_571 : decode (xbc 0) 571 = .ok (.ifCond .eq 323, 3) := by decide +kernel
theorem d0_574 : decode (xbc 0) 574 = .ok (.iconst 0, 1) := by decide +kernel
theorem d0_575 : decode (xbc 0) 575 = .ok (.ireturn, 1) := by decide +kernel
theorem d0_576 : decode (xbc 0) 576 = .ok (.aload_n 1, 1) := by decide +kernel
theorem d0_577 : decode (xbc 0) 577 = .ok (.aload_n 0, 1) := by decide +kernel
theorem d0_578 : decode (xbc 0) 578 = .ok (.iload_n 3, 1) := by decide +kernel
theorem d0_579 : decode (xbc 0) 579 = .ok (.iconst 1, 1) := by decide +kernel
theorem d0_580 : decode (xbc 0) 580 = .ok (.iadd, 1) := by decide +kernel
theorem d0_581 : decode (xbc 0) 581 = .ok (.iaload, 1) := by decide +kernel
theorem d0_582 : decode (xbc 0) 582 = .ok (.aload_n 0, 1) := by decide +kernel
theorem d0_583 : decode (xbc 0) 583 = .ok (.iload_n 3, 1) := by decide +kernel
theorem d0_584 : decode (xbc 0) 584 = .ok (.iconst 2, 1) := by decide +kernel
theorem d0_585 : decode (xbc 0) 585 = .ok (.iadd, 1) := by decide +kernel
theorem d0_586 : decode (xbc 0) 586 = .ok (.iaload, 1) := by decide +kernel
theorem d0_587 : decode (xbc 0) 587 = .ok (.aload_n 0, 1) := by decide +kernel
theorem d0_588 : decode (xbc 0) 588 = .ok (.iload_n 3, 1) := by decide +kernel
theorem d0_589 : decode (xbc 0) 589 = .ok (.iconst 3, 1) := by decide +kernel
theorem d0_590 : decode (xbc 0) 590 = .ok (.iadd, 1) := by decide +kernel
theorem d0_591 : decode (xbc 0) 591 = .ok (.iaload, 1) := by decide +kernel
theorem d0_592 : decode (xbc 0) 592 = .ok (.invokevirtual 79, 3) := by decide +kernel
theorem d0_595 : decode (xbc 0) 595 = .ok (.aload_n 2, 1) := by decide +kernel
theorem d0_596 : decode (xbc 0) 596 = .ok (.aload_n 0, 1) := by decide +kernel
theorem d0_597 : decode (xbc 0) 597 = .ok (.iload_n 3, 1) := by decide +kernel
theorem d0_598 : decode (xbc 0) 598 = .ok (.iconst 1, 1) := by decide +kernel
theorem d0_599 : decode (xbc 0) 599 = .ok (.iadd, 1) := by decide +kernel
theorem d0_600 : decode (xbc 0) 600 = .ok (.iaload, 1) := by decide +kernel
theorem d0_601 : decode (xbc 0) 601 = .ok (.aload_n 0, 1) := by decide +kernel
theorem d0_602 : decode (xbc 0) 602 = .ok (.iload_n 3, 1) := by decide +kernel
theorem d0_603 : decode (xbc 0) 603 = .ok (.iconst 2, 1) := by decide +kernel
theorem d0_604 : decode (xbc 0) 604 = .ok (.iadd, 1) := by decide +kernel
theorem d0_605 : decode (xbc 0) 605 = .ok (.iaload, 1) := by decide +kernel
theorem d0_606 : decode (xbc 0) 606 = .ok (.aload_n 0, 1) := by decide +kernel
theorem d0_607 : decode (xbc 0) 607 = .ok (.iload_n 3, 1) := by decide +kernel
theorem d0_608 : decode (xbc 0) 608 = .ok (.iconst 3, 1) := by decide +kernel
theorem d0_609 : decode (xbc 0) 609 = .ok (.iadd, 1) := by decide +kernel
theorem d0_610 : decode (xbc 0) 610 = .ok (.iaload, 1) := by decide +kernel
theorem d0_611 : decode (xbc 0) 611 = .ok (.invokevirtual 83, 3) := by decide +kernel
theorem d0_614 : decode (xbc 0) 614 = .ok (.lcmp, 1) := by decide +kernel
theorem d0_615 : decode (xbc 0) 615 = .ok (.ifCond .eq 279, 3) := by decide +kernel
theorem d0_618 : decode (xbc 0) 618 = .ok (.iconst 0, 1) := by decide +kernel
theorem d0_619 : decode (xbc 0) 619 = .ok (.ireturn, 1) := by decide +kernel
theorem d0_620 : decode (xbc 0) 620 = .ok (.aload_n 1, 1) := by decide +kernel
theorem d0_621 : decode (xbc 0) 621 = .ok (.aload_n 0, 1) := by decide +kernel
theorem d0_622 : decode (xbc 0) 622 = .ok (.iload_n 3, 1) := by decide +kernel
theorem d0_623 : decode (xbc 0) 623 = .ok (.iconst 1, 1) := by decide +kernel
theorem d0_624 : decode (xbc 0) 624 = .ok (.iadd, 1) := by decide +kernel
theorem d0_625 : decode (xbc 0) 625 = .ok (.iaload, 1) := by decide +kernel
theorem d0_626 : decode (xbc 0) 626 = .ok (.aload_n 0, 1) := by decide +kernel
theorem d0_627 : decode (xbc 0) 627 = .ok (.iload_n 3, 1) := by decide +kernel
theorem d0_628 : decode (xbc 0) 628 = .ok (.iconst 2, 1) := by decide +kernel
theorem d0_629 : decode (xbc 0) 629 = .ok (.iadd, 1) := by decide +kernel
theorem d0_630 : decode (xbc 0) 630 = .ok (.iaload, 1) := by decide +kernel
theorem d0_631 : decode (xbc 0) 631 = .ok (.aload_n 0, 1) := by decide +kernel
theorem d0_632 : decode (xbc 0) 632 = .ok (.iload_n 3, 1) := by decide +kernel
theorem d0_633 : decode (xbc 0) 633 = .ok (.iconst 3, 1) := by decide +kernel
theorem d0_634 : decode (xbc 0) 634 = .ok (.iadd, 1) := by decide +kernel
theorem d0_635 : decode (xbc 0) 635 = .ok (.iaload, 1) := by decide +kernel
theorem d0_636 : decode (xbc 0) 636 = .ok (.ifCond .eq 7, 3) := by decide +kernel
theorem d0_639 : decode (xbc 0) 639 = .ok (.iconst 1, 1) := by decide +kernel
theorem d0_640 : decode (xbc 0) 640 = .ok (.goto 4, 3) := by decide +kernel
theorem d0_643 : decode (xbc 0) 643 = .ok (.iconst 0, 1) := by decide +kernel
theorem d0_644 : decode (xbc 0) 644 = .ok (.invokevirtual 84, 3) := by decide +kernel
theorem d0_647 : decode (xbc 0) 647 = .ok (.aload_n 2, 1) := by decide +kernel
theorem d0_648 : decode (xbc 0) 648 = .ok (.aload_n 0, 1) := by decide +kernel
theorem d0_649 : decode (xbc 0) 649 = .ok (.iload_n 3, 1) := by decide +kernel
theorem d0_650 : decode (xbc 0) 650 = .ok (.iconst 1, 1) := by decide +kernel
theorem d0_651 : decode (xbc 0) 651 = .ok (.iadd, 1) := by decide +kernel
theorem d0_652 : decode (xbc 0) 652 = .ok (.iaload, 1) := by decide +kernel
theorem d0_653 : decode (xbc 0) 653 = .ok (.aload_n 0, 1) := by decide +kernel
theorem d0_654 : decode (xbc 0) 654 = .ok (.iload_n 3, 1) := by decide +kernel
theorem d0_655 : decode (xbc 0) 655 = .ok (.iconst 2, 1) := by decide +kernel
theorem d0_656 : decode (xbc 0) 656 = .ok (.iadd, 1) := by decide +kernel
theorem d0_657 : decode (xbc 0) 657 = .ok (.iaload, 1) := by decide +kernel
theorem d0_658 : decode (xbc 0) 658 = .ok (.aload_n 0, 1) := by decide +kernel
theorem d0_659 : decode (xbc 0) 659 = .ok (.iload_n 3, 1) := by decide +kernel
theorem d0_660 : decode (xbc 0) 660 = .ok (.iconst 3, 1) := by decide +kernel
theorem d0_661 : decode (xbc 0) 661 = .ok (.iadd, 1) := by decide +kernel
theorem d0_662 : decode (xbc 0) 662 = .ok (.iaload, 1) := by decide +kernel
theorem d0_663 : decode (xbc 0) 663 = .ok (.ifCond .eq 7, 3) := by decide +kernel
theorem d0_666 : decode (xbc 0) 666 = .ok (.iconst 1, 1) := by decide +kernel
theorem d0_667 : decode (xbc 0) 667 = .ok (.goto 4, 3) := by decide +kernel
theorem d0_670 : decode (xbc 0) 670 = .ok (.iconst 0, 1) := by decide +kernel
theorem d0_671 : decode (xbc 0) 671 = .ok (.invokevirtual 88, 3) := by decide +kernel
theorem d0_674 : decode (xbc 0) 674 = .ok (.if_icmp .eq 220, 3) := by decide +kernel
theorem d0_677 : decode (xbc 0) 677 = .ok (.iconst 0, 1) := by decide +kernel
theorem d0_678 : decode (xbc 0) 678 = .ok (.ireturn, 1) := by decide +kernel
theorem d0_679 : decode (xbc 0) 679 = .ok (.aload_n 1, 1) := by decide +kernel
theorem d0_680 : decode (xbc 0) 680 = .ok (.invokevirtual 89, 3) := by decide +kernel
theorem d0_683 : decode (xbc 0) 683 = .ok (.aload_n 2, 1) := by decide +kernel
theorem d0_684 : decode (xbc 0) 684 = .ok (.invokevirtual 92, 3) := by decide +kernel
theorem d0_687 : decode (xbc 0) 687 = .ok (.if_icmp .eq 207, 3) := by decide +kernel
theorem d0_690 : decode (xbc 0) 690 = .ok (.iconst 0, 1) := by decide +kernel
theorem d0_691 : decode (xbc 0) 691 = .ok (.ireturn, 1) := by decide +kernel
theorem d0_692 : decode (xbc 0) 692 = .ok (.aload_n 1, 1) := by decide +kernel
theorem d0_693 : decode (xbc 0) 693 = .ok (.aload_n 0, 1) := by decide +kernel
theorem d0_694 : decode (xbc 0) 694 = .ok (.iload_n 3, 1) := by decide +kernel
theorem d0_695 : decode (xbc 0) 695 = .ok (.iconst 1, 1) := by decide +kernel
theorem d0_696 : decode (xbc 0) 696 = .ok (.iadd, 1) := by decide +kernel
theorem d0_697 : decode (xbc 0) 697 = .ok (.iaload, 1) := by decide +kernel
theorem d0_698 : decode (xbc 0) 698 = .ok (.invokevirtual 93, 3) := by decide +kernel
theorem d0_701 : decode (xbc 0) 701 = .ok (.aload_n 2, 1) := by decide +kernel
theorem d0_702 : decode (xbc 0) 702 = .ok (.aload_n 0, 1) := by decide +kernel
theorem d0_703 : decode (xbc 0) 703 = .ok (.iload_n 3, 1) := by decide +kernel
theorem d0_704 : decode (xbc 0) 704 = .ok (.iconst 1, 1) := by decide +kernel
theorem d0_705 : decode (xbc 0) 705 = .ok (.iadd, 1) := by decide +kernel
theorem d0_706 : decode (xbc 0) 706 = .ok (.iaload, 1) := by decide +kernel
theorem d0_707 : decode (xbc 0) 707 = .ok (.invokevirtual 96, 3) := by decide +kernel
theorem d0_710 : decode (xbc 0) 710 = .ok (.if_icmp .eq 184, 3) := by decide +kernel
theorem d0_713 : decode (xbc 0) 713 = .ok (.iconst 0, 1) := by decide +kernel
theorem d0_714 : decode (xbc 0) 714 = .ok (.ireturn, 1) := by decide +kernel
theorem d0_715 : decode (xbc 0) 715 = .ok (.aload_n 1, 1) := by decide +kernel
theorem d0_716 : decode (xbc 0) 716 = .ok (.aload_n 0, 1) := by decide +kernel
theorem d0_717 : decode (xbc 0) 717 = .ok (.iload_n 3, 1) := by decide +kernel
theorem d0_718 : decode (xbc 0) 718 = .ok (.iconst 1, 1) := by decide +kernel
theorem d0_719 : decode (xbc 0) 719 = .ok (.iadd, 1) := by decide +kernel
theorem d0_720 : decode (xbc 0) 720 = .ok (.iaload, 1) := by decide +kernel
theorem d0_721 : decode (xbc 0) 721 = .ok (.invokevirtual 97, 3) := by decide +kernel
theorem d0_724 : decode (xbc 0) 724 = .ok (.aload_n 2, 1) := by decide +kernel
theorem d0_725 : decode (xbc 0) 725 = .ok (.aload_n 0, 1) := by decide +kernel
theorem d0_726 : decode (xbc 0) 726 = .ok (.iload_n 3, 1) := by decide +kernel
theorem d0_727 : decode (xbc 0) 727 = .ok (.iconst 1, 1) := by decide +kernel
theorem d0_728 : decode (xbc 0) 728 = .ok (.iadd, 1) := by decide +kernel
theorem d0_729 : decode (xbc 0) 729 = .ok (.iaload, 1) := by decide +kernel
theorem d0_730 : decode (xbc 0) 730 = .ok (.invokevirtual 100, 3) := by decide +kernel
theorem d0_733 : decode (xbc 0) 733 = .ok (.if_icmp .eq 161, 3) := by decide +kernel
theorem d0_736 : decode (xbc 0) 736 = .ok (.iconst 0, 1) := by decide +kernel
theorem d0_737 : decode (xbc 0) 737 = .ok (.ireturn, 1) := by decide +kernel
theorem d0_738 : decode (xbc 0) 738 = .ok (.aload_n 1, 1) := by decide +kernel
theorem d0_739 : decode (xbc 0) 739 = .ok (.aload_n 0, 1) := by decide +kernel
theorem d0_740 : decode (xbc 0) 740 = .ok (.iload_n 3, 1) := by decide +kernel
theorem d0_741 : decode (xbc 0) 741 = .ok (.iconst 1, 1) := by decide +kernel
theorem d0_742 : decode (xbc 0) 742 = .ok (.iadd, 1) := by decide +kernel
theorem d0_743 : decode (xbc 0) 743 = .ok (.iaload, 1) := by decide +kernel
theorem d0_744 : decode (xbc 0) 744 = .ok (.aload_n 0, 1) := by decide +kernel
theorem d0_745 : decode (xbc 0) 745 = .ok (.iload_n 3, 1) := by decide +kernel
theorem d0_746 : decode (xbc 0) 746 = .ok (.iconst 2, 1) := by decide +kernel
theorem d0_747 : decode (xbc 0) 747 = .ok (.iadd, 1) := by decide +kernel
theorem d0_748 : decode (xbc 0) 748 = .ok (.iaload, 1) := by decide +kernel
theorem d0_749 : decode (xbc 0) 749 = .ok (.aload_n 0, 1) := by decide +kernel
theorem d0_750 : decode (xbc 0) 750 = .ok (.iload_n 3, 1) := by decide +kernel
theorem d0_751 : decode (xbc 0) 751 = .ok (.iconst 3, 1) := by decide +kernel
theorem d0_752 : decode (xbc 0) 752 = .ok (.iadd, 1) := by decide +kernel
theorem d0_753 : decode (xbc 0) 753 = .ok (.iaload, 1) := by decide +kernel
theorem d0_754 : decode (xbc 0) 754 = .ok (.invokevirtual 101, 3) := by decide +kernel
theorem d0_757 : decode (xbc 0) 757 = .ok (.aload_n 2, 1) := by decide +kernel
theorem d0_758 : decode (xbc 0) 758 = .ok (.aload_n 0, 1) := by decide +kernel
theorem d0_759 : decode (xbc 0) 759 = .ok (.iload_n 3, 1) := by decide +kernel
theorem d0_760 : decode (xbc 0) 760 = .ok (.iconst 1, 1) := by decide +kernel
theorem d0_761 : decode (xbc 0) 761 = .ok (.iadd, 1) := by decide +kernel
theorem d0_762 : decode (xbc 0) 762 = .ok (.iaload, 1) := by decide +kernel
theorem d0_763 : decode (xbc 0) 763 = .ok (.aload_n 0, 1) := by decide +kernel
theorem d0_764 : decode (xbc 0) 764 = .ok (.iload_n 3, 1) := by decide +kernel
theorem d0_765 : decode (xbc 0) 765 = .ok (.iconst 2, 1) := by decide +kernel
theorem d0_766 : decode (xbc 0) 766 = .ok (.iadd, 1) := by decide +kernel
theorem d0_767 : decode (xbc 0) 767 = .ok (.iaload, 1) := by decide +kernel
theorem d0_768 : decode (xbc 0) 768 = .ok (.aload_n 0, 1) := by decide +kernel
theorem d0_769 : decode (xbc 0) 769 = .ok (.iload_n 3, 1) := by decide +kernel
theorem d0_770 : decode (xbc 0) 770 = .ok (.iconst 3, 1) := by decide +kernel
theorem d0_771 : decode (xbc 0) 771 = .ok (.iadd, 1) := by decide +kernel
theorem d0_772 : decode (xbc 0) 772 = .ok (.iaload, 1) := by decide +kernel
theorem d0_773 : decode (xbc 0) 773 = .ok (.invokevirtual 104, 3) := by decide +kernel
theorem d0_776 : decode (xbc 0) 776 = .ok (.lcmp, 1) := by decide +kernel
theorem d0_777 : decode (xbc 0) 777 = .ok (.ifCond .eq 117, 3) := by decide +kernel
theorem d0_780 : decode (xbc 0) 780 = .ok (.iconst 0, 1) := by decide +kernel
theorem d0_781 : decode (xbc 0) 781 = .ok (.ireturn, 1) := by decide +kernel
theorem d0_782 : decode (xbc 0) 782 = .ok (.aload_n 1, 1) := by decide +kernel
theorem d0_783 : decode (xbc 0) 783 = .ok (.aload_n 0, 1) := by decide +kernel
theorem d0_784 : decode (xbc 0) 784 = .ok (.iload_n 3, 1) := by decide +kernel
theorem d0_785 : decode (xbc 0) 785 = .ok (.iconst 1, 1) := by decide +kernel
theorem d0_786 : decode (xbc 0) 786 = .ok (.iadd, 1) := by decide +kernel
theorem d0_787 : decode (xbc 0) 787 = .ok (.iaload, 1) := by decide +kernel
theorem d0_788 : decode (xbc 0) 788 = .ok (.aload_n 0, 1) := by decide +kernel
theorem d0_789 : decode (xbc 0) 789 = .ok (.iload_n 3, 1) := by decide +kernel
theorem d0_790 : decode (xbc 0) 790 = .ok (.iconst 2, 1) := by decide +kernel
theorem d0_791 : decode (xbc 0) 791 = .ok (.iadd, 1) := by decide +kernel
theorem d0_792 : decode (xbc 0) 792 = .ok (.iaload, 1) := by decide +kernel
theorem d0_793 : decode (xbc 0) 793 = .ok (.aload_n 0, 1) := by decide +kernel
theorem d0_794 : decode (xbc 0) 794 = .ok (.iload_n 3, 1) := by decide +kernel
theorem d0_795 : decode (xbc 0) 795 = .ok (.iconst 3, 1) := by decide +kernel
theorem d0_796 : decode (xbc 0) 796 = .ok (.iadd, 1) := by decide +kernel
theorem d0_797 : decode (xbc 0) 797 = .ok (.iaload, 1) := by decide +kernel
theorem d0_798 : decode (xbc 0) 798 = .ok (.invokevirtual 105, 3) := by decide +kernel
theorem d0_801 : decode (xbc 0) 801 = .ok (.aload_n 2, 1) := by decide +kernel
theorem d0_802 : decode (xbc 0) 802 = .ok (.aload_n 0, 1) := by decide +kernel
theorem d0_803 : decode (xbc 0) 803 = .ok (.iload_n 3, 1) := by decide +kernel
theorem d0_804 : decode (xbc 0) 804 = .ok (.iconst 1, 1) := by decide +kernel
theorem d0_805 : decode (xbc 0) 805 = .ok (.iadd, 1) := by decide +kernel
theorem d0_806 : decode (xbc 0) 806 = .ok (.iaload, 1) := by decide +kernel
theorem d0_807 : decode (xbc 0) 807 = .ok (.aload_n 0, 1) := by decide +kernel
theorem d0_808 : decode (xbc 0) 808 = .ok (.iload_n 3, 1) := by decide +kernel
theorem d0_809 : decode (xbc 0) 809 = .ok (.iconst 2, 1) := by decide +kernel
theorem d0_810 : decode (xbc 0) 810 = .ok (.iadd, 1) := by decide +kernel
theorem d0_811 : decode (xbc 0) 811 = .ok (.iaload, 1) := by decide +kernel
theorem d0_812 : decode (xbc 0) 812 = .ok (.aload_n 0, 1) := by decide +kernel
theorem d0_813 : decode (xbc 0) 813 = .ok (.iload_n 3, 1) := by decide +kernel
theorem d0_814 : decode (xbc 0) 814 = .ok (.iconst 3, 1) := by decide +kernel
theorem d0_815 : decode (xbc 0) 815 = .ok (.iadd, 1) := by decide +kernel
theorem d0_816 : decode (xbc 0) 816 = .ok (.iaload, 1) := by decide +kernel
theorem d0_817 : decode (xbc 0) 817 = .ok (.invokevirtual 109, 3) := by decide +kernel
theorem d0_820 : decode (xbc 0) 820 = .ok (.if_icmp .eq 74, 3) := by decide +kernel
theorem d0_823 : decode (xbc 0) 823 = .ok (.iconst 0, 1) := by decide +kernel
theorem d0_824 : decode (xbc 0) 824 = .ok (.ireturn, 1) := by decide +kernel
theorem d0_825 : decode (xbc 0) 825 = .ok (.aload_n 1, 1) := by decide +kernel
theorem d0_826 : decode (xbc 0) 826 = .ok (.aload_n 0, 1) := by decide +kernel
theorem d0_827 : decode (xbc 0) 827 = .ok (.iload_n 3, 1) := by decide +kernel
theorem d0_828 : decode (xbc 0) 828 = .ok (.iconst 1, 1) := by decide +kernel
theorem d0_829 : decode (xbc 0) 829 = .ok (.iadd, 1) := by decide +kernel
theorem d0_830 : decode (xbc 0) 830 = .ok (.iaload, 1) := by decide +kernel
theorem d0_831 : decode (xbc 0) 831 = .ok (.invokevirtual 110, 3) := by decide +kernel
theorem d0_834 : decode (xbc 0) 834 = .ok (.aload_n 2, 1) := by decide +kernel
theorem d0_835 : decode (xbc 0) 835 = .ok (.aload_n 0, 1) := by decide +kernel
theorem d0_836 : decode (xbc 0) 836 = .ok (.iload_n 3, 1) := by decide +kernel
theorem d0_837 : decode (xbc 0) 837 = .ok (.iconst 1, 1) := by decide +kernel
theorem d0_838 : decode (xbc 0) 838 = .ok (.iadd, 1) := by decide +kernel
theorem d0_839 : decode (xbc 0) 839 = .ok (.iaload, 1) := by decide +kernel
theorem d0_840 : decode (xbc 0) 840 = .ok (.invokevirtual 113, 3) := by decide +kernel
theorem d0_843 : decode (xbc 0) 843 = .ok (.if_icmp .eq 51, 3) := by decide +kernel
theorem d0_846 : decode (xbc 0) 846 = .ok (.iconst 0, 1) := by decide +kernel
theorem d0_847 : decode (xbc 0) 847 = .ok (.ireturn, 1) := by decide +kernel
theorem d0_848 : decode (xbc 0) 848 = .ok (.aload_n 1, 1) := by decide +kernel
theorem d0_849 : decode (xbc 0) 849 = .ok (.aload_n 0, 1) := by decide +kernel
theorem d0_850 : decode (xbc 0) 850 = .ok (.iload_n 3, 1) := by decide +kernel
theorem d0_851 : decode (xbc 0) 851 = .ok (.iconst 1, 1) := by decide +kernel
theorem d0_852 : decode (xbc 0) 852 = .ok (.iadd, 1) := by decide +kernel
theorem d0_853 : decode (xbc 0) 853 = .ok (.iaload, 1) := by decide +kernel
theorem d0_854 : decode (xbc 0) 854 = .ok (.invokevirtual 114, 3) := by decide +kernel
theorem d0_857 : decode (xbc 0) 857 = .ok (.aload_n 2, 1) := by decide +kernel
theorem d0_858 : decode (xbc 0) 858 = .ok (.aload_n 0, 1) := by decide +kernel
theorem d0_859 : decode (xbc 0) 859 = .ok (.iload_n 3, 1) := by decide +kernel
theorem d0_860 : decode (xbc 0) 860 = .ok (.iconst 1, 1) := by decide +kernel
theorem d0_861 : decode (xbc 0) 861 = .ok (.iadd, 1) := by decide +kernel
theorem d0_862 : decode (xbc 0) 862 = .ok (.iaload, 1) := by decide +kernel
theorem d0_863 : decode (xbc 0) 863 = .ok (.invokevirtual 117, 3) := by decide +kernel
theorem d0_866 : decode (xbc 0) 866 = .ok (.if_icmp .eq 28, 3) := by decide +kernel
theorem d0_869 : decode (xbc 0) 869 = .ok (.iconst 0, 1) := by decide +kernel
theorem d0_870 : decode (xbc 0) 870 = .ok (.ireturn, 1) := by decide +kernel
theorem d0_871 : decode (xbc 0) 871 = .ok (.aload_n 1, 1) := by decide +kernel
theorem d0_872 : decode (xbc 0) 872 = .ok (.aload_n 0, 1) := by decide +kernel
theorem d0_873 : decode (xbc 0) 873 = .ok (.iload_n 3, 1) := by decide +kernel
theorem d0_874 : decode (xbc 0) 874 = .ok (.iconst 1, 1) := by decide +kernel
theorem d0_875 : decode (xbc 0) 875 = .ok (.iadd, 1) := by decide +kernel
theorem d0_876 : decode (xbc 0) 876 = .ok (.iaload, 1) := by decide +kernel
theorem d0_877 : decode (xbc 0) 877 = .ok (.invokevirtual 118, 3) := by decide +kernel
theorem d0_880 : decode (xbc 0) 880 = .ok (.aload_n 2, 1) := by decide +kernel
theorem d0_881 : decode (xbc 0) 881 = .ok (.aload_n 0, 1) := by decide +kernel
theorem d0_882 : decode (xbc 0) 882 = .ok (.iload_n 3, 1) := by decide +kernel
theorem d0_883 : decode (xbc 0) 883 = .ok (.iconst 1, 1) := by decide +kernel
theorem d0_884 : decode (xbc 0) 884 = .ok (.iadd, 1) := by decide +kernel
theorem d0_885 : decode (xbc 0) 885 = .ok (.iaload, 1) := by decide +kernel
theorem d0_886 : decode (xbc 0) 886 = .ok (.invokevirtual 121, 3) := by decide +kernel
theorem d0_889 : decode (xbc 0) 889 = .ok (.if_icmp .eq 5, 3) := by decide +kernel
theorem d0_892 : decode (xbc 0) 892 = .ok (.iconst 0, 1) := by decide +kernel
theorem d0_893 : decode (xbc 0) 893 = .ok (.ireturn, 1) := by decide +kernel
theorem d0_894 : decode (xbc 0) 894 = .ok (.iinc 3 5, 3) := by decide +kernel
theorem d0_897 : decode (xbc 0) 897 = .ok (.goto (-879), 3) := by decide +kernel
theorem d0_900 : decode (xbc 0) 900 = .ok (.iconst 1, 1) := by decide +kernel
theorem d0_901 : decode (xbc 0) 901 = .ok (.ireturn, 1) := by decide +kernel
