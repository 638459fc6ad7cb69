theorem dL_law_0 : decode mL_law.2.1 0 = .ok (.new 7, 3) := by decide +kernel
theorem dL_law_3 : decode mL_law.2.1 3 = .ok (.dup, 1) := by decide +kernel
theorem dL_law_4 : decode mL_law.2.1 4 = .ok (.invokespecial 9, 3) := by decide +kernel
theorem dL_law_7 : decode mL_law.2.1 7 = .ok (.astore_n 1, 1) := by decide +kernel
theorem dL_law_8 : decode mL_law.2.1 8 = .ok (.new 10, 3) := by decide +kernel
theorem dL_law_11 : decode mL_law.2.1 11 = .ok (.dup, 1) := by decide +kernel
theorem dL_law_12 : decode mL_law.2.1 12 = .ok (.invokespecial 12, 3) := by decide +kernel
theorem dL_law_15 : decode mL_law.2.1 15 = .ok (.astore_n 2, 1) := by decide +kernel
theorem dL_law_16 : decode mL_law.2.1 16 = .ok (.iconst 0, 1) := by decide +kernel
theorem dL_law_17 : decode mL_law.2.1 17 = .ok (.istore_n 3, 1) := by decide +kernel
theorem dL_law_18 : decode mL_law.2.1 18 = .ok (.iload_n 3, 1) := by decide +kernel
theorem dL_law_19 : decode mL_law.2.1 19 = .ok (.aload_n 0, 1) := by decide +kernel
theorem dL_law_20 : decode mL_law.2.1 20 = .ok (.arraylength, 1) := by decide +kernel
theorem dL_law_21 : decode mL_law.2.1 21 = .ok (.iconst 5, 1) := by decide +kernel
theorem dL_law_22 : decode mL_law.2.1 22 = .ok (.isub, 1) := by decide +kernel
theorem dL_law_23 : decode mL_law.2.1 23 = .ok (.if_icmp .gt 1131, 3) := by decide +kernel
theorem dL_law_26 : decode mL_law.2.1 26 = .ok (.aload_n 0, 1) := by decide +kernel
theorem dL_law_27 : decode mL_law.2.1 27 = .ok (.iload_n 3, 1) := by decide +kernel
theorem dL_law_28 : decode mL_law.2.1 28 = .ok (.iaload, 1) := by decide +kernel
theorem dL_law_29 : decode mL_law.2.1 29 = .ok (.bipush 31, 2) := by decide +kernel
theorem dL_law_31 : decode mL_law.2.1 31 = .ok (.iand, 1) := by decide +kernel
theorem dL_law_32 : decode mL_law.2.1 32 = .ok (.tableswitch 1116 0 29 #[136, 149, 182, 225, 248, 281, 314, 357, 400, 453, 476, 509, 532, 565, 588, 601, 634, 657, 670, 693, 716, 759, 802, 845, 898, 941, 964, 1007, 1050, 1093], 136) := by decide +kernel
theorem dL_law_168 : decode mL_law.2.1 168 = .ok (.aload_n 1, 1) := by decide +kernel
theorem dL_law_169 : decode mL_law.2.1 169 = .ok (.invokevirtual 13, 3) := by decide +kernel
theorem dL_law_172 : decode mL_law.2.1 172 = .ok (.aload_n 2, 1) := by decide +kernel
theorem dL_law_173 : decode mL_law.2.1 173 = .ok (.invokevirtual 17, 3) := by decide +kernel
theorem dL_law_176 : decode mL_law.2.1 176 = .ok (.if_icmp .eq 972, 3) := by decide +kernel
theorem dL_law_179 : decode mL_law.2.1 179 = .ok (.iconst 0, 1) := by decide +kernel
theorem dL_law_180 : decode mL_law.2.1 180 = .ok (.ireturn, 1) := by decide +kernel
theorem dL_law_181 : decode mL_law.2.1 181 = .ok (.aload_n 1, 1) := by decide +kernel
theorem dL_law_182 : decode mL_law.2.1 182 = .ok (.aload_n 0, 1) := by decide +kernel
theorem dL_law_183 : decode mL_law.2.1 183 = .ok (.iload_n 3, 1) := by decide +kernel
theorem dL_law_184 : decode mL_law.2.1 184 = .ok (.iconst 1, 1) := by decide +kernel
theorem dL_law_185 : decode mL_law.2.1 185 = .ok (.iadd, 1) := by decide +kernel
theorem dL_law_186 : decode mL_law.2.1 186 = .ok (.iaload, 1) := by decide +kernel
theorem dL_law_187 : decode mL_law.2.1 187 = .ok (.aload_n 0, 1) := by decide +kernel
theorem dL_law_188 : decode mL_law.2.1 188 = .ok (.iload_n 3, 1) := by decide +kernel
theorem dL_law_189 : decode mL_law.2.1 189 = .ok (.iconst 2, 1) := by decide +kernel
theorem dL_law_190 : decode mL_law.2.1 190 = .ok (.iadd, 1) := by decide +kernel
theorem dL_law_191 : decode mL_law.2.1 191 = .ok (.iaload, 1) := by decide +kernel
theorem dL_law_192 : decode mL_law.2.1 192 = .ok (.invokevirtual 18, 3) := by decide +kernel
theorem dL_law_195 : decode mL_law.2.1 195 = .ok (.aload_n 2, 1) := by decide +kernel
theorem dL_law_196 : decode mL_law.2.1 196 = .ok (.aload_n 0, 1) := by decide +kernel
theorem dL_law_197 : decode mL_law.2.1 197 = .ok (.iload_n 3, 1) := by decide +kernel
theorem dL_law_198 : decode mL_law.2.1 198 = .ok (.iconst 1, 1) := by decide +kernel
theorem dL_law_199 : decode mL_law.2.1 199 = .ok (.iadd, 1) := by decide +kernel
theorem dL_law_200 : decode mL_law.2.1 200 = .ok (.iaload, 1) := by decide +kernel
theorem dL_law_201 : decode mL_law.2.1 201 = .ok (.aload_n 0, 1) := by decide +kernel
theorem dL_law_202 : decode mL_law.2.1 202 = .ok (.iload_n 3, 1) := by decide +kernel
theorem dL_law_203 : decode mL_law.2.1 203 = .ok (.iconst 2, 1) := by decide +kernel
theorem dL_law_204 : decode mL_law.2.1 204 = .ok (.iadd, 1) := by decide +kernel
theorem dL_law_205 : decode mL_law.2.1 205 = .ok (.iaload, 1) := by decide +kernel
theorem dL_law_206 : decode mL_law.2.1 206 = .ok (.invokevirtual 22, 3) := by decide +kernel
theorem dL_law_209 : decode mL_law.2.1 209 = .ok (.if_icmp .eq 939, 3) := by decide +kernel
theorem dL_law_212 : decode mL_law.2.1 212 = .ok (.iconst 0, 1) := by decide +kernel
theorem dL_law_213 : decode mL_law.2.1 213 = .ok (.ireturn, 1) := by decide +kernel
theorem dL_law_214 : decode mL_law.2.1 214 = .ok (.aload_n 1, 1) := by decide +kernel
theorem dL_law_215 : decode mL_law.2.1 215 = .ok (.aload_n 0, 1) := by decide +kernel
theorem dL_law_216 : decode mL_law.2.1 216 = .ok (.iload_n 3, 1) := by decide +kernel
theorem dL_law_217 : decode mL_law.2.1 217 = .ok (.iconst 1, 1) := by decide +kernel
theorem dL_law_218 : decode mL_law.2.1 218 = .ok (.iadd, 1) := by decide +kernel
theorem dL_law_219 : decode mL_law.2.1 219 = .ok (.iaload, 1) := by decide +kernel
theorem dL_law_220 : decode mL_law.2.1 220 = .ok (.aload_n 0, 1) := by decide +kernel
theorem dL_law_221 : decode mL_law.2.1 221 = .ok (.iload_n 3, 1) := by decide +kernel
theorem dL_law_222 : decode mL_law.2.1 222 = .ok (.iconst 2, 1) := by decide +kernel
theorem dL_law_223 : decode mL_law.2.1 223 = .ok (.iadd, 1) := by decide +kernel
theorem dL_law_224 : decode mL_law.2.1 224 = .ok (.iaload, 1) := by decide +kernel
theorem dL_law_225 : decode mL_law.2.1 225 = .ok (.aload_n 0, 1) := by decide +kernel
theorem dL_law_226 : decode mL_law.2.1 226 = .ok (.iload_n 3, 1) := by decide +kernel
theorem dL_law_227 : decode mL_law.2.1 227 = .ok (.iconst 3, 1) := by decide +kernel
theorem dL_law_228 : decode mL_law.2.1 228 = .ok (.iadd, 1) := by decide +kernel
theorem dL_law_229 : decode mL_law.2.1 229 = .ok (.iaload, 1) := by decide +kernel
theorem dL_law_230 : decode mL_law.2.1 230 = .ok (.invokevirtual 23, 3) := by decide +kernel
theorem dL_law_233 : decode mL_law.2.1 233 = .ok (.aload_n 2, 1) := by decide +kernel
theorem dL_law_234 : decode mL_law.2.1 234 = .ok (.aload_n 0, 1) := by decide +kernel
theorem dL_law_235 : decode mL_law.2.1 235 = .ok (.iload_n 3, 1) := by decide +kernel
theorem dL_law_236 : decode mL_law.2.1 236 = .ok (.iconst 1, 1) := by decide +kernel
theorem dL_law_237 : decode mL_law.2.1 237 = .ok (.iadd, 1) := by decide +kernel
theorem dL_law_238 : decode mL_law.2.1 238 = .ok (.iaload, 1) := by decide +kernel
theorem dL_law_239 : decode mL_law.2.1 239 = .ok (.aload_n 0, 1) := by decide +kernel
theorem dL_law_240 : decode mL_law.2.1 240 = .ok (.iload_n 3, 1) := by decide +kernel
theorem dL_law_241 : decode mL_law.2.1 241 = .ok (.iconst 2, 1) := by decide +kernel
theorem dL_law_242 : decode mL_law.2.1 242 = .ok (.iadd, 1) := by decide +kernel
theorem dL_law_243 : decode mL_law.2.1 243 = .ok (.iaload, 1) := by decide +kernel
theorem dL_law_244 : decode mL_law.2.1 244 = .ok (.aload_n 0, 1) := by decide +kernel
theorem dL_law_245 : decode mL_law.2.1 245 = .ok (.iload_n 3, 1) := by decide +kernel
theorem dL_law_246 : decode mL_law.2.1 246 = .ok (.iconst 3, 1) := by decide +kernel
theorem dL_law_247 : decode mL_law.2.1 247 = .ok (.iadd, 1) := by decide +kernel
theorem dL_law_248 : decode mL_law.2.1 248 = .ok (.iaload, 1) := by decide +kernel
theorem dL_law_249 : decode mL_law.2.1 249 = .ok (.invokevirtual 27, 3) := by decide +kernel
theorem dL_law_252 : decode mL_law.2.1 252 = .ok (.if_icmp .eq 896, 3) := by decide +kernel
theorem dL_law_255 : decode mL_law.2.1 255 = .ok (.iconst 0, 1) := by decide +kernel
theorem dL_law_256 : decode mL_law.2.1 256 = .ok (.ireturn, 1) := by decide +kernel
theorem dL_law_257 : decode mL_law.2.1 257 = .ok (.aload_n 1, 1) := by decide +kernel
theorem dL_law_258 : decode mL_law.2.1 258 = .ok (.aload_n 0, 1) := by decide +kernel
theorem dL_law_259 : decode mL_law.2.1 259 = .ok (.iload_n 3, 1) := by decide +kernel
theorem dL_law_260 : decode mL_law.2.1 260 = .ok (.iconst 1, 1) := by decide +kernel
theorem dL_law_261 : decode mL_law.2.1 261 = .ok (.iadd, 1) := by decide +kernel
theorem dL_law_262 : decode mL_law.2.1 262 = .ok (.iaload, 1) := by decide +kernel
theorem dL_law_263 : decode mL_law.2.1 263 = .ok (.invokevirtual 28, 3) := by decide +kernel
theorem dL_law_266 : decode mL_law.2.1 266 = .ok (.aload_n 2, 1) := by decide +kernel
theorem dL_law_267 : decode mL_law.2.1 267 = .ok (.aload_n 0, 1) := by decide +kernel
theorem dL_law_268 : decode mL_law.2.1 268 = .ok (.iload_n 3, 1) := by decide +kernel
theorem dL_law_269 : decode mL_law.2.1 269 = .ok (.iconst 1, 1) := by decide +kernel
theorem dL_law_270 : decode mL_law.2.1 270 = .ok (.iadd, 1) := by decide +kernel
theorem dL_law_271 : decode mL_law.2.1 271 = .ok (.iaload, 1) := by decide +kernel
theorem dL_law_272 : decode mL_law.2.1 272 = .ok (.invokevirtual 32, 3) := by decide +kernel
theorem dL_law_275 : decode mL_law.2.1 275 = .ok (.if_icmp .eq 873, 3) := by decide +kernel
theorem dL_law_278 : decode mL_law.2.1 278 = .ok (.iconst 0, 1) := by decide +kernel
theorem dL_law_279 : decode mL_law.2.1 279 = .ok (.ireturn, 1) := by decide +kernel
theorem dL_law_280 : decode mL_law.2.1 280 = .ok (.aload_n 1, 1) := by decide +kernel
theorem dL_law_281 : decode mL_law.2.1 281 = .ok (.aload_n 0, 1) := by decide +kernel
theorem dL_law_282 : decode mL_law.2.1 282 = .ok (.iload_n 3, 1) := by decide +kernel
theorem dL_law_283 : decode mL_law.2.1 283 = .ok (.iconst 1, 1) := by decide +kernel
theorem dL_law_284 : decode mL_law.2.1 284 = .ok (.iadd, 1) := by decide +kernel
theorem dL_law_285 : decode mL_law.2.1 285 = .ok (.iaload, 1) := by decide +kernel
theorem dL_law_286 : decode mL_law.2.1 286 = .ok (.aload_n 0, 1) := by decide +kernel
theorem dL_law_287 : decode mL_law.2.1 287 = .ok (.iload_n 3, 1) := by decide +kernel
theorem dL_law_288 : decode mL_law.2.1 288 = .ok (.iconst 2, 1) := by decide +kernel
theorem dL_law_289 : decode mL_law.2.1 289 = .ok (.iadd, 1) := by decide +kernel
theorem dL_law_290 : decode mL_law.2.1 290 = .ok (.iaload, 1) := by decide +kernel
theorem dL_law_291 : decode mL_law.2.1 291 = .ok (.invokevirtual 33, 3) := by decide +kernel
theorem dL_law_294 : decode mL_law.2.1 294 = .ok (.aload_n 2, 1) := by decide +kernel
theorem dL_law_295 : decode mL_law.2.1 295 = .ok (.aload_n 0, 1) := by decide +kernel
theorem dL_law_296 : decode mL_law.2.1 296 = .ok (.iload_n 3, 1) := by decide +kernel
theorem dL_law_297 : decode mL_law.2.1 297 = .ok (.iconst 1, 1) := by decide +kernel
theorem dL_law_298 : decode mL_law.2.1 298 = .ok (.iadd, 1) := by decide +kernel
theorem dL_law_299 : decode mL_law.2.1 299 = .ok (.iaload, 1) := by decide +kernel
theorem dL_law_300 : decode mL_law.2.1 300 = .ok (.aload_n 0, 1) := by decide +kernel
theorem dL_law_301 : decode mL_law.2.1 301 = .ok (.iload_n 3, 1) := by decide +kernel
theorem dL_law_302 : decode mL_law.2.1 302 = .ok (.iconst 2, 1) := by decide +kernel
theorem dL_law_303 : decode mL_law.2.1 303 = .ok (.iadd, 1) := by decide +kernel
theorem dL_law_304 : decode mL_law.2.1 304 = .ok (.iaload, 1) := by decide +kernel
theorem dL_law_305 : decode mL_law.2.1 305 = .ok (.invokevirtual 36, 3) := by decide +kernel
theorem dL_law_308 : decode mL_law.2.1 308 = .ok (.if_icmp .eq 840, 3) := by decide +kernel
theorem dL_law_311 : decode mL_law.2.1 311 = .ok (.iconst 0, 1) := by decide +kernel
theorem dL_law_312 : decode mL_law.2.1 312 = .ok (.ireturn, 1) := by decide +kernel
theorem dL_law_313 : decode mL_law.2.1 313 = .ok (.aload_n 1, 1) := by decide +kernel
theorem dL_law_314 : decode mL_law.2.1 314 = .ok (.aload_n 0, 1) := by decide +kernel
theorem dL_law_315 : decode mL_law.2.1 315 = .ok (.iload_n 3, 1) := by decide +kernel
theorem dL_law_316 : decode mL_law.2.1 316 = .ok (.iconst 1, 1) := by decide +kernel
theorem dL_law_317 : decode mL_law.2.1 317 = .ok (.iadd, 1) := by decide +kernel
theorem dL_law_318 : decode mL_law.2.1 318 = .ok (.iaload, 1) := by decide +kernel
theorem dL_law_319 : decode mL_law.2.1 319 = .ok (.aload_n 0, 1) := by decide +kernel
theorem dL_law_320 : decode mL_law.2.1 320 = .ok (.iload_n 3, 1) := by decide +kernel
theorem dL_law_321 : decode mL_law.2.1 321 = .ok (.iconst 2, 1) := by decide +kernel
theorem dL_law_322 : decode mL_law.2.1 322 = .ok (.iadd, 1) := by decide +kernel
theorem dL_law_323 : decode mL_law.2.1 323 = .ok (.iaload, 1) := by decide +kernel
theorem dL_law_324 : decode mL_law.2.1 324 = .ok (.invokevirtual 37, 3) := by decide +kernel
theorem dL_law_327 : decode mL_law.2.1 327 = .ok (.aload_n 2, 1) := by decide +kernel
theorem dL_law_328 : decode mL_law.2.1 328 = .ok (.aload_n 0, 1) := by decide +kernel
theorem dL_law_329 : decode mL_law.2.1 329 = .ok (.iload_n 3, 1) := by decide +kernel
theorem dL_law_330 : decode mL_law.2.1 330 = .ok (.iconst 1, 1) := by decide +kernel
theorem dL_law_331 : decode mL_law.2.1 331 = .ok (.iadd, 1) := by decide +kernel
theorem dL_law_332 : decode mL_law.2.1 332 = .ok (.iaload, 1) := by decide +kernel
theorem dL_law_333 : decode mL_law.2.1 333 = .ok (.aload_n 0, 1) := by decide +kernel
theorem dL_law_334 : decode mL_law.2.1 334 = .ok (.iload_n 3, 1) := by decide +kernel
theorem dL_law_335 : decode mL_law.2.1 335 = .ok (.iconst 2, 1) := by decide +kernel
theorem dL_law_336 : decode mL_law.2.1 336 = .ok (.iadd, 1) := by decide +kernel
theorem dL_law_337 : decode mL_law.2.1 337 = .ok (.iaload, 1) := by decide +kernel
theorem dL_law_338 : decode mL_law.2.1 338 = .ok (.invokevirtual 40, 3) := by decide +kernel
theorem dL_law_341 : decode mL_law.2.1 341 = .ok (.if_icmp .eq 807, 3) := by decide +kernel
theorem dL_law_344 : decode mL_law.2.1 344 = .ok (.iconst 0, 1) := by decide +kernel
theorem dL_law_345 : decode mL_law.2.1 345 = .ok (.ireturn, 1) := by decide +kernel
theorem dL_law_346 : decode mL_law.2.1 346 = .ok (.aload_n 1, 1) := by decide +kernel
theorem dL_law_347 : decode mL_law.2.1 347 = .ok (.aload_n 0, 1) := by decide +kernel
theorem dL_law_348 : decode mL_law.2.1 348 = .ok (.iload_n 3, 1) := by decide +kernel
theorem dL_law_349 : decode mL_law.2.1 349 = .ok (.iconst 1, 1) := by decide +kernel
theorem dL_law_350 : decode mL_law.2.1 350 = .ok (.iadd, 1) := by decide +kernel
theorem dL_law_351 : decode mL_law.2.1 351 = .ok (.iaload, 1) := by decide +kernel
theorem dL_law_352 : decode mL_law.2.1 352 = .ok (.aload_n 0, 1) := by decide +kernel
theorem dL_law_353 : decode mL_law.2.1 353 = .ok (.iload_n 3, 1) := by decide +kernel
theorem dL_law_354 : decode mL_law.2.1 354 = .ok (.iconst 2, 1) := by decide +kernel
theorem dL_law_355 : decode mL_law.2.1 355 = .ok (.iadd, 1) := by decide +kernel
theorem dL_law_356 : decode mL_law.2.1 356 = .ok (.iaload, 1) := by decide +kernel
theorem dL_law_357 : decode mL_law.2.1 357 = .ok (.aload_n 0, 1) := by decide +kernel
theorem dL_law_358 : decode mL_law.2.1 358 = .ok (.iload_n 3, 1) := by decide +kernel
theorem dL_law_359 : decode mL_law.2.1 359 = .ok (.iconst 3, 1) := by decide +kernel
theorem dL_law_360 : decode mL_law.2.1 360 = .ok (.iadd, 1) := by decide +kernel
theorem dL_law_361 : decode mL_law.2.1 361 = .ok (.iaload, 1) := by decide +kernel
theorem dL_law_362 : decode mL_law.2.1 362 = .ok (.invokevirtual 41, 3) := by decide +kernel
theorem dL_law_365 : decode mL_law.2.1 365 = .ok (.aload_n 2, 1) := by decide +kernel
theorem dL_law_366 : decode mL_law.2.1 366 = .ok (.aload_n 0, 1) := by decide +kernel
theorem dL_law_367 : decode mL_law.2.1 367 = .ok (.iload_n 3, 1) := by decide +kernel
theorem dL_law_368 : decode mL_law.2.1 368 = .ok (.iconst 1, 1) := by decide +kernel
theorem dL_law_369 : decode mL_law.2.1 369 = .ok (.iadd, 1) := by decide +kernel
theorem dL_law_370 : decode mL_law.2.1 370 = .ok (.iaload, 1) := by decide +kernel
theorem dL_law_371 : decode mL_law.2.1 371 = .ok (.aload_n 0, 1) := by decide +kernel
theorem dL_law_372 : decode mL_law.2.1 372 = .ok (.iload_n 3, 1) := by decide +kernel
theorem dL_law_373 : decode mL_law.2.1 373 = .ok (.iconst 2, 1) := by decide +kernel
theorem dL_law_374 : decode mL_law.2.1 374 = .ok (.iadd, 1) := by decide +kernel
theorem dL_law_375 : decode mL_law.2.1 375 = .ok (.iaload, 1) := by decide +kernel
theorem dL_law_376 : decode mL_law.2.1 376 = .ok (.aload_n 0, 1) := by decide +kernel
theorem dL_law_377 : decode mL_law.2.1 377 = .ok (.iload_n 3, 1) := by decide +kernel
theorem dL_law_378 : decode mL_law.2.1 378 = .ok (.iconst 3, 1) := by decide +kernel
theorem dL_law_379 : decode mL_law.2.1 379 = .ok (.iadd, 1) := by decide +kernel
theorem dL_law_380 : decode mL_law.2.1 380 = .ok (.iaload, 1) := by decide +kernel
theorem dL_law_381 : decode mL_law.2.1 381 = .ok (.invokevirtual 44, 3) := by decide +kernel
theorem dL_law_384 : decode mL_law.2.1 384 = .ok (.if_icmp .eq 764, 3) := by decide +kernel
theorem dL_law_387 : decode mL_law.2.1 387 = .ok (.iconst 0, 1) := by decide +kernel
theorem dL_law_388 : decode mL_law.2.1 388 = .ok (.ireturn, 1) := by decide +kernel
theorem dL_law_389 : decode mL_law.2.1 389 = .ok (.aload_n 1, 1) := by decide +kernel
theorem dL_law_390 : decode mL_law.2.1 390 = .ok (.aload_n 0, 1) := by decide +kernel
theorem dL_law_391 : decode mL_law.2.1 391 = .ok (.iload_n 3, 1) := by decide +kernel
theorem dL_law_392 : decode mL_law.2.1 392 = .ok (.iconst 1, 1) := by decide +kernel
theorem dL_law_393 : decode mL_law.2.1 393 = .ok (.iadd, 1) := by decide +kernel
theorem dL_law_394 : decode mL_law.2.1 394 = .ok (.iaload, 1) := by decide +kernel
theorem dL_law_395 : decode mL_law.2.1 395 = .ok (.aload_n 0, 1) := by decide +kernel
theorem dL_law_396 : decode mL_law.2.1 396 = .ok (.iload_n 3, 1) := by decide +kernel
theorem dL_law_397 : decode mL_law.2.1 397 = .ok (.iconst 2, 1) := by decide +kernel
theorem dL_law_398 : decode mL_law.2.1 398 = .ok (.iadd, 1) := by decide +kernel
theorem dL_law_399 : decode mL_law.2.1 399 = .ok (.iaload, 1) := by decide +kernel
theorem dL_law_400 : decode mL_law.2.1 400 = .ok (.aload_n 0, 1) := by decide +kernel
theorem dL_law_401 : decode mL_law.2.1 401 = .ok (.iload_n 3, 1) := by decide +kernel
theorem dL_law_402 : decode mL_law.2.1 402 = .ok (.iconst 3, 1) := by decide +kernel
theorem dL_law_403 : decode mL_law.2.1 403 = .ok (.iadd, 1) := by decide +kernel
theorem dL_law_404 : decode mL_law.2.1 404 = .ok (.iaload, 1) := by decide +kernel
theorem dL_law_405 : decode mL_law.2.1 405 = .ok (.invokevirtual 45, 3) := by decide +kernel
theorem dL_law_408 : decode mL_law.2.1 408 = .ok (.aload_n 2, 1) := by decide +kernel
theorem dL_law_409 : decode mL_law.2.1 409 = .ok (.aload_n 0, 1) := by decide +kernel
theorem dL_law_410 : decode mL_law.2.1 410 = .ok (.iload_n 3, 1) := by decide +kernel
theorem dL_law_411 : decode mL_law.2.1 411 = .ok (.iconst 1, 1) := by decide +kernel
theorem dL_law_412 : decode mL_law.2.1 412 = .ok (.iadd, 1) := by decide +kernel
theorem dL_law_413 : decode mL_law.2.1 413 = .ok (.iaload, 1) := by decide +kernel
theorem dL_law_414 : decode mL_law.2.1 414 = .ok (.aload_n 0, 1) := by decide +kernel
theorem dL_law_415 : decode mL_law.2.1 415 = .ok (.iload_n 3, 1) := by decide +kernel
theorem dL_law_416 : decode mL_law.2.1 416 = .ok (.iconst 2, 1) := by decide +kernel
theorem dL_law_417 : decode mL_law.2.1 417 = .ok (.iadd, 1) := by decide +kernel
theorem dL_law_418 : decode mL_law.2.1 418 = .ok (.iaload, 1) := by decide +kernel
theorem dL_law_419 : decode mL_law.2.1 419 = .ok (.aload_n 0, 1) := by decide +kernel
theorem dL_law_420 : decode mL_law.2.1 420 = .ok (.iload_n 3, 1) := by decide +kernel
theorem dL_law_421 : decode mL_law.2.1 421 = .ok (.iconst 3, 1) := by decide +kernel
theorem dL_law_422 : decode mL_law.2.1 422 = .ok (.iadd, 1) := by decide +kernel
theorem dL_law_423 : decode mL_law.2.1 423 = .ok (.iaload, 1) := by decide +kernel
theorem dL_law_424 : decode mL_law.2.1 424 = .ok (.invokevirtual 48, 3) := by decide +kernel
theorem dL_law_427 : decode mL_law.2.1 427 = .ok (.if_icmp .eq 721, 3) := by decide +kernel
theorem dL_law_430 : decode mL_law.2.1 430 = .ok (.iconst 0, 1) := by decide +kernel
theorem dL_law_431 : decode mL_law.2.1 431 = .ok (.ireturn, 1) := by decide +kernel
theorem dL_law_432 : decode mL_law.2.1 432 = .ok (.aload_n 1, 1) := by decide +kernel
theorem dL_law_433 : decode mL_law.2.1 433 = .ok (.aload_n 0, 1) := by decide +kernel
theorem dL_law_434 : decode mL_law.2.1 434 = .ok (.iload_n 3, 1) := by decide +kernel
theorem dL_law_435 : decode mL_law.2.1 435 = .ok (.iconst 1, 1) := by decide +kernel
theorem dL_law_436 : decode mL_law.2.1 436 = .ok (.iadd, 1) := by decide +kernel
theorem dL_law_437 : decode mL_law.2.1 437 = .ok (.iaload, 1) := by decide +kernel
theorem dL_law_438 : decode mL_law.2.1 438 = .ok (.aload_n 0, 1) := by decide +kernel
theorem dL_law_439 : decode mL_law.2.1 439 = .ok (.iload_n 3, 1) := by decide +kernel
theorem dL_law_440 : decode mL_law.2.1 440 = .ok (.iconst 2, 1) := by decide +kernel
theorem dL_law_441 : decode mL_law.2.1 441 = .ok (.iadd, 1) := by decide +kernel
theorem dL_law_442 : decode mL_law.2.1 442 = .ok (.iaload, 1) := by decide +kernel
theorem dL_law_443 : decode mL_law.2.1 443 = .ok (.aload_n 0, 1) := by decide +kernel
theorem dL_law_444 : decode mL_law.2.1 444 = .ok (.iload_n 3, 1) := by decide +kernel
theorem dL_law_445 : decode mL_law.2.1 445 = .ok (.iconst 3, 1) := by decide +kernel
theorem dL_law_446 : decode mL_law.2.1 446 = .ok (.iadd, 1) := by decide +kernel
theorem dL_law_447 : decode mL_law.2.1 447 = .ok (.iaload, 1) := by decide +kernel
theorem dL_law_448 : decode mL_law.2.1 448 = .ok (.aload_n 0, 1) := by decide +kernel
theorem dL_law_449 : decode mL_law.2.1 449 = .ok (.iload_n 3, 1) := by decide +kernel
theorem dL_law_450 : decode mL_law.2.1 450 = .ok (.iconst 4, 1) := by decide +kernel
theorem dL_law_451 : decode mL_law.2.1 451 = .ok (.iadd, 1) := by decide +kernel
theorem dL_law_452 : decode mL_law.2.1 452 = .ok (.iaload, 1) := by decide +kernel
theorem dL_law_453 : decode mL_law.2.1 453 = .ok (.invokevirtual 49, 3) := by decide +kernel
theorem dL_law_456 : decode mL_law.2.1 456 = .ok (.aload_n 2, 1) := by decide +kernel
theorem dL_law_457 : decode mL_law.2.1 457 = .ok (.aload_n 0, 1) := by decide +kernel
theorem dL_law_458 : decode mL_law.2.1 458 = .ok (.iload_n 3, 1) := by decide +kernel
theorem dL_law_459 : decode mL_law.2.1 459 = .ok (.iconst 1, 1) := by decide +kernel
theorem dL_law_460 : decode mL_law.2.1 460 = .ok (.iadd, 1) := by decide +kernel
theorem dL_law_461 : decode mL_law.2.1 461 = .ok (.iaload, 1) := by decide +kernel
theorem dL_law_462 : decode mL_law.2.1 462 = .ok (.aload_n 0, 1) := by decide +kernel
theorem dL_law_463 : decode mL_law.2.1 463 = .ok (.iload_n 3, 1) := by decide +kernel
theorem dL_law_464 : decode mL_law.2.1 464 = .ok (.iconst 2, 1) := by decide +kernel
theorem dL_law_465 : decode mL_law.2.1 465 = .ok (.iadd, 1) := by decide +kernel
theorem dL_law_466 : decode mL_law.2.1 466 = .ok (.iaload, 1) := by decide +kernel
theorem dL_law_467 : decode mL_law.2.1 467 = .ok (.aload_n 0, 1) := by decide +kernel
theorem dL_law_468 : decode mL_law.2.1 468 = .ok (.iload_n 3, 1) := by decide +kernel
theorem dL_law_469 : decode mL_law.2.1 469 = .ok (.iconst 3, 1) := by decide +kernel
theorem dL_law_470 : decode mL_law.2.1 470 = .ok (.iadd, 1) := by decide +kernel
theorem dL_law_471 : decode mL_law.2.1 471 = .ok (.iaload, 1) := by decide +kernel
theorem dL_law_472 : decode mL_law.2.1 472 = .ok (.aload_n 0, 1) := by decide +kernel
theorem dL_law_473 : decode mL_law.2.1 473 = .ok (.iload_n 3, 1) := by decide +kernel
theorem dL_law_474 : decode mL_law.2.1 474 = .ok (.iconst 4, 1) := by decide +kernel
theorem dL_law_475 : decode mL_law.2.1 475 = .ok (.iadd, 1) := by decide +kernel
theorem dL_law_476 : decode mL_law.2.1 476 = .ok (.iaload, 1) := by decide +kernel
theorem dL_law_477 : decode mL_law.2.1 477 = .ok (.invokevirtual 53, 3) := by decide +kernel
theorem dL_law_480 : decode mL_law.2.1 480 = .ok (.if_icmp .eq 668, 3) := by decide +kernel
theorem dL_law_483 : decode mL_law.2.1 483 = .ok (.iconst 0, 1) := by decide +kernel
theorem dL_law_484 : decode mL_law.2.1 484 = .ok (.ireturn, 1) := by decide +kernel
theorem dL_law_485 : decode mL_law.2.1 485 = .ok (.aload_n 1, 1) := by decide +kernel
theorem dL_law_486 : decode mL_law.2.1 486 = .ok (.aload_n 0, 1) := by decide +kernel
theorem dL_law_487 : decode mL_law.2.1 487 = .ok (.iload_n 3, 1) := by decide +kernel
theorem dL_law_488 : decode mL_law.2.1 488 = .ok (.iconst 1, 1) := by decide +kernel
theorem dL_law_489 : decode mL_law.2.1 489 = .ok (.iadd, 1) := by decide +kernel
theorem dL_law_490 : decode mL_law.2.1 490 = .ok (.iaload, 1) := by decide +kernel
theorem dL_law_491 : decode mL_law.2.1 491 = .ok (.invokevirtual 54, 3) := by decide +kernel
theorem dL_law_494 : decode mL_law.2.1 494 = .ok (.aload_n 2, 1) := by decide +kernel
theorem dL_law_495 : decode mL_law.2.1 495 = .ok (.aload_n 0, 1) := by decide +kernel
theorem dL_law_496 : decode mL_law.2.1 496 = .ok (.iload_n 3, 1) := by decide +kernel
theorem dL_law_497 : decode mL_law.2.1 497 = .ok (.iconst 1, 1) := by decide +kernel
theorem dL_law_498 : decode mL_law.2.1 498 = .ok (.iadd, 1) := by decide +kernel
theorem dL_law_499 : decode mL_law.2.1 499 = .ok (.iaload, 1) := by decide +kernel
theorem dL_law_500 : decode mL_law.2.1 500 = .ok (.invokevirtual 57, 3) := by decide +kernel
theorem dL_law_503 : decode mL_law.2.1 503 = .ok (.if_icmp .eq 645, 3) := by decide +kernel
theorem dL_law_506 : decode mL_law.2.1 506 = .ok (.iconst 0, 1) := by decide +kernel
theorem dL_law_507 : decode mL_law.2.1 507 = .ok (.ireturn, 1) := by decide +kernel
theorem dL_law_508 : decode mL_law.2.1 508 = .ok (.aload_n 1, 1) := by decide +kernel
theorem dL_law_509 : decode mL_law.2.1 509 = .ok (.aload_n 0, 1) := by decide +kernel
theorem dL_law_510 : decode mL_law.2.1 510 = .ok (.iload_n 3, 1) := by decide +kernel
theorem dL_law_511 : decode mL_law.2.1 511 = .ok (.iconst 1, 1) := by decide +kernel
theorem dL_law_512 : decode mL_law.2.1 512 = .ok (.iadd, 1) := by decide +kernel
theorem dL_law_513 : decode mL_law.2.1 513 = .ok (.iaload, 1) := by decide +kernel
theorem dL_law_514 : decode mL_law.2.1 514 = .ok (.aload_n 0, 1) := by decide +kernel
theorem dL_law_515 : decode mL_law.2.1 515 = .ok (.iload_n 3, 1) := by decide +kernel
theorem dL_law_516 : decode mL_law.2.1 516 = .ok (.iconst 2, 1) := by decide +kernel
theorem dL_law_517 : decode mL_law.2.1 517 = .ok (.iadd, 1) := by decide +kernel
theorem dL_law_518 : decode mL_law.2.1 518 = .ok (.iaload, 1) := by decide +kernel
theorem dL_law_519 : decode mL_law.2.1 519 = .ok (.invokevirtual 58, 3) := by decide +kernel
theorem dL_law_522 : decode mL_law.2.1 522 = .ok (.aload_n 2, 1) := by decide +kernel
theorem dL_law_523 : decode mL_law.2.1 523 = .ok (.aload_n 0, 1) := by decide +kernel
theorem dL_law_524 : decode mL_law.2.1 524 = .ok (.iload_n 3, 1) := by decide +kernel
theorem dL_law_525 : decode mL_law.2.1 525 = .ok (.iconst 1, 1) := by decide +kernel
theorem dL_law_526 : decode mL_law.2.1 526 = .ok (.iadd, 1) := by decide +kernel
theorem dL_law_527 : decode mL_law.2.1 527 = .ok (.iaload, 1) := by decide +kernel
theorem dL_law_528 : decode mL_law.2.1 528 = .ok (.aload_n 0, 1) := by decide +kernel
theorem dL_law_529 : decode mL_law.2.1 529 = .ok (.iload_n 3, 1) := by decide +kernel
theorem dL_law_530 : decode mL_law.2.1 530 = .ok (.iconst 2, 1) := by decide +kernel
theorem dL_law_531 : decode mL_law.2.1 531 = .ok (.iadd, 1) := by decide +kernel
theorem dL_law_532 : decode mL_law.2.1 532 = .ok (.iaload, 1) := by decide +kernel
theorem dL_law_533 : decode mL_law.2.1 533 = .ok (.invokevirtual 61, 3) := by decide +kernel
theorem dL_law_536 : decode mL_law.2.1 536 = .ok (.if_icmp .eq 612, 3) := by decide +kernel
theorem dL_law_539 : decode mL_law.2.1 539 = .ok (.iconst 0, 1) := by decide +kernel
theorem dL_law_540 : decode mL_law.2.1 540 = .ok (.ireturn, 1) := by decide +kernel
theorem dL_law_541 : decode mL_law.2.1 541 = .ok (.aload_n 1, 1) := by decide +kernel
theorem dL_law_542 : decode mL_law.2.1 542 = .ok (.aload_n 0, 1) := by decide +kernel
theorem dL_law_543 : decode mL_law.2.1 543 = .ok (.iload_n 3, 1) := by decide +kernel
theorem dL_law_544 : decode mL_law.2.1 544 = .ok (.iconst 1, 1) := by decide +kernel
theorem dL_law_545 : decode mL_law.2.1 545 = .ok (.iadd, 1) := by decide +kernel
theorem dL_law_546 : decode mL_law.2.1 546 = .ok (.iaload, 1) := by decide +kernel
theorem dL_law_547 : decode mL_law.2.1 547 = .ok (.invokevirtual 62, 3) := by decide +kernel
theorem dL_law_550 : decode mL_law.2.1 550 = .ok (.aload_n 2, 1) := by decide +kernel
theorem dL_law_551 : decode mL_law.2.1 551 = .ok (.aload_n 0, 1) := by decide +kernel
theorem dL_law_552 : decode mL_law.2.1 552 = .ok (.iload_n 3, 1) := by decide +kernel
theorem dL_law_553 : decode mL_law.2.1 553 = .ok (.iconst 1, 1) := by decide +kernel
theorem dL_law_554 : decode mL_law.2.1 554 = .ok (.iadd, 1) := by decide +kernel
theorem dL_law_555 : decode mL_law.2.1 555 = .ok (.iaload, 1) := by decide +kernel
theorem dL_law_556 : decode mL_law.2.1 556 = .ok (.invokevirtual 65, 3) := by decide +kernel
theorem dL_law_559 : decode mL_law.2.1 559 = .ok (.if_icmp .eq 589, 3) := by decide +kernel
theorem dL_law_562 : decode mL_law.2.1 562 = .ok (.iconst 0, 1) := by decide +kernel
theorem dL_law_563 : decode mL_law.2.1 563 = .ok (.ireturn, 1) := by decide +kernel
theorem dL_law_564 : decode mL_law.2.1 564 = .ok (.aload_n 1, 1) := by decide +kernel
theorem dL_law_565 : decode mL_law.2.1 565 = .ok (.aload_n 0, 1) := by decide +kernel
theorem dL_law_566 : decode mL_law.2.1 566 = .ok (.iload_n 3, 1) := by decide +kernel
theorem dL_law_567 : decode mL_law.2.1 567 = .ok (.iconst 1, 1) := by decide +kernel
theorem dL_law_568 : decode mL_law.2.1 568 = .ok (.iadd, 1) := by decide +kernel
theorem dL_law_569 : decode mL_law.2.1 569 = .ok (.iaload, 1) := by decide +kernel
theorem dL_law_570 : decode mL_law.2.1 570 = .ok (.aload_n 0, 1) := by decide +kernel
theorem dL_law_571 : decode mL_law.2.1 571 = .ok (.iload_n 3, 1) := by decide +kernel
theorem dL_law_572 : decode mL_law.2.1 572 = .ok (.iconst 2, 1) := by decide +kernel
theorem dL_law_573 : decode mL_law.2.1 573 = .ok (.iadd, 1) := by decide +kernel
theorem dL_law_574 : decode mL_law.2.1 574 = .ok (.iaload, 1) := by decide +kernel
theorem dL_law_575 : decode mL_law.2.1 575 = .ok (.invokevirtual 66, 3) := by decide +kernel
theorem dL_law_578 : decode mL_law.2.1 578 = .ok (.aload_n 2, 1) := by decide +kernel
theorem dL_law_579 : decode mL_law.2.1 579 = .ok (.aload_n 0, 1) := by decide +kernel
theorem dL_law_580 : decode mL_law.2.1 580 = .ok (.iload_n 3, 1) := by decide +kernel
theorem dL_law_581 : decode mL_law.2.1 581 = .ok (.iconst 1, 1) := by decide +kernel
theorem dL_law_582 : decode mL_law.2.1 582 = .ok (.iadd, 1) := by decide +kernel
theorem dL_law_583 : decode mL_law.2.1 583 = .ok (.iaload, 1) := by decide +kernel
theorem dL_law_584 : decode mL_law.2.1 584 = .ok (.aload_n 0, 1) := by decide +kernel
theorem dL_law_585 : decode mL_law.2.1 585 = .ok (.iload_n 3, 1) := by decide +kernel
theorem dL_law_586 : decode mL_law.2.1 586 = .ok (.iconst 2, 1) := by decide +kernel
theorem dL_law_587 : decode mL_law.2.1 587 = .ok (.iadd, 1) := by decide +kernel
theorem dL_law_588 : decode mL_law.2.1 588 = .ok (.iaload, 1) := by decide +kernel
theorem dL_law_589 : decode mL_law.2.1 589 = .ok (.invokevirtual 69, 3) := by decide +kernel
theorem dL_law_592 : decode mL_law.2.1 592 = .ok (.if_icmp .eq 556, 3) := by decide +kernel
theorem dL_law_595 : decode mL_law.2.1 595 = .ok (.iconst 0, 1) := by decide +kernel
theorem dL_law_596 : decode mL_law.2.1 596 = .ok (.ireturn, 1) := by decide +kernel
theorem dL_law_597 : decode mL_law.2.1 597 = .ok (.aload_n 1, 1) := by decide +kernel
theorem dL_law_598 : decode mL_law.2.1 598 = .ok (.aload_n 0, 1) := by decide +kernel
theorem dL_law_599 : decode mL_law.2.1 599 = .ok (.iload_n 3, 1) := by decide +kernel
theorem dL_law_600 : decode mL_law.2.1 600 = .ok (.iconst 1, 1) := by decide +kernel
theorem dL_law_601 : decode mL_law.2.1 601 = .ok (.iadd, 1) := by decide +kernel
theorem dL_law_602 : decode mL_law.2.1 602 = .ok (.iaload, 1) := by decide +kernel
theorem dL_law_603 : decode mL_law.2.1 603 = .ok (.invokevirtual 70, 3) := by decide +kernel
theorem dL_law_606 : decode mL_law.2.1 606 = .ok (.aload_n 2, 1) := by decide +kernel
theorem dL_law_607 : decode mL_law.2.1 607 = .ok (.aload_n 0, 1) := by decide +kernel
theorem dL_law_608 : decode mL_law.2.1 608 = .ok (.iload_n 3, 1) := by decide +kernel
theorem dL_law_609 : decode mL_law.2.1 609 = .ok (.iconst 1, 1) := by decide +kernel
theorem dL_law_610 : decode mL_law.2.1 610 = .ok (.iadd, 1) := by decide +kernel
theorem dL_law_611 : decode mL_law.2.1 611 = .ok (.iaload, 1) := by decide +kernel
theorem dL_law_612 : decode mL_law.2.1 612 = .ok (.invokevirtual 73, 3) := by decide +kernel
theorem dL_law_615 : decode mL_law.2.1 615 = .ok (.if_icmp .eq 533, 3) := by decide +kernel
theorem dL_law_618 : decode mL_law.2.1 618 = .ok (.iconst 0, 1) := by decide +kernel
theorem dL_law_619 : decode mL_law.2.1 619 = .ok (.ireturn, 1) := by decide +kernel
theorem dL_law_620 : decode mL_law.2.1 620 = .ok (.aload_n 1, 1) := by decide +kernel
theorem dL_law_621 : decode mL_law.2.1 621 = .ok (.invokevirtual 74, 3) := by decide +kernel
theorem dL_law_624 : decode mL_law.2.1 624 = .ok (.aload_n 2, 1) := by decide +kernel
theorem dL_law_625 : decode mL_law.2.1 625 = .ok (.invokevirtual 77, 3) := by decide +kernel
theorem dL_law_628 : decode mL_law.2.1 628 = .ok (.if_icmp .eq 520, 3) := by decide +kernel
theorem dL_law_631 : decode mL_law.2.1 631 = .ok (.iconst 0, 1) := by decide +kernel
theorem dL_law_632 : decode mL_law.2.1 632 = .ok (.ireturn, 1) := by decide +kernel
theorem dL_law_633 : decode mL_law.2.1 633 = .ok (.aload_n 1, 1) := by decide +kernel
theorem dL_law_634 : decode mL_law.2.1 634 = .ok (.aload_n 0, 1) := by decide +kernel
theorem dL_law_635 : decode mL_law.2.1 635 = .ok (.iload_n 3, 1) := by decide +kernel
theorem dL_law_636 : decode mL_law.2.1 636 = .ok (.iconst 1, 1) := by decide +kernel
theorem dL_law_637 : decode mL_law.2.1 637 = .ok (.iadd, 1) := by decide +kernel
theorem dL_law_638 : decode mL_law.2.1 638 = .ok (.iaload, 1) := by decide +kernel
theorem dL_law_639 : decode mL_law.2.1 639 = .ok (.aload_n 0, 1) := by decide +kernel
theorem dL_law_640 : decode mL_law.2.1 640 = .ok (.iload_n 3, 1) := by decide +kernel
theorem dL_law_641 : decode mL_law.2.1 641 = .ok (.iconst 2, 1) := by decide +kernel
theorem dL_law_642 : decode mL_law.2.1 642 = .ok (.iadd, 1) := by decide +kernel
theorem dL_law_643 : decode mL_law.2.1 643 = .ok (.iaload, 1) := by decide +kernel
theorem dL_law_644 : decode mL_law.2.1 644 = .ok (.invokevirtual 78, 3) := by decide +kernel
theorem dL_law_647 : decode mL_law.2.1 647 = .ok (.aload_n 2, 1) := by decide +kernel
theorem dL_law_648 : decode mL_law.2.1 648 = .ok (.aload_n 0, 1) := by decide +kernel
theorem dL_law_649 : decode mL_law.2.1 649 = .ok (.iload_n 3, 1) := by decide +kernel
theorem dL_law_650 : decode mL_law.2.1 650 = .ok (.iconst 1, 1) := by decide +kernel
theorem dL_law_651 : decode mL_law.2.1 651 = .ok (.iadd, 1) := by decide +kernel
theorem dL_law_652 : decode mL_law.2.1 652 = .ok (.iaload, 1) := by decide +kernel
theorem dL_law_653 : decode mL_law.2.1 653 = .ok (.aload_n 0, 1) := by decide +kernel
theorem dL_law_654 : decode mL_law.2.1 654 = .ok (.iload_n 3, 1) := by decide +kernel
theorem dL_law_655 : decode mL_law.2.1 655 = .ok (.iconst 2, 1) := by decide +kernel
theorem dL_law_656 : decode mL_law.2.1 656 = .ok (.iadd, 1) := by decide +kernel
theorem dL_law_657 : decode mL_law.2.1 657 = .ok (.iaload, 1) := by decide +kernel
theorem dL_law_658 : decode mL_law.2.1 658 = .ok (.invokevirtual 81, 3) := by decide +kernel
theorem dL_law_661 : decode mL_law.2.1 661 = .ok (.if_icmp .eq 487, 3) := by decide +kernel
theorem dL_law_664 : decode mL_law.2.1 664 = .ok (.iconst 0, 1) := by decide +kernel
theorem dL_law_665 : decode mL_law.2.1 665 = .ok (.ireturn, 1) := by decide +kernel
theorem dL_law_666 : decode mL_law.2.1 666 = .ok (.aload_n 1, 1) := by decide +kernel
theorem dL_law_667 : decode mL_law.2.1 667 = .ok (.aload_n 0, 1) := by decide +kernel
theorem dL_law_668 : decode mL_law.2.1 668 = .ok (.iload_n 3, 1) := by decide +kernel
theorem dL_law_669 : decode mL_law.2.1 669 = .ok (.iconst 1, 1) := by decide +kernel
theorem dL_law_670 : decode mL_law.2.1 670 = .ok (.iadd, 1) := by decide +kernel
theorem dL_law_671 : decode mL_law.2.1 671 = .ok (.iaload, 1) := by decide +kernel
theorem dL_law_672 : decode mL_law.2.1 672 = .ok (.invokevirtual 82, 3) := by decide +kernel
theorem dL_law_675 : decode mL_law.2.1 675 = .ok (.aload_n 2, 1) := by decide +kernel
theorem dL_law_676 : decode mL_law.2.1 676 = .ok (.aload_n 0, 1) := by decide +kernel
theorem dL_law_677 : decode mL_law.2.1 677 = .ok (.iload_n 3, 1) := by decide +kernel
theorem dL_law_678 : decode mL_law.2.1 678 = .ok (.iconst 1, 1) := by decide +kernel
theorem dL_law_679 : decode mL_law.2.1 679 = .ok (.iadd, 1) := by decide +kernel
theorem dL_law_680 : decode mL_law.2.1 680 = .ok (.iaload, 1) := by decide +kernel
theorem dL_law_681 : decode mL_law.2.1 681 = .ok (.invokevirtual 85, 3) := by decide +kernel
theorem dL_law_684 : decode mL_law.2.1 684 = .ok (.if_icmp .eq 464, 3) := by decide +kernel
theorem dL_law_687 : decode mL_law.2.1 687 = .ok (.iconst 0, 1) := by decide +kernel
theorem dL_law_688 : decode mL_law.2.1 688 = .ok (.ireturn, 1) := by decide +kernel
theorem dL_law_689 : decode mL_law.2.1 689 = .ok (.aload_n 1, 1) := by decide +kernel
theorem dL_law_690 : decode mL_law.2.1 690 = .ok (.invokevirtual 86, 3) := by decide +kernel
theorem dL_law_693 : decode mL_law.2.1 693 = .ok (.aload_n 2, 1) := by decide +kernel
theorem dL_law_694 : decode mL_law.2.1 694 = .ok (.invokevirtual 89, 3) := by decide +kernel
theorem dL_law_697 : decode mL_law.2.1 697 = .ok (.if_icmp .eq 451, 3) := by decide +kernel
theorem dL_law_700 : decode mL_law.2.1 700 = .ok (.iconst 0, 1) := by decide +kernel
theorem dL_law_701 : decode mL_law.2.1 701 = .ok (.ireturn, 1) := by decide +kernel
theorem dL_law_702 : decode mL_law.2.1 702 = .ok (.aload_n 1, 1) := by decide +kernel
theorem dL_law_703 : decode mL_law.2.1 703 = .ok (.aload_n 0, 1) := by decide +kernel
theorem dL_law_704 : decode mL_law.2.1 704 = .ok (.iload_n 3, 1) := by decide +kernel
theorem dL_law_705 : decode mL_law.2.1 705 = .ok (.iconst 1, 1) := by decide +kernel
theorem dL_law_706 : decode mL_law.2.1 706 = .ok (.iadd, 1) := by decide +kernel
theorem dL_law_707 : decode mL_law.2.1 707 = .ok (.iaload, 1) := by decide +kernel
theorem dL_law_708 : decode mL_law.2.1 708 = .ok (.invokevirtual 90, 3) := by decide +kernel
theorem dL_law_711 : decode mL_law.2.1 711 = .ok (.aload_n 2, 1) := by decide +kernel
theorem dL_law_712 : decode mL_law.2.1 712 = .ok (.aload_n 0, 1) := by decide +kernel
theorem dL_law_713 : decode mL_law.2.1 713 = .ok (.iload_n 3, 1) := by decide +kernel
theorem dL_law_714 : decode mL_law.2.1 714 = .ok (.iconst 1, 1) := by decide +kernel
theorem dL_law_715 : decode mL_law.2.1 715 = .ok (.iadd, 1) := by decide +kernel
theorem dL_law_716 : decode mL_law.2.1 716 = .ok (.iaload, 1) := by decide +kernel
theorem dL_law_717 : decode mL_law.2.1 717 = .ok (.invokevirtual 93, 3) := by decide +kernel
theorem dL_law_720 : decode mL_law.2.1 720 = .ok (.if_icmp .eq 428, 3) := by decide +kernel
theorem dL_law_723 : decode mL_law.2.1 723 = .ok (.iconst 0, 1) := by decide +kernel
theorem dL_law_724 : decode mL_law.2.1 724 = .ok (.ireturn, 1) := by decide +kernel
theorem dL_law_725 : decode mL_law.2.1 725 = .ok (.aload_n 1, 1) := by decide +kernel
theorem dL_law_726 : decode mL_law.2.1 726 = .ok (.aload_n 0, 1) := by decide +kernel
theorem dL_law_727 : decode mL_law.2.1 727 = .ok (.iload_n 3, 1) := by decide +kernel
theorem dL_law_728 : decode mL_law.2.1 728 = .ok (.iconst 1, 1) := by decide +kernel
theorem dL_law_729 : decode mL_law.2.1 729 = .ok (.iadd, 1) := by decide +kernel
theorem dL_law_730 : decode mL_law.2.1 730 = .ok (.iaload, 1) := by decide +kernel
theorem dL_law_731 : decode mL_law.2.1 731 = .ok (.invokevirtual 94, 3) := by decide +kernel
theorem dL_law_734 : decode mL_law.2.1 734 = .ok (.aload_n 2, 1) := by decide +kernel
theorem dL_law_735 : decode mL_law.2.1 735 = .ok (.aload_n 0, 1) := by decide +kernel
theorem dL_law_736 : decode mL_law.2.1 736 = .ok (.iload_n 3, 1) := by decide +kernel
theorem dL_law_737 : decode mL_law.2.1 737 = .ok (.iconst 1, 1) := by decide +kernel
theorem dL_law_738 : decode mL_law.2.1 738 = .ok (.iadd, 1) := by decide +kernel
theorem dL_law_739 : decode mL_law.2.1 739 = .ok (.iaload, 1) := by decide +kernel
theorem dL_law_740 : decode mL_law.2.1 740 = .ok (.invokevirtual 97, 3) := by decide +kernel
theorem dL_law_743 : decode mL_law.2.1 743 = .ok (.if_icmp .eq 405, 3) := by decide +kernel
theorem dL_law_746 : decode mL_law.2.1 746 = .ok (.iconst 0, 1) := by decide +kernel
theorem dL_law_747 : decode mL_law.2.1 747 = .ok (.ireturn, 1) := by decide +kernel
theorem dL_law_748 : decode mL_law.2.1 748 = .ok (.aload_n 1, 1) := by decide +kernel
theorem dL_law_749 : decode mL_law.2.1 749 = .ok (.aload_n 0, 1) := by decide +kernel
theorem dL_law_750 : decode mL_law.2.1 750 = .ok (.iload_n 3, 1) := by decide +kernel
theorem dL_law_751 : decode mL_law.2.1 751 = .ok (.iconst 1, 1) := by decide +kernel
theorem dL_law_752 : decode mL_law.2.1 752 = .ok (.iadd, 1) := by decide +kernel
theorem dL_law_753 : decode mL_law.2.1 753 = .ok (.iaload, 1) := by decide +kernel
theorem dL_law_754 : decode mL_law.2.1 754 = .ok (.aload_n 0, 1) := by decide +kernel
theorem dL_law_755 : decode mL_law.2.1 755 = .ok (.iload_n 3, 1) := by decide +kernel
theorem dL_law_756 : decode mL_law.2.1 756 = .ok (.iconst 2, 1) := by decide +kernel
theorem dL_law_757 : decode mL_law.2.1 757 = .ok (.iadd, 1) := by decide +kernel
theorem dL_law_758 : decode mL_law.2.1 758 = .ok (.iaload, 1) := by decide +kernel
theorem dL_law_759 : decode mL_law.2.1 759 = .ok (.aload_n 0, 1) := by decide +kernel
theorem dL_law_760 : decode mL_law.2.1 760 = .ok (.iload_n 3, 1) := by decide +kernel
theorem dL_law_761 : decode mL_law.2.1 761 = .ok (.iconst 3, 1) := by decide +kernel
theorem dL_law_762 : decode mL_law.2.1 762 = .ok (.iadd, 1) := by decide +kernel
theorem dL_law_763 : decode mL_law.2.1 763 = .ok (.iaload, 1) := by decide +kernel
theorem dL_law_764 : decode mL_law.2.1 764 = .ok (.invokevirtual 98, 3) := by decide +kernel
theorem dL_law_767 : decode mL_law.2.1 767 = .ok (.aload_n 2, 1) := by decide +kernel
theorem dL_law_768 : decode mL_law.2.1 768 = .ok (.aload_n 0, 1) := by decide +kernel
theorem dL_law_769 : decode mL_law.2.1 769 = .ok (.iload_n 3, 1) := by decide +kernel
theorem dL_law_770 : decode mL_law.2.1 770 = .ok (.iconst 1, 1) := by decide +kernel
theorem dL_law_771 : decode mL_law.2.1 771 = .ok (.iadd, 1) := by decide +kernel
theorem dL_law_772 : decode mL_law.2.1 772 = .ok (.iaload, 1) := by decide +kernel
theorem dL_law_773 : decode mL_law.2.1 773 = .ok (.aload_n 0, 1) := by decide +kernel
theorem dL_law_774 : decode mL_law.2.1 774 = .ok (.iload_n 3, 1) := by decide +kernel
theorem dL_law_775 : decode mL_law.2.1 775 = .ok (.iconst 2, 1) := by decide +kernel
theorem dL_law_776 : decode mL_law.2.1 776 = .ok (.iadd, 1) := by decide +kernel
theorem dL_law_777 : decode mL_law.2.1 777 = .ok (.iaload, 1) := by decide +kernel
theorem dL_law_778 : decode mL_law.2.1 778 = .ok (.aload_n 0, 1) := by decide +kernel
theorem dL_law_779 : decode mL_law.2.1 779 = .ok (.iload_n 3, 1) := by decide +kernel
theorem dL_law_780 : decode mL_law.2.1 780 = .ok (.iconst 3, 1) := by decide +kernel
theorem dL_law_781 : decode mL_law.2.1 781 = .ok (.iadd, 1) := by decide +kernel
theorem dL_law_782 : decode mL_law.2.1 782 = .ok (.iaload, 1) := by decide +kernel
theorem dL_law_783 : decode mL_law.2.1 783 = .ok (.invokevirtual 101, 3) := by decide +kernel
theorem dL_law_786 : decode mL_law.2.1 786 = .ok (.if_icmp .eq 362, 3) := by decide +kernel
theorem dL_law_789 : decode mL_law.2.1 789 = .ok (.iconst 0, 1) := by decide +kernel
theorem dL_law_790 : decode mL_law.2.1 790 = .ok (.ireturn, 1) := by decide +kernel
theorem dL_law_791 : decode mL_law.2.1 791 = .ok (.aload_n 1, 1) := by decide +kernel
theorem dL_law_792 : decode mL_law.2.1 792 = .ok (.aload_n 0, 1) := by decide +kernel
theorem dL_law_793 : decode mL_law.2.1 793 = .ok (.iload_n 3, 1) := by decide +kernel
theorem dL_law_794 : decode mL_law.2.1 794 = .ok (.iconst 1, 1) := by decide +kernel
theorem dL_law_795 : decode mL_law.2.1 795 = .ok (.iadd, 1) := by decide +kernel
theorem dL_law_796 : decode mL_law.2.1 796 = .ok (.iaload, 1) := by decide +kernel
theorem dL_law_797 : decode mL_law.2.1 797 = .ok (.aload_n 0, 1) := by decide +kernel
theorem dL_law_798 : decode mL_law.2.1 798 = .ok (.iload_n 3, 1) := by decide +kernel
theorem dL_law_799 : decode mL_law.2.1 799 = .ok (.iconst 2, 1) := by decide +kernel
theorem dL_law_800 : decode mL_law.2.1 800 = .ok (.iadd, 1) := by decide +kernel
theorem dL_law_801 : decode mL_law.2.1 801 = .ok (.iaload, 1) := by decide +kernel
theorem dL_law_802 : decode mL_law.2.1 802 = .ok (.aload_n 0, 1) := by decide +kernel
theorem dL_law_803 : decode mL_law.2.1 803 = .ok (.iload_n 3, 1) := by decide +kernel
theorem dL_law_804 : decode mL_law.2.1 804 = .ok (.iconst 3, 1) := by decide +kernel
theorem dL_law_805 : decode mL_law.2.1 805 = .ok (.iadd, 1) := by decide +kernel
theorem dL_law_806 : decode mL_law.2.1 806 = .ok (.iaload, 1) := by decide +kernel
theorem dL_law_807 : decode mL_law.2.1 807 = .ok (.invokevirtual 102, 3) := by decide +kernel
theorem dL_law_810 : decode mL_law.2.1 810 = .ok (.aload_n 2, 1) := by decide +kernel
theorem dL_law_811 : decode mL_law.2.1 811 = .ok (.aload_n 0, 1) := by decide +kernel
theorem dL_law_812 : decode mL_law.2.1 812 = .ok (.iload_n 3, 1) := by decide +kernel
theorem dL_law_813 : decode mL_law.2.1 813 = .ok (.iconst 1, 1) := by decide +kernel
theorem dL_law_814 : decode mL_law.2.1 814 = .ok (.iadd, 1) := by decide +kernel
theorem dL_law_815 : decode mL_law.2.1 815 = .ok (.iaload, 1) := by decide +kernel
theorem dL_law_816 : decode mL_law.2.1 816 = .ok (.aload_n 0, 1) := by decide +kernel
theorem dL_law_817 : decode mL_law.2.1 817 = .ok (.iload_n 3, 1) := by decide +kernel
theorem dL_law_818 : decode mL_law.2.1 818 = .ok (.iconst 2, 1) := by decide +kernel
theorem dL_law_819 : decode mL_law.2.1 819 = .ok (.iadd, 1) := by decide +kernel
theorem dL_law_820 : decode mL_law.2.1 820 = .ok (.iaload, 1) := by decide +kernel
theorem dL_law_821 : decode mL_law.2.1 821 = .ok (.aload_n 0, 1) := by decide +kernel
theorem dL_law_822 : decode mL_law.2.1 822 = .ok (.iload_n 3, 1) := by decide +kernel
theorem dL_law_823 : decode mL_law.2.1 823 = .ok (.iconst 3, 1) := by decide +kernel
theorem dL_law_824 : decode mL_law.2.1 824 = .ok (.iadd, 1) := by decide +kernel
theorem dL_law_825 : decode mL_law.2.1 825 = .ok (.iaload, 1) := by decide +kernel
theorem dL_law_826 : decode mL_law.2.1 826 = .ok (.invokevirtual 105, 3) := by decide +kernel
theorem dL_law_829 : decode mL_law.2.1 829 = .ok (.if_icmp .eq 319, 3) := by decide +kernel
theorem dL_law_832 : decode mL_law.2.1 832 = .ok (.iconst 0, 1) := by decide +kernel
theorem dL_law_833 : decode mL_law.2.1 833 = .ok (.ireturn, 1) := by decide +kernel
theorem dL_law_834 : decode mL_law.2.1 834 = .ok (.aload_n 1, 1) := by decide +kernel
theorem dL_law_835 : decode mL_law.2.1 835 = .ok (.aload_n 0, 1) := by decide +kernel
theorem dL_law_836 : decode mL_law.2.1 836 = .ok (.iload_n 3, 1) := by decide +kernel
theorem dL_law_837 : decode mL_law.2.1 837 = .ok (.iconst 1, 1) := by decide +kernel
theorem dL_law_838 : decode mL_law.2.1 838 = .ok (.iadd, 1) := by decide +kernel
theorem dL_law_839 : decode mL_law.2.1 839 = .ok (.iaload, 1) := by decide +kernel
theorem dL_law_840 : decode mL_law.2.1 840 = .ok (.aload_n 0, 1) := by decide +kernel
theorem dL_law_841 : decode mL_law.2.1 841 = .ok (.iload_n 3, 1) := by decide +kernel
theorem dL_law_842 : decode mL_law.2.1 842 = .ok (.iconst 2, 1) := by decide +kernel
theorem dL_law_843 : decode mL_law.2.1 843 = .ok (.iadd, 1) := by decide +kernel
theorem dL_law_844 : decode mL_law.2.1 844 = .ok (.iaload, 1) := by decide +kernel
theorem dL_law_845 : decode mL_law.2.1 845 = .ok (.aload_n 0, 1) := by decide +kernel
theorem dL_law_846 : decode mL_law.2.1 846 = .ok (.iload_n 3, 1) := by decide +kernel
theorem dL_law_847 : decode mL_law.2.1 847 = .ok (.iconst 3, 1) := by decide +kernel
theorem dL_law_848 : decode mL_law.2.1 848 = .ok (.iadd, 1) := by decide +kernel
theorem dL_law_849 : decode mL_law.2.1 849 = .ok (.iaload, 1) := by decide +kernel
theorem dL_law_850 : decode mL_law.2.1 850 = .ok (.invokevirtual 106, 3) := by decide +kernel
theorem dL_law_853 : decode mL_law.2.1 853 = .ok (.aload_n 2, 1) := by decide +kernel
theorem dL_law_854 : decode mL_law.2.1 854 = .ok (.aload_n 0, 1) := by decide +kernel
theorem dL_law_855 : decode mL_law.2.1 855 = .ok (.iload_n 3, 1) := by decide +kernel
theorem dL_law_856 : decode mL_law.2.1 856 = .ok (.iconst 1, 1) := by decide +kernel
theorem dL_law_857 : decode mL_law.2.1 857 = .ok (.iadd, 1) := by decide +kernel
theorem dL_law_858 : decode mL_law.2.1 858 = .ok (.iaload, 1) := by decide +kernel
theorem dL_law_859 : decode mL_law.2.1 859 = .ok (.aload_n 0, 1) := by decide +kernel
theorem dL_law_860 : decode mL_law.2.1 860 = .ok (.iload_n 3, 1) := by decide +kernel
theorem dL_law_861 : decode mL_law.2.1 861 = .ok (.iconst 2, 1) := by decide +kernel
theorem dL_law_862 : decode mL_law.2.1 862 = .ok (.iadd, 1) := by decide +kernel
theorem dL_law_863 : decode mL_law.2.1 863 = .ok (.iaload, 1) := by decide +kernel
theorem dL_law_864 : decode mL_law.2.1 864 = .ok (.aload_n 0, 1) := by decide +kernel
theorem dL_law_865 : decode mL_law.2.1 865 = .ok (.iload_n 3, 1) := by decide +kernel
theorem dL_law_866 : decode mL_law.2.1 866 = .ok (.iconst 3, 1) := by decide +kernel
theorem dL_law_867 : decode mL_law.2.1 867 = .ok (.iadd, 1) := by decide +kernel
theorem dL_law_868 : decode mL_law.2.1 868 = .ok (.iaload, 1) := by decide +kernel
theorem dL_law_869 : decode mL_law.2.1 869 = .ok (.invokevirtual 109, 3) := by decide +kernel
theorem dL_law_872 : decode mL_law.2.1 872 = .ok (.if_icmp .eq 276, 3) := by decide +kernel
theorem dL_law_875 : decode mL_law.2.1 875 = .ok (.iconst 0, 1) := by decide +kernel
theorem dL_law_876 : decode mL_law.2.1 876 = .ok (.ireturn, 1) := by decide +kernel
theorem dL_law_877 : decode mL_law.2.1 877 = .ok (.aload_n 1, 1) := by decide +kernel
theorem dL_law_878 : decode mL_law.2.1 878 = .ok (.aload_n 0, 1) := by decide +kernel
theorem dL_law_879 : decode mL_law.2.1 879 = .ok (.iload_n 3, 1) := by decide +kernel
theorem dL_law_880 : decode mL_law.2.1 880 = .ok (.iconst 1, 1) := by decide +kernel
theorem dL_law_881 : decode mL_law.2.1 881 = .ok (.iadd, 1) := by decide +kernel
theorem dL_law_882 : decode mL_law.2.1 882 = .ok (.iaload, 1) := by decide +kernel
theorem dL_law_883 : decode mL_law.2.1 883 = .ok (.aload_n 0, 1) := by decide +kernel
theorem dL_law_884 : decode mL_law.2.1 884 = .ok (.iload_n 3, 1) := by decide +kernel
theorem dL_law_885 : decode mL_law.2.1 885 = .ok (.iconst 2, 1) := by decide +kernel
theorem dL_law_886 : decode mL_law.2.1 886 = .ok (.iadd, 1) := by decide +kernel
theorem dL_law_887 : decode mL_law.2.1 887 = .ok (.iaload, 1) := by decide +kernel
theorem dL_law_888 : decode mL_law.2.1 888 = .ok (.aload_n 0, 1) := by decide +kernel
theorem dL_law_889 : decode mL_law.2.1 889 = .ok (.iload_n 3, 1) := by decide +kernel
theorem dL_law_890 : decode mL_law.2.1 890 = .ok (.iconst 3, 1) := by decide +kernel
theorem dL_law_891 : decode mL_law.2.1 891 = .ok (.iadd, 1) := by decide +kernel
theorem dL_law_892 : decode mL_law.2.1 892 = .ok (.iaload, 1) := by decide +kernel
theorem dL_law_893 : decode mL_law.2.1 893 = .ok (.aload_n 0, 1) := by decide +kernel
theorem dL_law_894 : decode mL_law.2.1 894 = .ok (.iload_n 3, 1) := by decide +kernel
theorem dL_law_895 : decode mL_law.2.1 895 = .ok (.iconst 4, 1) := by decide +kernel
theorem dL_law_896 : decode mL_law.2.1 896 = .ok (.iadd, 1) := by decide +kernel
theorem dL_law_897 : decode mL_law.2.1 897 = .ok (.iaload, 1) := by decide +kernel
theorem dL_law_898 : decode mL_law.2.1 898 = .ok (.invokevirtual 110, 3) := by decide +kernel
theorem dL_law_901 : decode mL_law.2.1 901 = .ok (.aload_n 2, 1) := by decide +kernel
theorem dL_law_902 : decode mL_law.2.1 902 = .ok (.aload_n 0, 1) := by decide +kernel
theorem dL_law_903 : decode mL_law.2.1 903 = .ok (.iload_n 3, 1) := by decide +kernel
theorem dL_law_904 : decode mL_law.2.1 904 = .ok (.iconst 1, 1) := by decide +kernel
theorem dL_law_905 : decode mL_law.2.1 905 = .ok (.iadd, 1) := by decide +kernel
theorem dL_law_906 : decode mL_law.2.1 906 = .ok (.iaload, 1) := by decide +kernel
theorem dL_law_907 : decode mL_law.2.1 907 = .ok (.aload_n 0, 1) := by decide +kernel
theorem dL_law_908 : decode mL_law.2.1 908 = .ok (.iload_n 3, 1) := by decide +kernel
theorem dL_law_909 : decode mL_law.2.1 909 = .ok (.iconst 2, 1) := by decide +kernel
theorem dL_law_910 : decode mL_law.2.1 910 = .ok (.iadd, 1) := by decide +kernel
theorem dL_law_911 : decode mL_law.2.1 911 = .ok (.iaload, 1) := by decide +kernel
theorem dL_law_912 : decode mL_law.2.1 912 = .ok (.aload_n 0, 1) := by decide +kernel
theorem dL_law_913 : decode mL_law.2.1 913 = .ok (.iload_n 3, 1) := by decide +kernel
theorem dL_law_914 : decode mL_law.2.1 914 = .ok (.iconst 3, 1) := by decide +kernel
theorem dL_law_915 : decode mL_law.2.1 915 = .ok (.iadd, 1) := by decide +kernel
theorem dL_law_916 : decode mL_law.2.1 916 = .ok (.iaload, 1) := by decide +kernel
theorem dL_law_917 : decode mL_law.2.1 917 = .ok (.aload_n 0, 1) := by decide +kernel
theorem dL_law_918 : decode mL_law.2.1 918 = .ok (.iload_n 3, 1) := by decide +kernel
theorem dL_law_919 : decode mL_law.2.1 919 = .ok (.iconst 4, 1) := by decide +kernel
theorem dL_law_920 : decode mL_law.2.1 920 = .ok (.iadd, 1) := by decide +kernel
theorem dL_law_921 : decode mL_law.2.1 921 = .ok (.iaload, 1) := by decide +kernel
theorem dL_law_922 : decode mL_law.2.1 922 = .ok (.invokevirtual 113, 3) := by decide +kernel
theorem dL_law_925 : decode mL_law.2.1 925 = .ok (.if_icmp .eq 223, 3) := by decide +kernel
theorem dL_law_928 : decode mL_law.2.1 928 = .ok (.iconst 0, 1) := by decide +kernel
theorem dL_law_929 : decode mL_law.2.1 929 = .ok (.ireturn, 1) := by decide +kernel
theorem dL_law_930 : decode mL_law.2.1 930 = .ok (.aload_n 1, 1) := by decide +kernel
theorem dL_law_931 : decode mL_law.2.1 931 = .ok (.aload_n 0, 1) := by decide +kernel
theorem dL_law_932 : decode mL_law.2.1 932 = .ok (.iload_n 3, 1) := by decide +kernel
theorem dL_law_933 : decode mL_law.2.1 933 = .ok (.iconst 1, 1) := by decide +kernel
theorem dL_law_934 : decode mL_law.2.1 934 = .ok (.iadd, 1) := by decide +kernel
theorem dL_law_935 : decode mL_law.2.1 935 = .ok (.iaload, 1) := by decide +kernel
theorem dL_law_936 : decode mL_law.2.1 936 = .ok (.aload_n 0, 1) := by decide +kernel
theorem dL_law_937 : decode mL_law.2.1 937 = .ok (.iload_n 3, 1) := by decide +kernel
theorem dL_law_938 : decode mL_law.2.1 938 = .ok (.iconst 2, 1) := by decide +kernel
theorem dL_law_939 : decode mL_law.2.1 939 = .ok (.iadd, 1) := by decide +kernel
theorem dL_law_940 : decode mL_law.2.1 940 = .ok (.iaload, 1) := by decide +kernel
theorem dL_law_941 : decode mL_law.2.1 941 = .ok (.aload_n 0, 1) := by decide +kernel
theorem dL_law_942 : decode mL_law.2.1 942 = .ok (.iload_n 3, 1) := by decide +kernel
theorem dL_law_943 : decode mL_law.2.1 943 = .ok (.iconst 3, 1) := by decide +kernel
theorem dL_law_944 : decode mL_law.2.1 944 = .ok (.iadd, 1) := by decide +kernel
theorem dL_law_945 : decode mL_law.2.1 945 = .ok (.iaload, 1) := by decide +kernel
theorem dL_law_946 : decode mL_law.2.1 946 = .ok (.invokevirtual 114, 3) := by decide +kernel
theorem dL_law_949 : decode mL_law.2.1 949 = .ok (.aload_n 2, 1) := by decide +kernel
theorem dL_law_950 : decode mL_law.2.1 950 = .ok (.aload_n 0, 1) := by decide +kernel
theorem dL_law_951 : decode mL_law.2.1 951 = .ok (.iload_n 3, 1) := by decide +kernel
theorem dL_law_952 : decode mL_law.2.1 952 = .ok (.iconst 1, 1) := by decide +kernel
theorem dL_law_953 : decode mL_law.2.1 953 = .ok (.iadd, 1) := by decide +kernel
theorem dL_law_954 : decode mL_law.2.1 954 = .ok (.iaload, 1) := by decide +kernel
theorem dL_law_955 : decode mL_law.2.1 955 = .ok (.aload_n 0, 1) := by decide +kernel
theorem dL_law_956 : decode mL_law.2.1 956 = .ok (.iload_n 3, 1) := by decide +kernel
theorem dL_law_957 : decode mL_law.2.1 957 = .ok (.iconst 2, 1) := by decide +kernel
theorem dL_law_958 : decode mL_law.2.1 958 = .ok (.iadd, 1) := by decide +kernel
theorem dL_law_959 : decode mL_law.2.1 959 = .ok (.iaload, 1) := by decide +kernel
theorem dL_law_960 : decode mL_law.2.1 960 = .ok (.aload_n 0, 1) := by decide +kernel
theorem dL_law_961 : decode mL_law.2.1 961 = .ok (.iload_n 3, 1) := by decide +kernel
theorem dL_law_962 : decode mL_law.2.1 962 = .ok (.iconst 3, 1) := by decide +kernel
theorem dL_law_963 : decode mL_law.2.1 963 = .ok (.iadd, 1) := by decide +kernel
theorem dL_law_964 : decode mL_law.2.1 964 = .ok (.iaload, 1) := by decide +kernel
theorem dL_law_965 : decode mL_law.2.1 965 = .ok (.invokevirtual 117, 3) := by decide +kernel
theorem dL_law_968 : decode mL_law.2.1 968 = .ok (.if_icmp .eq 180, 3) := by decide +kernel
theorem dL_law_971 : decode mL_law.2.1 971 = .ok (.iconst 0, 1) := by decide +kernel
theorem dL_law_972 : decode mL_law.2.1 972 = .ok (.ireturn, 1) := by decide +kernel
theorem dL_law_973 : decode mL_law.2.1 973 = .ok (.aload_n 1, 1) := by decide +kernel
theorem dL_law_974 : decode mL_law.2.1 974 = .ok (.aload_n 0, 1) := by decide +kernel
theorem dL_law_975 : decode mL_law.2.1 975 = .ok (.iload_n 3, 1) := by decide +kernel
theorem dL_law_976 : decode mL_law.2.1 976 = .ok (.iconst 1, 1) := by decide +kernel
theorem dL_law_977 : decode mL_law.2.1 977 = .ok (.iadd, 1) := by decide +kernel
theorem dL_law_978 : decode mL_law.2.1 978 = .ok (.iaload, 1) := by decide +kernel
theorem dL_law_979 : decode mL_law.2.1 979 = .ok (.invokevirtual 118, 3) := by decide +kernel
theorem dL_law_982 : decode mL_law.2.1 982 = .ok (.aload_n 2, 1) := by decide +kernel
theorem dL_law_983 : decode mL_law.2.1 983 = .ok (.aload_n 0, 1) := by decide +kernel
theorem dL_law_984 : decode mL_law.2.1 984 = .ok (.iload_n 3, 1) := by decide +kernel
theorem dL_law_985 : decode mL_law.2.1 985 = .ok (.iconst 1, 1) := by decide +kernel
theorem dL_law_986 : decode mL_law.2.1 986 = .ok (.iadd, 1) := by decide +kernel
theorem dL_law_987 : decode mL_law.2.1 987 = .ok (.iaload, 1) := by decide +kernel
theorem dL_law_988 : decode mL_law.2.1 988 = .ok (.invokevirtual 121, 3) := by decide +kernel
theorem dL_law_991 : decode mL_law.2.1 991 = .ok (.if_icmp .eq 157, 3) := by decide +kernel
theorem dL_law_994 : decode mL_law.2.1 994 = .ok (.iconst 0, 1) := by decide +kernel
theorem dL_law_995 : decode mL_law.2.1 995 = .ok (.ireturn, 1) := by decide +kernel
theorem dL_law_996 : decode mL_law.2.1 996 = .ok (.aload_n 1, 1) := by decide +kernel
theorem dL_law_997 : decode mL_law.2.1 997 = .ok (.aload_n 0, 1) := by decide +kernel
theorem dL_law_998 : decode mL_law.2.1 998 = .ok (.iload_n 3, 1) := by decide +kernel
theorem dL_law_999 : decode mL_law.2.1 999 = .ok (.iconst 1, 1) := by decide +kernel
theorem dL_law_1000 : decode mL_law.2.1 1000 = .ok (.iadd, 1) := by decide +kernel
theorem dL_law_1001 : decode mL_law.2.1 1001 = .ok (.iaload, 1) := by decide +kernel
theorem dL_law_1002 : decode mL_law.2.1 1002 = .ok (.aload_n 0, 1) := by decide +kernel
theorem dL_law_1003 : decode mL_law.2.1 1003 = .ok (.iload_n 3, 1) := by decide +kernel
theorem dL_law_1004 : decode mL_law.2.1 1004 = .ok (.iconst 2, 1) := by decide +kernel
theorem dL_law_1005 : decode mL_law.2.1 1005 = .ok (.iadd, 1) := by decide +kernel
theorem dL_law_1006 : decode mL_law.2.1 1006 = .ok (.iaload, 1) := by decide +kernel
theorem dL_law_1007 : decode mL_law.2.1 1007 = .ok (.aload_n 0, 1) := by decide +kernel
theorem dL_law_1008 : decode mL_law.2.1 1008 = .ok (.iload_n 3, 1) := by decide +kernel
theorem dL_law_1009 : decode mL_law.2.1 1009 = .ok (.iconst 3, 1) := by decide +kernel
theorem dL_law_1010 : decode mL_law.2.1 1010 = .ok (.iadd, 1) := by decide +kernel
theorem dL_law_1011 : decode mL_law.2.1 1011 = .ok (.iaload, 1) := by decide +kernel
theorem dL_law_1012 : decode mL_law.2.1 1012 = .ok (.invokevirtual 122, 3) := by decide +kernel
theorem dL_law_1015 : decode mL_law.2.1 1015 = .ok (.aload_n 2, 1) := by decide +kernel
theorem dL_law_1016 : decode mL_law.2.1 1016 = .ok (.aload_n 0, 1) := by decide +kernel
theorem dL_law_1017 : decode mL_law.2.1 1017 = .ok (.iload_n 3, 1) := by decide +kernel
theorem dL_law_1018 : decode mL_law.2.1 1018 = .ok (.iconst 1, 1) := by decide +kernel
theorem dL_law_1019 : decode mL_law.2.1 1019 = .ok (.iadd, 1) := by decide +kernel
theorem dL_law_1020 : decode mL_law.2.1 1020 = .ok (.iaload, 1) := by decide +kernel
theorem dL_law_1021 : decode mL_law.2.1 1021 = .ok (.aload_n 0, 1) := by decide +kernel
theorem dL_law_1022 : decode mL_law.2.1 1022 = .ok (.iload_n 3, 1) := by decide +kernel
theorem dL_law_1023 : decode mL_law.2.1 1023 = .ok (.iconst 2, 1) := by decide +kernel
theorem dL_law_1024 : decode mL_law.2.1 1024 = .ok (.iadd, 1) := by decide +kernel
theorem dL_law_1025 : decode mL_law.2.1 1025 = .ok (.iaload, 1) := by decide +kernel
theorem dL_law_1026 : decode mL_law.2.1 1026 = .ok (.aload_n 0, 1) := by decide +kernel
theorem dL_law_1027 : decode mL_law.2.1 1027 = .ok (.iload_n 3, 1) := by decide +kernel
theorem dL_law_1028 : decode mL_law.2.1 1028 = .ok (.iconst 3, 1) := by decide +kernel
theorem dL_law_1029 : decode mL_law.2.1 1029 = .ok (.iadd, 1) := by decide +kernel
theorem dL_law_1030 : decode mL_law.2.1 1030 = .ok (.iaload, 1) := by decide +kernel
theorem dL_law_1031 : decode mL_law.2.1 1031 = .ok (.invokevirtual 125, 3) := by decide +kernel
theorem dL_law_1034 : decode mL_law.2.1 1034 = .ok (.if_icmp .eq 114, 3) := by decide +kernel
theorem dL_law_1037 : decode mL_law.2.1 1037 = .ok (.iconst 0, 1) := by decide +kernel
theorem dL_law_1038 : decode mL_law.2.1 1038 = .ok (.ireturn, 1) := by decide +kernel
theorem dL_law_1039 : decode mL_law.2.1 1039 = .ok (.aload_n 1, 1) := by decide +kernel
theorem dL_law_1040 : decode mL_law.2.1 1040 = .ok (.aload_n 0, 1) := by decide +kernel
theorem dL_law_1041 : decode mL_law.2.1 1041 = .ok (.iload_n 3, 1) := by decide +kernel
theorem dL_law_1042 : decode mL_law.2.1 1042 = .ok (.iconst 1, 1) := by decide +kernel
theorem dL_law_1043 : decode mL_law.2.1 1043 = .ok (.iadd, 1) := by decide +kernel
theorem dL_law_1044 : decode mL_law.2.1 1044 = .ok (.iaload, 1) := by decide +kernel
theorem dL_law_1045 : decode mL_law.2.1 1045 = .ok (.aload_n 0, 1) := by decide +kernel
theorem dL_law_1046 : decode mL_law.2.1 1046 = .ok (.iload_n 3, 1) := by decide +kernel
theorem dL_law_1047 : decode mL_law.2.1 1047 = .ok (.iconst 2, 1) := by decide +kernel
theorem dL_law_1048 : decode mL_law.2.1 1048 = .ok (.iadd, 1) := by decide +kernel
theorem dL_law_1049 : decode mL_law.2.1 1049 = .ok (.iaload, 1) := by decide +kernel
theorem dL_law_1050 : decode mL_law.2.1 1050 = .ok (.aload_n 0, 1) := by decide +kernel
theorem dL_law_1051 : decode mL_law.2.1 1051 = .ok (.iload_n 3, 1) := by decide +kernel
theorem dL_law_1052 : decode mL_law.2.1 1052 = .ok (.iconst 3, 1) := by decide +kernel
theorem dL_law_1053 : decode mL_law.2.1 1053 = .ok (.iadd, 1) := by decide +kernel
theorem dL_law_1054 : decode mL_law.2.1 1054 = .ok (.iaload, 1) := by decide +kernel
theorem dL_law_1055 : decode mL_law.2.1 1055 = .ok (.invokevirtual 126, 3) := by decide +kernel
theorem dL_law_1058 : decode mL_law.2.1 1058 = .ok (.aload_n 2, 1) := by decide +kernel
theorem dL_law_1059 : decode mL_law.2.1 1059 = .ok (.aload_n 0, 1) := by decide +kernel
theorem dL_law_1060 : decode mL_law.2.1 1060 = .ok (.iload_n 3, 1) := by decide +kernel
theorem dL_law_1061 : decode mL_law.2.1 1061 = .ok (.iconst 1, 1) := by decide +kernel
theorem dL_law_1062 : decode mL_law.2.1 1062 = .ok (.iadd, 1) := by decide +kernel
theorem dL_law_1063 : decode mL_law.2.1 1063 = .ok (.iaload, 1) := by decide +kernel
theorem dL_law_1064 : decode mL_law.2.1 1064 = .ok (.aload_n 0, 1) := by decide +kernel
theorem dL_law_1065 : decode mL_law.2.1 1065 = .ok (.iload_n 3, 1) := by decide +kernel
theorem dL_law_1066 : decode mL_law.2.1 1066 = .ok (.iconst 2, 1) := by decide +kernel
theorem dL_law_1067 : decode mL_law.2.1 1067 = .ok (.iadd, 1) := by decide +kernel
theorem dL_law_1068 : decode mL_law.2.1 1068 = .ok (.iaload, 1) := by decide +kernel
theorem dL_law_1069 : decode mL_law.2.1 1069 = .ok (.aload_n 0, 1) := by decide +kernel
theorem dL_law_1070 : decode mL_law.2.1 1070 = .ok (.iload_n 3, 1) := by decide +kernel
theorem dL_law_1071 : decode mL_law.2.1 1071 = .ok (.iconst 3, 1) := by decide +kernel
theorem dL_law_1072 : decode mL_law.2.1 1072 = .ok (.iadd, 1) := by decide +kernel
theorem dL_law_1073 : decode mL_law.2.1 1073 = .ok (.iaload, 1) := by decide +kernel
theorem dL_law_1074 : decode mL_law.2.1 1074 = .ok (.invokevirtual 129, 3) := by decide +kernel
theorem dL_law_1077 : decode mL_law.2.1 1077 = .ok (.if_icmp .eq 71, 3) := by decide +kernel
theorem dL_law_1080 : decode mL_law.2.1 1080 = .ok (.iconst 0, 1) := by decide +kernel
theorem dL_law_1081 : decode mL_law.2.1 1081 = .ok (.ireturn, 1) := by decide +kernel
theorem dL_law_1082 : decode mL_law.2.1 1082 = .ok (.aload_n 1, 1) := by decide +kernel
theorem dL_law_1083 : decode mL_law.2.1 1083 = .ok (.aload_n 0, 1) := by decide +kernel
theorem dL_law_1084 : decode mL_law.2.1 1084 = .ok (.iload_n 3, 1) := by decide +kernel
theorem dL_law_1085 : decode mL_law.2.1 1085 = .ok (.iconst 1, 1) := by decide +kernel
theorem dL_law_1086 : decode mL_law.2.1 1086 = .ok (.iadd, 1) := by decide +kernel
theorem dL_law_1087 : decode mL_law.2.1 1087 = .ok (.iaload, 1) := by decide +kernel
theorem dL_law_1088 : decode mL_law.2.1 1088 = .ok (.aload_n 0, 1) := by decide +kernel
theorem dL_law_1089 : decode mL_law.2.1 1089 = .ok (.iload_n 3, 1) := by decide +kernel
theorem dL_law_1090 : decode mL_law.2.1 1090 = .ok (.iconst 2, 1) := by decide +kernel
theorem dL_law_1091 : decode mL_law.2.1 1091 = .ok (.iadd, 1) := by decide +kernel
theorem dL_law_1092 : decode mL_law.2.1 1092 = .ok (.iaload, 1) := by decide +kernel
theorem dL_law_1093 : decode mL_law.2.1 1093 = .ok (.aload_n 0, 1) := by decide +kernel
theorem dL_law_1094 : decode mL_law.2.1 1094 = .ok (.iload_n 3, 1) := by decide +kernel
theorem dL_law_1095 : decode mL_law.2.1 1095 = .ok (.iconst 3, 1) := by decide +kernel
theorem dL_law_1096 : decode mL_law.2.1 1096 = .ok (.iadd, 1) := by decide +kernel
theorem dL_law_1097 : decode mL_law.2.1 1097 = .ok (.iaload, 1) := by decide +kernel
theorem dL_law_1098 : decode mL_law.2.1 1098 = .ok (.invokevirtual 130, 3) := by decide +kernel
theorem dL_law_1101 : decode mL_law.2.1 1101 = .ok (.aload_n 2, 1) := by decide +kernel
theorem dL_law_1102 : decode mL_law.2.1 1102 = .ok (.aload_n 0, 1) := by decide +kernel
theorem dL_law_1103 : decode mL_law.2.1 1103 = .ok (.iload_n 3, 1) := by decide +kernel
theorem dL_law_1104 : decode mL_law.2.1 1104 = .ok (.iconst 1, 1) := by decide +kernel
theorem dL_law_1105 : decode mL_law.2.1 1105 = .ok (.iadd, 1) := by decide +kernel
theorem dL_law_1106 : decode mL_law.2.1 1106 = .ok (.iaload, 1) := by decide +kernel
theorem dL_law_1107 : decode mL_law.2.1 1107 = .ok (.aload_n 0, 1) := by decide +kernel
theorem dL_law_1108 : decode mL_law.2.1 1108 = .ok (.iload_n 3, 1) := by decide +kernel
theorem dL_law_1109 : decode mL_law.2.1 1109 = .ok (.iconst 2, 1) := by decide +kernel
theorem dL_law_1110 : decode mL_law.2.1 1110 = .ok (.iadd, 1) := by decide +kernel
theorem dL_law_1111 : decode mL_law.2.1 1111 = .ok (.iaload, 1) := by decide +kernel
theorem dL_law_1112 : decode mL_law.2.1 1112 = .ok (.aload_n 0, 1) := by decide +kernel
theorem dL_law_1113 : decode mL_law.2.1 1113 = .ok (.iload_n 3, 1) := by decide +kernel
theorem dL_law_1114 : decode mL_law.2.1 1114 = .ok (.iconst 3, 1) := by decide +kernel
theorem dL_law_1115 : decode mL_law.2.1 1115 = .ok (.iadd, 1) := by decide +kernel
theorem dL_law_1116 : decode mL_law.2.1 1116 = .ok (.iaload, 1) := by decide +kernel
theorem dL_law_1117 : decode mL_law.2.1 1117 = .ok (.invokevirtual 133, 3) := by decide +kernel
theorem dL_law_1120 : decode mL_law.2.1 1120 = .ok (.if_icmp .eq 28, 3) := by decide +kernel
theorem dL_law_1123 : decode mL_law.2.1 1123 = .ok (.iconst 0, 1) := by decide +kernel
theorem dL_law_1124 : decode mL_law.2.1 1124 = .ok (.ireturn, 1) := by decide +kernel
theorem dL_law_1125 : decode mL_law.2.1 1125 = .ok (.aload_n 1, 1) := by decide +kernel
theorem dL_law_1126 : decode mL_law.2.1 1126 = .ok (.aload_n 0, 1) := by decide +kernel
theorem dL_law_1127 : decode mL_law.2.1 1127 = .ok (.iload_n 3, 1) := by decide +kernel
theorem dL_law_1128 : decode mL_law.2.1 1128 = .ok (.iconst 1, 1) := by decide +kernel
theorem dL_law_1129 : decode mL_law.2.1 1129 = .ok (.iadd, 1) := by decide +kernel
theorem dL_law_1130 : decode mL_law.2.1 1130 = .ok (.iaload, 1) := by decide +kernel
theorem dL_law_1131 : decode mL_law.2.1 1131 = .ok (.invokevirtual 134, 3) := by decide +kernel
theorem dL_law_1134 : decode mL_law.2.1 1134 = .ok (.aload_n 2, 1) := by decide +kernel
theorem dL_law_1135 : decode mL_law.2.1 1135 = .ok (.aload_n 0, 1) := by decide +kernel
theorem dL_law_1136 : decode mL_law.2.1 1136 = .ok (.iload_n 3, 1) := by decide +kernel
theorem dL_law_1137 : decode mL_law.2.1 1137 = .ok (.iconst 1, 1) := by decide +kernel
theorem dL_law_1138 : decode mL_law.2.1 1138 = .ok (.iadd, 1) := by decide +kernel
theorem dL_law_1139 : decode mL_law.2.1 1139 = .ok (.iaload, 1) := by decide +kernel
theorem dL_law_1140 : decode mL_law.2.1 1140 = .ok (.invokevirtual 137, 3) := by decide +kernel
theorem dL_law_1143 : decode mL_law.2.1 1143 = .ok (.if_icmp .eq 5, 3) := by decide +kernel
theorem dL_law_1146 : decode mL_law.2.1 1146 = .ok (.iconst 0, 1) := by decide +kernel
theorem dL_law_1147 : decode mL_law.2.1 1147 = .ok (.ireturn, 1) := by decide +kernel
theorem dL_law_1148 : decode mL_law.2.1 1148 = .ok (.iinc 3 5, 3) := by decide +kernel
theorem dL_law_1151 : decode mL_law.2.1 1151 = .ok (.goto (-1133), 3) := by decide +kernel
theorem dL_law_1154 : decode mL_law.2.1 1154 = .ok (.iconst 1, 1) := by decide +kernel
theorem dL_law_1155 : decode mL_law.2.1 1155 = .ok (.ireturn, 1) := by decide +kernel
