/-! instructions, by program (gen2.py) -/
set_option maxRecDepth 100000 in
theorem f_188_21 : xft 188 21 = some (.istore 4) := by decide +kernel
set_option maxRecDepth 100000 in
theorem f_188_23 : xft 188 23 = some (.iload 4) := by decide +kernel
set_option maxRecDepth 100000 in
theorem f_188_25 : xft 188 25 = some (.aload_n 0) := by decide +kernel
set_option maxRecDepth 100000 in
theorem f_188_26 : xft 188 26 = some (.arraylength) := by decide +kernel
set_option maxRecDepth 100000 in
theorem f_188_27 : xft 188 27 = some (.bipush 7) := by decide +kernel
set_option maxRecDepth 100000 in
theorem f_188_29 : xft 188 29 = some (.isub) := by decide +kernel
set_option maxRecDepth 100000 in
theorem f_188_30 : xft 188 30 = some (.if_icmp .gt 2444) := by decide +kernel
set_option maxRecDepth 100000 in
theorem f_188_33 : xft 188 33 = some (.aload_n 0) := by decide +kernel
set_option maxRecDepth 100000 in
theorem f_188_34 : xft 188 34 = some (.iload 4) := by decide +kernel
set_option maxRecDepth 100000 in
theorem f_188_36 : xft 188 36 = some (.iaload) := by decide +kernel
set_option maxRecDepth 100000 in
theorem f_188_37 : xft 188 37 = some (.bipush 31) := by decide +kernel
set_option maxRecDepth 100000 in
theorem f_188_39 : xft 188 39 = some (.iand) := by decide +kernel
set_option maxRecDepth 100000 in
theorem f_188_40 : xft 188 40 = some (.tableswitch 2428 0 28 #[132, 188, 268, 402, 522, 590, 658, 733, 801, 893, 949, 1041, 1121, 1201, 1269, 1325, 1417, 1497, 1577, 1657, 1737, 1817, 1909, 1989, 2107, 2163, 2243, 2335, 2415]) := by decide +kernel
set_option maxRecDepth 100000 in
theorem f_188_172 : xft 188 172 = some (.aload_n 1) := by decide +kernel
set_option maxRecDepth 100000 in
theorem f_188_173 : xft 188 173 = some (.aload_n 0) := by decide +kernel
set_option maxRecDepth 100000 in
theorem f_188_174 : xft 188 174 = some (.iload 4) := by decide +kernel
set_option maxRecDepth 100000 in
theorem f_188_176 : xft 188 176 = some (.iconst 1) := by decide +kernel
set_option maxRecDepth 100000 in
theorem f_188_177 : xft 188 177 = some (.iadd) := by decide +kernel
set_option maxRecDepth 100000 in
theorem f_188_178 : xft 188 178 = some (.iaload) := by decide +kernel
set_option maxRecDepth 100000 in
theorem f_188_179 : xft 188 179 = some (.aload_n 3) := by decide +kernel
set_option maxRecDepth 100000 in
theorem f_188_180 : xft 188 180 = some (.invokestatic 111) := by decide +kernel
set_option maxRecDepth 100000 in
theorem f_188_183 : xft 188 183 = some (.istore 5) := by decide +kernel
set_option maxRecDepth 100000 in
theorem f_188_185 : xft 188 185 = some (.aload_n 2) := by decide +kernel
set_option maxRecDepth 100000 in
theorem f_188_186 : xft 188 186 = some (.aload_n 0) := by decide +kernel
set_option maxRecDepth 100000 in
theorem f_188_187 : xft 188 187 = some (.iload 4) := by decide +kernel
set_option maxRecDepth 100000 in
theorem f_188_189 : xft 188 189 = some (.iconst 1) := by decide +kernel
set_option maxRecDepth 100000 in
theorem f_188_190 : xft 188 190 = some (.iadd) := by decide +kernel
set_option maxRecDepth 100000 in
theorem f_188_191 : xft 188 191 = some (.iaload) := by decide +kernel
set_option maxRecDepth 100000 in
theorem f_188_192 : xft 188 192 = some (.invokevirtual 116) := by decide +kernel
set_option maxRecDepth 100000 in
theorem f_188_195 : xft 188 195 = some (.istore 6) := by decide +kernel
set_option maxRecDepth 100000 in
theorem f_188_197 : xft 188 197 = some (.aload_n 2) := by decide +kernel
set_option maxRecDepth 100000 in
theorem f_188_198 : xft 188 198 = some (.invokevirtual 117) := by decide +kernel
set_option maxRecDepth 100000 in
theorem f_188_201 : xft 188 201 = some (.iload 5) := by decide +kernel
set_option maxRecDepth 100000 in
theorem f_188_203 : xft 188 203 = some (.if_icmp .eq 5) := by decide +kernel
set_option maxRecDepth 100000 in
theorem f_188_206 : xft 188 206 = some (.iconst 0) := by decide +kernel
set_option maxRecDepth 100000 in
theorem f_188_207 : xft 188 207 = some (.ireturn) := by decide +kernel
set_option maxRecDepth 100000 in
theorem f_188_208 : xft 188 208 = some (.iload 5) := by decide +kernel
set_option maxRecDepth 100000 in
theorem f_188_210 : xft 188 210 = some (.ifCond .ne 15) := by decide +kernel
set_option maxRecDepth 100000 in
theorem f_188_213 : xft 188 213 = some (.aload_n 3) := by decide +kernel
set_option maxRecDepth 100000 in
theorem f_188_214 : xft 188 214 = some (.iconst 0) := by decide +kernel
set_option maxRecDepth 100000 in
theorem f_188_215 : xft 188 215 = some (.laload) := by decide +kernel
set_option maxRecDepth 100000 in
theorem f_188_216 : xft 188 216 = some (.iload 6) := by decide +kernel
set_option maxRecDepth 100000 in
theorem f_188_218 : xft 188 218 = some (.i2l) := by decide +kernel
set_option maxRecDepth 100000 in
theorem f_188_219 : xft 188 219 = some (.lcmp) := by decide +kernel
set_option maxRecDepth 100000 in
theorem f_188_220 : xft 188 220 = some (.ifCond .eq 5) := by decide +kernel
set_option maxRecDepth 100000 in
theorem f_188_223 : xft 188 223 = some (.iconst 0) := by decide +kernel
set_option maxRecDepth 100000 in
theorem f_188_224 : xft 188 224 = some (.ireturn) := by decide +kernel
set_option maxRecDepth 100000 in
theorem f_188_225 : xft 188 225 = some (.goto 2243) := by decide +kernel
set_option maxRecDepth 100000 in
theorem f_188_228 : xft 188 228 = some (.aload_n 1) := by decide +kernel
set_option maxRecDepth 100000 in
theorem f_188_229 : xft 188 229 = some (.aload_n 0) := by decide +kernel
set_option maxRecDepth 100000 in
theorem f_188_230 : xft 188 230 = some (.iload 4) := by decide +kernel
set_option maxRecDepth 100000 in
theorem f_188_232 : xft 188 232 = some (.iconst 1) := by decide +kernel
set_option maxRecDepth 100000 in
theorem f_188_233 : xft 188 233 = some (.iadd) := by decide +kernel
set_option maxRecDepth 100000 in
theorem f_188_234 : xft 188 234 = some (.iaload) := by decide +kernel
set_option maxRecDepth 100000 in
theorem f_188_235 : xft 188 235 = some (.aload_n 0) := by decide +kernel
set_option maxRecDepth 100000 in
theorem f_188_236 : xft 188 236 = some (.iload 4) := by decide +kernel
set_option maxRecDepth 100000 in
theorem f_188_238 : xft 188 238 = some (.iconst 2) := by decide +kernel
set_option maxRecDepth 100000 in
theorem f_188_239 : xft 188 239 = some (.iadd) := by decide +kernel
set_option maxRecDepth 100000 in
theorem f_188_240 : xft 188 240 = some (.iaload) := by decide +kernel
set_option maxRecDepth 100000 in
theorem f_188_241 : xft 188 241 = some (.aload_n 0) := by decide +kernel
set_option maxRecDepth 100000 in
theorem f_188_242 : xft 188 242 = some (.iload 4) := by decide +kernel
set_option maxRecDepth 100000 in
theorem f_188_244 : xft 188 244 = some (.iconst 3) := by decide +kernel
set_option maxRecDepth 100000 in
theorem f_188_245 : xft 188 245 = some (.iadd) := by decide +kernel
set_option maxRecDepth 100000 in
theorem f_188_246 : xft 188 246 = some (.iaload) := by decide +kernel
set_option maxRecDepth 100000 in
theorem f_188_247 : xft 188 247 = some (.aload_n 3) := by decide +kernel
set_option maxRecDepth 100000 in
theorem f_188_248 : xft 188 248 = some (.invokestatic 121) := by decide +kernel
set_option maxRecDepth 100000 in
theorem f_188_251 : xft 188 251 = some (.istore 5) := by decide +kernel
set_option maxRecDepth 100000 in
theorem f_188_253 : xft 188 253 = some (.aload_n 2) := by decide +kernel
set_option maxRecDepth 100000 in
theorem f_188_254 : xft 188 254 = some (.aload_n 0) := by decide +kernel
set_option maxRecDepth 100000 in
theorem f_188_255 : xft 188 255 = some (.iload 4) := by decide +kernel
set_option maxRecDepth 100000 in
theorem f_188_257 : xft 188 257 = some (.iconst 1) := by decide +kernel
set_option maxRecDepth 100000 in
theorem f_188_258 : xft 188 258 = some (.iadd) := by decide +kernel
set_option maxRecDepth 100000 in
theorem f_188_259 : xft 188 259 = some (.iaload) := by decide +kernel
set_option maxRecDepth 100000 in
theorem f_188_260 : xft 188 260 = some (.aload_n 0) := by decide +kernel
set_option maxRecDepth 100000 in
theorem f_188_261 : xft 188 261 = some (.iload 4) := by decide +kernel
set_option maxRecDepth 100000 in
theorem f_188_263 : xft 188 263 = some (.iconst 2) := by decide +kernel
set_option maxRecDepth 100000 in
theorem f_188_264 : xft 188 264 = some (.iadd) := by decide +kernel
set_option maxRecDepth 100000 in
theorem f_188_265 : xft 188 265 = some (.iaload) := by decide +kernel
set_option maxRecDepth 100000 in
theorem f_188_266 : xft 188 266 = some (.aload_n 0) := by decide +kernel
set_option maxRecDepth 100000 in
theorem f_188_267 : xft 188 267 = some (.iload 4) := by decide +kernel
set_option maxRecDepth 100000 in
theorem f_188_269 : xft 188 269 = some (.iconst 3) := by decide +kernel
set_option maxRecDepth 100000 in
theorem f_188_270 : xft 188 270 = some (.iadd) := by decide +kernel
set_option maxRecDepth 100000 in
theorem f_188_271 : xft 188 271 = some (.iaload) := by decide +kernel
set_option maxRecDepth 100000 in
theorem f_188_272 : xft 188 272 = some (.invokevirtual 124) := by decide +kernel
set_option maxRecDepth 100000 in
theorem f_188_275 : xft 188 275 = some (.istore 6) := by decide +kernel
set_option maxRecDepth 100000 in
theorem f_188_277 : xft 188 277 = some (.aload_n 2) := by decide +kernel
set_option maxRecDepth 100000 in
theorem f_188_278 : xft 188 278 = some (.invokevirtual 117) := by decide +kernel
set_option maxRecDepth 100000 in
theorem f_188_281 : xft 188 281 = some (.iload 5) := by decide +kernel
set_option maxRecDepth 100000 in
theorem f_188_283 : xft 188 283 = some (.if_icmp .eq 5) := by decide +kernel
set_option maxRecDepth 100000 in
theorem f_188_286 : xft 188 286 = some (.iconst 0) := by decide +kernel
set_option maxRecDepth 100000 in
theorem f_188_287 : xft 188 287 = some (.ireturn) := by decide +kernel
set_option maxRecDepth 100000 in
theorem f_188_288 : xft 188 288 = some (.iload 5) := by decide +kernel
set_option maxRecDepth 100000 in
theorem f_188_290 : xft 188 290 = some (.ifCond .ne 15) := by decide +kernel
set_option maxRecDepth 100000 in
theorem f_188_293 : xft 188 293 = some (.aload_n 3) := by decide +kernel
set_option maxRecDepth 100000 in
theorem f_188_294 : xft 188 294 = some (.iconst 0) := by decide +kernel
set_option maxRecDepth 100000 in
theorem f_188_295 : xft 188 295 = some (.laload) := by decide +kernel
set_option maxRecDepth 100000 in
theorem f_188_296 : xft 188 296 = some (.iload 6) := by decide +kernel
set_option maxRecDepth 100000 in
theorem f_188_298 : xft 188 298 = some (.i2l) := by decide +kernel
set_option maxRecDepth 100000 in
theorem f_188_299 : xft 188 299 = some (.lcmp) := by decide +kernel
set_option maxRecDepth 100000 in
theorem f_188_300 : xft 188 300 = some (.ifCond .eq 5) := by decide +kernel
set_option maxRecDepth 100000 in
theorem f_188_303 : xft 188 303 = some (.iconst 0) := by decide +kernel
set_option maxRecDepth 100000 in
theorem f_188_304 : xft 188 304 = some (.ireturn) := by decide +kernel
set_option maxRecDepth 100000 in
theorem f_188_305 : xft 188 305 = some (.goto 2163) := by decide +kernel
set_option maxRecDepth 100000 in
theorem f_188_308 : xft 188 308 = some (.aload_n 1) := by decide +kernel
set_option maxRecDepth 100000 in
theorem f_188_309 : xft 188 309 = some (.aload_n 0) := by decide +kernel
set_option maxRecDepth 100000 in
theorem f_188_310 : xft 188 310 = some (.iload 4) := by decide +kernel
set_option maxRecDepth 100000 in
theorem f_188_312 : xft 188 312 = some (.iconst 1) := by decide +kernel
set_option maxRecDepth 100000 in
theorem f_188_313 : xft 188 313 = some (.iadd) := by decide +kernel
set_option maxRecDepth 100000 in
theorem f_188_314 : xft 188 314 = some (.iaload) := by decide +kernel
set_option maxRecDepth 100000 in
theorem f_188_315 : xft 188 315 = some (.aload_n 0) := by decide +kernel
set_option maxRecDepth 100000 in
theorem f_188_316 : xft 188 316 = some (.iload 4) := by decide +kernel
set_option maxRecDepth 100000 in
theorem f_188_318 : xft 188 318 = some (.iconst 2) := by decide +kernel
set_option maxRecDepth 100000 in
theorem f_188_319 : xft 188 319 = some (.iadd) := by decide +kernel
set_option maxRecDepth 100000 in
theorem f_188_320 : xft 188 320 = some (.iaload) := by decide +kernel
set_option maxRecDepth 100000 in
theorem f_188_321 : xft 188 321 = some (.aload_n 0) := by decide +kernel
set_option maxRecDepth 100000 in
theorem f_188_322 : xft 188 322 = some (.iload 4) := by decide +kernel
set_option maxRecDepth 100000 in
theorem f_188_324 : xft 188 324 = some (.iconst 3) := by decide +kernel
set_option maxRecDepth 100000 in
theorem f_188_325 : xft 188 325 = some (.iadd) := by decide +kernel
set_option maxRecDepth 100000 in
theorem f_188_326 : xft 188 326 = some (.iaload) := by decide +kernel
set_option maxRecDepth 100000 in
theorem f_188_327 : xft 188 327 = some (.aload_n 0) := by decide +kernel
set_option maxRecDepth 100000 in
theorem f_188_328 : xft 188 328 = some (.iload 4) := by decide +kernel
set_option maxRecDepth 100000 in
theorem f_188_330 : xft 188 330 = some (.iconst 4) := by decide +kernel
set_option maxRecDepth 100000 in
theorem f_188_331 : xft 188 331 = some (.iadd) := by decide +kernel
set_option maxRecDepth 100000 in
theorem f_188_332 : xft 188 332 = some (.iaload) := by decide +kernel
set_option maxRecDepth 100000 in
theorem f_188_333 : xft 188 333 = some (.aload_n 0) := by decide +kernel
set_option maxRecDepth 100000 in
theorem f_188_334 : xft 188 334 = some (.iload 4) := by decide +kernel
set_option maxRecDepth 100000 in
theorem f_188_336 : xft 188 336 = some (.iconst 5) := by decide +kernel
set_option maxRecDepth 100000 in
theorem f_188_337 : xft 188 337 = some (.iadd) := by decide +kernel
set_option maxRecDepth 100000 in
theorem f_188_338 : xft 188 338 = some (.iaload) := by decide +kernel
set_option maxRecDepth 100000 in
theorem f_188_339 : xft 188 339 = some (.aload_n 0) := by decide +kernel
set_option maxRecDepth 100000 in
theorem f_188_340 : xft 188 340 = some (.iload 4) := by decide +kernel
set_option maxRecDepth 100000 in
theorem f_188_342 : xft 188 342 = some (.bipush 6) := by decide +kernel
set_option maxRecDepth 100000 in
theorem f_188_344 : xft 188 344 = some (.iadd) := by decide +kernel
set_option maxRecDepth 100000 in
theorem f_188_345 : xft 188 345 = some (.iaload) := by decide +kernel
set_option maxRecDepth 100000 in
theorem f_188_346 : xft 188 346 = some (.ifCond .eq 7) := by decide +kernel
set_option maxRecDepth 100000 in
theorem f_188_349 : xft 188 349 = some (.iconst 1) := by decide +kernel
set_option maxRecDepth 100000 in
theorem f_188_350 : xft 188 350 = some (.goto 4) := by decide +kernel
set_option maxRecDepth 100000 in
theorem f_188_353 : xft 188 353 = some (.iconst 0) := by decide +kernel
set_option maxRecDepth 100000 in
theorem f_188_354 : xft 188 354 = some (.aload_n 3) := by decide +kernel
set_option maxRecDepth 100000 in
theorem f_188_355 : xft 188 355 = some (.invokestatic 125) := by decide +kernel
set_option maxRecDepth 100000 in
theorem f_188_358 : xft 188 358 = some (.istore 5) := by decide +kernel
set_option maxRecDepth 100000 in
theorem f_188_360 : xft 188 360 = some (.aload_n 2) := by decide +kernel
set_option maxRecDepth 100000 in
theorem f_188_361 : xft 188 361 = some (.aload_n 0) := by decide +kernel
set_option maxRecDepth 100000 in
theorem f_188_362 : xft 188 362 = some (.iload 4) := by decide +kernel
set_option maxRecDepth 100000 in
theorem f_188_364 : xft 188 364 = some (.iconst 1) := by decide +kernel
set_option maxRecDepth 100000 in
theorem f_188_365 : xft 188 365 = some (.iadd) := by decide +kernel
set_option maxRecDepth 100000 in
theorem f_188_366 : xft 188 366 = some (.iaload) := by decide +kernel
set_option maxRecDepth 100000 in
theorem f_188_367 : xft 188 367 = some (.aload_n 0) := by decide +kernel
set_option maxRecDepth 100000 in
theorem f_188_368 : xft 188 368 = some (.iload 4) := by decide +kernel
set_option maxRecDepth 100000 in
theorem f_188_370 : xft 188 370 = some (.iconst 2) := by decide +kernel
set_option maxRecDepth 100000 in
theorem f_188_371 : xft 188 371 = some (.iadd) := by decide +kernel
set_option maxRecDepth 100000 in
theorem f_188_372 : xft 188 372 = some (.iaload) := by decide +kernel
set_option maxRecDepth 100000 in
theorem f_188_373 : xft 188 373 = some (.aload_n 0) := by decide +kernel
set_option maxRecDepth 100000 in
theorem f_188_374 : xft 188 374 = some (.iload 4) := by decide +kernel
set_option maxRecDepth 100000 in
theorem f_188_376 : xft 188 376 = some (.iconst 3) := by decide +kernel
set_option maxRecDepth 100000 in
theorem f_188_377 : xft 188 377 = some (.iadd) := by decide +kernel
set_option maxRecDepth 100000 in
theorem f_188_378 : xft 188 378 = some (.iaload) := by decide +kernel
set_option maxRecDepth 100000 in
theorem f_188_379 : xft 188 379 = some (.aload_n 0) := by decide +kernel
set_option maxRecDepth 100000 in
theorem f_188_380 : xft 188 380 = some (.iload 4) := by decide +kernel
set_option maxRecDepth 100000 in
theorem f_188_382 : xft 188 382 = some (.iconst 4) := by decide +kernel
set_option maxRecDepth 100000 in
theorem f_188_383 : xft 188 383 = some (.iadd) := by decide +kernel
set_option maxRecDepth 100000 in
theorem f_188_384 : xft 188 384 = some (.iaload) := by decide +kernel
set_option maxRecDepth 100000 in
theorem f_188_385 : xft 188 385 = some (.aload_n 0) := by decide +kernel
set_option maxRecDepth 100000 in
theorem f_188_386 : xft 188 386 = some (.iload 4) := by decide +kernel
set_option maxRecDepth 100000 in
theorem f_188_388 : xft 188 388 = some (.iconst 5) := by decide +kernel
set_option maxRecDepth 100000 in
theorem f_188_389 : xft 188 389 = some (.iadd) := by decide +kernel
set_option maxRecDepth 100000 in
theorem f_188_390 : xft 188 390 = some (.iaload) := by decide +kernel
set_option maxRecDepth 100000 in
theorem f_188_391 : xft 188 391 = some (.aload_n 0) := by decide +kernel
set_option maxRecDepth 100000 in
theorem f_188_392 : xft 188 392 = some (.iload 4) := by decide +kernel
set_option maxRecDepth 100000 in
theorem f_188_394 : xft 188 394 = some (.bipush 6) := by decide +kernel
set_option maxRecDepth 100000 in
theorem f_188_396 : xft 188 396 = some (.iadd) := by decide +kernel
set_option maxRecDepth 100000 in
theorem f_188_397 : xft 188 397 = some (.iaload) := by decide +kernel
set_option maxRecDepth 100000 in
theorem f_188_398 : xft 188 398 = some (.ifCond .eq 7) := by decide +kernel
set_option maxRecDepth 100000 in
theorem f_188_401 : xft 188 401 = some (.iconst 1) := by decide +kernel
set_option maxRecDepth 100000 in
theorem f_188_402 : xft 188 402 = some (.goto 4) := by decide +kernel
set_option maxRecDepth 100000 in
theorem f_188_405 : xft 188 405 = some (.iconst 0) := by decide +kernel
set_option maxRecDepth 100000 in
theorem f_188_406 : xft 188 406 = some (.invokevirtual 128) := by decide +kernel
set_option maxRecDepth 100000 in
theorem f_188_409 : xft 188 409 = some (.istore 6) := by decide +kernel
set_option maxRecDepth 100000 in
theorem f_188_411 : xft 188 411 = some (.aload_n 2) := by decide +kernel
set_option maxRecDepth 100000 in
theorem f_188_412 : xft 188 412 = some (.invokevirtual 117) := by decide +kernel
set_option maxRecDepth 100000 in
theorem f_188_415 : xft 188 415 = some (.iload 5) := by decide +kernel
set_option maxRecDepth 100000 in
theorem f_188_417 : xft 188 417 = some (.if_icmp .eq 5) := by decide +kernel
set_option maxRecDepth 100000 in
theorem f_188_420 : xft 188 420 = some (.iconst 0) := by decide +kernel
set_option maxRecDepth 100000 in
theorem f_188_421 : xft 188 421 = some (.ireturn) := by decide +kernel
set_option maxRecDepth 100000 in
theorem f_188_422 : xft 188 422 = some (.iload 5) := by decide +kernel
set_option maxRecDepth 100000 in
theorem f_188_424 : xft 188 424 = some (.ifCond .ne 15) := by decide +kernel
set_option maxRecDepth 100000 in
theorem f_188_427 : xft 188 427 = some (.aload_n 3) := by decide +kernel
set_option maxRecDepth 100000 in
theorem f_188_428 : xft 188 428 = some (.iconst 0) := by decide +kernel
set_option maxRecDepth 100000 in
theorem f_188_429 : xft 188 429 = some (.laload) := by decide +kernel
set_option maxRecDepth 100000 in
theorem f_188_430 : xft 188 430 = some (.iload 6) := by decide +kernel
set_option maxRecDepth 100000 in
theorem f_188_432 : xft 188 432 = some (.i2l) := by decide +kernel
set_option maxRecDepth 100000 in
theorem f_188_433 : xft 188 433 = some (.lcmp) := by decide +kernel
set_option maxRecDepth 100000 in
theorem f_188_434 : xft 188 434 = some (.ifCond .eq 5) := by decide +kernel
set_option maxRecDepth 100000 in
theorem f_188_437 : xft 188 437 = some (.iconst 0) := by decide +kernel
set_option maxRecDepth 100000 in
theorem f_188_438 : xft 188 438 = some (.ireturn) := by decide +kernel
set_option maxRecDepth 100000 in
theorem f_188_439 : xft 188 439 = some (.goto 2029) := by decide +kernel
set_option maxRecDepth 100000 in
theorem f_188_442 : xft 188 442 = some (.aload_n 1) := by decide +kernel
set_option maxRecDepth 100000 in
theorem f_188_443 : xft 188 443 = some (.aload_n 0) := by decide +kernel
set_option maxRecDepth 100000 in
theorem f_188_444 : xft 188 444 = some (.iload 4) := by decide +kernel
set_option maxRecDepth 100000 in
theorem f_188_446 : xft 188 446 = some (.iconst 1) := by decide +kernel
set_option maxRecDepth 100000 in
theorem f_188_447 : xft 188 447 = some (.iadd) := by decide +kernel
set_option maxRecDepth 100000 in
theorem f_188_448 : xft 188 448 = some (.iaload) := by decide +kernel
set_option maxRecDepth 100000 in
theorem f_188_449 : xft 188 449 = some (.aload_n 0) := by decide +kernel
set_option maxRecDepth 100000 in
theorem f_188_450 : xft 188 450 = some (.iload 4) := by decide +kernel
set_option maxRecDepth 100000 in
theorem f_188_452 : xft 188 452 = some (.iconst 2) := by decide +kernel
set_option maxRecDepth 100000 in
theorem f_188_453 : xft 188 453 = some (.iadd) := by decide +kernel
set_option maxRecDepth 100000 in
theorem f_188_454 : xft 188 454 = some (.iaload) := by decide +kernel
set_option maxRecDepth 100000 in
theorem f_188_455 : xft 188 455 = some (.aload_n 0) := by decide +kernel
set_option maxRecDepth 100000 in
theorem f_188_456 : xft 188 456 = some (.iload 4) := by decide +kernel
set_option maxRecDepth 100000 in
theorem f_188_458 : xft 188 458 = some (.iconst 3) := by decide +kernel
set_option maxRecDepth 100000 in
theorem f_188_459 : xft 188 459 = some (.iadd) := by decide +kernel
set_option maxRecDepth 100000 in
theorem f_188_460 : xft 188 460 = some (.iaload) := by decide +kernel
set_option maxRecDepth 100000 in
theorem f_188_461 : xft 188 461 = some (.aload_n 0) := by decide +kernel
set_option maxRecDepth 100000 in
theorem f_188_462 : xft 188 462 = some (.iload 4) := by decide +kernel
set_option maxRecDepth 100000 in
theorem f_188_464 : xft 188 464 = some (.iconst 4) := by decide +kernel
set_option maxRecDepth 100000 in
theorem f_188_465 : xft 188 465 = some (.iadd) := by decide +kernel
set_option maxRecDepth 100000 in
theorem f_188_466 : xft 188 466 = some (.iaload) := by decide +kernel
set_option maxRecDepth 100000 in
theorem f_188_467 : xft 188 467 = some (.ifCond .eq 7) := by decide +kernel
set_option maxRecDepth 100000 in
theorem f_188_470 : xft 188 470 = some (.iconst 1) := by decide +kernel
set_option maxRecDepth 100000 in
theorem f_188_471 : xft 188 471 = some (.goto 4) := by decide +kernel
set_option maxRecDepth 100000 in
theorem f_188_474 : xft 188 474 = some (.iconst 0) := by decide +kernel
set_option maxRecDepth 100000 in
theorem f_188_475 : xft 188 475 = some (.aload_n 0) := by decide +kernel
set_option maxRecDepth 100000 in
theorem f_188_476 : xft 188 476 = some (.iload 4) := by decide +kernel
set_option maxRecDepth 100000 in
theorem f_188_478 : xft 188 478 = some (.iconst 5) := by decide +kernel
set_option maxRecDepth 100000 in
theorem f_188_479 : xft 188 479 = some (.iadd) := by decide +kernel
set_option maxRecDepth 100000 in
theorem f_188_480 : xft 188 480 = some (.iaload) := by decide +kernel
set_option maxRecDepth 100000 in
theorem f_188_481 : xft 188 481 = some (.aload_n 3) := by decide +kernel
set_option maxRecDepth 100000 in
theorem f_188_482 : xft 188 482 = some (.invokestatic 129) := by decide +kernel
set_option maxRecDepth 100000 in
theorem f_188_485 : xft 188 485 = some (.istore 5) := by decide +kernel
set_option maxRecDepth 100000 in
theorem f_188_487 : xft 188 487 = some (.aload_n 2) := by decide +kernel
set_option maxRecDepth 100000 in
theorem f_188_488 : xft 188 488 = some (.aload_n 0) := by decide +kernel
set_option maxRecDepth 100000 in
theorem f_188_489 : xft 188 489 = some (.iload 4) := by decide +kernel
set_option maxRecDepth 100000 in
theorem f_188_491 : xft 188 491 = some (.iconst 1) := by decide +kernel
set_option maxRecDepth 100000 in
theorem f_188_492 : xft 188 492 = some (.iadd) := by decide +kernel
set_option maxRecDepth 100000 in
theorem f_188_493 : xft 188 493 = some (.iaload) := by decide +kernel
set_option maxRecDepth 100000 in
theorem f_188_494 : xft 188 494 = some (.aload_n 0) := by decide +kernel
set_option maxRecDepth 100000 in
theorem f_188_495 : xft 188 495 = some (.iload 4) := by decide +kernel
set_option maxRecDepth 100000 in
theorem f_188_497 : xft 188 497 = some (.iconst 2) := by decide +kernel
set_option maxRecDepth 100000 in
theorem f_188_498 : xft 188 498 = some (.iadd) := by decide +kernel
set_option maxRecDepth 100000 in
theorem f_188_499 : xft 188 499 = some (.iaload) := by decide +kernel
set_option maxRecDepth 100000 in
theorem f_188_500 : xft 188 500 = some (.aload_n 0) := by decide +kernel
set_option maxRecDepth 100000 in
theorem f_188_501 : xft 188 501 = some (.iload 4) := by decide +kernel
set_option maxRecDepth 100000 in
theorem f_188_503 : xft 188 503 = some (.iconst 3) := by decide +kernel
set_option maxRecDepth 100000 in
theorem f_188_504 : xft 188 504 = some (.iadd) := by decide +kernel
set_option maxRecDepth 100000 in
theorem f_188_505 : xft 188 505 = some (.iaload) := by decide +kernel
set_option maxRecDepth 100000 in
theorem f_188_506 : xft 188 506 = some (.aload_n 0) := by decide +kernel
set_option maxRecDepth 100000 in
theorem f_188_507 : xft 188 507 = some (.iload 4) := by decide +kernel
set_option maxRecDepth 100000 in
theorem f_188_509 : xft 188 509 = some (.iconst 4) := by decide +kernel
set_option maxRecDepth 100000 in
theorem f_188_510 : xft 188 510 = some (.iadd) := by decide +kernel
set_option maxRecDepth 100000 in
theorem f_188_511 : xft 188 511 = some (.iaload) := by decide +kernel
set_option maxRecDepth 100000 in
theorem f_188_512 : xft 188 512 = some (.ifCond .eq 7) := by decide +kernel
set_option maxRecDepth 100000 in
theorem f_188_515 : xft 188 515 = some (.iconst 1) := by decide +kernel
set_option maxRecDepth 100000 in
theorem f_188_516 : xft 188 516 = some (.goto 4) := by decide +kernel
set_option maxRecDepth 100000 in
theorem f_188_519 : xft 188 519 = some (.iconst 0) := by decide +kernel
set_option maxRecDepth 100000 in
theorem f_188_520 : xft 188 520 = some (.aload_n 0) := by decide +kernel
set_option maxRecDepth 100000 in
theorem f_188_521 : xft 188 521 = some (.iload 4) := by decide +kernel
set_option maxRecDepth 100000 in
theorem f_188_523 : xft 188 523 = some (.iconst 5) := by decide +kernel
set_option maxRecDepth 100000 in
theorem f_188_524 : xft 188 524 = some (.iadd) := by decide +kernel
set_option maxRecDepth 100000 in
theorem f_188_525 : xft 188 525 = some (.iaload) := by decide +kernel
set_option maxRecDepth 100000 in
theorem f_188_526 : xft 188 526 = some (.invokevirtual 132) := by decide +kernel
set_option maxRecDepth 100000 in
theorem f_188_529 : xft 188 529 = some (.istore 6) := by decide +kernel
set_option maxRecDepth 100000 in
theorem f_188_531 : xft 188 531 = some (.aload_n 2) := by decide +kernel
set_option maxRecDepth 100000 in
theorem f_188_532 : xft 188 532 = some (.invokevirtual 117) := by decide +kernel
set_option maxRecDepth 100000 in
theorem f_188_535 : xft 188 535 = some (.iload 5) := by decide +kernel
set_option maxRecDepth 100000 in
theorem f_188_537 : xft 188 537 = some (.if_icmp .eq 5) := by decide +kernel
set_option maxRecDepth 100000 in
theorem f_188_540 : xft 188 540 = some (.iconst 0) := by decide +kernel
set_option maxRecDepth 100000 in
theorem f_188_541 : xft 188 541 = some (.ireturn) := by decide +kernel
set_option maxRecDepth 100000 in
theorem f_188_542 : xft 188 542 = some (.iload 5) := by decide +kernel
set_option maxRecDepth 100000 in
theorem f_188_544 : xft 188 544 = some (.ifCond .ne 15) := by decide +kernel
set_option maxRecDepth 100000 in
theorem f_188_547 : xft 188 547 = some (.aload_n 3) := by decide +kernel
set_option maxRecDepth 100000 in
theorem f_188_548 : xft 188 548 = some (.iconst 0) := by decide +kernel
set_option maxRecDepth 100000 in
theorem f_188_549 : xft 188 549 = some (.laload) := by decide +kernel
set_option maxRecDepth 100000 in
theorem f_188_550 : xft 188 550 = some (.iload 6) := by decide +kernel
set_option maxRecDepth 100000 in
theorem f_188_552 : xft 188 552 = some (.i2l) := by decide +kernel
set_option maxRecDepth 100000 in
theorem f_188_553 : xft 188 553 = some (.lcmp) := by decide +kernel
set_option maxRecDepth 100000 in
theorem f_188_554 : xft 188 554 = some (.ifCond .eq 5) := by decide +kernel
set_option maxRecDepth 100000 in
theorem f_188_557 : xft 188 557 = some (.iconst 0) := by decide +kernel
set_option maxRecDepth 100000 in
theorem f_188_558 : xft 188 558 = some (.ireturn) := by decide +kernel
set_option maxRecDepth 100000 in
theorem f_188_559 : xft 188 559 = some (.goto 1909) := by decide +kernel
set_option maxRecDepth 100000 in
theorem f_188_562 : xft 188 562 = some (.aload_n 1) := by decide +kernel
set_option maxRecDepth 100000 in
theorem f_188_563 : xft 188 563 = some (.aload_n 0) := by decide +kernel
set_option maxRecDepth 100000 in
theorem f_188_564 : xft 188 564 = some (.iload 4) := by decide +kernel
set_option maxRecDepth 100000 in
theorem f_188_566 : xft 188 566 = some (.iconst 1) := by decide +kernel
set_option maxRecDepth 100000 in
theorem f_188_567 : xft 188 567 = some (.iadd) := by decide +kernel
set_option maxRecDepth 100000 in
theorem f_188_568 : xft 188 568 = some (.iaload) := by decide +kernel
set_option maxRecDepth 100000 in
theorem f_188_569 : xft 188 569 = some (.aload_n 0) := by decide +kernel
set_option maxRecDepth 100000 in
theorem f_188_570 : xft 188 570 = some (.iload 4) := by decide +kernel
set_option maxRecDepth 100000 in
theorem f_188_572 : xft 188 572 = some (.iconst 2) := by decide +kernel
set_option maxRecDepth 100000 in
theorem f_188_573 : xft 188 573 = some (.iadd) := by decide +kernel
set_option maxRecDepth 100000 in
theorem f_188_574 : xft 188 574 = some (.iaload) := by decide +kernel
set_option maxRecDepth 100000 in
theorem f_188_575 : xft 188 575 = some (.aload_n 3) := by decide +kernel
set_option maxRecDepth 100000 in
theorem f_188_576 : xft 188 576 = some (.invokestatic 133) := by decide +kernel
set_option maxRecDepth 100000 in
theorem f_188_579 : xft 188 579 = some (.istore 5) := by decide +kernel
set_option maxRecDepth 100000 in
theorem f_188_581 : xft 188 581 = some (.aload_n 2) := by decide +kernel
set_option maxRecDepth 100000 in
theorem f_188_582 : xft 188 582 = some (.aload_n 0) := by decide +kernel
set_option maxRecDepth 100000 in
theorem f_188_583 : xft 188 583 = some (.iload 4) := by decide +kernel
set_option maxRecDepth 100000 in
theorem f_188_585 : xft 188 585 = some (.iconst 1) := by decide +kernel
set_option maxRecDepth 100000 in
theorem f_188_586 : xft 188 586 = some (.iadd) := by decide +kernel
set_option maxRecDepth 100000 in
theorem f_188_587 : xft 188 587 = some (.iaload) := by decide +kernel
set_option maxRecDepth 100000 in
theorem f_188_588 : xft 188 588 = some (.aload_n 0) := by decide +kernel
set_option maxRecDepth 100000 in
theorem f_188_589 : xft 188 589 = some (.iload 4) := by decide +kernel
set_option maxRecDepth 100000 in
theorem f_188_591 : xft 188 591 = some (.iconst 2) := by decide +kernel
set_option maxRecDepth 100000 in
theorem f_188_592 : xft 188 592 = some (.iadd) := by decide +kernel
set_option maxRecDepth 100000 in
theorem f_188_593 : xft 188 593 = some (.iaload) := by decide +kernel
set_option maxRecDepth 100000 in
theorem f_188_594 : xft 188 594 = some (.invokevirtual 136) := by decide +kernel
set_option maxRecDepth 100000 in
theorem f_188_597 : xft 188 597 = some (.istore 6) := by decide +kernel
set_option maxRecDepth 100000 in
theorem f_188_599 : xft 188 599 = some (.aload_n 2) := by decide +kernel
set_option maxRecDepth 100000 in
theorem f_188_600 : xft 188 600 = some (.invokevirtual 117) := by decide +kernel
set_option maxRecDepth 100000 in
theorem f_188_603 : xft 188 603 = some (.iload 5) := by decide +kernel
set_option maxRecDepth 100000 in
theorem f_188_605 : xft 188 605 = some (.if_icmp .eq 5) := by decide +kernel
set_option maxRecDepth 100000 in
theorem f_188_608 : xft 188 608 = some (.iconst 0) := by decide +kernel
set_option maxRecDepth 100000 in
theorem f_188_609 : xft 188 609 = some (.ireturn) := by decide +kernel
set_option maxRecDepth 100000 in
theorem f_188_610 : xft 188 610 = some (.iload 5) := by decide +kernel
set_option maxRecDepth 100000 in
theorem f_188_612 : xft 188 612 = some (.ifCond .ne 15) := by decide +kernel
set_option maxRecDepth 100000 in
theorem f_188_615 : xft 188 615 = some (.aload_n 3) := by decide +kernel
set_option maxRecDepth 100000 in
theorem f_188_616 : xft 188 616 = some (.iconst 0) := by decide +kernel
set_option maxRecDepth 100000 in
theorem f_188_617 : xft 188 617 = some (.laload) := by decide +kernel
set_option maxRecDepth 100000 in
theorem f_188_618 : xft 188 618 = some (.iload 6) := by decide +kernel
set_option maxRecDepth 100000 in
theorem f_188_620 : xft 188 620 = some (.i2l) := by decide +kernel
set_option maxRecDepth 100000 in
theorem f_188_621 : xft 188 621 = some (.lcmp) := by decide +kernel
set_option maxRecDepth 100000 in
theorem f_188_622 : xft 188 622 = some (.ifCond .eq 5) := by decide +kernel
set_option maxRecDepth 100000 in
theorem f_188_625 : xft 188 625 = some (.iconst 0) := by decide +kernel
set_option maxRecDepth 100000 in
theorem f_188_626 : xft 188 626 = some (.ireturn) := by decide +kernel
set_option maxRecDepth 100000 in
theorem f_188_627 : xft 188 627 = some (.goto 1841) := by decide +kernel
set_option maxRecDepth 100000 in
theorem f_188_630 : xft 188 630 = some (.aload_n 1) := by decide +kernel
set_option maxRecDepth 100000 in
theorem f_188_631 : xft 188 631 = some (.aload_n 0) := by decide +kernel
set_option maxRecDepth 100000 in
theorem f_188_632 : xft 188 632 = some (.iload 4) := by decide +kernel
set_option maxRecDepth 100000 in
theorem f_188_634 : xft 188 634 = some (.iconst 1) := by decide +kernel
set_option maxRecDepth 100000 in
theorem f_188_635 : xft 188 635 = some (.iadd) := by decide +kernel
set_option maxRecDepth 100000 in
theorem f_188_636 : xft 188 636 = some (.iaload) := by decide +kernel
set_option maxRecDepth 100000 in
theorem f_188_637 : xft 188 637 = some (.aload_n 0) := by decide +kernel
set_option maxRecDepth 100000 in
theorem f_188_638 : xft 188 638 = some (.iload 4) := by decide +kernel
set_option maxRecDepth 100000 in
theorem f_188_640 : xft 188 640 = some (.iconst 2) := by decide +kernel
set_option maxRecDepth 100000 in
theorem f_188_641 : xft 188 641 = some (.iadd) := by decide +kernel
set_option maxRecDepth 100000 in
theorem f_188_642 : xft 188 642 = some (.iaload) := by decide +kernel
set_option maxRecDepth 100000 in
theorem f_188_643 : xft 188 643 = some (.aload_n 3) := by decide +kernel
set_option maxRecDepth 100000 in
theorem f_188_644 : xft 188 644 = some (.invokestatic 137) := by decide +kernel
set_option maxRecDepth 100000 in
theorem f_188_647 : xft 188 647 = some (.istore 5) := by decide +kernel
set_option maxRecDepth 100000 in
theorem f_188_649 : xft 188 649 = some (.aload_n 2) := by decide +kernel
set_option maxRecDepth 100000 in
theorem f_188_650 : xft 188 650 = some (.aload_n 0) := by decide +kernel
set_option maxRecDepth 100000 in
theorem f_188_651 : xft 188 651 = some (.iload 4) := by decide +kernel
set_option maxRecDepth 100000 in
theorem f_188_653 : xft 188 653 = some (.iconst 1) := by decide +kernel
set_option maxRecDepth 100000 in
theorem f_188_654 : xft 188 654 = some (.iadd) := by decide +kernel
set_option maxRecDepth 100000 in
theorem f_188_655 : xft 188 655 = some (.iaload) := by decide +kernel
set_option maxRecDepth 100000 in
theorem f_188_656 : xft 188 656 = some (.aload_n 0) := by decide +kernel
set_option maxRecDepth 100000 in
theorem f_188_657 : xft 188 657 = some (.iload 4) := by decide +kernel
set_option maxRecDepth 100000 in
theorem f_188_659 : xft 188 659 = some (.iconst 2) := by decide +kernel
set_option maxRecDepth 100000 in
theorem f_188_660 : xft 188 660 = some (.iadd) := by decide +kernel
set_option maxRecDepth 100000 in
theorem f_188_661 : xft 188 661 = some (.iaload) := by decide +kernel
set_option maxRecDepth 100000 in
theorem f_188_662 : xft 188 662 = some (.invokevirtual 139) := by decide +kernel
set_option maxRecDepth 100000 in
theorem f_188_665 : xft 188 665 = some (.istore 6) := by decide +kernel
set_option maxRecDepth 100000 in
theorem f_188_667 : xft 188 667 = some (.aload_n 2) := by decide +kernel
set_option maxRecDepth 100000 in
theorem f_188_668 : xft 188 668 = some (.invokevirtual 117) := by decide +kernel
set_option maxRecDepth 100000 in
theorem f_188_671 : xft 188 671 = some (.iload 5) := by decide +kernel
set_option maxRecDepth 100000 in
theorem f_188_673 : xft 188 673 = some (.if_icmp .eq 5) := by decide +kernel
set_option maxRecDepth 100000 in
theorem f_188_676 : xft 188 676 = some (.iconst 0) := by decide +kernel
set_option maxRecDepth 100000 in
theorem f_188_677 : xft 188 677 = some (.ireturn) := by decide +kernel
set_option maxRecDepth 100000 in
theorem f_188_678 : xft 188 678 = some (.iload 5) := by decide +kernel
set_option maxRecDepth 100000 in
theorem f_188_680 : xft 188 680 = some (.ifCond .ne 15) := by decide +kernel
set_option maxRecDepth 100000 in
theorem f_188_683 : xft 188 683 = some (.aload_n 3) := by decide +kernel
set_option maxRecDepth 100000 in
theorem f_188_684 : xft 188 684 = some (.iconst 0) := by decide +kernel
set_option maxRecDepth 100000 in
theorem f_188_685 : xft 188 685 = some (.laload) := by decide +kernel
set_option maxRecDepth 100000 in
theorem f_188_686 : xft 188 686 = some (.iload 6) := by decide +kernel
set_option maxRecDepth 100000 in
theorem f_188_688 : xft 188 688 = some (.i2l) := by decide +kernel
set_option maxRecDepth 100000 in
theorem f_188_689 : xft 188 689 = some (.lcmp) := by decide +kernel
set_option maxRecDepth 100000 in
theorem f_188_690 : xft 188 690 = some (.ifCond .eq 5) := by decide +kernel
set_option maxRecDepth 100000 in
theorem f_188_693 : xft 188 693 = some (.iconst 0) := by decide +kernel
set_option maxRecDepth 100000 in
theorem f_188_694 : xft 188 694 = some (.ireturn) := by decide +kernel
set_option maxRecDepth 100000 in
theorem f_188_695 : xft 188 695 = some (.goto 1773) := by decide +kernel
set_option maxRecDepth 100000 in
theorem f_188_698 : xft 188 698 = some (.aload_n 1) := by decide +kernel
set_option maxRecDepth 100000 in
theorem f_188_699 : xft 188 699 = some (.aload_n 0) := by decide +kernel
set_option maxRecDepth 100000 in
theorem f_188_700 : xft 188 700 = some (.iload 4) := by decide +kernel
set_option maxRecDepth 100000 in
theorem f_188_702 : xft 188 702 = some (.iconst 1) := by decide +kernel
set_option maxRecDepth 100000 in
theorem f_188_703 : xft 188 703 = some (.iadd) := by decide +kernel
set_option maxRecDepth 100000 in
theorem f_188_704 : xft 188 704 = some (.iaload) := by decide +kernel
set_option maxRecDepth 100000 in
theorem f_188_705 : xft 188 705 = some (.aload_n 0) := by decide +kernel
set_option maxRecDepth 100000 in
theorem f_188_706 : xft 188 706 = some (.iload 4) := by decide +kernel
set_option maxRecDepth 100000 in
theorem f_188_708 : xft 188 708 = some (.iconst 2) := by decide +kernel
set_option maxRecDepth 100000 in
theorem f_188_709 : xft 188 709 = some (.iadd) := by decide +kernel
set_option maxRecDepth 100000 in
theorem f_188_710 : xft 188 710 = some (.iaload) := by decide +kernel
set_option maxRecDepth 100000 in
theorem f_188_711 : xft 188 711 = some (.aload_n 3) := by decide +kernel
set_option maxRecDepth 100000 in
theorem f_188_712 : xft 188 712 = some (.invokestatic 140) := by decide +kernel
set_option maxRecDepth 100000 in
theorem f_188_715 : xft 188 715 = some (.istore 5) := by decide +kernel
set_option maxRecDepth 100000 in
theorem f_188_717 : xft 188 717 = some (.aload_n 2) := by decide +kernel
set_option maxRecDepth 100000 in
theorem f_188_718 : xft 188 718 = some (.aload_n 0) := by decide +kernel
set_option maxRecDepth 100000 in
theorem f_188_719 : xft 188 719 = some (.iload 4) := by decide +kernel
set_option maxRecDepth 100000 in
theorem f_188_721 : xft 188 721 = some (.iconst 1) := by decide +kernel
set_option maxRecDepth 100000 in
theorem f_188_722 : xft 188 722 = some (.iadd) := by decide +kernel
set_option maxRecDepth 100000 in
theorem f_188_723 : xft 188 723 = some (.iaload) := by decide +kernel
set_option maxRecDepth 100000 in
theorem f_188_724 : xft 188 724 = some (.aload_n 0) := by decide +kernel
set_option maxRecDepth 100000 in
theorem f_188_725 : xft 188 725 = some (.iload 4) := by decide +kernel
set_option maxRecDepth 100000 in
theorem f_188_727 : xft 188 727 = some (.iconst 2) := by decide +kernel
set_option maxRecDepth 100000 in
theorem f_188_728 : xft 188 728 = some (.iadd) := by decide +kernel
set_option maxRecDepth 100000 in
theorem f_188_729 : xft 188 729 = some (.iaload) := by decide +kernel
set_option maxRecDepth 100000 in
theorem f_188_730 : xft 188 730 = some (.invokevirtual 142) := by decide +kernel
set_option maxRecDepth 100000 in
theorem f_188_733 : xft 188 733 = some (.istore 6) := by decide +kernel
set_option maxRecDepth 100000 in
theorem f_188_735 : xft 188 735 = some (.aload_n 2) := by decide +kernel
set_option maxRecDepth 100000 in
theorem f_188_736 : xft 188 736 = some (.invokevirtual 117) := by decide +kernel
set_option maxRecDepth 100000 in
theorem f_188_739 : xft 188 739 = some (.iload 5) := by decide +kernel
set_option maxRecDepth 100000 in
theorem f_188_741 : xft 188 741 = some (.if_icmp .eq 5) := by decide +kernel
set_option maxRecDepth 100000 in
theorem f_188_744 : xft 188 744 = some (.iconst 0) := by decide +kernel
set_option maxRecDepth 100000 in
theorem f_188_745 : xft 188 745 = some (.ireturn) := by decide +kernel
set_option maxRecDepth 100000 in
theorem f_188_746 : xft 188 746 = some (.iload 5) := by decide +kernel
set_option maxRecDepth 100000 in
theorem f_188_748 : xft 188 748 = some (.ifCond .ne 22) := by decide +kernel
set_option maxRecDepth 100000 in
theorem f_188_751 : xft 188 751 = some (.aload_n 3) := by decide +kernel
set_option maxRecDepth 100000 in
theorem f_188_752 : xft 188 752 = some (.iconst 0) := by decide +kernel
set_option maxRecDepth 100000 in
theorem f_188_753 : xft 188 753 = some (.laload) := by decide +kernel
set_option maxRecDepth 100000 in
theorem f_188_754 : xft 188 754 = some (.iload 6) := by decide +kernel
set_option maxRecDepth 100000 in
theorem f_188_756 : xft 188 756 = some (.ifCond .eq 7) := by decide +kernel
set_option maxRecDepth 100000 in
theorem f_188_759 : xft 188 759 = some (.lconst 1) := by decide +kernel
set_option maxRecDepth 100000 in
theorem f_188_760 : xft 188 760 = some (.goto 4) := by decide +kernel
set_option maxRecDepth 100000 in
theorem f_188_763 : xft 188 763 = some (.lconst 0) := by decide +kernel
set_option maxRecDepth 100000 in
theorem f_188_764 : xft 188 764 = some (.lcmp) := by decide +kernel
set_option maxRecDepth 100000 in
theorem f_188_765 : xft 188 765 = some (.ifCond .eq 5) := by decide +kernel
set_option maxRecDepth 100000 in
theorem f_188_768 : xft 188 768 = some (.iconst 0) := by decide +kernel
set_option maxRecDepth 100000 in
theorem f_188_769 : xft 188 769 = some (.ireturn) := by decide +kernel
set_option maxRecDepth 100000 in
theorem f_188_770 : xft 188 770 = some (.goto 1698) := by decide +kernel
set_option maxRecDepth 100000 in
theorem f_188_773 : xft 188 773 = some (.aload_n 1) := by decide +kernel
set_option maxRecDepth 100000 in
theorem f_188_774 : xft 188 774 = some (.aload_n 0) := by decide +kernel
set_option maxRecDepth 100000 in
theorem f_188_775 : xft 188 775 = some (.iload 4) := by decide +kernel
set_option maxRecDepth 100000 in
theorem f_188_777 : xft 188 777 = some (.iconst 1) := by decide +kernel
set_option maxRecDepth 100000 in
theorem f_188_778 : xft 188 778 = some (.iadd) := by decide +kernel
set_option maxRecDepth 100000 in
theorem f_188_779 : xft 188 779 = some (.iaload) := by decide +kernel
set_option maxRecDepth 100000 in
theorem f_188_780 : xft 188 780 = some (.aload_n 0) := by decide +kernel
set_option maxRecDepth 100000 in
theorem f_188_781 : xft 188 781 = some (.iload 4) := by decide +kernel
set_option maxRecDepth 100000 in
theorem f_188_783 : xft 188 783 = some (.iconst 2) := by decide +kernel
set_option maxRecDepth 100000 in
theorem f_188_784 : xft 188 784 = some (.iadd) := by decide +kernel
set_option maxRecDepth 100000 in
theorem f_188_785 : xft 188 785 = some (.iaload) := by decide +kernel
set_option maxRecDepth 100000 in
theorem f_188_786 : xft 188 786 = some (.aload_n 3) := by decide +kernel
set_option maxRecDepth 100000 in
theorem f_188_787 : xft 188 787 = some (.invokestatic 143) := by decide +kernel
set_option maxRecDepth 100000 in
theorem f_188_790 : xft 188 790 = some (.istore 5) := by decide +kernel
set_option maxRecDepth 100000 in
theorem f_188_792 : xft 188 792 = some (.aload_n 2) := by decide +kernel
set_option maxRecDepth 100000 in
theorem f_188_793 : xft 188 793 = some (.aload_n 0) := by decide +kernel
set_option maxRecDepth 100000 in
theorem f_188_794 : xft 188 794 = some (.iload 4) := by decide +kernel
set_option maxRecDepth 100000 in
theorem f_188_796 : xft 188 796 = some (.iconst 1) := by decide +kernel
set_option maxRecDepth 100000 in
theorem f_188_797 : xft 188 797 = some (.iadd) := by decide +kernel
set_option maxRecDepth 100000 in
theorem f_188_798 : xft 188 798 = some (.iaload) := by decide +kernel
set_option maxRecDepth 100000 in
theorem f_188_799 : xft 188 799 = some (.aload_n 0) := by decide +kernel
set_option maxRecDepth 100000 in
theorem f_188_800 : xft 188 800 = some (.iload 4) := by decide +kernel
set_option maxRecDepth 100000 in
theorem f_188_802 : xft 188 802 = some (.iconst 2) := by decide +kernel
set_option maxRecDepth 100000 in
theorem f_188_803 : xft 188 803 = some (.iadd) := by decide +kernel
set_option maxRecDepth 100000 in
theorem f_188_804 : xft 188 804 = some (.iaload) := by decide +kernel
set_option maxRecDepth 100000 in
theorem f_188_805 : xft 188 805 = some (.invokevirtual 145) := by decide +kernel
set_option maxRecDepth 100000 in
theorem f_188_808 : xft 188 808 = some (.istore 6) := by decide +kernel
set_option maxRecDepth 100000 in
theorem f_188_810 : xft 188 810 = some (.aload_n 2) := by decide +kernel
set_option maxRecDepth 100000 in
theorem f_188_811 : xft 188 811 = some (.invokevirtual 117) := by decide +kernel
set_option maxRecDepth 100000 in
theorem f_188_814 : xft 188 814 = some (.iload 5) := by decide +kernel
set_option maxRecDepth 100000 in
theorem f_188_816 : xft 188 816 = some (.if_icmp .eq 5) := by decide +kernel
set_option maxRecDepth 100000 in
theorem f_188_819 : xft 188 819 = some (.iconst 0) := by decide +kernel
set_option maxRecDepth 100000 in
theorem f_188_820 : xft 188 820 = some (.ireturn) := by decide +kernel
set_option maxRecDepth 100000 in
theorem f_188_821 : xft 188 821 = some (.iload 5) := by decide +kernel
set_option maxRecDepth 100000 in
theorem f_188_823 : xft 188 823 = some (.ifCond .ne 15) := by decide +kernel
set_option maxRecDepth 100000 in
theorem f_188_826 : xft 188 826 = some (.aload_n 3) := by decide +kernel
set_option maxRecDepth 100000 in
theorem f_188_827 : xft 188 827 = some (.iconst 0) := by decide +kernel
set_option maxRecDepth 100000 in
theorem f_188_828 : xft 188 828 = some (.laload) := by decide +kernel
set_option maxRecDepth 100000 in
theorem f_188_829 : xft 188 829 = some (.iload 6) := by decide +kernel
set_option maxRecDepth 100000 in
theorem f_188_831 : xft 188 831 = some (.i2l) := by decide +kernel
set_option maxRecDepth 100000 in
theorem f_188_832 : xft 188 832 = some (.lcmp) := by decide +kernel
set_option maxRecDepth 100000 in
theorem f_188_833 : xft 188 833 = some (.ifCond .eq 5) := by decide +kernel
set_option maxRecDepth 100000 in
theorem f_188_836 : xft 188 836 = some (.iconst 0) := by decide +kernel
set_option maxRecDepth 100000 in
theorem f_188_837 : xft 188 837 = some (.ireturn) := by decide +kernel
set_option maxRecDepth 100000 in
theorem f_188_838 : xft 188 838 = some (.goto 1630) := by decide +kernel
set_option maxRecDepth 100000 in
theorem f_188_841 : xft 188 841 = some (.aload_n 1) := by decide +kernel
set_option maxRecDepth 100000 in
theorem f_188_842 : xft 188 842 = some (.aload_n 0) := by decide +kernel
set_option maxRecDepth 100000 in
theorem f_188_843 : xft 188 843 = some (.iload 4) := by decide +kernel
set_option maxRecDepth 100000 in
theorem f_188_845 : xft 188 845 = some (.iconst 1) := by decide +kernel
set_option maxRecDepth 100000 in
theorem f_188_846 : xft 188 846 = some (.iadd) := by decide +kernel
set_option maxRecDepth 100000 in
theorem f_188_847 : xft 188 847 = some (.iaload) := by decide +kernel
set_option maxRecDepth 100000 in
theorem f_188_848 : xft 188 848 = some (.aload_n 0) := by decide +kernel
set_option maxRecDepth 100000 in
theorem f_188_849 : xft 188 849 = some (.iload 4) := by decide +kernel
set_option maxRecDepth 100000 in
theorem f_188_851 : xft 188 851 = some (.iconst 2) := by decide +kernel
set_option maxRecDepth 100000 in
theorem f_188_852 : xft 188 852 = some (.iadd) := by decide +kernel
set_option maxRecDepth 100000 in
theorem f_188_853 : xft 188 853 = some (.iaload) := by decide +kernel
set_option maxRecDepth 100000 in
theorem f_188_854 : xft 188 854 = some (.aload_n 0) := by decide +kernel
set_option maxRecDepth 100000 in
theorem f_188_855 : xft 188 855 = some (.iload 4) := by decide +kernel
set_option maxRecDepth 100000 in
theorem f_188_857 : xft 188 857 = some (.iconst 3) := by decide +kernel
set_option maxRecDepth 100000 in
theorem f_188_858 : xft 188 858 = some (.iadd) := by decide +kernel
set_option maxRecDepth 100000 in
theorem f_188_859 : xft 188 859 = some (.iaload) := by decide +kernel
set_option maxRecDepth 100000 in
theorem f_188_860 : xft 188 860 = some (.aload_n 0) := by decide +kernel
set_option maxRecDepth 100000 in
theorem f_188_861 : xft 188 861 = some (.iload 4) := by decide +kernel
set_option maxRecDepth 100000 in
theorem f_188_863 : xft 188 863 = some (.iconst 4) := by decide +kernel
set_option maxRecDepth 100000 in
theorem f_188_864 : xft 188 864 = some (.iadd) := by decide +kernel
set_option maxRecDepth 100000 in
theorem f_188_865 : xft 188 865 = some (.iaload) := by decide +kernel
set_option maxRecDepth 100000 in
theorem f_188_866 : xft 188 866 = some (.aload_n 3) := by decide +kernel
set_option maxRecDepth 100000 in
theorem f_188_867 : xft 188 867 = some (.invokestatic 146) := by decide +kernel
set_option maxRecDepth 100000 in
theorem f_188_870 : xft 188 870 = some (.istore 5) := by decide +kernel
set_option maxRecDepth 100000 in
theorem f_188_872 : xft 188 872 = some (.aload_n 2) := by decide +kernel
set_option maxRecDepth 100000 in
theorem f_188_873 : xft 188 873 = some (.aload_n 0) := by decide +kernel
set_option maxRecDepth 100000 in
theorem f_188_874 : xft 188 874 = some (.iload 4) := by decide +kernel
set_option maxRecDepth 100000 in
theorem f_188_876 : xft 188 876 = some (.iconst 1) := by decide +kernel
set_option maxRecDepth 100000 in
theorem f_188_877 : xft 188 877 = some (.iadd) := by decide +kernel
set_option maxRecDepth 100000 in
theorem f_188_878 : xft 188 878 = some (.iaload) := by decide +kernel
set_option maxRecDepth 100000 in
theorem f_188_879 : xft 188 879 = some (.aload_n 0) := by decide +kernel
set_option maxRecDepth 100000 in
theorem f_188_880 : xft 188 880 = some (.iload 4) := by decide +kernel
set_option maxRecDepth 100000 in
theorem f_188_882 : xft 188 882 = some (.iconst 2) := by decide +kernel
set_option maxRecDepth 100000 in
theorem f_188_883 : xft 188 883 = some (.iadd) := by decide +kernel
set_option maxRecDepth 100000 in
theorem f_188_884 : xft 188 884 = some (.iaload) := by decide +kernel
set_option maxRecDepth 100000 in
theorem f_188_885 : xft 188 885 = some (.aload_n 0) := by decide +kernel
set_option maxRecDepth 100000 in
theorem f_188_886 : xft 188 886 = some (.iload 4) := by decide +kernel
set_option maxRecDepth 100000 in
theorem f_188_888 : xft 188 888 = some (.iconst 3) := by decide +kernel
set_option maxRecDepth 100000 in
theorem f_188_889 : xft 188 889 = some (.iadd) := by decide +kernel
set_option maxRecDepth 100000 in
theorem f_188_890 : xft 188 890 = some (.iaload) := by decide +kernel
set_option maxRecDepth 100000 in
theorem f_188_891 : xft 188 891 = some (.aload_n 0) := by decide +kernel
set_option maxRecDepth 100000 in
theorem f_188_892 : xft 188 892 = some (.iload 4) := by decide +kernel
set_option maxRecDepth 100000 in
theorem f_188_894 : xft 188 894 = some (.iconst 4) := by decide +kernel
set_option maxRecDepth 100000 in
theorem f_188_895 : xft 188 895 = some (.iadd) := by decide +kernel
set_option maxRecDepth 100000 in
theorem f_188_896 : xft 188 896 = some (.iaload) := by decide +kernel
set_option maxRecDepth 100000 in
theorem f_188_897 : xft 188 897 = some (.invokevirtual 149) := by decide +kernel
set_option maxRecDepth 100000 in
theorem f_188_900 : xft 188 900 = some (.istore 6) := by decide +kernel
set_option maxRecDepth 100000 in
theorem f_188_902 : xft 188 902 = some (.aload_n 2) := by decide +kernel
set_option maxRecDepth 100000 in
theorem f_188_903 : xft 188 903 = some (.invokevirtual 117) := by decide +kernel
set_option maxRecDepth 100000 in
theorem f_188_906 : xft 188 906 = some (.iload 5) := by decide +kernel
set_option maxRecDepth 100000 in
theorem f_188_908 : xft 188 908 = some (.if_icmp .eq 5) := by decide +kernel
set_option maxRecDepth 100000 in
theorem f_188_911 : xft 188 911 = some (.iconst 0) := by decide +kernel
set_option maxRecDepth 100000 in
theorem f_188_912 : xft 188 912 = some (.ireturn) := by decide +kernel
set_option maxRecDepth 100000 in
theorem f_188_913 : xft 188 913 = some (.iload 5) := by decide +kernel
set_option maxRecDepth 100000 in
theorem f_188_915 : xft 188 915 = some (.ifCond .ne 15) := by decide +kernel
set_option maxRecDepth 100000 in
theorem f_188_918 : xft 188 918 = some (.aload_n 3) := by decide +kernel
set_option maxRecDepth 100000 in
theorem f_188_919 : xft 188 919 = some (.iconst 0) := by decide +kernel
set_option maxRecDepth 100000 in
theorem f_188_920 : xft 188 920 = some (.laload) := by decide +kernel
set_option maxRecDepth 100000 in
theorem f_188_921 : xft 188 921 = some (.iload 6) := by decide +kernel
set_option maxRecDepth 100000 in
theorem f_188_923 : xft 188 923 = some (.i2l) := by decide +kernel
set_option maxRecDepth 100000 in
theorem f_188_924 : xft 188 924 = some (.lcmp) := by decide +kernel
set_option maxRecDepth 100000 in
theorem f_188_925 : xft 188 925 = some (.ifCond .eq 5) := by decide +kernel
set_option maxRecDepth 100000 in
theorem f_188_928 : xft 188 928 = some (.iconst 0) := by decide +kernel
set_option maxRecDepth 100000 in
theorem f_188_929 : xft 188 929 = some (.ireturn) := by decide +kernel
set_option maxRecDepth 100000 in
theorem f_188_930 : xft 188 930 = some (.goto 1538) := by decide +kernel
set_option maxRecDepth 100000 in
theorem f_188_933 : xft 188 933 = some (.aload_n 1) := by decide +kernel
/-! blocks, by program (gen2.py) -/
section BLK
variable {sc : xS} {d : Nat} {T : Nat → Nat × Nat} {z : Nat × Nat} {V : Nat → Nat → Int} {J : Nat → Nat → Int64} {R : Nat → Nat → Option Nat}

end BLK
