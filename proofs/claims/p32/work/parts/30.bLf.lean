/-! instructions, by program (gen2.py) -/
set_option maxRecDepth 100000 in
theorem f_108_0 : xft 108 0 = some (.iload 5) := by decide +kernel
set_option maxRecDepth 100000 in
theorem f_108_2 : xft 108 2 = some (.bipush 13) := by decide +kernel
set_option maxRecDepth 100000 in
theorem f_108_4 : xft 108 4 = some (.irem) := by decide +kernel
set_option maxRecDepth 100000 in
theorem f_108_5 : xft 108 5 = some (.bipush 12) := by decide +kernel
set_option maxRecDepth 100000 in
theorem f_108_7 : xft 108 7 = some (.if_icmp .ne 8) := by decide +kernel
set_option maxRecDepth 100000 in
theorem f_108_10 : xft 108 10 = some (.bipush 6) := by decide +kernel
set_option maxRecDepth 100000 in
theorem f_108_12 : xft 108 12 = some (.goto 7) := by decide +kernel
set_option maxRecDepth 100000 in
theorem f_108_15 : xft 108 15 = some (.iload 5) := by decide +kernel
set_option maxRecDepth 100000 in
theorem f_108_17 : xft 108 17 = some (.iconst 2) := by decide +kernel
set_option maxRecDepth 100000 in
theorem f_108_18 : xft 108 18 = some (.irem) := by decide +kernel
set_option maxRecDepth 100000 in
theorem f_108_19 : xft 108 19 = some (.istore 7) := by decide +kernel
set_option maxRecDepth 100000 in
theorem f_108_21 : xft 108 21 = some (.iload 6) := by decide +kernel
set_option maxRecDepth 100000 in
theorem f_108_23 : xft 108 23 = some (.bipush 15) := by decide +kernel
set_option maxRecDepth 100000 in
theorem f_108_25 : xft 108 25 = some (.irem) := by decide +kernel
set_option maxRecDepth 100000 in
theorem f_108_26 : xft 108 26 = some (.bipush 14) := by decide +kernel
set_option maxRecDepth 100000 in
theorem f_108_28 : xft 108 28 = some (.if_icmp .ne 8) := by decide +kernel
set_option maxRecDepth 100000 in
theorem f_108_31 : xft 108 31 = some (.bipush 7) := by decide +kernel
set_option maxRecDepth 100000 in
theorem f_108_33 : xft 108 33 = some (.goto 8) := by decide +kernel
set_option maxRecDepth 100000 in
theorem f_108_36 : xft 108 36 = some (.iload 6) := by decide +kernel
set_option maxRecDepth 100000 in
theorem f_108_38 : xft 108 38 = some (.bipush 7) := by decide +kernel
set_option maxRecDepth 100000 in
theorem f_108_40 : xft 108 40 = some (.irem) := by decide +kernel
set_option maxRecDepth 100000 in
theorem f_108_41 : xft 108 41 = some (.istore 8) := by decide +kernel
set_option maxRecDepth 100000 in
theorem f_108_43 : xft 108 43 = some (.iload 4) := by decide +kernel
set_option maxRecDepth 100000 in
theorem f_108_45 : xft 108 45 = some (.iconst 3) := by decide +kernel
set_option maxRecDepth 100000 in
theorem f_108_46 : xft 108 46 = some (.if_icmp .ge 250) := by decide +kernel
set_option maxRecDepth 100000 in
theorem f_108_49 : xft 108 49 = some (.iload 4) := by decide +kernel
set_option maxRecDepth 100000 in
theorem f_108_51 : xft 108 51 = some (.iconst 2) := by decide +kernel
set_option maxRecDepth 100000 in
theorem f_108_52 : xft 108 52 = some (.if_icmp .ne 34) := by decide +kernel
set_option maxRecDepth 100000 in
theorem f_108_55 : xft 108 55 = some (.iload 5) := by decide +kernel
set_option maxRecDepth 100000 in
theorem f_108_57 : xft 108 57 = some (.bipush 13) := by decide +kernel
set_option maxRecDepth 100000 in
theorem f_108_59 : xft 108 59 = some (.idiv) := by decide +kernel
set_option maxRecDepth 100000 in
theorem f_108_60 : xft 108 60 = some (.bipush 22) := by decide +kernel
set_option maxRecDepth 100000 in
theorem f_108_62 : xft 108 62 = some (.irem) := by decide +kernel
set_option maxRecDepth 100000 in
theorem f_108_63 : xft 108 63 = some (.iload 5) := by decide +kernel
set_option maxRecDepth 100000 in
theorem f_108_65 : xft 108 65 = some (.bipush 13) := by decide +kernel
set_option maxRecDepth 100000 in
theorem f_108_67 : xft 108 67 = some (.idiv) := by decide +kernel
set_option maxRecDepth 100000 in
theorem f_108_68 : xft 108 68 = some (.bipush 22) := by decide +kernel
set_option maxRecDepth 100000 in
theorem f_108_70 : xft 108 70 = some (.irem) := by decide +kernel
set_option maxRecDepth 100000 in
theorem f_108_71 : xft 108 71 = some (.bipush 21) := by decide +kernel
set_option maxRecDepth 100000 in
theorem f_108_73 : xft 108 73 = some (.if_icmp .ne 8) := by decide +kernel
set_option maxRecDepth 100000 in
theorem f_108_76 : xft 108 76 = some (.bipush 22) := by decide +kernel
set_option maxRecDepth 100000 in
theorem f_108_78 : xft 108 78 = some (.goto 4) := by decide +kernel
set_option maxRecDepth 100000 in
theorem f_108_81 : xft 108 81 = some (.iconst 0) := by decide +kernel
set_option maxRecDepth 100000 in
theorem f_108_82 : xft 108 82 = some (.isub) := by decide +kernel
set_option maxRecDepth 100000 in
theorem f_108_83 : xft 108 83 = some (.goto 41) := by decide +kernel
set_option maxRecDepth 100000 in
theorem f_108_86 : xft 108 86 = some (.iload 5) := by decide +kernel
set_option maxRecDepth 100000 in
theorem f_108_88 : xft 108 88 = some (.bipush 13) := by decide +kernel
set_option maxRecDepth 100000 in
theorem f_108_90 : xft 108 90 = some (.idiv) := by decide +kernel
set_option maxRecDepth 100000 in
theorem f_108_91 : xft 108 91 = some (.bipush 9) := by decide +kernel
set_option maxRecDepth 100000 in
theorem f_108_93 : xft 108 93 = some (.irem) := by decide +kernel
set_option maxRecDepth 100000 in
theorem f_108_94 : xft 108 94 = some (.ifCond .ne 19) := by decide +kernel
set_option maxRecDepth 100000 in
theorem f_108_97 : xft 108 97 = some (.iload 5) := by decide +kernel
set_option maxRecDepth 100000 in
theorem f_108_99 : xft 108 99 = some (.bipush 117) := by decide +kernel
set_option maxRecDepth 100000 in
theorem f_108_101 : xft 108 101 = some (.idiv) := by decide +kernel
set_option maxRecDepth 100000 in
theorem f_108_102 : xft 108 102 = some (.iconst 2) := by decide +kernel
set_option maxRecDepth 100000 in
theorem f_108_103 : xft 108 103 = some (.irem) := by decide +kernel
set_option maxRecDepth 100000 in
theorem f_108_104 : xft 108 104 = some (.bipush 102) := by decide +kernel
set_option maxRecDepth 100000 in
theorem f_108_106 : xft 108 106 = some (.imul) := by decide +kernel
set_option maxRecDepth 100000 in
theorem f_108_107 : xft 108 107 = some (.bipush 51) := by decide +kernel
set_option maxRecDepth 100000 in
theorem f_108_109 : xft 108 109 = some (.isub) := by decide +kernel
set_option maxRecDepth 100000 in
theorem f_108_110 : xft 108 110 = some (.goto 14) := by decide +kernel
set_option maxRecDepth 100000 in
theorem f_108_113 : xft 108 113 = some (.iload 5) := by decide +kernel
set_option maxRecDepth 100000 in
theorem f_108_115 : xft 108 115 = some (.bipush 13) := by decide +kernel
set_option maxRecDepth 100000 in
theorem f_108_117 : xft 108 117 = some (.idiv) := by decide +kernel
set_option maxRecDepth 100000 in
theorem f_108_118 : xft 108 118 = some (.bipush 61) := by decide +kernel
set_option maxRecDepth 100000 in
theorem f_108_120 : xft 108 120 = some (.irem) := by decide +kernel
set_option maxRecDepth 100000 in
theorem f_108_121 : xft 108 121 = some (.bipush 30) := by decide +kernel
set_option maxRecDepth 100000 in
theorem f_108_123 : xft 108 123 = some (.isub) := by decide +kernel
set_option maxRecDepth 100000 in
theorem f_108_124 : xft 108 124 = some (.istore 9) := by decide +kernel
set_option maxRecDepth 100000 in
theorem f_108_126 : xft 108 126 = some (.iload 7) := by decide +kernel
set_option maxRecDepth 100000 in
theorem f_108_128 : xft 108 128 = some (.bipush 6) := by decide +kernel
set_option maxRecDepth 100000 in
theorem f_108_130 : xft 108 130 = some (.if_icmp .ge 14) := by decide +kernel
set_option maxRecDepth 100000 in
theorem f_108_133 : xft 108 133 = some (.iload 8) := by decide +kernel
set_option maxRecDepth 100000 in
theorem f_108_135 : xft 108 135 = some (.bipush 7) := by decide +kernel
set_option maxRecDepth 100000 in
theorem f_108_137 : xft 108 137 = some (.if_icmp .ge 7) := by decide +kernel
set_option maxRecDepth 100000 in
theorem f_108_140 : xft 108 140 = some (.iconst 1) := by decide +kernel
set_option maxRecDepth 100000 in
theorem f_108_141 : xft 108 141 = some (.goto 4) := by decide +kernel
set_option maxRecDepth 100000 in
theorem f_108_144 : xft 108 144 = some (.iconst 0) := by decide +kernel
set_option maxRecDepth 100000 in
theorem f_108_145 : xft 108 145 = some (.istore 10) := by decide +kernel
set_option maxRecDepth 100000 in
theorem f_108_147 : xft 108 147 = some (.iload 4) := by decide +kernel
set_option maxRecDepth 100000 in
theorem f_108_149 : xft 108 149 = some (.iconst 2) := by decide +kernel
set_option maxRecDepth 100000 in
theorem f_108_150 : xft 108 150 = some (.if_icmp .ne 23) := by decide +kernel
set_option maxRecDepth 100000 in
theorem f_108_153 : xft 108 153 = some (.iload 9) := by decide +kernel
set_option maxRecDepth 100000 in
theorem f_108_155 : xft 108 155 = some (.ifCond .lt 14) := by decide +kernel
set_option maxRecDepth 100000 in
theorem f_108_158 : xft 108 158 = some (.iload 9) := by decide +kernel
set_option maxRecDepth 100000 in
theorem f_108_160 : xft 108 160 = some (.bipush 21) := by decide +kernel
set_option maxRecDepth 100000 in
theorem f_108_162 : xft 108 162 = some (.if_icmp .ge 7) := by decide +kernel
set_option maxRecDepth 100000 in
theorem f_108_165 : xft 108 165 = some (.iconst 1) := by decide +kernel
set_option maxRecDepth 100000 in
theorem f_108_166 : xft 108 166 = some (.goto 26) := by decide +kernel
set_option maxRecDepth 100000 in
theorem f_108_169 : xft 108 169 = some (.iconst 0) := by decide +kernel
set_option maxRecDepth 100000 in
theorem f_108_170 : xft 108 170 = some (.goto 22) := by decide +kernel
set_option maxRecDepth 100000 in
theorem f_108_173 : xft 108 173 = some (.iload 9) := by decide +kernel
set_option maxRecDepth 100000 in
theorem f_108_175 : xft 108 175 = some (.bipush (-51)) := by decide +kernel
set_option maxRecDepth 100000 in
theorem f_108_177 : xft 108 177 = some (.if_icmp .le 14) := by decide +kernel
set_option maxRecDepth 100000 in
theorem f_108_180 : xft 108 180 = some (.iload 9) := by decide +kernel
set_option maxRecDepth 100000 in
theorem f_108_182 : xft 108 182 = some (.bipush 51) := by decide +kernel
set_option maxRecDepth 100000 in
theorem f_108_184 : xft 108 184 = some (.if_icmp .ge 7) := by decide +kernel
set_option maxRecDepth 100000 in
theorem f_108_187 : xft 108 187 = some (.iconst 1) := by decide +kernel
set_option maxRecDepth 100000 in
theorem f_108_188 : xft 108 188 = some (.goto 4) := by decide +kernel
set_option maxRecDepth 100000 in
theorem f_108_191 : xft 108 191 = some (.iconst 0) := by decide +kernel
set_option maxRecDepth 100000 in
theorem f_108_192 : xft 108 192 = some (.istore 11) := by decide +kernel
set_option maxRecDepth 100000 in
theorem f_108_194 : xft 108 194 = some (.iload 10) := by decide +kernel
set_option maxRecDepth 100000 in
theorem f_108_196 : xft 108 196 = some (.ifCond .eq 20) := by decide +kernel
set_option maxRecDepth 100000 in
theorem f_108_199 : xft 108 199 = some (.bipush 14) := by decide +kernel
set_option maxRecDepth 100000 in
theorem f_108_201 : xft 108 201 = some (.iload 4) := by decide +kernel
set_option maxRecDepth 100000 in
theorem f_108_203 : xft 108 203 = some (.imul) := by decide +kernel
set_option maxRecDepth 100000 in
theorem f_108_204 : xft 108 204 = some (.bipush 7) := by decide +kernel
set_option maxRecDepth 100000 in
theorem f_108_206 : xft 108 206 = some (.iload 7) := by decide +kernel
set_option maxRecDepth 100000 in
theorem f_108_208 : xft 108 208 = some (.imul) := by decide +kernel
set_option maxRecDepth 100000 in
theorem f_108_209 : xft 108 209 = some (.iadd) := by decide +kernel
set_option maxRecDepth 100000 in
theorem f_108_210 : xft 108 210 = some (.iload 8) := by decide +kernel
set_option maxRecDepth 100000 in
theorem f_108_212 : xft 108 212 = some (.iadd) := by decide +kernel
set_option maxRecDepth 100000 in
theorem f_108_213 : xft 108 213 = some (.goto 5) := by decide +kernel
set_option maxRecDepth 100000 in
theorem f_108_216 : xft 108 216 = some (.bipush 56) := by decide +kernel
set_option maxRecDepth 100000 in
theorem f_108_218 : xft 108 218 = some (.istore 12) := by decide +kernel
set_option maxRecDepth 100000 in
theorem f_108_220 : xft 108 220 = some (.aload_n 1) := by decide +kernel
set_option maxRecDepth 100000 in
theorem f_108_221 : xft 108 221 = some (.iload 12) := by decide +kernel
set_option maxRecDepth 100000 in
theorem f_108_223 : xft 108 223 = some (.iaload) := by decide +kernel
set_option maxRecDepth 100000 in
theorem f_108_224 : xft 108 224 = some (.istore 13) := by decide +kernel
set_option maxRecDepth 100000 in
theorem f_108_226 : xft 108 226 = some (.aload_n 1) := by decide +kernel
set_option maxRecDepth 100000 in
theorem f_108_227 : xft 108 227 = some (.iload 10) := by decide +kernel
set_option maxRecDepth 100000 in
theorem f_108_229 : xft 108 229 = some (.ifCond .eq 13) := by decide +kernel
set_option maxRecDepth 100000 in
theorem f_108_232 : xft 108 232 = some (.iload 11) := by decide +kernel
set_option maxRecDepth 100000 in
theorem f_108_234 : xft 108 234 = some (.ifCond .eq 8) := by decide +kernel
set_option maxRecDepth 100000 in
theorem f_108_237 : xft 108 237 = some (.iload 12) := by decide +kernel
set_option maxRecDepth 100000 in
theorem f_108_239 : xft 108 239 = some (.goto 5) := by decide +kernel
set_option maxRecDepth 100000 in
theorem f_108_242 : xft 108 242 = some (.bipush 56) := by decide +kernel
set_option maxRecDepth 100000 in
theorem f_108_244 : xft 108 244 = some (.iload 9) := by decide +kernel
set_option maxRecDepth 100000 in
theorem f_108_246 : xft 108 246 = some (.iastore) := by decide +kernel
set_option maxRecDepth 100000 in
theorem f_108_247 : xft 108 247 = some (.aload_n 0) := by decide +kernel
set_option maxRecDepth 100000 in
theorem f_108_248 : xft 108 248 = some (.bipush 12) := by decide +kernel
set_option maxRecDepth 100000 in
theorem f_108_250 : xft 108 250 = some (.iload 4) := by decide +kernel
set_option maxRecDepth 100000 in
theorem f_108_252 : xft 108 252 = some (.iadd) := by decide +kernel
set_option maxRecDepth 100000 in
theorem f_108_253 : xft 108 253 = some (.iload 7) := by decide +kernel
set_option maxRecDepth 100000 in
theorem f_108_255 : xft 108 255 = some (.iload 8) := by decide +kernel
set_option maxRecDepth 100000 in
theorem f_108_257 : xft 108 257 = some (.iload 9) := by decide +kernel
set_option maxRecDepth 100000 in
theorem f_108_259 : xft 108 259 = some (.iconst 0) := by decide +kernel
set_option maxRecDepth 100000 in
theorem f_108_260 : xft 108 260 = some (.iconst 0) := by decide +kernel
set_option maxRecDepth 100000 in
theorem f_108_261 : xft 108 261 = some (.iconst 0) := by decide +kernel
set_option maxRecDepth 100000 in
theorem f_108_262 : xft 108 262 = some (.invokestatic 124) := by decide +kernel
set_option maxRecDepth 100000 in
theorem f_108_265 : xft 108 265 = some (.iload 10) := by decide +kernel
set_option maxRecDepth 100000 in
theorem f_108_267 : xft 108 267 = some (.ifCond .ne 8) := by decide +kernel
set_option maxRecDepth 100000 in
theorem f_108_270 : xft 108 270 = some (.ldc 79) := by decide +kernel
set_option maxRecDepth 100000 in
theorem f_108_272 : xft 108 272 = some (.goto 15) := by decide +kernel
set_option maxRecDepth 100000 in
theorem f_108_275 : xft 108 275 = some (.iload 11) := by decide +kernel
set_option maxRecDepth 100000 in
theorem f_108_277 : xft 108 277 = some (.ifCond .eq 8) := by decide +kernel
set_option maxRecDepth 100000 in
theorem f_108_280 : xft 108 280 = some (.iload 13) := by decide +kernel
set_option maxRecDepth 100000 in
theorem f_108_282 : xft 108 282 = some (.goto 5) := by decide +kernel
set_option maxRecDepth 100000 in
theorem f_108_285 : xft 108 285 = some (.ldc 82) := by decide +kernel
set_option maxRecDepth 100000 in
theorem f_108_287 : xft 108 287 = some (.if_icmp .ne 7) := by decide +kernel
set_option maxRecDepth 100000 in
theorem f_108_290 : xft 108 290 = some (.iconst 1) := by decide +kernel
set_option maxRecDepth 100000 in
theorem f_108_291 : xft 108 291 = some (.goto 4) := by decide +kernel
set_option maxRecDepth 100000 in
theorem f_108_294 : xft 108 294 = some (.iconst 0) := by decide +kernel
set_option maxRecDepth 100000 in
theorem f_108_295 : xft 108 295 = some (.ireturn) := by decide +kernel
set_option maxRecDepth 100000 in
theorem f_108_296 : xft 108 296 = some (.iload 4) := by decide +kernel
set_option maxRecDepth 100000 in
theorem f_108_298 : xft 108 298 = some (.iconst 3) := by decide +kernel
set_option maxRecDepth 100000 in
theorem f_108_299 : xft 108 299 = some (.if_icmp .ne 451) := by decide +kernel
set_option maxRecDepth 100000 in
theorem f_108_302 : xft 108 302 = some (.iload 6) := by decide +kernel
set_option maxRecDepth 100000 in
theorem f_108_304 : xft 108 304 = some (.iconst 2) := by decide +kernel
set_option maxRecDepth 100000 in
theorem f_108_305 : xft 108 305 = some (.irem) := by decide +kernel
set_option maxRecDepth 100000 in
theorem f_108_306 : xft 108 306 = some (.istore 9) := by decide +kernel
set_option maxRecDepth 100000 in
theorem f_108_308 : xft 108 308 = some (.iload 6) := by decide +kernel
set_option maxRecDepth 100000 in
theorem f_108_310 : xft 108 310 = some (.iconst 2) := by decide +kernel
set_option maxRecDepth 100000 in
theorem f_108_311 : xft 108 311 = some (.idiv) := by decide +kernel
set_option maxRecDepth 100000 in
theorem f_108_312 : xft 108 312 = some (.bipush 9) := by decide +kernel
set_option maxRecDepth 100000 in
theorem f_108_314 : xft 108 314 = some (.irem) := by decide +kernel
set_option maxRecDepth 100000 in
theorem f_108_315 : xft 108 315 = some (.ifCond .ne 17) := by decide +kernel
set_option maxRecDepth 100000 in
theorem f_108_318 : xft 108 318 = some (.iload 6) := by decide +kernel
set_option maxRecDepth 100000 in
theorem f_108_320 : xft 108 320 = some (.bipush 18) := by decide +kernel
set_option maxRecDepth 100000 in
theorem f_108_322 : xft 108 322 = some (.idiv) := by decide +kernel
set_option maxRecDepth 100000 in
theorem f_108_323 : xft 108 323 = some (.iconst 2) := by decide +kernel
set_option maxRecDepth 100000 in
theorem f_108_324 : xft 108 324 = some (.irem) := by decide +kernel
set_option maxRecDepth 100000 in
theorem f_108_325 : xft 108 325 = some (.sipush 1001) := by decide +kernel
set_option maxRecDepth 100000 in
theorem f_108_328 : xft 108 328 = some (.imul) := by decide +kernel
set_option maxRecDepth 100000 in
theorem f_108_329 : xft 108 329 = some (.goto 14) := by decide +kernel
set_option maxRecDepth 100000 in
theorem f_108_332 : xft 108 332 = some (.bipush 20) := by decide +kernel
set_option maxRecDepth 100000 in
theorem f_108_334 : xft 108 334 = some (.iload 6) := by decide +kernel
set_option maxRecDepth 100000 in
theorem f_108_336 : xft 108 336 = some (.iconst 2) := by decide +kernel
set_option maxRecDepth 100000 in
theorem f_108_337 : xft 108 337 = some (.idiv) := by decide +kernel
set_option maxRecDepth 100000 in
theorem f_108_338 : xft 108 338 = some (.sipush 500) := by decide +kernel
set_option maxRecDepth 100000 in
theorem f_108_341 : xft 108 341 = some (.irem) := by decide +kernel
set_option maxRecDepth 100000 in
theorem f_108_342 : xft 108 342 = some (.iadd) := by decide +kernel
set_option maxRecDepth 100000 in
theorem f_108_343 : xft 108 343 = some (.istore 10) := by decide +kernel
set_option maxRecDepth 100000 in
theorem f_108_345 : xft 108 345 = some (.iload 5) := by decide +kernel
set_option maxRecDepth 100000 in
theorem f_108_347 : xft 108 347 = some (.bipush 13) := by decide +kernel
set_option maxRecDepth 100000 in
theorem f_108_349 : xft 108 349 = some (.idiv) := by decide +kernel
set_option maxRecDepth 100000 in
theorem f_108_350 : xft 108 350 = some (.bipush 9) := by decide +kernel
set_option maxRecDepth 100000 in
theorem f_108_352 : xft 108 352 = some (.irem) := by decide +kernel
set_option maxRecDepth 100000 in
theorem f_108_353 : xft 108 353 = some (.ifCond .ne 15) := by decide +kernel
set_option maxRecDepth 100000 in
theorem f_108_356 : xft 108 356 = some (.iload 5) := by decide +kernel
set_option maxRecDepth 100000 in
theorem f_108_358 : xft 108 358 = some (.bipush 117) := by decide +kernel
set_option maxRecDepth 100000 in
theorem f_108_360 : xft 108 360 = some (.idiv) := by decide +kernel
set_option maxRecDepth 100000 in
theorem f_108_361 : xft 108 361 = some (.iconst 2) := by decide +kernel
set_option maxRecDepth 100000 in
theorem f_108_362 : xft 108 362 = some (.irem) := by decide +kernel
set_option maxRecDepth 100000 in
theorem f_108_363 : xft 108 363 = some (.iconst 4) := by decide +kernel
set_option maxRecDepth 100000 in
theorem f_108_364 : xft 108 364 = some (.imul) := by decide +kernel
set_option maxRecDepth 100000 in
theorem f_108_365 : xft 108 365 = some (.goto 7) := by decide +kernel
set_option maxRecDepth 100000 in
theorem f_108_368 : xft 108 368 = some (.iconst 1) := by decide +kernel
set_option maxRecDepth 100000 in
theorem f_108_369 : xft 108 369 = some (.iload 9) := by decide +kernel
set_option maxRecDepth 100000 in
theorem f_108_371 : xft 108 371 = some (.iadd) := by decide +kernel
set_option maxRecDepth 100000 in
theorem f_108_372 : xft 108 372 = some (.istore 11) := by decide +kernel
set_option maxRecDepth 100000 in
theorem f_108_374 : xft 108 374 = some (.iload 5) := by decide +kernel
set_option maxRecDepth 100000 in
theorem f_108_376 : xft 108 376 = some (.bipush 13) := by decide +kernel
set_option maxRecDepth 100000 in
theorem f_108_378 : xft 108 378 = some (.idiv) := by decide +kernel
set_option maxRecDepth 100000 in
theorem f_108_379 : xft 108 379 = some (.bipush 12) := by decide +kernel
set_option maxRecDepth 100000 in
theorem f_108_381 : xft 108 381 = some (.irem) := by decide +kernel
set_option maxRecDepth 100000 in
theorem f_108_382 : xft 108 382 = some (.istore 12) := by decide +kernel
set_option maxRecDepth 100000 in
theorem f_108_384 : xft 108 384 = some (.iload 10) := by decide +kernel
set_option maxRecDepth 100000 in
theorem f_108_386 : xft 108 386 = some (.ifCond .le 38) := by decide +kernel
set_option maxRecDepth 100000 in
theorem f_108_389 : xft 108 389 = some (.iload 10) := by decide +kernel
set_option maxRecDepth 100000 in
theorem f_108_391 : xft 108 391 = some (.sipush 1001) := by decide +kernel
set_option maxRecDepth 100000 in
theorem f_108_394 : xft 108 394 = some (.if_icmp .ge 30) := by decide +kernel
set_option maxRecDepth 100000 in
theorem f_108_397 : xft 108 397 = some (.iload 11) := by decide +kernel
set_option maxRecDepth 100000 in
theorem f_108_399 : xft 108 399 = some (.ifCond .le 25) := by decide +kernel
set_option maxRecDepth 100000 in
theorem f_108_402 : xft 108 402 = some (.iload 11) := by decide +kernel
set_option maxRecDepth 100000 in
theorem f_108_404 : xft 108 404 = some (.iconst 4) := by decide +kernel
set_option maxRecDepth 100000 in
theorem f_108_405 : xft 108 405 = some (.if_icmp .ge 19) := by decide +kernel
set_option maxRecDepth 100000 in
theorem f_108_408 : xft 108 408 = some (.iload 12) := by decide +kernel
set_option maxRecDepth 100000 in
theorem f_108_410 : xft 108 410 = some (.ifCond .le 14) := by decide +kernel
set_option maxRecDepth 100000 in
theorem f_108_413 : xft 108 413 = some (.iload 12) := by decide +kernel
set_option maxRecDepth 100000 in
theorem f_108_415 : xft 108 415 = some (.bipush 11) := by decide +kernel
set_option maxRecDepth 100000 in
theorem f_108_417 : xft 108 417 = some (.if_icmp .ge 7) := by decide +kernel
set_option maxRecDepth 100000 in
theorem f_108_420 : xft 108 420 = some (.iconst 1) := by decide +kernel
set_option maxRecDepth 100000 in
theorem f_108_421 : xft 108 421 = some (.goto 4) := by decide +kernel
set_option maxRecDepth 100000 in
theorem f_108_424 : xft 108 424 = some (.iconst 0) := by decide +kernel
set_option maxRecDepth 100000 in
theorem f_108_425 : xft 108 425 = some (.istore 13) := by decide +kernel
set_option maxRecDepth 100000 in
theorem f_108_427 : xft 108 427 = some (.iload 7) := by decide +kernel
set_option maxRecDepth 100000 in
theorem f_108_429 : xft 108 429 = some (.bipush 6) := by decide +kernel
set_option maxRecDepth 100000 in
theorem f_108_431 : xft 108 431 = some (.if_icmp .ge 21) := by decide +kernel
set_option maxRecDepth 100000 in
theorem f_108_434 : xft 108 434 = some (.iload 13) := by decide +kernel
set_option maxRecDepth 100000 in
theorem f_108_436 : xft 108 436 = some (.ifCond .eq 16) := by decide +kernel
set_option maxRecDepth 100000 in
theorem f_108_439 : xft 108 439 = some (.aload_n 1) := by decide +kernel
set_option maxRecDepth 100000 in
theorem f_108_440 : xft 108 440 = some (.iload 7) := by decide +kernel
set_option maxRecDepth 100000 in
theorem f_108_442 : xft 108 442 = some (.invokestatic 141) := by decide +kernel
set_option maxRecDepth 100000 in
theorem f_108_445 : xft 108 445 = some (.ifCond .ne 7) := by decide +kernel
set_option maxRecDepth 100000 in
theorem f_108_448 : xft 108 448 = some (.iconst 1) := by decide +kernel
set_option maxRecDepth 100000 in
theorem f_108_449 : xft 108 449 = some (.goto 4) := by decide +kernel
set_option maxRecDepth 100000 in
theorem f_108_452 : xft 108 452 = some (.iconst 0) := by decide +kernel
set_option maxRecDepth 100000 in
theorem f_108_453 : xft 108 453 = some (.istore 14) := by decide +kernel
set_option maxRecDepth 100000 in
theorem f_108_455 : xft 108 455 = some (.iconst 0) := by decide +kernel
set_option maxRecDepth 100000 in
theorem f_108_456 : xft 108 456 = some (.istore 15) := by decide +kernel
set_option maxRecDepth 100000 in
theorem f_108_458 : xft 108 458 = some (.iload 14) := by decide +kernel
set_option maxRecDepth 100000 in
theorem f_108_460 : xft 108 460 = some (.ifCond .eq 230) := by decide +kernel
set_option maxRecDepth 100000 in
theorem f_108_463 : xft 108 463 = some (.aload_n 1) := by decide +kernel
set_option maxRecDepth 100000 in
theorem f_108_464 : xft 108 464 = some (.iload 7) := by decide +kernel
set_option maxRecDepth 100000 in
theorem f_108_466 : xft 108 466 = some (.iload 9) := by decide +kernel
set_option maxRecDepth 100000 in
theorem f_108_468 : xft 108 468 = some (.iload 10) := by decide +kernel
set_option maxRecDepth 100000 in
theorem f_108_470 : xft 108 470 = some (.iload 11) := by decide +kernel
set_option maxRecDepth 100000 in
theorem f_108_472 : xft 108 472 = some (.imul) := by decide +kernel
set_option maxRecDepth 100000 in
theorem f_108_473 : xft 108 473 = some (.invokestatic 128) := by decide +kernel
set_option maxRecDepth 100000 in
theorem f_108_476 : xft 108 476 = some (.istore 16) := by decide +kernel
set_option maxRecDepth 100000 in
theorem f_108_478 : xft 108 478 = some (.iconst 0) := by decide +kernel
set_option maxRecDepth 100000 in
theorem f_108_479 : xft 108 479 = some (.istore 17) := by decide +kernel
set_option maxRecDepth 100000 in
theorem f_108_481 : xft 108 481 = some (.iload 17) := by decide +kernel
set_option maxRecDepth 100000 in
theorem f_108_483 : xft 108 483 = some (.bipush 7) := by decide +kernel
set_option maxRecDepth 100000 in
theorem f_108_485 : xft 108 485 = some (.if_icmp .ge 124) := by decide +kernel
set_option maxRecDepth 100000 in
theorem f_108_488 : xft 108 488 = some (.aload_n 1) := by decide +kernel
set_option maxRecDepth 100000 in
theorem f_108_489 : xft 108 489 = some (.iload 7) := by decide +kernel
set_option maxRecDepth 100000 in
theorem f_108_491 : xft 108 491 = some (.iload 9) := by decide +kernel
set_option maxRecDepth 100000 in
theorem f_108_493 : xft 108 493 = some (.iload 16) := by decide +kernel
set_option maxRecDepth 100000 in
theorem f_108_495 : xft 108 495 = some (.iload 17) := by decide +kernel
set_option maxRecDepth 100000 in
theorem f_108_497 : xft 108 497 = some (.invokestatic 132) := by decide +kernel
set_option maxRecDepth 100000 in
theorem f_108_500 : xft 108 500 = some (.istore 18) := by decide +kernel
set_option maxRecDepth 100000 in
theorem f_108_502 : xft 108 502 = some (.iload 18) := by decide +kernel
set_option maxRecDepth 100000 in
theorem f_108_504 : xft 108 504 = some (.bipush 40) := by decide +kernel
set_option maxRecDepth 100000 in
theorem f_108_506 : xft 108 506 = some (.if_icmp .le 14) := by decide +kernel
set_option maxRecDepth 100000 in
theorem f_108_509 : xft 108 509 = some (.iload 12) := by decide +kernel
set_option maxRecDepth 100000 in
theorem f_108_511 : xft 108 511 = some (.iload 18) := by decide +kernel
set_option maxRecDepth 100000 in
theorem f_108_513 : xft 108 513 = some (.bipush 40) := by decide +kernel
set_option maxRecDepth 100000 in
theorem f_108_515 : xft 108 515 = some (.isub) := by decide +kernel
set_option maxRecDepth 100000 in
theorem f_108_516 : xft 108 516 = some (.imul) := by decide +kernel
set_option maxRecDepth 100000 in
theorem f_108_517 : xft 108 517 = some (.goto 4) := by decide +kernel
set_option maxRecDepth 100000 in
theorem f_108_520 : xft 108 520 = some (.iconst 0) := by decide +kernel
set_option maxRecDepth 100000 in
theorem f_108_521 : xft 108 521 = some (.istore 19) := by decide +kernel
set_option maxRecDepth 100000 in
theorem f_108_523 : xft 108 523 = some (.iload 15) := by decide +kernel
set_option maxRecDepth 100000 in
theorem f_108_525 : xft 108 525 = some (.iload 18) := by decide +kernel
set_option maxRecDepth 100000 in
theorem f_108_527 : xft 108 527 = some (.bipush 40) := by decide +kernel
set_option maxRecDepth 100000 in
theorem f_108_529 : xft 108 529 = some (.if_icmp .le 7) := by decide +kernel
set_option maxRecDepth 100000 in
theorem f_108_532 : xft 108 532 = some (.iconst 1) := by decide +kernel
set_option maxRecDepth 100000 in
theorem f_108_533 : xft 108 533 = some (.goto 4) := by decide +kernel
set_option maxRecDepth 100000 in
theorem f_108_536 : xft 108 536 = some (.iconst 0) := by decide +kernel
set_option maxRecDepth 100000 in
theorem f_108_537 : xft 108 537 = some (.iadd) := by decide +kernel
set_option maxRecDepth 100000 in
theorem f_108_538 : xft 108 538 = some (.istore 15) := by decide +kernel
set_option maxRecDepth 100000 in
theorem f_108_540 : xft 108 540 = some (.aload_n 1) := by decide +kernel
set_option maxRecDepth 100000 in
theorem f_108_541 : xft 108 541 = some (.bipush 42) := by decide +kernel
set_option maxRecDepth 100000 in
theorem f_108_543 : xft 108 543 = some (.bipush 7) := by decide +kernel
set_option maxRecDepth 100000 in
theorem f_108_545 : xft 108 545 = some (.iload 7) := by decide +kernel
set_option maxRecDepth 100000 in
theorem f_108_547 : xft 108 547 = some (.imul) := by decide +kernel
set_option maxRecDepth 100000 in
theorem f_108_548 : xft 108 548 = some (.iadd) := by decide +kernel
set_option maxRecDepth 100000 in
theorem f_108_549 : xft 108 549 = some (.iload 17) := by decide +kernel
set_option maxRecDepth 100000 in
theorem f_108_551 : xft 108 551 = some (.iadd) := by decide +kernel
set_option maxRecDepth 100000 in
theorem f_108_552 : xft 108 552 = some (.dup2) := by decide +kernel
set_option maxRecDepth 100000 in
theorem f_108_553 : xft 108 553 = some (.iaload) := by decide +kernel
set_option maxRecDepth 100000 in
theorem f_108_554 : xft 108 554 = some (.iload 19) := by decide +kernel
set_option maxRecDepth 100000 in
theorem f_108_556 : xft 108 556 = some (.iadd) := by decide +kernel
set_option maxRecDepth 100000 in
theorem f_108_557 : xft 108 557 = some (.iastore) := by decide +kernel
set_option maxRecDepth 100000 in
theorem f_108_558 : xft 108 558 = some (.aload_n 2) := by decide +kernel
set_option maxRecDepth 100000 in
theorem f_108_559 : xft 108 559 = some (.bipush 14) := by decide +kernel
set_option maxRecDepth 100000 in
theorem f_108_561 : xft 108 561 = some (.iload 7) := by decide +kernel
set_option maxRecDepth 100000 in
theorem f_108_563 : xft 108 563 = some (.imul) := by decide +kernel
set_option maxRecDepth 100000 in
theorem f_108_564 : xft 108 564 = some (.iconst 2) := by decide +kernel
set_option maxRecDepth 100000 in
theorem f_108_565 : xft 108 565 = some (.iload 17) := by decide +kernel
set_option maxRecDepth 100000 in
theorem f_108_567 : xft 108 567 = some (.imul) := by decide +kernel
set_option maxRecDepth 100000 in
theorem f_108_568 : xft 108 568 = some (.iadd) := by decide +kernel
set_option maxRecDepth 100000 in
theorem f_108_569 : xft 108 569 = some (.iload 9) := by decide +kernel
set_option maxRecDepth 100000 in
theorem f_108_571 : xft 108 571 = some (.iadd) := by decide +kernel
set_option maxRecDepth 100000 in
theorem f_108_572 : xft 108 572 = some (.dup2) := by decide +kernel
set_option maxRecDepth 100000 in
theorem f_108_573 : xft 108 573 = some (.iaload) := by decide +kernel
set_option maxRecDepth 100000 in
theorem f_108_574 : xft 108 574 = some (.iload 19) := by decide +kernel
set_option maxRecDepth 100000 in
theorem f_108_576 : xft 108 576 = some (.iadd) := by decide +kernel
set_option maxRecDepth 100000 in
theorem f_108_577 : xft 108 577 = some (.iastore) := by decide +kernel
set_option maxRecDepth 100000 in
theorem f_108_578 : xft 108 578 = some (.aload_n 2) := by decide +kernel
set_option maxRecDepth 100000 in
theorem f_108_579 : xft 108 579 = some (.bipush 28) := by decide +kernel
set_option maxRecDepth 100000 in
theorem f_108_581 : xft 108 581 = some (.bipush 14) := by decide +kernel
set_option maxRecDepth 100000 in
theorem f_108_583 : xft 108 583 = some (.iload 7) := by decide +kernel
set_option maxRecDepth 100000 in
theorem f_108_585 : xft 108 585 = some (.imul) := by decide +kernel
set_option maxRecDepth 100000 in
theorem f_108_586 : xft 108 586 = some (.iadd) := by decide +kernel
set_option maxRecDepth 100000 in
theorem f_108_587 : xft 108 587 = some (.iconst 2) := by decide +kernel
set_option maxRecDepth 100000 in
theorem f_108_588 : xft 108 588 = some (.iload 17) := by decide +kernel
set_option maxRecDepth 100000 in
theorem f_108_590 : xft 108 590 = some (.imul) := by decide +kernel
set_option maxRecDepth 100000 in
theorem f_108_591 : xft 108 591 = some (.iadd) := by decide +kernel
set_option maxRecDepth 100000 in
theorem f_108_592 : xft 108 592 = some (.iload 11) := by decide +kernel
set_option maxRecDepth 100000 in
theorem f_108_594 : xft 108 594 = some (.iadd) := by decide +kernel
set_option maxRecDepth 100000 in
theorem f_108_595 : xft 108 595 = some (.iconst 1) := by decide +kernel
set_option maxRecDepth 100000 in
theorem f_108_596 : xft 108 596 = some (.isub) := by decide +kernel
set_option maxRecDepth 100000 in
theorem f_108_597 : xft 108 597 = some (.dup2) := by decide +kernel
set_option maxRecDepth 100000 in
theorem f_108_598 : xft 108 598 = some (.iaload) := by decide +kernel
set_option maxRecDepth 100000 in
theorem f_108_599 : xft 108 599 = some (.iload 19) := by decide +kernel
set_option maxRecDepth 100000 in
theorem f_108_601 : xft 108 601 = some (.iadd) := by decide +kernel
set_option maxRecDepth 100000 in
theorem f_108_602 : xft 108 602 = some (.iastore) := by decide +kernel
set_option maxRecDepth 100000 in
theorem f_108_603 : xft 108 603 = some (.iinc 17 1) := by decide +kernel
set_option maxRecDepth 100000 in
theorem f_108_606 : xft 108 606 = some (.goto (-125)) := by decide +kernel
set_option maxRecDepth 100000 in
theorem f_108_609 : xft 108 609 = some (.iconst 0) := by decide +kernel
set_option maxRecDepth 100000 in
theorem f_108_610 : xft 108 610 = some (.istore 17) := by decide +kernel
set_option maxRecDepth 100000 in
theorem f_108_612 : xft 108 612 = some (.iload 17) := by decide +kernel
set_option maxRecDepth 100000 in
theorem f_108_614 : xft 108 614 = some (.bipush 7) := by decide +kernel
set_option maxRecDepth 100000 in
theorem f_108_616 : xft 108 616 = some (.if_icmp .ge 67) := by decide +kernel
set_option maxRecDepth 100000 in
theorem f_108_619 : xft 108 619 = some (.aload_n 1) := by decide +kernel
set_option maxRecDepth 100000 in
theorem f_108_620 : xft 108 620 = some (.iload 7) := by decide +kernel
set_option maxRecDepth 100000 in
theorem f_108_622 : xft 108 622 = some (.iload 9) := by decide +kernel
set_option maxRecDepth 100000 in
theorem f_108_624 : xft 108 624 = some (.iload 16) := by decide +kernel
set_option maxRecDepth 100000 in
theorem f_108_626 : xft 108 626 = some (.iload 17) := by decide +kernel
set_option maxRecDepth 100000 in
theorem f_108_628 : xft 108 628 = some (.invokestatic 132) := by decide +kernel
set_option maxRecDepth 100000 in
theorem f_108_631 : xft 108 631 = some (.istore 18) := by decide +kernel
set_option maxRecDepth 100000 in
theorem f_108_633 : xft 108 633 = some (.aload_n 1) := by decide +kernel
set_option maxRecDepth 100000 in
theorem f_108_634 : xft 108 634 = some (.bipush 28) := by decide +kernel
set_option maxRecDepth 100000 in
theorem f_108_636 : xft 108 636 = some (.bipush 7) := by decide +kernel
set_option maxRecDepth 100000 in
theorem f_108_638 : xft 108 638 = some (.iload 9) := by decide +kernel
set_option maxRecDepth 100000 in
theorem f_108_640 : xft 108 640 = some (.imul) := by decide +kernel
set_option maxRecDepth 100000 in
theorem f_108_641 : xft 108 641 = some (.iadd) := by decide +kernel
set_option maxRecDepth 100000 in
theorem f_108_642 : xft 108 642 = some (.iload 17) := by decide +kernel
set_option maxRecDepth 100000 in
theorem f_108_644 : xft 108 644 = some (.iadd) := by decide +kernel
set_option maxRecDepth 100000 in
theorem f_108_645 : xft 108 645 = some (.dup2) := by decide +kernel
set_option maxRecDepth 100000 in
theorem f_108_646 : xft 108 646 = some (.iaload) := by decide +kernel
set_option maxRecDepth 100000 in
theorem f_108_647 : xft 108 647 = some (.iload 18) := by decide +kernel
set_option maxRecDepth 100000 in
theorem f_108_649 : xft 108 649 = some (.bipush 20) := by decide +kernel
set_option maxRecDepth 100000 in
theorem f_108_651 : xft 108 651 = some (.if_icmp .le 23) := by decide +kernel
set_option maxRecDepth 100000 in
theorem f_108_654 : xft 108 654 = some (.aload_n 1) := by decide +kernel
set_option maxRecDepth 100000 in
theorem f_108_655 : xft 108 655 = some (.bipush 28) := by decide +kernel
set_option maxRecDepth 100000 in
theorem f_108_657 : xft 108 657 = some (.bipush 7) := by decide +kernel
set_option maxRecDepth 100000 in
theorem f_108_659 : xft 108 659 = some (.iload 9) := by decide +kernel
set_option maxRecDepth 100000 in
theorem f_108_661 : xft 108 661 = some (.imul) := by decide +kernel
set_option maxRecDepth 100000 in
theorem f_108_662 : xft 108 662 = some (.iadd) := by decide +kernel
set_option maxRecDepth 100000 in
theorem f_108_663 : xft 108 663 = some (.iload 17) := by decide +kernel
set_option maxRecDepth 100000 in
theorem f_108_665 : xft 108 665 = some (.iadd) := by decide +kernel
set_option maxRecDepth 100000 in
theorem f_108_666 : xft 108 666 = some (.iaload) := by decide +kernel
set_option maxRecDepth 100000 in
theorem f_108_667 : xft 108 667 = some (.ifCond .le 7) := by decide +kernel
set_option maxRecDepth 100000 in
theorem f_108_670 : xft 108 670 = some (.iconst 1) := by decide +kernel
set_option maxRecDepth 100000 in
theorem f_108_671 : xft 108 671 = some (.goto 4) := by decide +kernel
set_option maxRecDepth 100000 in
theorem f_108_674 : xft 108 674 = some (.iconst 0) := by decide +kernel
set_option maxRecDepth 100000 in
theorem f_108_675 : xft 108 675 = some (.isub) := by decide +kernel
set_option maxRecDepth 100000 in
theorem f_108_676 : xft 108 676 = some (.iastore) := by decide +kernel
set_option maxRecDepth 100000 in
theorem f_108_677 : xft 108 677 = some (.iinc 17 1) := by decide +kernel
set_option maxRecDepth 100000 in
theorem f_108_680 : xft 108 680 = some (.goto (-68)) := by decide +kernel
set_option maxRecDepth 100000 in
theorem f_108_683 : xft 108 683 = some (.aload_n 3) := by decide +kernel
set_option maxRecDepth 100000 in
theorem f_108_684 : xft 108 684 = some (.iconst 2) := by decide +kernel
set_option maxRecDepth 100000 in
theorem f_108_685 : xft 108 685 = some (.dup2) := by decide +kernel
set_option maxRecDepth 100000 in
theorem f_108_686 : xft 108 686 = some (.iaload) := by decide +kernel
set_option maxRecDepth 100000 in
theorem f_108_687 : xft 108 687 = some (.iconst 1) := by decide +kernel
set_option maxRecDepth 100000 in
theorem f_108_688 : xft 108 688 = some (.iadd) := by decide +kernel
set_option maxRecDepth 100000 in
theorem f_108_689 : xft 108 689 = some (.iastore) := by decide +kernel
set_option maxRecDepth 100000 in
theorem f_108_690 : xft 108 690 = some (.aload_n 0) := by decide +kernel
set_option maxRecDepth 100000 in
theorem f_108_691 : xft 108 691 = some (.bipush 15) := by decide +kernel
set_option maxRecDepth 100000 in
theorem f_108_693 : xft 108 693 = some (.iload 7) := by decide +kernel
set_option maxRecDepth 100000 in
theorem f_108_695 : xft 108 695 = some (.iload 9) := by decide +kernel
set_option maxRecDepth 100000 in
theorem f_108_697 : xft 108 697 = some (.iconst 2) := by decide +kernel
set_option maxRecDepth 100000 in
theorem f_108_698 : xft 108 698 = some (.iload 10) := by decide +kernel
set_option maxRecDepth 100000 in
theorem f_108_700 : xft 108 700 = some (.iload 11) := by decide +kernel
set_option maxRecDepth 100000 in
theorem f_108_702 : xft 108 702 = some (.iload 12) := by decide +kernel
set_option maxRecDepth 100000 in
theorem f_108_704 : xft 108 704 = some (.invokestatic 124) := by decide +kernel
set_option maxRecDepth 100000 in
theorem f_108_707 : xft 108 707 = some (.iload 7) := by decide +kernel
set_option maxRecDepth 100000 in
theorem f_108_709 : xft 108 709 = some (.bipush 6) := by decide +kernel
set_option maxRecDepth 100000 in
theorem f_108_711 : xft 108 711 = some (.if_icmp .ne 8) := by decide +kernel
set_option maxRecDepth 100000 in
theorem f_108_714 : xft 108 714 = some (.ldc 79) := by decide +kernel
set_option maxRecDepth 100000 in
theorem f_108_716 : xft 108 716 = some (.goto 25) := by decide +kernel
set_option maxRecDepth 100000 in
theorem f_108_719 : xft 108 719 = some (.iload 13) := by decide +kernel
set_option maxRecDepth 100000 in
theorem f_108_721 : xft 108 721 = some (.ifCond .ne 8) := by decide +kernel
set_option maxRecDepth 100000 in
theorem f_108_724 : xft 108 724 = some (.ldc 82) := by decide +kernel
set_option maxRecDepth 100000 in
theorem f_108_726 : xft 108 726 = some (.goto 15) := by decide +kernel
set_option maxRecDepth 100000 in
theorem f_108_729 : xft 108 729 = some (.iload 14) := by decide +kernel
set_option maxRecDepth 100000 in
theorem f_108_731 : xft 108 731 = some (.ifCond .eq 8) := by decide +kernel
set_option maxRecDepth 100000 in
theorem f_108_734 : xft 108 734 = some (.iload 15) := by decide +kernel
set_option maxRecDepth 100000 in
theorem f_108_736 : xft 108 736 = some (.goto 5) := by decide +kernel
set_option maxRecDepth 100000 in
theorem f_108_739 : xft 108 739 = some (.ldc 85) := by decide +kernel
set_option maxRecDepth 100000 in
theorem f_108_741 : xft 108 741 = some (.if_icmp .ne 7) := by decide +kernel
set_option maxRecDepth 100000 in
theorem f_108_744 : xft 108 744 = some (.iconst 1) := by decide +kernel
set_option maxRecDepth 100000 in
theorem f_108_745 : xft 108 745 = some (.goto 4) := by decide +kernel
set_option maxRecDepth 100000 in
theorem f_108_748 : xft 108 748 = some (.iconst 0) := by decide +kernel
set_option maxRecDepth 100000 in
theorem f_108_749 : xft 108 749 = some (.ireturn) := by decide +kernel
set_option maxRecDepth 100000 in
theorem f_108_750 : xft 108 750 = some (.iload 5) := by decide +kernel
set_option maxRecDepth 100000 in
theorem f_108_752 : xft 108 752 = some (.bipush 9) := by decide +kernel
set_option maxRecDepth 100000 in
theorem f_108_754 : xft 108 754 = some (.irem) := by decide +kernel
set_option maxRecDepth 100000 in
theorem f_108_755 : xft 108 755 = some (.ifCond .ne 13) := by decide +kernel
set_option maxRecDepth 100000 in
theorem f_108_758 : xft 108 758 = some (.iload 6) := by decide +kernel
set_option maxRecDepth 100000 in
theorem f_108_760 : xft 108 760 = some (.iconst 2) := by decide +kernel
set_option maxRecDepth 100000 in
theorem f_108_761 : xft 108 761 = some (.irem) := by decide +kernel
set_option maxRecDepth 100000 in
theorem f_108_762 : xft 108 762 = some (.bipush 101) := by decide +kernel
set_option maxRecDepth 100000 in
theorem f_108_764 : xft 108 764 = some (.imul) := by decide +kernel
set_option maxRecDepth 100000 in
theorem f_108_765 : xft 108 765 = some (.goto 10) := by decide +kernel
set_option maxRecDepth 100000 in
theorem f_108_768 : xft 108 768 = some (.iconst 1) := by decide +kernel
set_option maxRecDepth 100000 in
theorem f_108_769 : xft 108 769 = some (.iload 6) := by decide +kernel
set_option maxRecDepth 100000 in
theorem f_108_771 : xft 108 771 = some (.bipush 30) := by decide +kernel
set_option maxRecDepth 100000 in
theorem f_108_773 : xft 108 773 = some (.irem) := by decide +kernel
set_option maxRecDepth 100000 in
theorem f_108_774 : xft 108 774 = some (.iadd) := by decide +kernel
set_option maxRecDepth 100000 in
theorem f_108_775 : xft 108 775 = some (.istore 9) := by decide +kernel
set_option maxRecDepth 100000 in
theorem f_108_777 : xft 108 777 = some (.iload 9) := by decide +kernel
set_option maxRecDepth 100000 in
theorem f_108_779 : xft 108 779 = some (.ifCond .le 14) := by decide +kernel
set_option maxRecDepth 100000 in
theorem f_108_782 : xft 108 782 = some (.iload 9) := by decide +kernel
set_option maxRecDepth 100000 in
theorem f_108_784 : xft 108 784 = some (.bipush 101) := by decide +kernel
set_option maxRecDepth 100000 in
theorem f_108_786 : xft 108 786 = some (.if_icmp .ge 7) := by decide +kernel
set_option maxRecDepth 100000 in
theorem f_108_789 : xft 108 789 = some (.iconst 1) := by decide +kernel
set_option maxRecDepth 100000 in
theorem f_108_790 : xft 108 790 = some (.goto 4) := by decide +kernel
set_option maxRecDepth 100000 in
theorem f_108_793 : xft 108 793 = some (.iconst 0) := by decide +kernel
set_option maxRecDepth 100000 in
theorem f_108_794 : xft 108 794 = some (.istore 10) := by decide +kernel
set_option maxRecDepth 100000 in
theorem f_108_796 : xft 108 796 = some (.bipush 42) := by decide +kernel
set_option maxRecDepth 100000 in
theorem f_108_798 : xft 108 798 = some (.istore 11) := by decide +kernel
set_option maxRecDepth 100000 in
theorem f_108_800 : xft 108 800 = some (.iload 11) := by decide +kernel
set_option maxRecDepth 100000 in
theorem f_108_802 : xft 108 802 = some (.bipush 56) := by decide +kernel
set_option maxRecDepth 100000 in
theorem f_108_804 : xft 108 804 = some (.if_icmp .ge 55) := by decide +kernel
set_option maxRecDepth 100000 in
theorem f_108_807 : xft 108 807 = some (.iload 10) := by decide +kernel
set_option maxRecDepth 100000 in
theorem f_108_809 : xft 108 809 = some (.ifCond .eq 50) := by decide +kernel
set_option maxRecDepth 100000 in
theorem f_108_812 : xft 108 812 = some (.iconst 0) := by decide +kernel
set_option maxRecDepth 100000 in
theorem f_108_813 : xft 108 813 = some (.istore 12) := by decide +kernel
set_option maxRecDepth 100000 in
theorem f_108_815 : xft 108 815 = some (.iload 12) := by decide +kernel
set_option maxRecDepth 100000 in
theorem f_108_817 : xft 108 817 = some (.iload 9) := by decide +kernel
set_option maxRecDepth 100000 in
theorem f_108_819 : xft 108 819 = some (.if_icmp .ge 34) := by decide +kernel
set_option maxRecDepth 100000 in
theorem f_108_822 : xft 108 822 = some (.aload_n 1) := by decide +kernel
set_option maxRecDepth 100000 in
theorem f_108_823 : xft 108 823 = some (.iload 11) := by decide +kernel
set_option maxRecDepth 100000 in
theorem f_108_825 : xft 108 825 = some (.dup2) := by decide +kernel
set_option maxRecDepth 100000 in
theorem f_108_826 : xft 108 826 = some (.iaload) := by decide +kernel
set_option maxRecDepth 100000 in
theorem f_108_827 : xft 108 827 = some (.aload_n 1) := by decide +kernel
set_option maxRecDepth 100000 in
theorem f_108_828 : xft 108 828 = some (.iload 11) := by decide +kernel
set_option maxRecDepth 100000 in
theorem f_108_830 : xft 108 830 = some (.iaload) := by decide +kernel
set_option maxRecDepth 100000 in
theorem f_108_831 : xft 108 831 = some (.bipush 10) := by decide +kernel
set_option maxRecDepth 100000 in
theorem f_108_833 : xft 108 833 = some (.if_icmp .ge 10) := by decide +kernel
set_option maxRecDepth 100000 in
theorem f_108_836 : xft 108 836 = some (.aload_n 1) := by decide +kernel
set_option maxRecDepth 100000 in
theorem f_108_837 : xft 108 837 = some (.iload 11) := by decide +kernel
set_option maxRecDepth 100000 in
theorem f_108_839 : xft 108 839 = some (.iaload) := by decide +kernel
set_option maxRecDepth 100000 in
theorem f_108_840 : xft 108 840 = some (.goto 5) := by decide +kernel
set_option maxRecDepth 100000 in
theorem f_108_843 : xft 108 843 = some (.bipush 10) := by decide +kernel
set_option maxRecDepth 100000 in
theorem f_108_845 : xft 108 845 = some (.isub) := by decide +kernel
set_option maxRecDepth 100000 in
theorem f_108_846 : xft 108 846 = some (.iastore) := by decide +kernel
set_option maxRecDepth 100000 in
theorem f_108_847 : xft 108 847 = some (.iinc 12 1) := by decide +kernel
set_option maxRecDepth 100000 in
theorem f_108_850 : xft 108 850 = some (.goto (-35)) := by decide +kernel
set_option maxRecDepth 100000 in
theorem f_108_853 : xft 108 853 = some (.iinc 11 1) := by decide +kernel
set_option maxRecDepth 100000 in
theorem f_108_856 : xft 108 856 = some (.goto (-56)) := by decide +kernel
set_option maxRecDepth 100000 in
theorem f_108_859 : xft 108 859 = some (.aload_n 1) := by decide +kernel
set_option maxRecDepth 100000 in
theorem f_108_860 : xft 108 860 = some (.iconst 0) := by decide +kernel
set_option maxRecDepth 100000 in
theorem f_108_861 : xft 108 861 = some (.invokestatic 141) := by decide +kernel
set_option maxRecDepth 100000 in
theorem f_108_864 : xft 108 864 = some (.ifCond .eq 7) := by decide +kernel
set_option maxRecDepth 100000 in
theorem f_108_867 : xft 108 867 = some (.iconst 1) := by decide +kernel
set_option maxRecDepth 100000 in
theorem f_108_868 : xft 108 868 = some (.goto 4) := by decide +kernel
set_option maxRecDepth 100000 in
theorem f_108_871 : xft 108 871 = some (.iconst 0) := by decide +kernel
set_option maxRecDepth 100000 in
theorem f_108_872 : xft 108 872 = some (.aload_n 1) := by decide +kernel
set_option maxRecDepth 100000 in
theorem f_108_873 : xft 108 873 = some (.iconst 1) := by decide +kernel
set_option maxRecDepth 100000 in
theorem f_108_874 : xft 108 874 = some (.invokestatic 141) := by decide +kernel
set_option maxRecDepth 100000 in
theorem f_108_877 : xft 108 877 = some (.ifCond .eq 7) := by decide +kernel
set_option maxRecDepth 100000 in
theorem f_108_880 : xft 108 880 = some (.iconst 1) := by decide +kernel
set_option maxRecDepth 100000 in
theorem f_108_881 : xft 108 881 = some (.goto 4) := by decide +kernel
set_option maxRecDepth 100000 in
theorem f_108_884 : xft 108 884 = some (.iconst 0) := by decide +kernel
set_option maxRecDepth 100000 in
theorem f_108_885 : xft 108 885 = some (.iadd) := by decide +kernel
set_option maxRecDepth 100000 in
theorem f_108_886 : xft 108 886 = some (.istore 11) := by decide +kernel
set_option maxRecDepth 100000 in
theorem f_108_888 : xft 108 888 = some (.aload_n 0) := by decide +kernel
set_option maxRecDepth 100000 in
theorem f_108_889 : xft 108 889 = some (.bipush 16) := by decide +kernel
set_option maxRecDepth 100000 in
theorem f_108_891 : xft 108 891 = some (.iload 9) := by decide +kernel
set_option maxRecDepth 100000 in
theorem f_108_893 : xft 108 893 = some (.iconst 0) := by decide +kernel
set_option maxRecDepth 100000 in
theorem f_108_894 : xft 108 894 = some (.iconst 0) := by decide +kernel
set_option maxRecDepth 100000 in
theorem f_108_895 : xft 108 895 = some (.iconst 0) := by decide +kernel
set_option maxRecDepth 100000 in
theorem f_108_896 : xft 108 896 = some (.iconst 0) := by decide +kernel
set_option maxRecDepth 100000 in
theorem f_108_897 : xft 108 897 = some (.iconst 0) := by decide +kernel
set_option maxRecDepth 100000 in
theorem f_108_898 : xft 108 898 = some (.invokestatic 124) := by decide +kernel
set_option maxRecDepth 100000 in
theorem f_108_901 : xft 108 901 = some (.iload 10) := by decide +kernel
set_option maxRecDepth 100000 in
theorem f_108_903 : xft 108 903 = some (.ifCond .eq 8) := by decide +kernel
set_option maxRecDepth 100000 in
theorem f_108_906 : xft 108 906 = some (.iload 11) := by decide +kernel
set_option maxRecDepth 100000 in
theorem f_108_908 : xft 108 908 = some (.goto 5) := by decide +kernel
set_option maxRecDepth 100000 in
theorem f_108_911 : xft 108 911 = some (.ldc 82) := by decide +kernel
set_option maxRecDepth 100000 in
theorem f_108_913 : xft 108 913 = some (.if_icmp .ne 7) := by decide +kernel
set_option maxRecDepth 100000 in
theorem f_108_916 : xft 108 916 = some (.iconst 1) := by decide +kernel
set_option maxRecDepth 100000 in
theorem f_108_917 : xft 108 917 = some (.goto 4) := by decide +kernel
set_option maxRecDepth 100000 in
theorem f_108_920 : xft 108 920 = some (.iconst 0) := by decide +kernel
set_option maxRecDepth 100000 in
theorem f_108_921 : xft 108 921 = some (.ireturn) := by decide +kernel
/-! blocks, by program (gen2.py) -/
section BLK
variable {sc : xS} {d : Nat} {T : Nat → Nat × Nat} {z : Nat × Nat} {V : Nat → Nat → Int} {J : Nat → Nat → Int64} {R : Nat → Nat → Option Nat}
theorem eL_isRidden {x4 x5 x6 : Int} {a0 a1 a2 a3 : Nat} : X sc (d + 1) 108 [.ref a0, .ref a1, .ref a2, .ref a3, xw x4, xw x5, xw x6] (T, z, xv V, J, R) = XR sc d 108 0 [some (.ref a0), some (.ref a1), some (.ref a2), some (.ref a3), some (xw x4), some (xw x5), some (xw x6), none, none, none, none, none, none, none, none, none, none, none, none, none] [] (T, z, xv V, J, R) :=
  (X_eq ⟨jl_108, by rw [mn_108]; rfl, rfl, by rw [lm_108]; exact Nat.le_of_ble_eq_true rfl⟩).trans (by unfold xent; rw [lm_108]; rfl)
theorem bL_isRidden_0 {o0 o1 o2 o3 o4 o6 o7 o8 o9 o10 o11 o12 o13 o14 o15 o16 o17 o18 o19 : Option Value} {x5 : Int} (g1 : 0 ≤ x5 ∧ x5 ≤ 2147483647) (g2 : -2147483648 ≤ (x5 % 13) ∧ (x5 % 13) ≤ 2147483647) : XR sc d 108 0 [o0, o1, o2, o3, o4, some (xw x5), o6, o7, o8, o9, o10, o11, o12, o13, o14, o15, o16, o17, o18, o19] [] (T, z, xv V, J, R) = if (x5 % 13) = 12 then XR sc d 108 10 [o0, o1, o2, o3, o4, some (xw x5), o6, o7, o8, o9, o10, o11, o12, o13, o14, o15, o16, o17, o18, o19] [] (T, z, xv V, J, R) else XR sc d 108 15 [o0, o1, o2, o3, o4, some (xw x5), o6, o7, o8, o9, o10, o11, o12, o13, o14, o15, o16, o17, o18, o19] [] (T, z, xv V, J, R) :=
  (sw_iload f_108_0 rfl).trans ((sw_bipush f_108_2 c8_13).trans ((sw_irem f_108_4 ⟨by decide, by decide, g1⟩).trans ((sw_bipush f_108_5 c8_12).trans (sw_icmp_ne (t := 15) f_108_7 ⟨by decide, rfl⟩ g2 ⟨by decide, by decide⟩))))
theorem bL_isRidden_10 {o0 o1 o2 o3 o4 o5 o6 o7 o8 o9 o10 o11 o12 o13 o14 o15 o16 o17 o18 o19 : Option Value} : XR sc d 108 10 [o0, o1, o2, o3, o4, o5, o6, o7, o8, o9, o10, o11, o12, o13, o14, o15, o16, o17, o18, o19] [] (T, z, xv V, J, R) = XR sc d 108 19 [o0, o1, o2, o3, o4, o5, o6, o7, o8, o9, o10, o11, o12, o13, o14, o15, o16, o17, o18, o19] [xw 6] (T, z, xv V, J, R) :=
  (sw_bipush f_108_10 c8_6).trans (st_goto (t := 19) f_108_12 ⟨by decide, rfl⟩)
theorem bL_isRidden_15 {o0 o1 o2 o3 o4 o6 o7 o8 o9 o10 o11 o12 o13 o14 o15 o16 o17 o18 o19 : Option Value} {x5 : Int} (g1 : 0 ≤ x5 ∧ x5 ≤ 2147483647) : XR sc d 108 15 [o0, o1, o2, o3, o4, some (xw x5), o6, o7, o8, o9, o10, o11, o12, o13, o14, o15, o16, o17, o18, o19] [] (T, z, xv V, J, R) = XR sc d 108 19 [o0, o1, o2, o3, o4, some (xw x5), o6, o7, o8, o9, o10, o11, o12, o13, o14, o15, o16, o17, o18, o19] [xw (x5 % 2)] (T, z, xv V, J, R) :=
  (sw_iload f_108_15 rfl).trans ((sw_iconst f_108_17).trans (sw_irem f_108_18 ⟨by decide, by decide, g1⟩))
theorem bL_isRidden_19 {o0 o1 o2 o3 o4 o5 o7 o8 o9 o10 o11 o12 o13 o14 o15 o16 o17 o18 o19 : Option Value} {y0 x6 : Int} (g1 : 0 ≤ x6 ∧ x6 ≤ 2147483647) (g2 : -2147483648 ≤ (x6 % 15) ∧ (x6 % 15) ≤ 2147483647) : XR sc d 108 19 [o0, o1, o2, o3, o4, o5, some (xw x6), o7, o8, o9, o10, o11, o12, o13, o14, o15, o16, o17, o18, o19] [xw y0] (T, z, xv V, J, R) = if (x6 % 15) = 14 then XR sc d 108 31 [o0, o1, o2, o3, o4, o5, some (xw x6), some (xw y0), o8, o9, o10, o11, o12, o13, o14, o15, o16, o17, o18, o19] [] (T, z, xv V, J, R) else XR sc d 108 36 [o0, o1, o2, o3, o4, o5, some (xw x6), some (xw y0), o8, o9, o10, o11, o12, o13, o14, o15, o16, o17, o18, o19] [] (T, z, xv V, J, R) :=
  (sw_istore (L' := [o0, o1, o2, o3, o4, o5, some (xw x6), some (xw y0), o8, o9, o10, o11, o12, o13, o14, o15, o16, o17, o18, o19]) f_108_19 (Nat.le_of_ble_eq_true rfl) rfl).trans ((sw_iload f_108_21 rfl).trans ((sw_bipush f_108_23 c8_15).trans ((sw_irem f_108_25 ⟨by decide, by decide, g1⟩).trans ((sw_bipush f_108_26 c8_14).trans (sw_icmp_ne (t := 36) f_108_28 ⟨by decide, rfl⟩ g2 ⟨by decide, by decide⟩)))))
theorem bL_isRidden_31 {o0 o1 o2 o3 o4 o5 o6 o7 o8 o9 o10 o11 o12 o13 o14 o15 o16 o17 o18 o19 : Option Value} : XR sc d 108 31 [o0, o1, o2, o3, o4, o5, o6, o7, o8, o9, o10, o11, o12, o13, o14, o15, o16, o17, o18, o19] [] (T, z, xv V, J, R) = XR sc d 108 41 [o0, o1, o2, o3, o4, o5, o6, o7, o8, o9, o10, o11, o12, o13, o14, o15, o16, o17, o18, o19] [xw 7] (T, z, xv V, J, R) :=
  (sw_bipush f_108_31 c8_7).trans (st_goto (t := 41) f_108_33 ⟨by decide, rfl⟩)
theorem bL_isRidden_36 {o0 o1 o2 o3 o4 o5 o7 o8 o9 o10 o11 o12 o13 o14 o15 o16 o17 o18 o19 : Option Value} {x6 : Int} (g1 : 0 ≤ x6 ∧ x6 ≤ 2147483647) : XR sc d 108 36 [o0, o1, o2, o3, o4, o5, some (xw x6), o7, o8, o9, o10, o11, o12, o13, o14, o15, o16, o17, o18, o19] [] (T, z, xv V, J, R) = XR sc d 108 41 [o0, o1, o2, o3, o4, o5, some (xw x6), o7, o8, o9, o10, o11, o12, o13, o14, o15, o16, o17, o18, o19] [xw (x6 % 7)] (T, z, xv V, J, R) :=
  (sw_iload f_108_36 rfl).trans ((sw_bipush f_108_38 c8_7).trans (sw_irem f_108_40 ⟨by decide, by decide, g1⟩))
theorem bL_isRidden_41 {o0 o1 o2 o3 o5 o6 o7 o8 o9 o10 o11 o12 o13 o14 o15 o16 o17 o18 o19 : Option Value} {y0 x4 : Int} (g1 : -2147483648 ≤ x4 ∧ x4 ≤ 2147483647) : XR sc d 108 41 [o0, o1, o2, o3, some (xw x4), o5, o6, o7, o8, o9, o10, o11, o12, o13, o14, o15, o16, o17, o18, o19] [xw y0] (T, z, xv V, J, R) = if 3 ≤ x4 then XR sc d 108 296 [o0, o1, o2, o3, some (xw x4), o5, o6, o7, some (xw y0), o9, o10, o11, o12, o13, o14, o15, o16, o17, o18, o19] [] (T, z, xv V, J, R) else XR sc d 108 49 [o0, o1, o2, o3, some (xw x4), o5, o6, o7, some (xw y0), o9, o10, o11, o12, o13, o14, o15, o16, o17, o18, o19] [] (T, z, xv V, J, R) :=
  (sw_istore (L' := [o0, o1, o2, o3, some (xw x4), o5, o6, o7, some (xw y0), o9, o10, o11, o12, o13, o14, o15, o16, o17, o18, o19]) f_108_41 (Nat.le_of_ble_eq_true rfl) rfl).trans ((sw_iload f_108_43 rfl).trans ((sw_iconst f_108_45).trans (sw_icmp_ge (t := 296) f_108_46 ⟨by decide, rfl⟩ g1 ⟨by decide, by decide⟩)))
theorem bL_isRidden_49 {o0 o1 o2 o3 o5 o6 o7 o8 o9 o10 o11 o12 o13 o14 o15 o16 o17 o18 o19 : Option Value} {x4 : Int} (g1 : -2147483648 ≤ x4 ∧ x4 ≤ 2147483647) : XR sc d 108 49 [o0, o1, o2, o3, some (xw x4), o5, o6, o7, o8, o9, o10, o11, o12, o13, o14, o15, o16, o17, o18, o19] [] (T, z, xv V, J, R) = if x4 = 2 then XR sc d 108 55 [o0, o1, o2, o3, some (xw x4), o5, o6, o7, o8, o9, o10, o11, o12, o13, o14, o15, o16, o17, o18, o19] [] (T, z, xv V, J, R) else XR sc d 108 86 [o0, o1, o2, o3, some (xw x4), o5, o6, o7, o8, o9, o10, o11, o12, o13, o14, o15, o16, o17, o18, o19] [] (T, z, xv V, J, R) :=
  (sw_iload f_108_49 rfl).trans ((sw_iconst f_108_51).trans (sw_icmp_ne (t := 86) f_108_52 ⟨by decide, rfl⟩ g1 ⟨by decide, by decide⟩))
theorem bL_isRidden_55 {o0 o1 o2 o3 o4 o6 o7 o8 o9 o10 o11 o12 o13 o14 o15 o16 o17 o18 o19 : Option Value} {x5 : Int} (g1 : 0 ≤ x5 ∧ x5 ≤ 2147483647) (g2 : 0 ≤ (x5 / 13) ∧ (x5 / 13) ≤ 2147483647) (g3 : -2147483648 ≤ ((x5 / 13) % 22) ∧ ((x5 / 13) % 22) ≤ 2147483647) : XR sc d 108 55 [o0, o1, o2, o3, o4, some (xw x5), o6, o7, o8, o9, o10, o11, o12, o13, o14, o15, o16, o17, o18, o19] [] (T, z, xv V, J, R) = if ((x5 / 13) % 22) = 21 then XR sc d 108 76 [o0, o1, o2, o3, o4, some (xw x5), o6, o7, o8, o9, o10, o11, o12, o13, o14, o15, o16, o17, o18, o19] [xw ((x5 / 13) % 22)] (T, z, xv V, J, R) else XR sc d 108 81 [o0, o1, o2, o3, o4, some (xw x5), o6, o7, o8, o9, o10, o11, o12, o13, o14, o15, o16, o17, o18, o19] [xw ((x5 / 13) % 22)] (T, z, xv V, J, R) :=
  (sw_iload f_108_55 rfl).trans ((sw_bipush f_108_57 c8_13).trans ((sw_idiv f_108_59 ⟨by decide, by decide, g1⟩).trans ((sw_bipush f_108_60 c8_22).trans ((sw_irem f_108_62 ⟨by decide, by decide, g2⟩).trans ((sw_iload f_108_63 rfl).trans ((sw_bipush f_108_65 c8_13).trans ((sw_idiv f_108_67 ⟨by decide, by decide, g1⟩).trans ((sw_bipush f_108_68 c8_22).trans ((sw_irem f_108_70 ⟨by decide, by decide, g2⟩).trans ((sw_bipush f_108_71 c8_21).trans (sw_icmp_ne (t := 81) f_108_73 ⟨by decide, rfl⟩ g3 ⟨by decide, by decide⟩)))))))))))
theorem bL_isRidden_76 {o0 o1 o2 o3 o4 o5 o6 o7 o8 o9 o10 o11 o12 o13 o14 o15 o16 o17 o18 o19 : Option Value} {s0 : Value} : XR sc d 108 76 [o0, o1, o2, o3, o4, o5, o6, o7, o8, o9, o10, o11, o12, o13, o14, o15, o16, o17, o18, o19] [s0] (T, z, xv V, J, R) = XR sc d 108 82 [o0, o1, o2, o3, o4, o5, o6, o7, o8, o9, o10, o11, o12, o13, o14, o15, o16, o17, o18, o19] [xw 22, s0] (T, z, xv V, J, R) :=
  (sw_bipush f_108_76 c8_22).trans (st_goto (t := 82) f_108_78 ⟨by decide, rfl⟩)
theorem bL_isRidden_81 {o0 o1 o2 o3 o4 o5 o6 o7 o8 o9 o10 o11 o12 o13 o14 o15 o16 o17 o18 o19 : Option Value} {s0 : Value} : XR sc d 108 81 [o0, o1, o2, o3, o4, o5, o6, o7, o8, o9, o10, o11, o12, o13, o14, o15, o16, o17, o18, o19] [s0] (T, z, xv V, J, R) = XR sc d 108 82 [o0, o1, o2, o3, o4, o5, o6, o7, o8, o9, o10, o11, o12, o13, o14, o15, o16, o17, o18, o19] [xw 0, s0] (T, z, xv V, J, R) :=
  sw_iconst f_108_81
theorem bL_isRidden_82 {o0 o1 o2 o3 o4 o5 o6 o7 o8 o9 o10 o11 o12 o13 o14 o15 o16 o17 o18 o19 : Option Value} {y0 y1 : Int} : XR sc d 108 82 [o0, o1, o2, o3, o4, o5, o6, o7, o8, o9, o10, o11, o12, o13, o14, o15, o16, o17, o18, o19] [xw y0, xw y1] (T, z, xv V, J, R) = XR sc d 108 124 [o0, o1, o2, o3, o4, o5, o6, o7, o8, o9, o10, o11, o12, o13, o14, o15, o16, o17, o18, o19] [xw (y1 - y0)] (T, z, xv V, J, R) :=
  (sw_isub f_108_82).trans (st_goto (t := 124) f_108_83 ⟨by decide, rfl⟩)
theorem bL_isRidden_86 {o0 o1 o2 o3 o4 o6 o7 o8 o9 o10 o11 o12 o13 o14 o15 o16 o17 o18 o19 : Option Value} {x5 : Int} (g1 : 0 ≤ x5 ∧ x5 ≤ 2147483647) (g2 : 0 ≤ (x5 / 13) ∧ (x5 / 13) ≤ 2147483647) (g3 : -2147483648 ≤ ((x5 / 13) % 9) ∧ ((x5 / 13) % 9) ≤ 2147483647) : XR sc d 108 86 [o0, o1, o2, o3, o4, some (xw x5), o6, o7, o8, o9, o10, o11, o12, o13, o14, o15, o16, o17, o18, o19] [] (T, z, xv V, J, R) = if ((x5 / 13) % 9) = 0 then XR sc d 108 97 [o0, o1, o2, o3, o4, some (xw x5), o6, o7, o8, o9, o10, o11, o12, o13, o14, o15, o16, o17, o18, o19] [] (T, z, xv V, J, R) else XR sc d 108 113 [o0, o1, o2, o3, o4, some (xw x5), o6, o7, o8, o9, o10, o11, o12, o13, o14, o15, o16, o17, o18, o19] [] (T, z, xv V, J, R) :=
  (sw_iload f_108_86 rfl).trans ((sw_bipush f_108_88 c8_13).trans ((sw_idiv f_108_90 ⟨by decide, by decide, g1⟩).trans ((sw_bipush f_108_91 c8_9).trans ((sw_irem f_108_93 ⟨by decide, by decide, g2⟩).trans (sw_if_ne (t := 113) f_108_94 ⟨by decide, rfl⟩ g3)))))
theorem bL_isRidden_97 {o0 o1 o2 o3 o4 o6 o7 o8 o9 o10 o11 o12 o13 o14 o15 o16 o17 o18 o19 : Option Value} {x5 : Int} (g1 : 0 ≤ x5 ∧ x5 ≤ 2147483647) (g2 : 0 ≤ (x5 / 117) ∧ (x5 / 117) ≤ 2147483647) : XR sc d 108 97 [o0, o1, o2, o3, o4, some (xw x5), o6, o7, o8, o9, o10, o11, o12, o13, o14, o15, o16, o17, o18, o19] [] (T, z, xv V, J, R) = XR sc d 108 124 [o0, o1, o2, o3, o4, some (xw x5), o6, o7, o8, o9, o10, o11, o12, o13, o14, o15, o16, o17, o18, o19] [xw ((((x5 / 117) % 2) * 102) - 51)] (T, z, xv V, J, R) :=
  (sw_iload f_108_97 rfl).trans ((sw_bipush f_108_99 c8_117).trans ((sw_idiv f_108_101 ⟨by decide, by decide, g1⟩).trans ((sw_iconst f_108_102).trans ((sw_irem f_108_103 ⟨by decide, by decide, g2⟩).trans ((sw_bipush f_108_104 c8_102).trans ((sw_imul f_108_106).trans ((sw_bipush f_108_107 c8_51).trans ((sw_isub f_108_109).trans (st_goto (t := 124) f_108_110 ⟨by decide, rfl⟩)))))))))
theorem bL_isRidden_113 {o0 o1 o2 o3 o4 o6 o7 o8 o9 o10 o11 o12 o13 o14 o15 o16 o17 o18 o19 : Option Value} {x5 : Int} (g1 : 0 ≤ x5 ∧ x5 ≤ 2147483647) (g2 : 0 ≤ (x5 / 13) ∧ (x5 / 13) ≤ 2147483647) : XR sc d 108 113 [o0, o1, o2, o3, o4, some (xw x5), o6, o7, o8, o9, o10, o11, o12, o13, o14, o15, o16, o17, o18, o19] [] (T, z, xv V, J, R) = XR sc d 108 124 [o0, o1, o2, o3, o4, some (xw x5), o6, o7, o8, o9, o10, o11, o12, o13, o14, o15, o16, o17, o18, o19] [xw (((x5 / 13) % 61) - 30)] (T, z, xv V, J, R) :=
  (sw_iload f_108_113 rfl).trans ((sw_bipush f_108_115 c8_13).trans ((sw_idiv f_108_117 ⟨by decide, by decide, g1⟩).trans ((sw_bipush f_108_118 c8_61).trans ((sw_irem f_108_120 ⟨by decide, by decide, g2⟩).trans ((sw_bipush f_108_121 c8_30).trans (sw_isub f_108_123))))))
theorem bL_isRidden_124 {o0 o1 o2 o3 o4 o5 o6 o8 o9 o10 o11 o12 o13 o14 o15 o16 o17 o18 o19 : Option Value} {y0 x7 : Int} (g1 : -2147483648 ≤ x7 ∧ x7 ≤ 2147483647) : XR sc d 108 124 [o0, o1, o2, o3, o4, o5, o6, some (xw x7), o8, o9, o10, o11, o12, o13, o14, o15, o16, o17, o18, o19] [xw y0] (T, z, xv V, J, R) = if 6 ≤ x7 then XR sc d 108 144 [o0, o1, o2, o3, o4, o5, o6, some (xw x7), o8, some (xw y0), o10, o11, o12, o13, o14, o15, o16, o17, o18, o19] [] (T, z, xv V, J, R) else XR sc d 108 133 [o0, o1, o2, o3, o4, o5, o6, some (xw x7), o8, some (xw y0), o10, o11, o12, o13, o14, o15, o16, o17, o18, o19] [] (T, z, xv V, J, R) :=
  (sw_istore (L' := [o0, o1, o2, o3, o4, o5, o6, some (xw x7), o8, some (xw y0), o10, o11, o12, o13, o14, o15, o16, o17, o18, o19]) f_108_124 (Nat.le_of_ble_eq_true rfl) rfl).trans ((sw_iload f_108_126 rfl).trans ((sw_bipush f_108_128 c8_6).trans (sw_icmp_ge (t := 144) f_108_130 ⟨by decide, rfl⟩ g1 ⟨by decide, by decide⟩)))
theorem bL_isRidden_133 {o0 o1 o2 o3 o4 o5 o6 o7 o9 o10 o11 o12 o13 o14 o15 o16 o17 o18 o19 : Option Value} {x8 : Int} (g1 : -2147483648 ≤ x8 ∧ x8 ≤ 2147483647) : XR sc d 108 133 [o0, o1, o2, o3, o4, o5, o6, o7, some (xw x8), o9, o10, o11, o12, o13, o14, o15, o16, o17, o18, o19] [] (T, z, xv V, J, R) = if 7 ≤ x8 then XR sc d 108 144 [o0, o1, o2, o3, o4, o5, o6, o7, some (xw x8), o9, o10, o11, o12, o13, o14, o15, o16, o17, o18, o19] [] (T, z, xv V, J, R) else XR sc d 108 140 [o0, o1, o2, o3, o4, o5, o6, o7, some (xw x8), o9, o10, o11, o12, o13, o14, o15, o16, o17, o18, o19] [] (T, z, xv V, J, R) :=
  (sw_iload f_108_133 rfl).trans ((sw_bipush f_108_135 c8_7).trans (sw_icmp_ge (t := 144) f_108_137 ⟨by decide, rfl⟩ g1 ⟨by decide, by decide⟩))
theorem bL_isRidden_140 {o0 o1 o2 o3 o4 o5 o6 o7 o8 o9 o10 o11 o12 o13 o14 o15 o16 o17 o18 o19 : Option Value} : XR sc d 108 140 [o0, o1, o2, o3, o4, o5, o6, o7, o8, o9, o10, o11, o12, o13, o14, o15, o16, o17, o18, o19] [] (T, z, xv V, J, R) = XR sc d 108 145 [o0, o1, o2, o3, o4, o5, o6, o7, o8, o9, o10, o11, o12, o13, o14, o15, o16, o17, o18, o19] [xw 1] (T, z, xv V, J, R) :=
  (sw_iconst f_108_140).trans (st_goto (t := 145) f_108_141 ⟨by decide, rfl⟩)
theorem bL_isRidden_144 {o0 o1 o2 o3 o4 o5 o6 o7 o8 o9 o10 o11 o12 o13 o14 o15 o16 o17 o18 o19 : Option Value} : XR sc d 108 144 [o0, o1, o2, o3, o4, o5, o6, o7, o8, o9, o10, o11, o12, o13, o14, o15, o16, o17, o18, o19] [] (T, z, xv V, J, R) = XR sc d 108 145 [o0, o1, o2, o3, o4, o5, o6, o7, o8, o9, o10, o11, o12, o13, o14, o15, o16, o17, o18, o19] [xw 0] (T, z, xv V, J, R) :=
  sw_iconst f_108_144
theorem bL_isRidden_145 {o0 o1 o2 o3 o5 o6 o7 o8 o9 o10 o11 o12 o13 o14 o15 o16 o17 o18 o19 : Option Value} {y0 x4 : Int} (g1 : -2147483648 ≤ x4 ∧ x4 ≤ 2147483647) : XR sc d 108 145 [o0, o1, o2, o3, some (xw x4), o5, o6, o7, o8, o9, o10, o11, o12, o13, o14, o15, o16, o17, o18, o19] [xw y0] (T, z, xv V, J, R) = if x4 = 2 then XR sc d 108 153 [o0, o1, o2, o3, some (xw x4), o5, o6, o7, o8, o9, some (xw y0), o11, o12, o13, o14, o15, o16, o17, o18, o19] [] (T, z, xv V, J, R) else XR sc d 108 173 [o0, o1, o2, o3, some (xw x4), o5, o6, o7, o8, o9, some (xw y0), o11, o12, o13, o14, o15, o16, o17, o18, o19] [] (T, z, xv V, J, R) :=
  (sw_istore (L' := [o0, o1, o2, o3, some (xw x4), o5, o6, o7, o8, o9, some (xw y0), o11, o12, o13, o14, o15, o16, o17, o18, o19]) f_108_145 (Nat.le_of_ble_eq_true rfl) rfl).trans ((sw_iload f_108_147 rfl).trans ((sw_iconst f_108_149).trans (sw_icmp_ne (t := 173) f_108_150 ⟨by decide, rfl⟩ g1 ⟨by decide, by decide⟩)))
theorem bL_isRidden_153 {o0 o1 o2 o3 o4 o5 o6 o7 o8 o10 o11 o12 o13 o14 o15 o16 o17 o18 o19 : Option Value} {x9 : Int} (g1 : -2147483648 ≤ x9 ∧ x9 ≤ 2147483647) : XR sc d 108 153 [o0, o1, o2, o3, o4, o5, o6, o7, o8, some (xw x9), o10, o11, o12, o13, o14, o15, o16, o17, o18, o19] [] (T, z, xv V, J, R) = if x9 < 0 then XR sc d 108 169 [o0, o1, o2, o3, o4, o5, o6, o7, o8, some (xw x9), o10, o11, o12, o13, o14, o15, o16, o17, o18, o19] [] (T, z, xv V, J, R) else XR sc d 108 158 [o0, o1, o2, o3, o4, o5, o6, o7, o8, some (xw x9), o10, o11, o12, o13, o14, o15, o16, o17, o18, o19] [] (T, z, xv V, J, R) :=
  (sw_iload f_108_153 rfl).trans (sw_if_lt (t := 169) f_108_155 ⟨by decide, rfl⟩ g1)
theorem bL_isRidden_158 {o0 o1 o2 o3 o4 o5 o6 o7 o8 o10 o11 o12 o13 o14 o15 o16 o17 o18 o19 : Option Value} {x9 : Int} (g1 : -2147483648 ≤ x9 ∧ x9 ≤ 2147483647) : XR sc d 108 158 [o0, o1, o2, o3, o4, o5, o6, o7, o8, some (xw x9), o10, o11, o12, o13, o14, o15, o16, o17, o18, o19] [] (T, z, xv V, J, R) = if 21 ≤ x9 then XR sc d 108 169 [o0, o1, o2, o3, o4, o5, o6, o7, o8, some (xw x9), o10, o11, o12, o13, o14, o15, o16, o17, o18, o19] [] (T, z, xv V, J, R) else XR sc d 108 165 [o0, o1, o2, o3, o4, o5, o6, o7, o8, some (xw x9), o10, o11, o12, o13, o14, o15, o16, o17, o18, o19] [] (T, z, xv V, J, R) :=
  (sw_iload f_108_158 rfl).trans ((sw_bipush f_108_160 c8_21).trans (sw_icmp_ge (t := 169) f_108_162 ⟨by decide, rfl⟩ g1 ⟨by decide, by decide⟩))
theorem bL_isRidden_165 {o0 o1 o2 o3 o4 o5 o6 o7 o8 o9 o10 o11 o12 o13 o14 o15 o16 o17 o18 o19 : Option Value} : XR sc d 108 165 [o0, o1, o2, o3, o4, o5, o6, o7, o8, o9, o10, o11, o12, o13, o14, o15, o16, o17, o18, o19] [] (T, z, xv V, J, R) = XR sc d 108 192 [o0, o1, o2, o3, o4, o5, o6, o7, o8, o9, o10, o11, o12, o13, o14, o15, o16, o17, o18, o19] [xw 1] (T, z, xv V, J, R) :=
  (sw_iconst f_108_165).trans (st_goto (t := 192) f_108_166 ⟨by decide, rfl⟩)
theorem bL_isRidden_169 {o0 o1 o2 o3 o4 o5 o6 o7 o8 o9 o10 o11 o12 o13 o14 o15 o16 o17 o18 o19 : Option Value} : XR sc d 108 169 [o0, o1, o2, o3, o4, o5, o6, o7, o8, o9, o10, o11, o12, o13, o14, o15, o16, o17, o18, o19] [] (T, z, xv V, J, R) = XR sc d 108 192 [o0, o1, o2, o3, o4, o5, o6, o7, o8, o9, o10, o11, o12, o13, o14, o15, o16, o17, o18, o19] [xw 0] (T, z, xv V, J, R) :=
  (sw_iconst f_108_169).trans (st_goto (t := 192) f_108_170 ⟨by decide, rfl⟩)
theorem bL_isRidden_173 {o0 o1 o2 o3 o4 o5 o6 o7 o8 o10 o11 o12 o13 o14 o15 o16 o17 o18 o19 : Option Value} {x9 : Int} (g1 : -2147483648 ≤ x9 ∧ x9 ≤ 2147483647) : XR sc d 108 173 [o0, o1, o2, o3, o4, o5, o6, o7, o8, some (xw x9), o10, o11, o12, o13, o14, o15, o16, o17, o18, o19] [] (T, z, xv V, J, R) = if x9 ≤ (-51) then XR sc d 108 191 [o0, o1, o2, o3, o4, o5, o6, o7, o8, some (xw x9), o10, o11, o12, o13, o14, o15, o16, o17, o18, o19] [] (T, z, xv V, J, R) else XR sc d 108 180 [o0, o1, o2, o3, o4, o5, o6, o7, o8, some (xw x9), o10, o11, o12, o13, o14, o15, o16, o17, o18, o19] [] (T, z, xv V, J, R) :=
  (sw_iload f_108_173 rfl).trans ((sw_bipush f_108_175 c8_m51).trans (sw_icmp_le (t := 191) f_108_177 ⟨by decide, rfl⟩ g1 ⟨by decide, by decide⟩))
theorem bL_isRidden_180 {o0 o1 o2 o3 o4 o5 o6 o7 o8 o10 o11 o12 o13 o14 o15 o16 o17 o18 o19 : Option Value} {x9 : Int} (g1 : -2147483648 ≤ x9 ∧ x9 ≤ 2147483647) : XR sc d 108 180 [o0, o1, o2, o3, o4, o5, o6, o7, o8, some (xw x9), o10, o11, o12, o13, o14, o15, o16, o17, o18, o19] [] (T, z, xv V, J, R) = if 51 ≤ x9 then XR sc d 108 191 [o0, o1, o2, o3, o4, o5, o6, o7, o8, some (xw x9), o10, o11, o12, o13, o14, o15, o16, o17, o18, o19] [] (T, z, xv V, J, R) else XR sc d 108 187 [o0, o1, o2, o3, o4, o5, o6, o7, o8, some (xw x9), o10, o11, o12, o13, o14, o15, o16, o17, o18, o19] [] (T, z, xv V, J, R) :=
  (sw_iload f_108_180 rfl).trans ((sw_bipush f_108_182 c8_51).trans (sw_icmp_ge (t := 191) f_108_184 ⟨by decide, rfl⟩ g1 ⟨by decide, by decide⟩))
theorem bL_isRidden_187 {o0 o1 o2 o3 o4 o5 o6 o7 o8 o9 o10 o11 o12 o13 o14 o15 o16 o17 o18 o19 : Option Value} : XR sc d 108 187 [o0, o1, o2, o3, o4, o5, o6, o7, o8, o9, o10, o11, o12, o13, o14, o15, o16, o17, o18, o19] [] (T, z, xv V, J, R) = XR sc d 108 192 [o0, o1, o2, o3, o4, o5, o6, o7, o8, o9, o10, o11, o12, o13, o14, o15, o16, o17, o18, o19] [xw 1] (T, z, xv V, J, R) :=
  (sw_iconst f_108_187).trans (st_goto (t := 192) f_108_188 ⟨by decide, rfl⟩)
theorem bL_isRidden_191 {o0 o1 o2 o3 o4 o5 o6 o7 o8 o9 o10 o11 o12 o13 o14 o15 o16 o17 o18 o19 : Option Value} : XR sc d 108 191 [o0, o1, o2, o3, o4, o5, o6, o7, o8, o9, o10, o11, o12, o13, o14, o15, o16, o17, o18, o19] [] (T, z, xv V, J, R) = XR sc d 108 192 [o0, o1, o2, o3, o4, o5, o6, o7, o8, o9, o10, o11, o12, o13, o14, o15, o16, o17, o18, o19] [xw 0] (T, z, xv V, J, R) :=
  sw_iconst f_108_191
theorem bL_isRidden_192 {o0 o1 o2 o3 o4 o5 o6 o7 o8 o9 o11 o12 o13 o14 o15 o16 o17 o18 o19 : Option Value} {y0 x10 : Int} (g1 : -2147483648 ≤ x10 ∧ x10 ≤ 2147483647) : XR sc d 108 192 [o0, o1, o2, o3, o4, o5, o6, o7, o8, o9, some (xw x10), o11, o12, o13, o14, o15, o16, o17, o18, o19] [xw y0] (T, z, xv V, J, R) = if x10 = 0 then XR sc d 108 216 [o0, o1, o2, o3, o4, o5, o6, o7, o8, o9, some (xw x10), some (xw y0), o12, o13, o14, o15, o16, o17, o18, o19] [] (T, z, xv V, J, R) else XR sc d 108 199 [o0, o1, o2, o3, o4, o5, o6, o7, o8, o9, some (xw x10), some (xw y0), o12, o13, o14, o15, o16, o17, o18, o19] [] (T, z, xv V, J, R) :=
  (sw_istore (L' := [o0, o1, o2, o3, o4, o5, o6, o7, o8, o9, some (xw x10), some (xw y0), o12, o13, o14, o15, o16, o17, o18, o19]) f_108_192 (Nat.le_of_ble_eq_true rfl) rfl).trans ((sw_iload f_108_194 rfl).trans (sw_if_eq (t := 216) f_108_196 ⟨by decide, rfl⟩ g1))
theorem bL_isRidden_199 {o0 o1 o2 o3 o5 o6 o9 o10 o11 o12 o13 o14 o15 o16 o17 o18 o19 : Option Value} {x4 x7 x8 : Int} : XR sc d 108 199 [o0, o1, o2, o3, some (xw x4), o5, o6, some (xw x7), some (xw x8), o9, o10, o11, o12, o13, o14, o15, o16, o17, o18, o19] [] (T, z, xv V, J, R) = XR sc d 108 218 [o0, o1, o2, o3, some (xw x4), o5, o6, some (xw x7), some (xw x8), o9, o10, o11, o12, o13, o14, o15, o16, o17, o18, o19] [xw (((14 * x4) + (7 * x7)) + x8)] (T, z, xv V, J, R) :=
  (sw_bipush f_108_199 c8_14).trans ((sw_iload f_108_201 rfl).trans ((sw_imul f_108_203).trans ((sw_bipush f_108_204 c8_7).trans ((sw_iload f_108_206 rfl).trans ((sw_imul f_108_208).trans ((sw_iadd f_108_209).trans ((sw_iload f_108_210 rfl).trans ((sw_iadd f_108_212).trans (st_goto (t := 218) f_108_213 ⟨by decide, rfl⟩)))))))))
theorem bL_isRidden_216 {o0 o1 o2 o3 o4 o5 o6 o7 o8 o9 o10 o11 o12 o13 o14 o15 o16 o17 o18 o19 : Option Value} : XR sc d 108 216 [o0, o1, o2, o3, o4, o5, o6, o7, o8, o9, o10, o11, o12, o13, o14, o15, o16, o17, o18, o19] [] (T, z, xv V, J, R) = XR sc d 108 218 [o0, o1, o2, o3, o4, o5, o6, o7, o8, o9, o10, o11, o12, o13, o14, o15, o16, o17, o18, o19] [xw 56] (T, z, xv V, J, R) :=
  sw_bipush f_108_216 c8_56
theorem bL_isRidden_218 {o0 o2 o3 o4 o5 o6 o7 o8 o9 o11 o12 o13 o14 o15 o16 o17 o18 o19 : Option Value} {y0 x10 : Int} {a1 : Nat} (g1 : T a1 = (32, (T a1).2)) (g2 : (0 : Int) ≤ y0 ∧ y0 < ((T a1).2 : Int) ∧ (T a1).2 ≤ 3584) (g3 : -2147483648 ≤ x10 ∧ x10 ≤ 2147483647) : XR sc d 108 218 [o0, some (.ref a1), o2, o3, o4, o5, o6, o7, o8, o9, some (xw x10), o11, o12, o13, o14, o15, o16, o17, o18, o19] [xw y0] (T, z, xv V, J, R) = if x10 = 0 then XR sc d 108 242 [o0, some (.ref a1), o2, o3, o4, o5, o6, o7, o8, o9, some (xw x10), o11, some (xw y0), some (xw (V a1 y0.toNat)), o14, o15, o16, o17, o18, o19] [.ref a1] (T, z, xv V, J, R) else XR sc d 108 232 [o0, some (.ref a1), o2, o3, o4, o5, o6, o7, o8, o9, some (xw x10), o11, some (xw y0), some (xw (V a1 y0.toNat)), o14, o15, o16, o17, o18, o19] [.ref a1] (T, z, xv V, J, R) :=
  (sw_istore (L' := [o0, some (.ref a1), o2, o3, o4, o5, o6, o7, o8, o9, some (xw x10), o11, some (xw y0), o13, o14, o15, o16, o17, o18, o19]) f_108_218 (Nat.le_of_ble_eq_true rfl) rfl).trans ((st_aload_n f_108_220 rfl).trans ((sw_iload f_108_221 rfl).trans ((sw_iaload f_108_223 g1 g2).trans ((sw_istore (L' := [o0, some (.ref a1), o2, o3, o4, o5, o6, o7, o8, o9, some (xw x10), o11, some (xw y0), some (xw (V a1 y0.toNat)), o14, o15, o16, o17, o18, o19]) f_108_224 (Nat.le_of_ble_eq_true rfl) rfl).trans ((st_aload_n f_108_226 rfl).trans ((sw_iload f_108_227 rfl).trans (sw_if_eq (t := 242) f_108_229 ⟨by decide, rfl⟩ g3)))))))
theorem bL_isRidden_232 {o0 o1 o2 o3 o4 o5 o6 o7 o8 o9 o10 o12 o13 o14 o15 o16 o17 o18 o19 : Option Value} {s0 : Value} {x11 : Int} (g1 : -2147483648 ≤ x11 ∧ x11 ≤ 2147483647) : XR sc d 108 232 [o0, o1, o2, o3, o4, o5, o6, o7, o8, o9, o10, some (xw x11), o12, o13, o14, o15, o16, o17, o18, o19] [s0] (T, z, xv V, J, R) = if x11 = 0 then XR sc d 108 242 [o0, o1, o2, o3, o4, o5, o6, o7, o8, o9, o10, some (xw x11), o12, o13, o14, o15, o16, o17, o18, o19] [s0] (T, z, xv V, J, R) else XR sc d 108 237 [o0, o1, o2, o3, o4, o5, o6, o7, o8, o9, o10, some (xw x11), o12, o13, o14, o15, o16, o17, o18, o19] [s0] (T, z, xv V, J, R) :=
  (sw_iload f_108_232 rfl).trans (sw_if_eq (t := 242) f_108_234 ⟨by decide, rfl⟩ g1)
theorem bL_isRidden_237 {o0 o1 o2 o3 o4 o5 o6 o7 o8 o9 o10 o11 o13 o14 o15 o16 o17 o18 o19 : Option Value} {s0 : Value} {x12 : Int} : XR sc d 108 237 [o0, o1, o2, o3, o4, o5, o6, o7, o8, o9, o10, o11, some (xw x12), o13, o14, o15, o16, o17, o18, o19] [s0] (T, z, xv V, J, R) = XR sc d 108 244 [o0, o1, o2, o3, o4, o5, o6, o7, o8, o9, o10, o11, some (xw x12), o13, o14, o15, o16, o17, o18, o19] [xw x12, s0] (T, z, xv V, J, R) :=
  (sw_iload f_108_237 rfl).trans (st_goto (t := 244) f_108_239 ⟨by decide, rfl⟩)
theorem bL_isRidden_242 {o0 o1 o2 o3 o4 o5 o6 o7 o8 o9 o10 o11 o12 o13 o14 o15 o16 o17 o18 o19 : Option Value} {s0 : Value} : XR sc d 108 242 [o0, o1, o2, o3, o4, o5, o6, o7, o8, o9, o10, o11, o12, o13, o14, o15, o16, o17, o18, o19] [s0] (T, z, xv V, J, R) = XR sc d 108 244 [o0, o1, o2, o3, o4, o5, o6, o7, o8, o9, o10, o11, o12, o13, o14, o15, o16, o17, o18, o19] [xw 56, s0] (T, z, xv V, J, R) :=
  sw_bipush f_108_242 c8_56
theorem bL_isRidden_244 {o1 o2 o3 o5 o6 o10 o11 o12 o13 o14 o15 o16 o17 o18 o19 : Option Value} {x9 y0 x4 x7 x8 : Int} {b1 a0 : Nat} (g1 : T b1 = (32, (T b1).2)) (g2 : (0 : Int) ≤ y0 ∧ y0 < ((T b1).2 : Int) ∧ (T b1).2 ≤ 3584) : XR sc d 108 244 [some (.ref a0), o1, o2, o3, some (xw x4), o5, o6, some (xw x7), some (xw x8), some (xw x9), o10, o11, o12, o13, o14, o15, o16, o17, o18, o19] [xw y0, .ref b1] (T, z, xv V, J, R) = xret 108 (XR sc d 108) 262 265 [some (.ref a0), o1, o2, o3, some (xw x4), o5, o6, some (xw x7), some (xw x8), some (xw x9), o10, o11, o12, o13, o14, o15, o16, o17, o18, o19] [] (X sc d 92 [.ref a0, xw (12 + x4), xw x7, xw x8, xw x9, xw 0, xw 0, xw 0] (T, z, xv (xup2 V b1 y0.toNat x9), J, R)) :=
  (sw_iload f_108_244 rfl).trans ((sw_iastore f_108_246 g1 g2).trans ((st_aload_n f_108_247 rfl).trans ((sw_bipush f_108_248 c8_12).trans ((sw_iload f_108_250 rfl).trans ((sw_iadd f_108_252).trans ((sw_iload f_108_253 rfl).trans ((sw_iload f_108_255 rfl).trans ((sw_iload f_108_257 rfl).trans ((sw_iconst f_108_259).trans ((sw_iconst f_108_260).trans ((sw_iconst f_108_261).trans (st_callS' f_108_262 h_108_124 mn_92 rfl rfl rfl rfl))))))))))))
theorem bL_isRidden_265 {o0 o1 o2 o3 o4 o5 o6 o7 o8 o9 o11 o12 o13 o14 o15 o16 o17 o18 o19 : Option Value} {s0 : Value} {x10 : Int} (g1 : -2147483648 ≤ x10 ∧ x10 ≤ 2147483647) : XR sc d 108 265 [o0, o1, o2, o3, o4, o5, o6, o7, o8, o9, some (xw x10), o11, o12, o13, o14, o15, o16, o17, o18, o19] [s0] (T, z, xv V, J, R) = if x10 = 0 then XR sc d 108 270 [o0, o1, o2, o3, o4, o5, o6, o7, o8, o9, some (xw x10), o11, o12, o13, o14, o15, o16, o17, o18, o19] [s0] (T, z, xv V, J, R) else XR sc d 108 275 [o0, o1, o2, o3, o4, o5, o6, o7, o8, o9, some (xw x10), o11, o12, o13, o14, o15, o16, o17, o18, o19] [s0] (T, z, xv V, J, R) :=
  (sw_iload f_108_265 rfl).trans (sw_if_ne (t := 275) f_108_267 ⟨by decide, rfl⟩ g1)
theorem bL_isRidden_270 {o0 o1 o2 o3 o4 o5 o6 o7 o8 o9 o10 o11 o12 o13 o14 o15 o16 o17 o18 o19 : Option Value} {s0 : Value} : XR sc d 108 270 [o0, o1, o2, o3, o4, o5, o6, o7, o8, o9, o10, o11, o12, o13, o14, o15, o16, o17, o18, o19] [s0] (T, z, xv V, J, R) = XR sc d 108 287 [o0, o1, o2, o3, o4, o5, o6, o7, o8, o9, o10, o11, o12, o13, o14, o15, o16, o17, o18, o19] [xw (-3000000), s0] (T, z, xv V, J, R) :=
  (sw_ldc (-3000000) f_108_270 k_108_79 rfl).trans (st_goto (t := 287) f_108_272 ⟨by decide, rfl⟩)
theorem bL_isRidden_275 {o0 o1 o2 o3 o4 o5 o6 o7 o8 o9 o10 o12 o13 o14 o15 o16 o17 o18 o19 : Option Value} {s0 : Value} {x11 : Int} (g1 : -2147483648 ≤ x11 ∧ x11 ≤ 2147483647) : XR sc d 108 275 [o0, o1, o2, o3, o4, o5, o6, o7, o8, o9, o10, some (xw x11), o12, o13, o14, o15, o16, o17, o18, o19] [s0] (T, z, xv V, J, R) = if x11 = 0 then XR sc d 108 285 [o0, o1, o2, o3, o4, o5, o6, o7, o8, o9, o10, some (xw x11), o12, o13, o14, o15, o16, o17, o18, o19] [s0] (T, z, xv V, J, R) else XR sc d 108 280 [o0, o1, o2, o3, o4, o5, o6, o7, o8, o9, o10, some (xw x11), o12, o13, o14, o15, o16, o17, o18, o19] [s0] (T, z, xv V, J, R) :=
  (sw_iload f_108_275 rfl).trans (sw_if_eq (t := 285) f_108_277 ⟨by decide, rfl⟩ g1)
theorem bL_isRidden_280 {o0 o1 o2 o3 o4 o5 o6 o7 o8 o9 o10 o11 o12 o14 o15 o16 o17 o18 o19 : Option Value} {s0 : Value} {x13 : Int} : XR sc d 108 280 [o0, o1, o2, o3, o4, o5, o6, o7, o8, o9, o10, o11, o12, some (xw x13), o14, o15, o16, o17, o18, o19] [s0] (T, z, xv V, J, R) = XR sc d 108 287 [o0, o1, o2, o3, o4, o5, o6, o7, o8, o9, o10, o11, o12, some (xw x13), o14, o15, o16, o17, o18, o19] [xw x13, s0] (T, z, xv V, J, R) :=
  (sw_iload f_108_280 rfl).trans (st_goto (t := 287) f_108_282 ⟨by decide, rfl⟩)
theorem bL_isRidden_285 {o0 o1 o2 o3 o4 o5 o6 o7 o8 o9 o10 o11 o12 o13 o14 o15 o16 o17 o18 o19 : Option Value} {s0 : Value} : XR sc d 108 285 [o0, o1, o2, o3, o4, o5, o6, o7, o8, o9, o10, o11, o12, o13, o14, o15, o16, o17, o18, o19] [s0] (T, z, xv V, J, R) = XR sc d 108 287 [o0, o1, o2, o3, o4, o5, o6, o7, o8, o9, o10, o11, o12, o13, o14, o15, o16, o17, o18, o19] [xw (-2000000), s0] (T, z, xv V, J, R) :=
  sw_ldc (-2000000) f_108_285 k_108_82 rfl
theorem bL_isRidden_287 {o0 o1 o2 o3 o4 o5 o6 o7 o8 o9 o10 o11 o12 o13 o14 o15 o16 o17 o18 o19 : Option Value} {y0 y1 : Int} (g1 : -2147483648 ≤ y1 ∧ y1 ≤ 2147483647) (g2 : -2147483648 ≤ y0 ∧ y0 ≤ 2147483647) : XR sc d 108 287 [o0, o1, o2, o3, o4, o5, o6, o7, o8, o9, o10, o11, o12, o13, o14, o15, o16, o17, o18, o19] [xw y0, xw y1] (T, z, xv V, J, R) = if y1 = y0 then XR sc d 108 290 [o0, o1, o2, o3, o4, o5, o6, o7, o8, o9, o10, o11, o12, o13, o14, o15, o16, o17, o18, o19] [] (T, z, xv V, J, R) else XR sc d 108 294 [o0, o1, o2, o3, o4, o5, o6, o7, o8, o9, o10, o11, o12, o13, o14, o15, o16, o17, o18, o19] [] (T, z, xv V, J, R) :=
  sw_icmp_ne (t := 294) f_108_287 ⟨by decide, rfl⟩ g1 g2
theorem bL_isRidden_290 {o0 o1 o2 o3 o4 o5 o6 o7 o8 o9 o10 o11 o12 o13 o14 o15 o16 o17 o18 o19 : Option Value} : XR sc d 108 290 [o0, o1, o2, o3, o4, o5, o6, o7, o8, o9, o10, o11, o12, o13, o14, o15, o16, o17, o18, o19] [] (T, z, xv V, J, R) = XR sc d 108 295 [o0, o1, o2, o3, o4, o5, o6, o7, o8, o9, o10, o11, o12, o13, o14, o15, o16, o17, o18, o19] [xw 1] (T, z, xv V, J, R) :=
  (sw_iconst f_108_290).trans (st_goto (t := 295) f_108_291 ⟨by decide, rfl⟩)
theorem bL_isRidden_294 {o0 o1 o2 o3 o4 o5 o6 o7 o8 o9 o10 o11 o12 o13 o14 o15 o16 o17 o18 o19 : Option Value} : XR sc d 108 294 [o0, o1, o2, o3, o4, o5, o6, o7, o8, o9, o10, o11, o12, o13, o14, o15, o16, o17, o18, o19] [] (T, z, xv V, J, R) = XR sc d 108 295 [o0, o1, o2, o3, o4, o5, o6, o7, o8, o9, o10, o11, o12, o13, o14, o15, o16, o17, o18, o19] [xw 0] (T, z, xv V, J, R) :=
  sw_iconst f_108_294
theorem bL_isRidden_295 {o0 o1 o2 o3 o4 o5 o6 o7 o8 o9 o10 o11 o12 o13 o14 o15 o16 o17 o18 o19 : Option Value} {y0 : Int} (g1 : y0 = 0 ∨ y0 = 1) : XR sc d 108 295 [o0, o1, o2, o3, o4, o5, o6, o7, o8, o9, o10, o11, o12, o13, o14, o15, o16, o17, o18, o19] [xw y0] (T, z, xv V, J, R) = some (.inl (some (xw y0)), (T, z, xv V, J, R)) :=
  sw_zreturn f_108_295 mr_108 g1
theorem bL_isRidden_296 {o0 o1 o2 o3 o5 o6 o7 o8 o9 o10 o11 o12 o13 o14 o15 o16 o17 o18 o19 : Option Value} {x4 : Int} (g1 : -2147483648 ≤ x4 ∧ x4 ≤ 2147483647) : XR sc d 108 296 [o0, o1, o2, o3, some (xw x4), o5, o6, o7, o8, o9, o10, o11, o12, o13, o14, o15, o16, o17, o18, o19] [] (T, z, xv V, J, R) = if x4 = 3 then XR sc d 108 302 [o0, o1, o2, o3, some (xw x4), o5, o6, o7, o8, o9, o10, o11, o12, o13, o14, o15, o16, o17, o18, o19] [] (T, z, xv V, J, R) else XR sc d 108 750 [o0, o1, o2, o3, some (xw x4), o5, o6, o7, o8, o9, o10, o11, o12, o13, o14, o15, o16, o17, o18, o19] [] (T, z, xv V, J, R) :=
  (sw_iload f_108_296 rfl).trans ((sw_iconst f_108_298).trans (sw_icmp_ne (t := 750) f_108_299 ⟨by decide, rfl⟩ g1 ⟨by decide, by decide⟩))
theorem bL_isRidden_302 {o0 o1 o2 o3 o4 o5 o7 o8 o9 o10 o11 o12 o13 o14 o15 o16 o17 o18 o19 : Option Value} {x6 : Int} (g1 : 0 ≤ x6 ∧ x6 ≤ 2147483647) (g2 : 0 ≤ (x6 / 2) ∧ (x6 / 2) ≤ 2147483647) (g3 : -2147483648 ≤ ((x6 / 2) % 9) ∧ ((x6 / 2) % 9) ≤ 2147483647) : XR sc d 108 302 [o0, o1, o2, o3, o4, o5, some (xw x6), o7, o8, o9, o10, o11, o12, o13, o14, o15, o16, o17, o18, o19] [] (T, z, xv V, J, R) = if ((x6 / 2) % 9) = 0 then XR sc d 108 318 [o0, o1, o2, o3, o4, o5, some (xw x6), o7, o8, some (xw (x6 % 2)), o10, o11, o12, o13, o14, o15, o16, o17, o18, o19] [] (T, z, xv V, J, R) else XR sc d 108 332 [o0, o1, o2, o3, o4, o5, some (xw x6), o7, o8, some (xw (x6 % 2)), o10, o11, o12, o13, o14, o15, o16, o17, o18, o19] [] (T, z, xv V, J, R) :=
  (sw_iload f_108_302 rfl).trans ((sw_iconst f_108_304).trans ((sw_irem f_108_305 ⟨by decide, by decide, g1⟩).trans ((sw_istore (L' := [o0, o1, o2, o3, o4, o5, some (xw x6), o7, o8, some (xw (x6 % 2)), o10, o11, o12, o13, o14, o15, o16, o17, o18, o19]) f_108_306 (Nat.le_of_ble_eq_true rfl) rfl).trans ((sw_iload f_108_308 rfl).trans ((sw_iconst f_108_310).trans ((sw_idiv f_108_311 ⟨by decide, by decide, g1⟩).trans ((sw_bipush f_108_312 c8_9).trans ((sw_irem f_108_314 ⟨by decide, by decide, g2⟩).trans (sw_if_ne (t := 332) f_108_315 ⟨by decide, rfl⟩ g3)))))))))
theorem bL_isRidden_318 {o0 o1 o2 o3 o4 o5 o7 o8 o9 o10 o11 o12 o13 o14 o15 o16 o17 o18 o19 : Option Value} {x6 : Int} (g1 : 0 ≤ x6 ∧ x6 ≤ 2147483647) (g2 : 0 ≤ (x6 / 18) ∧ (x6 / 18) ≤ 2147483647) : XR sc d 108 318 [o0, o1, o2, o3, o4, o5, some (xw x6), o7, o8, o9, o10, o11, o12, o13, o14, o15, o16, o17, o18, o19] [] (T, z, xv V, J, R) = XR sc d 108 343 [o0, o1, o2, o3, o4, o5, some (xw x6), o7, o8, o9, o10, o11, o12, o13, o14, o15, o16, o17, o18, o19] [xw (((x6 / 18) % 2) * 1001)] (T, z, xv V, J, R) :=
  (sw_iload f_108_318 rfl).trans ((sw_bipush f_108_320 c8_18).trans ((sw_idiv f_108_322 ⟨by decide, by decide, g1⟩).trans ((sw_iconst f_108_323).trans ((sw_irem f_108_324 ⟨by decide, by decide, g2⟩).trans ((sw_sipush f_108_325 c16_1001).trans ((sw_imul f_108_328).trans (st_goto (t := 343) f_108_329 ⟨by decide, rfl⟩)))))))
theorem bL_isRidden_332 {o0 o1 o2 o3 o4 o5 o7 o8 o9 o10 o11 o12 o13 o14 o15 o16 o17 o18 o19 : Option Value} {x6 : Int} (g1 : 0 ≤ x6 ∧ x6 ≤ 2147483647) (g2 : 0 ≤ (x6 / 2) ∧ (x6 / 2) ≤ 2147483647) : XR sc d 108 332 [o0, o1, o2, o3, o4, o5, some (xw x6), o7, o8, o9, o10, o11, o12, o13, o14, o15, o16, o17, o18, o19] [] (T, z, xv V, J, R) = XR sc d 108 343 [o0, o1, o2, o3, o4, o5, some (xw x6), o7, o8, o9, o10, o11, o12, o13, o14, o15, o16, o17, o18, o19] [xw (20 + ((x6 / 2) % 500))] (T, z, xv V, J, R) :=
  (sw_bipush f_108_332 c8_20).trans ((sw_iload f_108_334 rfl).trans ((sw_iconst f_108_336).trans ((sw_idiv f_108_337 ⟨by decide, by decide, g1⟩).trans ((sw_sipush f_108_338 c16_500).trans ((sw_irem f_108_341 ⟨by decide, by decide, g2⟩).trans (sw_iadd f_108_342))))))
theorem bL_isRidden_343 {o0 o1 o2 o3 o4 o6 o7 o8 o9 o10 o11 o12 o13 o14 o15 o16 o17 o18 o19 : Option Value} {y0 x5 : Int} (g1 : 0 ≤ x5 ∧ x5 ≤ 2147483647) (g2 : 0 ≤ (x5 / 13) ∧ (x5 / 13) ≤ 2147483647) (g3 : -2147483648 ≤ ((x5 / 13) % 9) ∧ ((x5 / 13) % 9) ≤ 2147483647) : XR sc d 108 343 [o0, o1, o2, o3, o4, some (xw x5), o6, o7, o8, o9, o10, o11, o12, o13, o14, o15, o16, o17, o18, o19] [xw y0] (T, z, xv V, J, R) = if ((x5 / 13) % 9) = 0 then XR sc d 108 356 [o0, o1, o2, o3, o4, some (xw x5), o6, o7, o8, o9, some (xw y0), o11, o12, o13, o14, o15, o16, o17, o18, o19] [] (T, z, xv V, J, R) else XR sc d 108 368 [o0, o1, o2, o3, o4, some (xw x5), o6, o7, o8, o9, some (xw y0), o11, o12, o13, o14, o15, o16, o17, o18, o19] [] (T, z, xv V, J, R) :=
  (sw_istore (L' := [o0, o1, o2, o3, o4, some (xw x5), o6, o7, o8, o9, some (xw y0), o11, o12, o13, o14, o15, o16, o17, o18, o19]) f_108_343 (Nat.le_of_ble_eq_true rfl) rfl).trans ((sw_iload f_108_345 rfl).trans ((sw_bipush f_108_347 c8_13).trans ((sw_idiv f_108_349 ⟨by decide, by decide, g1⟩).trans ((sw_bipush f_108_350 c8_9).trans ((sw_irem f_108_352 ⟨by decide, by decide, g2⟩).trans (sw_if_ne (t := 368) f_108_353 ⟨by decide, rfl⟩ g3))))))
theorem bL_isRidden_356 {o0 o1 o2 o3 o4 o6 o7 o8 o9 o10 o11 o12 o13 o14 o15 o16 o17 o18 o19 : Option Value} {x5 : Int} (g1 : 0 ≤ x5 ∧ x5 ≤ 2147483647) (g2 : 0 ≤ (x5 / 117) ∧ (x5 / 117) ≤ 2147483647) : XR sc d 108 356 [o0, o1, o2, o3, o4, some (xw x5), o6, o7, o8, o9, o10, o11, o12, o13, o14, o15, o16, o17, o18, o19] [] (T, z, xv V, J, R) = XR sc d 108 372 [o0, o1, o2, o3, o4, some (xw x5), o6, o7, o8, o9, o10, o11, o12, o13, o14, o15, o16, o17, o18, o19] [xw (((x5 / 117) % 2) * 4)] (T, z, xv V, J, R) :=
  (sw_iload f_108_356 rfl).trans ((sw_bipush f_108_358 c8_117).trans ((sw_idiv f_108_360 ⟨by decide, by decide, g1⟩).trans ((sw_iconst f_108_361).trans ((sw_irem f_108_362 ⟨by decide, by decide, g2⟩).trans ((sw_iconst f_108_363).trans ((sw_imul f_108_364).trans (st_goto (t := 372) f_108_365 ⟨by decide, rfl⟩)))))))
theorem bL_isRidden_368 {o0 o1 o2 o3 o4 o5 o6 o7 o8 o10 o11 o12 o13 o14 o15 o16 o17 o18 o19 : Option Value} {x9 : Int} : XR sc d 108 368 [o0, o1, o2, o3, o4, o5, o6, o7, o8, some (xw x9), o10, o11, o12, o13, o14, o15, o16, o17, o18, o19] [] (T, z, xv V, J, R) = XR sc d 108 372 [o0, o1, o2, o3, o4, o5, o6, o7, o8, some (xw x9), o10, o11, o12, o13, o14, o15, o16, o17, o18, o19] [xw (1 + x9)] (T, z, xv V, J, R) :=
  (sw_iconst f_108_368).trans ((sw_iload f_108_369 rfl).trans (sw_iadd f_108_371))
theorem bL_isRidden_372 {o0 o1 o2 o3 o4 o6 o7 o8 o9 o11 o12 o13 o14 o15 o16 o17 o18 o19 : Option Value} {y0 x5 x10 : Int} (g1 : 0 ≤ x5 ∧ x5 ≤ 2147483647) (g2 : 0 ≤ (x5 / 13) ∧ (x5 / 13) ≤ 2147483647) (g3 : -2147483648 ≤ x10 ∧ x10 ≤ 2147483647) : XR sc d 108 372 [o0, o1, o2, o3, o4, some (xw x5), o6, o7, o8, o9, some (xw x10), o11, o12, o13, o14, o15, o16, o17, o18, o19] [xw y0] (T, z, xv V, J, R) = if x10 ≤ 0 then XR sc d 108 424 [o0, o1, o2, o3, o4, some (xw x5), o6, o7, o8, o9, some (xw x10), some (xw y0), some (xw ((x5 / 13) % 12)), o13, o14, o15, o16, o17, o18, o19] [] (T, z, xv V, J, R) else XR sc d 108 389 [o0, o1, o2, o3, o4, some (xw x5), o6, o7, o8, o9, some (xw x10), some (xw y0), some (xw ((x5 / 13) % 12)), o13, o14, o15, o16, o17, o18, o19] [] (T, z, xv V, J, R) :=
  (sw_istore (L' := [o0, o1, o2, o3, o4, some (xw x5), o6, o7, o8, o9, some (xw x10), some (xw y0), o12, o13, o14, o15, o16, o17, o18, o19]) f_108_372 (Nat.le_of_ble_eq_true rfl) rfl).trans ((sw_iload f_108_374 rfl).trans ((sw_bipush f_108_376 c8_13).trans ((sw_idiv f_108_378 ⟨by decide, by decide, g1⟩).trans ((sw_bipush f_108_379 c8_12).trans ((sw_irem f_108_381 ⟨by decide, by decide, g2⟩).trans ((sw_istore (L' := [o0, o1, o2, o3, o4, some (xw x5), o6, o7, o8, o9, some (xw x10), some (xw y0), some (xw ((x5 / 13) % 12)), o13, o14, o15, o16, o17, o18, o19]) f_108_382 (Nat.le_of_ble_eq_true rfl) rfl).trans ((sw_iload f_108_384 rfl).trans (sw_if_le (t := 424) f_108_386 ⟨by decide, rfl⟩ g3))))))))
theorem bL_isRidden_389 {o0 o1 o2 o3 o4 o5 o6 o7 o8 o9 o11 o12 o13 o14 o15 o16 o17 o18 o19 : Option Value} {x10 : Int} (g1 : -2147483648 ≤ x10 ∧ x10 ≤ 2147483647) : XR sc d 108 389 [o0, o1, o2, o3, o4, o5, o6, o7, o8, o9, some (xw x10), o11, o12, o13, o14, o15, o16, o17, o18, o19] [] (T, z, xv V, J, R) = if 1001 ≤ x10 then XR sc d 108 424 [o0, o1, o2, o3, o4, o5, o6, o7, o8, o9, some (xw x10), o11, o12, o13, o14, o15, o16, o17, o18, o19] [] (T, z, xv V, J, R) else XR sc d 108 397 [o0, o1, o2, o3, o4, o5, o6, o7, o8, o9, some (xw x10), o11, o12, o13, o14, o15, o16, o17, o18, o19] [] (T, z, xv V, J, R) :=
  (sw_iload f_108_389 rfl).trans ((sw_sipush f_108_391 c16_1001).trans (sw_icmp_ge (t := 424) f_108_394 ⟨by decide, rfl⟩ g1 ⟨by decide, by decide⟩))
theorem bL_isRidden_397 {o0 o1 o2 o3 o4 o5 o6 o7 o8 o9 o10 o12 o13 o14 o15 o16 o17 o18 o19 : Option Value} {x11 : Int} (g1 : -2147483648 ≤ x11 ∧ x11 ≤ 2147483647) : XR sc d 108 397 [o0, o1, o2, o3, o4, o5, o6, o7, o8, o9, o10, some (xw x11), o12, o13, o14, o15, o16, o17, o18, o19] [] (T, z, xv V, J, R) = if x11 ≤ 0 then XR sc d 108 424 [o0, o1, o2, o3, o4, o5, o6, o7, o8, o9, o10, some (xw x11), o12, o13, o14, o15, o16, o17, o18, o19] [] (T, z, xv V, J, R) else XR sc d 108 402 [o0, o1, o2, o3, o4, o5, o6, o7, o8, o9, o10, some (xw x11), o12, o13, o14, o15, o16, o17, o18, o19] [] (T, z, xv V, J, R) :=
  (sw_iload f_108_397 rfl).trans (sw_if_le (t := 424) f_108_399 ⟨by decide, rfl⟩ g1)
theorem bL_isRidden_402 {o0 o1 o2 o3 o4 o5 o6 o7 o8 o9 o10 o12 o13 o14 o15 o16 o17 o18 o19 : Option Value} {x11 : Int} (g1 : -2147483648 ≤ x11 ∧ x11 ≤ 2147483647) : XR sc d 108 402 [o0, o1, o2, o3, o4, o5, o6, o7, o8, o9, o10, some (xw x11), o12, o13, o14, o15, o16, o17, o18, o19] [] (T, z, xv V, J, R) = if 4 ≤ x11 then XR sc d 108 424 [o0, o1, o2, o3, o4, o5, o6, o7, o8, o9, o10, some (xw x11), o12, o13, o14, o15, o16, o17, o18, o19] [] (T, z, xv V, J, R) else XR sc d 108 408 [o0, o1, o2, o3, o4, o5, o6, o7, o8, o9, o10, some (xw x11), o12, o13, o14, o15, o16, o17, o18, o19] [] (T, z, xv V, J, R) :=
  (sw_iload f_108_402 rfl).trans ((sw_iconst f_108_404).trans (sw_icmp_ge (t := 424) f_108_405 ⟨by decide, rfl⟩ g1 ⟨by decide, by decide⟩))
theorem bL_isRidden_408 {o0 o1 o2 o3 o4 o5 o6 o7 o8 o9 o10 o11 o13 o14 o15 o16 o17 o18 o19 : Option Value} {x12 : Int} (g1 : -2147483648 ≤ x12 ∧ x12 ≤ 2147483647) : XR sc d 108 408 [o0, o1, o2, o3, o4, o5, o6, o7, o8, o9, o10, o11, some (xw x12), o13, o14, o15, o16, o17, o18, o19] [] (T, z, xv V, J, R) = if x12 ≤ 0 then XR sc d 108 424 [o0, o1, o2, o3, o4, o5, o6, o7, o8, o9, o10, o11, some (xw x12), o13, o14, o15, o16, o17, o18, o19] [] (T, z, xv V, J, R) else XR sc d 108 413 [o0, o1, o2, o3, o4, o5, o6, o7, o8, o9, o10, o11, some (xw x12), o13, o14, o15, o16, o17, o18, o19] [] (T, z, xv V, J, R) :=
  (sw_iload f_108_408 rfl).trans (sw_if_le (t := 424) f_108_410 ⟨by decide, rfl⟩ g1)
theorem bL_isRidden_413 {o0 o1 o2 o3 o4 o5 o6 o7 o8 o9 o10 o11 o13 o14 o15 o16 o17 o18 o19 : Option Value} {x12 : Int} (g1 : -2147483648 ≤ x12 ∧ x12 ≤ 2147483647) : XR sc d 108 413 [o0, o1, o2, o3, o4, o5, o6, o7, o8, o9, o10, o11, some (xw x12), o13, o14, o15, o16, o17, o18, o19] [] (T, z, xv V, J, R) = if 11 ≤ x12 then XR sc d 108 424 [o0, o1, o2, o3, o4, o5, o6, o7, o8, o9, o10, o11, some (xw x12), o13, o14, o15, o16, o17, o18, o19] [] (T, z, xv V, J, R) else XR sc d 108 420 [o0, o1, o2, o3, o4, o5, o6, o7, o8, o9, o10, o11, some (xw x12), o13, o14, o15, o16, o17, o18, o19] [] (T, z, xv V, J, R) :=
  (sw_iload f_108_413 rfl).trans ((sw_bipush f_108_415 c8_11).trans (sw_icmp_ge (t := 424) f_108_417 ⟨by decide, rfl⟩ g1 ⟨by decide, by decide⟩))
theorem bL_isRidden_420 {o0 o1 o2 o3 o4 o5 o6 o7 o8 o9 o10 o11 o12 o13 o14 o15 o16 o17 o18 o19 : Option Value} : XR sc d 108 420 [o0, o1, o2, o3, o4, o5, o6, o7, o8, o9, o10, o11, o12, o13, o14, o15, o16, o17, o18, o19] [] (T, z, xv V, J, R) = XR sc d 108 425 [o0, o1, o2, o3, o4, o5, o6, o7, o8, o9, o10, o11, o12, o13, o14, o15, o16, o17, o18, o19] [xw 1] (T, z, xv V, J, R) :=
  (sw_iconst f_108_420).trans (st_goto (t := 425) f_108_421 ⟨by decide, rfl⟩)
theorem bL_isRidden_424 {o0 o1 o2 o3 o4 o5 o6 o7 o8 o9 o10 o11 o12 o13 o14 o15 o16 o17 o18 o19 : Option Value} : XR sc d 108 424 [o0, o1, o2, o3, o4, o5, o6, o7, o8, o9, o10, o11, o12, o13, o14, o15, o16, o17, o18, o19] [] (T, z, xv V, J, R) = XR sc d 108 425 [o0, o1, o2, o3, o4, o5, o6, o7, o8, o9, o10, o11, o12, o13, o14, o15, o16, o17, o18, o19] [xw 0] (T, z, xv V, J, R) :=
  sw_iconst f_108_424
theorem bL_isRidden_425 {o0 o1 o2 o3 o4 o5 o6 o8 o9 o10 o11 o12 o13 o14 o15 o16 o17 o18 o19 : Option Value} {y0 x7 : Int} (g1 : -2147483648 ≤ x7 ∧ x7 ≤ 2147483647) : XR sc d 108 425 [o0, o1, o2, o3, o4, o5, o6, some (xw x7), o8, o9, o10, o11, o12, o13, o14, o15, o16, o17, o18, o19] [xw y0] (T, z, xv V, J, R) = if 6 ≤ x7 then XR sc d 108 452 [o0, o1, o2, o3, o4, o5, o6, some (xw x7), o8, o9, o10, o11, o12, some (xw y0), o14, o15, o16, o17, o18, o19] [] (T, z, xv V, J, R) else XR sc d 108 434 [o0, o1, o2, o3, o4, o5, o6, some (xw x7), o8, o9, o10, o11, o12, some (xw y0), o14, o15, o16, o17, o18, o19] [] (T, z, xv V, J, R) :=
  (sw_istore (L' := [o0, o1, o2, o3, o4, o5, o6, some (xw x7), o8, o9, o10, o11, o12, some (xw y0), o14, o15, o16, o17, o18, o19]) f_108_425 (Nat.le_of_ble_eq_true rfl) rfl).trans ((sw_iload f_108_427 rfl).trans ((sw_bipush f_108_429 c8_6).trans (sw_icmp_ge (t := 452) f_108_431 ⟨by decide, rfl⟩ g1 ⟨by decide, by decide⟩)))
theorem bL_isRidden_434 {o0 o1 o2 o3 o4 o5 o6 o7 o8 o9 o10 o11 o12 o14 o15 o16 o17 o18 o19 : Option Value} {x13 : Int} (g1 : -2147483648 ≤ x13 ∧ x13 ≤ 2147483647) : XR sc d 108 434 [o0, o1, o2, o3, o4, o5, o6, o7, o8, o9, o10, o11, o12, some (xw x13), o14, o15, o16, o17, o18, o19] [] (T, z, xv V, J, R) = if x13 = 0 then XR sc d 108 452 [o0, o1, o2, o3, o4, o5, o6, o7, o8, o9, o10, o11, o12, some (xw x13), o14, o15, o16, o17, o18, o19] [] (T, z, xv V, J, R) else XR sc d 108 439 [o0, o1, o2, o3, o4, o5, o6, o7, o8, o9, o10, o11, o12, some (xw x13), o14, o15, o16, o17, o18, o19] [] (T, z, xv V, J, R) :=
  (sw_iload f_108_434 rfl).trans (sw_if_eq (t := 452) f_108_436 ⟨by decide, rfl⟩ g1)
theorem bL_isRidden_439 {o0 o2 o3 o4 o5 o6 o8 o9 o10 o11 o12 o13 o14 o15 o16 o17 o18 o19 : Option Value} {x7 : Int} {a1 : Nat} : XR sc d 108 439 [o0, some (.ref a1), o2, o3, o4, o5, o6, some (xw x7), o8, o9, o10, o11, o12, o13, o14, o15, o16, o17, o18, o19] [] (T, z, xv V, J, R) = xret 108 (XR sc d 108) 442 445 [o0, some (.ref a1), o2, o3, o4, o5, o6, some (xw x7), o8, o9, o10, o11, o12, o13, o14, o15, o16, o17, o18, o19] [] (X sc d 102 [.ref a1, xw x7] (T, z, xv V, J, R)) :=
  (st_aload_n f_108_439 rfl).trans ((sw_iload f_108_440 rfl).trans (st_callS' f_108_442 h_108_141 mn_102 rfl rfl rfl rfl))
theorem bL_isRidden_445 {o0 o1 o2 o3 o4 o5 o6 o7 o8 o9 o10 o11 o12 o13 o14 o15 o16 o17 o18 o19 : Option Value} {y0 : Int} (g1 : -2147483648 ≤ y0 ∧ y0 ≤ 2147483647) : XR sc d 108 445 [o0, o1, o2, o3, o4, o5, o6, o7, o8, o9, o10, o11, o12, o13, o14, o15, o16, o17, o18, o19] [xw y0] (T, z, xv V, J, R) = if y0 = 0 then XR sc d 108 448 [o0, o1, o2, o3, o4, o5, o6, o7, o8, o9, o10, o11, o12, o13, o14, o15, o16, o17, o18, o19] [] (T, z, xv V, J, R) else XR sc d 108 452 [o0, o1, o2, o3, o4, o5, o6, o7, o8, o9, o10, o11, o12, o13, o14, o15, o16, o17, o18, o19] [] (T, z, xv V, J, R) :=
  sw_if_ne (t := 452) f_108_445 ⟨by decide, rfl⟩ g1
theorem bL_isRidden_448 {o0 o1 o2 o3 o4 o5 o6 o7 o8 o9 o10 o11 o12 o13 o14 o15 o16 o17 o18 o19 : Option Value} : XR sc d 108 448 [o0, o1, o2, o3, o4, o5, o6, o7, o8, o9, o10, o11, o12, o13, o14, o15, o16, o17, o18, o19] [] (T, z, xv V, J, R) = XR sc d 108 453 [o0, o1, o2, o3, o4, o5, o6, o7, o8, o9, o10, o11, o12, o13, o14, o15, o16, o17, o18, o19] [xw 1] (T, z, xv V, J, R) :=
  (sw_iconst f_108_448).trans (st_goto (t := 453) f_108_449 ⟨by decide, rfl⟩)
theorem bL_isRidden_452 {o0 o1 o2 o3 o4 o5 o6 o7 o8 o9 o10 o11 o12 o13 o14 o15 o16 o17 o18 o19 : Option Value} : XR sc d 108 452 [o0, o1, o2, o3, o4, o5, o6, o7, o8, o9, o10, o11, o12, o13, o14, o15, o16, o17, o18, o19] [] (T, z, xv V, J, R) = XR sc d 108 453 [o0, o1, o2, o3, o4, o5, o6, o7, o8, o9, o10, o11, o12, o13, o14, o15, o16, o17, o18, o19] [xw 0] (T, z, xv V, J, R) :=
  sw_iconst f_108_452
theorem bL_isRidden_453 {o0 o1 o2 o3 o4 o5 o6 o7 o8 o9 o10 o11 o12 o13 o14 o15 o16 o17 o18 o19 : Option Value} {y0 : Int} (g1 : -2147483648 ≤ y0 ∧ y0 ≤ 2147483647) : XR sc d 108 453 [o0, o1, o2, o3, o4, o5, o6, o7, o8, o9, o10, o11, o12, o13, o14, o15, o16, o17, o18, o19] [xw y0] (T, z, xv V, J, R) = if y0 = 0 then XR sc d 108 690 [o0, o1, o2, o3, o4, o5, o6, o7, o8, o9, o10, o11, o12, o13, some (xw y0), some (xw 0), o16, o17, o18, o19] [] (T, z, xv V, J, R) else XR sc d 108 463 [o0, o1, o2, o3, o4, o5, o6, o7, o8, o9, o10, o11, o12, o13, some (xw y0), some (xw 0), o16, o17, o18, o19] [] (T, z, xv V, J, R) :=
  (sw_istore (L' := [o0, o1, o2, o3, o4, o5, o6, o7, o8, o9, o10, o11, o12, o13, some (xw y0), o15, o16, o17, o18, o19]) f_108_453 (Nat.le_of_ble_eq_true rfl) rfl).trans ((sw_iconst f_108_455).trans ((sw_istore (L' := [o0, o1, o2, o3, o4, o5, o6, o7, o8, o9, o10, o11, o12, o13, some (xw y0), some (xw 0), o16, o17, o18, o19]) f_108_456 (Nat.le_of_ble_eq_true rfl) rfl).trans ((sw_iload f_108_458 rfl).trans (sw_if_eq (t := 690) f_108_460 ⟨by decide, rfl⟩ g1))))
theorem bL_isRidden_463 {o0 o2 o3 o4 o5 o6 o8 o12 o13 o14 o15 o16 o17 o18 o19 : Option Value} {x7 x9 x10 x11 : Int} {a1 : Nat} : XR sc d 108 463 [o0, some (.ref a1), o2, o3, o4, o5, o6, some (xw x7), o8, some (xw x9), some (xw x10), some (xw x11), o12, o13, o14, o15, o16, o17, o18, o19] [] (T, z, xv V, J, R) = xret 108 (XR sc d 108) 473 476 [o0, some (.ref a1), o2, o3, o4, o5, o6, some (xw x7), o8, some (xw x9), some (xw x10), some (xw x11), o12, o13, o14, o15, o16, o17, o18, o19] [] (X sc d 100 [.ref a1, xw x7, xw x9, xw (x10 * x11)] (T, z, xv V, J, R)) :=
  (st_aload_n f_108_463 rfl).trans ((sw_iload f_108_464 rfl).trans ((sw_iload f_108_466 rfl).trans ((sw_iload f_108_468 rfl).trans ((sw_iload f_108_470 rfl).trans ((sw_imul f_108_472).trans (st_callS' f_108_473 h_108_128 mn_100 rfl rfl rfl rfl))))))
theorem bL_isRidden_476 {o0 o1 o2 o3 o4 o5 o6 o7 o8 o9 o10 o11 o12 o13 o14 o15 o16 o17 o18 o19 : Option Value} {y0 : Int} : XR sc d 108 476 [o0, o1, o2, o3, o4, o5, o6, o7, o8, o9, o10, o11, o12, o13, o14, o15, o16, o17, o18, o19] [xw y0] (T, z, xv V, J, R) = XR sc d 108 481 [o0, o1, o2, o3, o4, o5, o6, o7, o8, o9, o10, o11, o12, o13, o14, o15, some (xw y0), some (xw 0), o18, o19] [] (T, z, xv V, J, R) :=
  (sw_istore (L' := [o0, o1, o2, o3, o4, o5, o6, o7, o8, o9, o10, o11, o12, o13, o14, o15, some (xw y0), o17, o18, o19]) f_108_476 (Nat.le_of_ble_eq_true rfl) rfl).trans ((sw_iconst f_108_478).trans (sw_istore (L' := [o0, o1, o2, o3, o4, o5, o6, o7, o8, o9, o10, o11, o12, o13, o14, o15, some (xw y0), some (xw 0), o18, o19]) f_108_479 (Nat.le_of_ble_eq_true rfl) rfl))
theorem bL_isRidden_481 {o0 o1 o2 o3 o4 o5 o6 o7 o8 o9 o10 o11 o12 o13 o14 o15 o16 o18 o19 : Option Value} {x17 : Int} (g1 : -2147483648 ≤ x17 ∧ x17 ≤ 2147483647) : XR sc d 108 481 [o0, o1, o2, o3, o4, o5, o6, o7, o8, o9, o10, o11, o12, o13, o14, o15, o16, some (xw x17), o18, o19] [] (T, z, xv V, J, R) = if 7 ≤ x17 then XR sc d 108 609 [o0, o1, o2, o3, o4, o5, o6, o7, o8, o9, o10, o11, o12, o13, o14, o15, o16, some (xw x17), o18, o19] [] (T, z, xv V, J, R) else XR sc d 108 488 [o0, o1, o2, o3, o4, o5, o6, o7, o8, o9, o10, o11, o12, o13, o14, o15, o16, some (xw x17), o18, o19] [] (T, z, xv V, J, R) :=
  (sw_iload f_108_481 rfl).trans ((sw_bipush f_108_483 c8_7).trans (sw_icmp_ge (t := 609) f_108_485 ⟨by decide, rfl⟩ g1 ⟨by decide, by decide⟩))
theorem bL_isRidden_488 {o0 o2 o3 o4 o5 o6 o8 o10 o11 o12 o13 o14 o15 o18 o19 : Option Value} {x7 x9 x16 x17 : Int} {a1 : Nat} : XR sc d 108 488 [o0, some (.ref a1), o2, o3, o4, o5, o6, some (xw x7), o8, some (xw x9), o10, o11, o12, o13, o14, o15, some (xw x16), some (xw x17), o18, o19] [] (T, z, xv V, J, R) = xret 108 (XR sc d 108) 497 500 [o0, some (.ref a1), o2, o3, o4, o5, o6, some (xw x7), o8, some (xw x9), o10, o11, o12, o13, o14, o15, some (xw x16), some (xw x17), o18, o19] [] (X sc d 101 [.ref a1, xw x7, xw x9, xw x16, xw x17] (T, z, xv V, J, R)) :=
  (st_aload_n f_108_488 rfl).trans ((sw_iload f_108_489 rfl).trans ((sw_iload f_108_491 rfl).trans ((sw_iload f_108_493 rfl).trans ((sw_iload f_108_495 rfl).trans (st_callS' f_108_497 h_108_132 mn_101 rfl rfl rfl rfl)))))
theorem bL_isRidden_500 {o0 o1 o2 o3 o4 o5 o6 o7 o8 o9 o10 o11 o12 o13 o14 o15 o16 o17 o18 o19 : Option Value} {y0 : Int} (g1 : -2147483648 ≤ y0 ∧ y0 ≤ 2147483647) : XR sc d 108 500 [o0, o1, o2, o3, o4, o5, o6, o7, o8, o9, o10, o11, o12, o13, o14, o15, o16, o17, o18, o19] [xw y0] (T, z, xv V, J, R) = if y0 ≤ 40 then XR sc d 108 520 [o0, o1, o2, o3, o4, o5, o6, o7, o8, o9, o10, o11, o12, o13, o14, o15, o16, o17, some (xw y0), o19] [] (T, z, xv V, J, R) else XR sc d 108 509 [o0, o1, o2, o3, o4, o5, o6, o7, o8, o9, o10, o11, o12, o13, o14, o15, o16, o17, some (xw y0), o19] [] (T, z, xv V, J, R) :=
  (sw_istore (L' := [o0, o1, o2, o3, o4, o5, o6, o7, o8, o9, o10, o11, o12, o13, o14, o15, o16, o17, some (xw y0), o19]) f_108_500 (Nat.le_of_ble_eq_true rfl) rfl).trans ((sw_iload f_108_502 rfl).trans ((sw_bipush f_108_504 c8_40).trans (sw_icmp_le (t := 520) f_108_506 ⟨by decide, rfl⟩ g1 ⟨by decide, by decide⟩)))
theorem bL_isRidden_509 {o0 o1 o2 o3 o4 o5 o6 o7 o8 o9 o10 o11 o13 o14 o15 o16 o17 o19 : Option Value} {x12 x18 : Int} : XR sc d 108 509 [o0, o1, o2, o3, o4, o5, o6, o7, o8, o9, o10, o11, some (xw x12), o13, o14, o15, o16, o17, some (xw x18), o19] [] (T, z, xv V, J, R) = XR sc d 108 521 [o0, o1, o2, o3, o4, o5, o6, o7, o8, o9, o10, o11, some (xw x12), o13, o14, o15, o16, o17, some (xw x18), o19] [xw (x12 * (x18 - 40))] (T, z, xv V, J, R) :=
  (sw_iload f_108_509 rfl).trans ((sw_iload f_108_511 rfl).trans ((sw_bipush f_108_513 c8_40).trans ((sw_isub f_108_515).trans ((sw_imul f_108_516).trans (st_goto (t := 521) f_108_517 ⟨by decide, rfl⟩)))))
theorem bL_isRidden_520 {o0 o1 o2 o3 o4 o5 o6 o7 o8 o9 o10 o11 o12 o13 o14 o15 o16 o17 o18 o19 : Option Value} : XR sc d 108 520 [o0, o1, o2, o3, o4, o5, o6, o7, o8, o9, o10, o11, o12, o13, o14, o15, o16, o17, o18, o19] [] (T, z, xv V, J, R) = XR sc d 108 521 [o0, o1, o2, o3, o4, o5, o6, o7, o8, o9, o10, o11, o12, o13, o14, o15, o16, o17, o18, o19] [xw 0] (T, z, xv V, J, R) :=
  sw_iconst f_108_520
theorem bL_isRidden_521 {o0 o1 o2 o3 o4 o5 o6 o7 o8 o9 o10 o11 o12 o13 o14 o16 o17 o19 : Option Value} {y0 x15 x18 : Int} (g1 : -2147483648 ≤ x18 ∧ x18 ≤ 2147483647) : XR sc d 108 521 [o0, o1, o2, o3, o4, o5, o6, o7, o8, o9, o10, o11, o12, o13, o14, some (xw x15), o16, o17, some (xw x18), o19] [xw y0] (T, z, xv V, J, R) = if x18 ≤ 40 then XR sc d 108 536 [o0, o1, o2, o3, o4, o5, o6, o7, o8, o9, o10, o11, o12, o13, o14, some (xw x15), o16, o17, some (xw x18), some (xw y0)] [xw x15] (T, z, xv V, J, R) else XR sc d 108 532 [o0, o1, o2, o3, o4, o5, o6, o7, o8, o9, o10, o11, o12, o13, o14, some (xw x15), o16, o17, some (xw x18), some (xw y0)] [xw x15] (T, z, xv V, J, R) :=
  (sw_istore (L' := [o0, o1, o2, o3, o4, o5, o6, o7, o8, o9, o10, o11, o12, o13, o14, some (xw x15), o16, o17, some (xw x18), some (xw y0)]) f_108_521 (Nat.le_of_ble_eq_true rfl) rfl).trans ((sw_iload f_108_523 rfl).trans ((sw_iload f_108_525 rfl).trans ((sw_bipush f_108_527 c8_40).trans (sw_icmp_le (t := 536) f_108_529 ⟨by decide, rfl⟩ g1 ⟨by decide, by decide⟩))))
theorem bL_isRidden_532 {o0 o1 o2 o3 o4 o5 o6 o7 o8 o9 o10 o11 o12 o13 o14 o15 o16 o17 o18 o19 : Option Value} {s0 : Value} : XR sc d 108 532 [o0, o1, o2, o3, o4, o5, o6, o7, o8, o9, o10, o11, o12, o13, o14, o15, o16, o17, o18, o19] [s0] (T, z, xv V, J, R) = XR sc d 108 537 [o0, o1, o2, o3, o4, o5, o6, o7, o8, o9, o10, o11, o12, o13, o14, o15, o16, o17, o18, o19] [xw 1, s0] (T, z, xv V, J, R) :=
  (sw_iconst f_108_532).trans (st_goto (t := 537) f_108_533 ⟨by decide, rfl⟩)
theorem bL_isRidden_536 {o0 o1 o2 o3 o4 o5 o6 o7 o8 o9 o10 o11 o12 o13 o14 o15 o16 o17 o18 o19 : Option Value} {s0 : Value} : XR sc d 108 536 [o0, o1, o2, o3, o4, o5, o6, o7, o8, o9, o10, o11, o12, o13, o14, o15, o16, o17, o18, o19] [s0] (T, z, xv V, J, R) = XR sc d 108 537 [o0, o1, o2, o3, o4, o5, o6, o7, o8, o9, o10, o11, o12, o13, o14, o15, o16, o17, o18, o19] [xw 0, s0] (T, z, xv V, J, R) :=
  sw_iconst f_108_536
theorem bL_isRidden_537 {o0 o3 o4 o5 o6 o8 o10 o12 o13 o14 o15 o16 o18 : Option Value} {y0 y1 x7 x17 x19 x9 x11 : Int} {a1 a2 : Nat} (g1 : T a1 = (32, (T a1).2)) (g2 : (0 : Int) ≤ ((42 + (7 * x7)) + x17) ∧ ((42 + (7 * x7)) + x17) < ((T a1).2 : Int) ∧ (T a1).2 ≤ 3584) (g3 : T a2 = (32, (T a2).2)) (g4 : (0 : Int) ≤ (((14 * x7) + (2 * x17)) + x9) ∧ (((14 * x7) + (2 * x17)) + x9) < ((T a2).2 : Int) ∧ (T a2).2 ≤ 3584) (g5 : (0 : Int) ≤ ((((28 + (14 * x7)) + (2 * x17)) + x11) - 1) ∧ ((((28 + (14 * x7)) + (2 * x17)) + x11) - 1) < ((T a2).2 : Int) ∧ (T a2).2 ≤ 3584) : XR sc d 108 537 [o0, some (.ref a1), some (.ref a2), o3, o4, o5, o6, some (xw x7), o8, some (xw x9), o10, some (xw x11), o12, o13, o14, o15, o16, some (xw x17), o18, some (xw x19)] [xw y0, xw y1] (T, z, xv V, J, R) = XR sc d 108 481 [o0, some (.ref a1), some (.ref a2), o3, o4, o5, o6, some (xw x7), o8, some (xw x9), o10, some (xw x11), o12, o13, o14, some (xw (y1 + y0)), o16, some (xw (x17 + 1)), o18, some (xw x19)] [] (T, z, xv (xup2 (xup2 (xup2 V a1 ((42 + (7 * x7)) + x17).toNat ((V a1 ((42 + (7 * x7)) + x17).toNat) + x19)) a2 (((14 * x7) + (2 * x17)) + x9).toNat (((xup2 V a1 ((42 + (7 * x7)) + x17).toNat ((V a1 ((42 + (7 * x7)) + x17).toNat) + x19)) a2 (((14 * x7) + (2 * x17)) + x9).toNat) + x19)) a2 ((((28 + (14 * x7)) + (2 * x17)) + x11) - 1).toNat (((xup2 (xup2 V a1 ((42 + (7 * x7)) + x17).toNat ((V a1 ((42 + (7 * x7)) + x17).toNat) + x19)) a2 (((14 * x7) + (2 * x17)) + x9).toNat (((xup2 V a1 ((42 + (7 * x7)) + x17).toNat ((V a1 ((42 + (7 * x7)) + x17).toNat) + x19)) a2 (((14 * x7) + (2 * x17)) + x9).toNat) + x19)) a2 ((((28 + (14 * x7)) + (2 * x17)) + x11) - 1).toNat) + x19)), J, R) :=
  (sw_iadd f_108_537).trans ((sw_istore (L' := [o0, some (.ref a1), some (.ref a2), o3, o4, o5, o6, some (xw x7), o8, some (xw x9), o10, some (xw x11), o12, o13, o14, some (xw (y1 + y0)), o16, some (xw x17), o18, some (xw x19)]) f_108_538 (Nat.le_of_ble_eq_true rfl) rfl).trans ((st_aload_n f_108_540 rfl).trans ((sw_bipush f_108_541 c8_42).trans ((sw_bipush f_108_543 c8_7).trans ((sw_iload f_108_545 rfl).trans ((sw_imul f_108_547).trans ((sw_iadd f_108_548).trans ((sw_iload f_108_549 rfl).trans ((sw_iadd f_108_551).trans ((st_dup2 f_108_552 rfl rfl).trans ((sw_iaload f_108_553 g1 g2).trans ((sw_iload f_108_554 rfl).trans ((sw_iadd f_108_556).trans ((sw_iastore f_108_557 g1 g2).trans ((st_aload_n f_108_558 rfl).trans ((sw_bipush f_108_559 c8_14).trans ((sw_iload f_108_561 rfl).trans ((sw_imul f_108_563).trans ((sw_iconst f_108_564).trans ((sw_iload f_108_565 rfl).trans ((sw_imul f_108_567).trans ((sw_iadd f_108_568).trans ((sw_iload f_108_569 rfl).trans ((sw_iadd f_108_571).trans ((st_dup2 f_108_572 rfl rfl).trans ((sw_iaload f_108_573 g3 g4).trans ((sw_iload f_108_574 rfl).trans ((sw_iadd f_108_576).trans ((sw_iastore f_108_577 g3 g4).trans ((st_aload_n f_108_578 rfl).trans ((sw_bipush f_108_579 c8_28).trans ((sw_bipush f_108_581 c8_14).trans ((sw_iload f_108_583 rfl).trans ((sw_imul f_108_585).trans ((sw_iadd f_108_586).trans ((sw_iconst f_108_587).trans ((sw_iload f_108_588 rfl).trans ((sw_imul f_108_590).trans ((sw_iadd f_108_591).trans ((sw_iload f_108_592 rfl).trans ((sw_iadd f_108_594).trans ((sw_iconst f_108_595).trans ((sw_isub f_108_596).trans ((st_dup2 f_108_597 rfl rfl).trans ((sw_iaload f_108_598 g3 g5).trans ((sw_iload f_108_599 rfl).trans ((sw_iadd f_108_601).trans ((sw_iastore f_108_602 g3 g5).trans ((sw_iinc (L' := [o0, some (.ref a1), some (.ref a2), o3, o4, o5, o6, some (xw x7), o8, some (xw x9), o10, some (xw x11), o12, o13, o14, some (xw (y1 + y0)), o16, some (xw (x17 + 1)), o18, some (xw x19)]) f_108_603 rfl (Nat.le_of_ble_eq_true rfl) rfl).trans (st_goto (t := 481) f_108_606 ⟨by decide, rfl⟩))))))))))))))))))))))))))))))))))))))))))))))))))
theorem bL_isRidden_609 {o0 o1 o2 o3 o4 o5 o6 o7 o8 o9 o10 o11 o12 o13 o14 o15 o16 o17 o18 o19 : Option Value} : XR sc d 108 609 [o0, o1, o2, o3, o4, o5, o6, o7, o8, o9, o10, o11, o12, o13, o14, o15, o16, o17, o18, o19] [] (T, z, xv V, J, R) = XR sc d 108 612 [o0, o1, o2, o3, o4, o5, o6, o7, o8, o9, o10, o11, o12, o13, o14, o15, o16, some (xw 0), o18, o19] [] (T, z, xv V, J, R) :=
  (sw_iconst f_108_609).trans (sw_istore (L' := [o0, o1, o2, o3, o4, o5, o6, o7, o8, o9, o10, o11, o12, o13, o14, o15, o16, some (xw 0), o18, o19]) f_108_610 (Nat.le_of_ble_eq_true rfl) rfl)
theorem bL_isRidden_612 {o0 o1 o2 o3 o4 o5 o6 o7 o8 o9 o10 o11 o12 o13 o14 o15 o16 o18 o19 : Option Value} {x17 : Int} (g1 : -2147483648 ≤ x17 ∧ x17 ≤ 2147483647) : XR sc d 108 612 [o0, o1, o2, o3, o4, o5, o6, o7, o8, o9, o10, o11, o12, o13, o14, o15, o16, some (xw x17), o18, o19] [] (T, z, xv V, J, R) = if 7 ≤ x17 then XR sc d 108 683 [o0, o1, o2, o3, o4, o5, o6, o7, o8, o9, o10, o11, o12, o13, o14, o15, o16, some (xw x17), o18, o19] [] (T, z, xv V, J, R) else XR sc d 108 619 [o0, o1, o2, o3, o4, o5, o6, o7, o8, o9, o10, o11, o12, o13, o14, o15, o16, some (xw x17), o18, o19] [] (T, z, xv V, J, R) :=
  (sw_iload f_108_612 rfl).trans ((sw_bipush f_108_614 c8_7).trans (sw_icmp_ge (t := 683) f_108_616 ⟨by decide, rfl⟩ g1 ⟨by decide, by decide⟩))
theorem bL_isRidden_619 {o0 o2 o3 o4 o5 o6 o8 o10 o11 o12 o13 o14 o15 o18 o19 : Option Value} {x7 x9 x16 x17 : Int} {a1 : Nat} : XR sc d 108 619 [o0, some (.ref a1), o2, o3, o4, o5, o6, some (xw x7), o8, some (xw x9), o10, o11, o12, o13, o14, o15, some (xw x16), some (xw x17), o18, o19] [] (T, z, xv V, J, R) = xret 108 (XR sc d 108) 628 631 [o0, some (.ref a1), o2, o3, o4, o5, o6, some (xw x7), o8, some (xw x9), o10, o11, o12, o13, o14, o15, some (xw x16), some (xw x17), o18, o19] [] (X sc d 101 [.ref a1, xw x7, xw x9, xw x16, xw x17] (T, z, xv V, J, R)) :=
  (st_aload_n f_108_619 rfl).trans ((sw_iload f_108_620 rfl).trans ((sw_iload f_108_622 rfl).trans ((sw_iload f_108_624 rfl).trans ((sw_iload f_108_626 rfl).trans (st_callS' f_108_628 h_108_132 mn_101 rfl rfl rfl rfl)))))
theorem bL_isRidden_631 {o0 o2 o3 o4 o5 o6 o7 o8 o10 o11 o12 o13 o14 o15 o16 o18 o19 : Option Value} {y0 x9 x17 : Int} {a1 : Nat} (g1 : T a1 = (32, (T a1).2)) (g2 : (0 : Int) ≤ ((28 + (7 * x9)) + x17) ∧ ((28 + (7 * x9)) + x17) < ((T a1).2 : Int) ∧ (T a1).2 ≤ 3584) (g3 : -2147483648 ≤ y0 ∧ y0 ≤ 2147483647) : XR sc d 108 631 [o0, some (.ref a1), o2, o3, o4, o5, o6, o7, o8, some (xw x9), o10, o11, o12, o13, o14, o15, o16, some (xw x17), o18, o19] [xw y0] (T, z, xv V, J, R) = if y0 ≤ 20 then XR sc d 108 674 [o0, some (.ref a1), o2, o3, o4, o5, o6, o7, o8, some (xw x9), o10, o11, o12, o13, o14, o15, o16, some (xw x17), some (xw y0), o19] [xw (V a1 ((28 + (7 * x9)) + x17).toNat), xw ((28 + (7 * x9)) + x17), .ref a1] (T, z, xv V, J, R) else XR sc d 108 654 [o0, some (.ref a1), o2, o3, o4, o5, o6, o7, o8, some (xw x9), o10, o11, o12, o13, o14, o15, o16, some (xw x17), some (xw y0), o19] [xw (V a1 ((28 + (7 * x9)) + x17).toNat), xw ((28 + (7 * x9)) + x17), .ref a1] (T, z, xv V, J, R) :=
  (sw_istore (L' := [o0, some (.ref a1), o2, o3, o4, o5, o6, o7, o8, some (xw x9), o10, o11, o12, o13, o14, o15, o16, some (xw x17), some (xw y0), o19]) f_108_631 (Nat.le_of_ble_eq_true rfl) rfl).trans ((st_aload_n f_108_633 rfl).trans ((sw_bipush f_108_634 c8_28).trans ((sw_bipush f_108_636 c8_7).trans ((sw_iload f_108_638 rfl).trans ((sw_imul f_108_640).trans ((sw_iadd f_108_641).trans ((sw_iload f_108_642 rfl).trans ((sw_iadd f_108_644).trans ((st_dup2 f_108_645 rfl rfl).trans ((sw_iaload f_108_646 g1 g2).trans ((sw_iload f_108_647 rfl).trans ((sw_bipush f_108_649 c8_20).trans (sw_icmp_le (t := 674) f_108_651 ⟨by decide, rfl⟩ g3 ⟨by decide, by decide⟩)))))))))))))
theorem bL_isRidden_654 {o0 o2 o3 o4 o5 o6 o7 o8 o10 o11 o12 o13 o14 o15 o16 o18 o19 : Option Value} {s0 s1 s2 : Value} {x9 x17 : Int} {a1 : Nat} (g1 : T a1 = (32, (T a1).2)) (g2 : (0 : Int) ≤ ((28 + (7 * x9)) + x17) ∧ ((28 + (7 * x9)) + x17) < ((T a1).2 : Int) ∧ (T a1).2 ≤ 3584) (g3 : -2147483648 ≤ (V a1 ((28 + (7 * x9)) + x17).toNat) ∧ (V a1 ((28 + (7 * x9)) + x17).toNat) ≤ 2147483647) : XR sc d 108 654 [o0, some (.ref a1), o2, o3, o4, o5, o6, o7, o8, some (xw x9), o10, o11, o12, o13, o14, o15, o16, some (xw x17), o18, o19] [s0, s1, s2] (T, z, xv V, J, R) = if (V a1 ((28 + (7 * x9)) + x17).toNat) ≤ 0 then XR sc d 108 674 [o0, some (.ref a1), o2, o3, o4, o5, o6, o7, o8, some (xw x9), o10, o11, o12, o13, o14, o15, o16, some (xw x17), o18, o19] [s0, s1, s2] (T, z, xv V, J, R) else XR sc d 108 670 [o0, some (.ref a1), o2, o3, o4, o5, o6, o7, o8, some (xw x9), o10, o11, o12, o13, o14, o15, o16, some (xw x17), o18, o19] [s0, s1, s2] (T, z, xv V, J, R) :=
  (st_aload_n f_108_654 rfl).trans ((sw_bipush f_108_655 c8_28).trans ((sw_bipush f_108_657 c8_7).trans ((sw_iload f_108_659 rfl).trans ((sw_imul f_108_661).trans ((sw_iadd f_108_662).trans ((sw_iload f_108_663 rfl).trans ((sw_iadd f_108_665).trans ((sw_iaload f_108_666 g1 g2).trans (sw_if_le (t := 674) f_108_667 ⟨by decide, rfl⟩ g3)))))))))
theorem bL_isRidden_670 {o0 o1 o2 o3 o4 o5 o6 o7 o8 o9 o10 o11 o12 o13 o14 o15 o16 o17 o18 o19 : Option Value} {s0 s1 s2 : Value} : XR sc d 108 670 [o0, o1, o2, o3, o4, o5, o6, o7, o8, o9, o10, o11, o12, o13, o14, o15, o16, o17, o18, o19] [s0, s1, s2] (T, z, xv V, J, R) = XR sc d 108 675 [o0, o1, o2, o3, o4, o5, o6, o7, o8, o9, o10, o11, o12, o13, o14, o15, o16, o17, o18, o19] [xw 1, s0, s1, s2] (T, z, xv V, J, R) :=
  (sw_iconst f_108_670).trans (st_goto (t := 675) f_108_671 ⟨by decide, rfl⟩)
theorem bL_isRidden_674 {o0 o1 o2 o3 o4 o5 o6 o7 o8 o9 o10 o11 o12 o13 o14 o15 o16 o17 o18 o19 : Option Value} {s0 s1 s2 : Value} : XR sc d 108 674 [o0, o1, o2, o3, o4, o5, o6, o7, o8, o9, o10, o11, o12, o13, o14, o15, o16, o17, o18, o19] [s0, s1, s2] (T, z, xv V, J, R) = XR sc d 108 675 [o0, o1, o2, o3, o4, o5, o6, o7, o8, o9, o10, o11, o12, o13, o14, o15, o16, o17, o18, o19] [xw 0, s0, s1, s2] (T, z, xv V, J, R) :=
  sw_iconst f_108_674
theorem bL_isRidden_675 {o0 o1 o2 o3 o4 o5 o6 o7 o8 o9 o10 o11 o12 o13 o14 o15 o16 o18 o19 : Option Value} {y0 y1 y2 x17 : Int} {b3 : Nat} (g1 : T b3 = (32, (T b3).2)) (g2 : (0 : Int) ≤ y2 ∧ y2 < ((T b3).2 : Int) ∧ (T b3).2 ≤ 3584) : XR sc d 108 675 [o0, o1, o2, o3, o4, o5, o6, o7, o8, o9, o10, o11, o12, o13, o14, o15, o16, some (xw x17), o18, o19] [xw y0, xw y1, xw y2, .ref b3] (T, z, xv V, J, R) = XR sc d 108 612 [o0, o1, o2, o3, o4, o5, o6, o7, o8, o9, o10, o11, o12, o13, o14, o15, o16, some (xw (x17 + 1)), o18, o19] [] (T, z, xv (xup2 V b3 y2.toNat (y1 - y0)), J, R) :=
  (sw_isub f_108_675).trans ((sw_iastore f_108_676 g1 g2).trans ((sw_iinc (L' := [o0, o1, o2, o3, o4, o5, o6, o7, o8, o9, o10, o11, o12, o13, o14, o15, o16, some (xw (x17 + 1)), o18, o19]) f_108_677 rfl (Nat.le_of_ble_eq_true rfl) rfl).trans (st_goto (t := 612) f_108_680 ⟨by decide, rfl⟩)))
theorem bL_isRidden_683 {o0 o1 o2 o4 o5 o6 o7 o8 o9 o10 o11 o12 o13 o14 o15 o16 o17 o18 o19 : Option Value} {a3 : Nat} (g1 : T a3 = (32, (T a3).2)) (g2 : (0 : Int) ≤ 2 ∧ 2 < ((T a3).2 : Int) ∧ (T a3).2 ≤ 3584) : XR sc d 108 683 [o0, o1, o2, some (.ref a3), o4, o5, o6, o7, o8, o9, o10, o11, o12, o13, o14, o15, o16, o17, o18, o19] [] (T, z, xv V, J, R) = XR sc d 108 690 [o0, o1, o2, some (.ref a3), o4, o5, o6, o7, o8, o9, o10, o11, o12, o13, o14, o15, o16, o17, o18, o19] [] (T, z, xv (xup2 V a3 2 ((V a3 2) + 1)), J, R) :=
  (st_aload_n f_108_683 rfl).trans ((sw_iconst f_108_684).trans ((st_dup2 f_108_685 rfl rfl).trans ((sw_iaload f_108_686 g1 g2).trans ((sw_iconst f_108_687).trans ((sw_iadd f_108_688).trans (sw_iastore f_108_689 g1 g2))))))
theorem bL_isRidden_690 {o1 o2 o3 o4 o5 o6 o8 o13 o14 o15 o16 o17 o18 o19 : Option Value} {x7 x9 x10 x11 x12 : Int} {a0 : Nat} : XR sc d 108 690 [some (.ref a0), o1, o2, o3, o4, o5, o6, some (xw x7), o8, some (xw x9), some (xw x10), some (xw x11), some (xw x12), o13, o14, o15, o16, o17, o18, o19] [] (T, z, xv V, J, R) = xret 108 (XR sc d 108) 704 707 [some (.ref a0), o1, o2, o3, o4, o5, o6, some (xw x7), o8, some (xw x9), some (xw x10), some (xw x11), some (xw x12), o13, o14, o15, o16, o17, o18, o19] [] (X sc d 92 [.ref a0, xw 15, xw x7, xw x9, xw 2, xw x10, xw x11, xw x12] (T, z, xv V, J, R)) :=
  (st_aload_n f_108_690 rfl).trans ((sw_bipush f_108_691 c8_15).trans ((sw_iload f_108_693 rfl).trans ((sw_iload f_108_695 rfl).trans ((sw_iconst f_108_697).trans ((sw_iload f_108_698 rfl).trans ((sw_iload f_108_700 rfl).trans ((sw_iload f_108_702 rfl).trans (st_callS' f_108_704 h_108_124 mn_92 rfl rfl rfl rfl))))))))
theorem bL_isRidden_707 {o0 o1 o2 o3 o4 o5 o6 o8 o9 o10 o11 o12 o13 o14 o15 o16 o17 o18 o19 : Option Value} {s0 : Value} {x7 : Int} (g1 : -2147483648 ≤ x7 ∧ x7 ≤ 2147483647) : XR sc d 108 707 [o0, o1, o2, o3, o4, o5, o6, some (xw x7), o8, o9, o10, o11, o12, o13, o14, o15, o16, o17, o18, o19] [s0] (T, z, xv V, J, R) = if x7 = 6 then XR sc d 108 714 [o0, o1, o2, o3, o4, o5, o6, some (xw x7), o8, o9, o10, o11, o12, o13, o14, o15, o16, o17, o18, o19] [s0] (T, z, xv V, J, R) else XR sc d 108 719 [o0, o1, o2, o3, o4, o5, o6, some (xw x7), o8, o9, o10, o11, o12, o13, o14, o15, o16, o17, o18, o19] [s0] (T, z, xv V, J, R) :=
  (sw_iload f_108_707 rfl).trans ((sw_bipush f_108_709 c8_6).trans (sw_icmp_ne (t := 719) f_108_711 ⟨by decide, rfl⟩ g1 ⟨by decide, by decide⟩))
theorem bL_isRidden_714 {o0 o1 o2 o3 o4 o5 o6 o7 o8 o9 o10 o11 o12 o13 o14 o15 o16 o17 o18 o19 : Option Value} {s0 : Value} : XR sc d 108 714 [o0, o1, o2, o3, o4, o5, o6, o7, o8, o9, o10, o11, o12, o13, o14, o15, o16, o17, o18, o19] [s0] (T, z, xv V, J, R) = XR sc d 108 741 [o0, o1, o2, o3, o4, o5, o6, o7, o8, o9, o10, o11, o12, o13, o14, o15, o16, o17, o18, o19] [xw (-3000000), s0] (T, z, xv V, J, R) :=
  (sw_ldc (-3000000) f_108_714 k_108_79 rfl).trans (st_goto (t := 741) f_108_716 ⟨by decide, rfl⟩)
theorem bL_isRidden_719 {o0 o1 o2 o3 o4 o5 o6 o7 o8 o9 o10 o11 o12 o14 o15 o16 o17 o18 o19 : Option Value} {s0 : Value} {x13 : Int} (g1 : -2147483648 ≤ x13 ∧ x13 ≤ 2147483647) : XR sc d 108 719 [o0, o1, o2, o3, o4, o5, o6, o7, o8, o9, o10, o11, o12, some (xw x13), o14, o15, o16, o17, o18, o19] [s0] (T, z, xv V, J, R) = if x13 = 0 then XR sc d 108 724 [o0, o1, o2, o3, o4, o5, o6, o7, o8, o9, o10, o11, o12, some (xw x13), o14, o15, o16, o17, o18, o19] [s0] (T, z, xv V, J, R) else XR sc d 108 729 [o0, o1, o2, o3, o4, o5, o6, o7, o8, o9, o10, o11, o12, some (xw x13), o14, o15, o16, o17, o18, o19] [s0] (T, z, xv V, J, R) :=
  (sw_iload f_108_719 rfl).trans (sw_if_ne (t := 729) f_108_721 ⟨by decide, rfl⟩ g1)
theorem bL_isRidden_724 {o0 o1 o2 o3 o4 o5 o6 o7 o8 o9 o10 o11 o12 o13 o14 o15 o16 o17 o18 o19 : Option Value} {s0 : Value} : XR sc d 108 724 [o0, o1, o2, o3, o4, o5, o6, o7, o8, o9, o10, o11, o12, o13, o14, o15, o16, o17, o18, o19] [s0] (T, z, xv V, J, R) = XR sc d 108 741 [o0, o1, o2, o3, o4, o5, o6, o7, o8, o9, o10, o11, o12, o13, o14, o15, o16, o17, o18, o19] [xw (-2000000), s0] (T, z, xv V, J, R) :=
  (sw_ldc (-2000000) f_108_724 k_108_82 rfl).trans (st_goto (t := 741) f_108_726 ⟨by decide, rfl⟩)
theorem bL_isRidden_729 {o0 o1 o2 o3 o4 o5 o6 o7 o8 o9 o10 o11 o12 o13 o15 o16 o17 o18 o19 : Option Value} {s0 : Value} {x14 : Int} (g1 : -2147483648 ≤ x14 ∧ x14 ≤ 2147483647) : XR sc d 108 729 [o0, o1, o2, o3, o4, o5, o6, o7, o8, o9, o10, o11, o12, o13, some (xw x14), o15, o16, o17, o18, o19] [s0] (T, z, xv V, J, R) = if x14 = 0 then XR sc d 108 739 [o0, o1, o2, o3, o4, o5, o6, o7, o8, o9, o10, o11, o12, o13, some (xw x14), o15, o16, o17, o18, o19] [s0] (T, z, xv V, J, R) else XR sc d 108 734 [o0, o1, o2, o3, o4, o5, o6, o7, o8, o9, o10, o11, o12, o13, some (xw x14), o15, o16, o17, o18, o19] [s0] (T, z, xv V, J, R) :=
  (sw_iload f_108_729 rfl).trans (sw_if_eq (t := 739) f_108_731 ⟨by decide, rfl⟩ g1)
theorem bL_isRidden_734 {o0 o1 o2 o3 o4 o5 o6 o7 o8 o9 o10 o11 o12 o13 o14 o16 o17 o18 o19 : Option Value} {s0 : Value} {x15 : Int} : XR sc d 108 734 [o0, o1, o2, o3, o4, o5, o6, o7, o8, o9, o10, o11, o12, o13, o14, some (xw x15), o16, o17, o18, o19] [s0] (T, z, xv V, J, R) = XR sc d 108 741 [o0, o1, o2, o3, o4, o5, o6, o7, o8, o9, o10, o11, o12, o13, o14, some (xw x15), o16, o17, o18, o19] [xw x15, s0] (T, z, xv V, J, R) :=
  (sw_iload f_108_734 rfl).trans (st_goto (t := 741) f_108_736 ⟨by decide, rfl⟩)
theorem bL_isRidden_739 {o0 o1 o2 o3 o4 o5 o6 o7 o8 o9 o10 o11 o12 o13 o14 o15 o16 o17 o18 o19 : Option Value} {s0 : Value} : XR sc d 108 739 [o0, o1, o2, o3, o4, o5, o6, o7, o8, o9, o10, o11, o12, o13, o14, o15, o16, o17, o18, o19] [s0] (T, z, xv V, J, R) = XR sc d 108 741 [o0, o1, o2, o3, o4, o5, o6, o7, o8, o9, o10, o11, o12, o13, o14, o15, o16, o17, o18, o19] [xw (-1000000), s0] (T, z, xv V, J, R) :=
  sw_ldc (-1000000) f_108_739 k_108_85 rfl
theorem bL_isRidden_741 {o0 o1 o2 o3 o4 o5 o6 o7 o8 o9 o10 o11 o12 o13 o14 o15 o16 o17 o18 o19 : Option Value} {y0 y1 : Int} (g1 : -2147483648 ≤ y1 ∧ y1 ≤ 2147483647) (g2 : -2147483648 ≤ y0 ∧ y0 ≤ 2147483647) : XR sc d 108 741 [o0, o1, o2, o3, o4, o5, o6, o7, o8, o9, o10, o11, o12, o13, o14, o15, o16, o17, o18, o19] [xw y0, xw y1] (T, z, xv V, J, R) = if y1 = y0 then XR sc d 108 744 [o0, o1, o2, o3, o4, o5, o6, o7, o8, o9, o10, o11, o12, o13, o14, o15, o16, o17, o18, o19] [] (T, z, xv V, J, R) else XR sc d 108 748 [o0, o1, o2, o3, o4, o5, o6, o7, o8, o9, o10, o11, o12, o13, o14, o15, o16, o17, o18, o19] [] (T, z, xv V, J, R) :=
  sw_icmp_ne (t := 748) f_108_741 ⟨by decide, rfl⟩ g1 g2
theorem bL_isRidden_744 {o0 o1 o2 o3 o4 o5 o6 o7 o8 o9 o10 o11 o12 o13 o14 o15 o16 o17 o18 o19 : Option Value} : XR sc d 108 744 [o0, o1, o2, o3, o4, o5, o6, o7, o8, o9, o10, o11, o12, o13, o14, o15, o16, o17, o18, o19] [] (T, z, xv V, J, R) = XR sc d 108 749 [o0, o1, o2, o3, o4, o5, o6, o7, o8, o9, o10, o11, o12, o13, o14, o15, o16, o17, o18, o19] [xw 1] (T, z, xv V, J, R) :=
  (sw_iconst f_108_744).trans (st_goto (t := 749) f_108_745 ⟨by decide, rfl⟩)
theorem bL_isRidden_748 {o0 o1 o2 o3 o4 o5 o6 o7 o8 o9 o10 o11 o12 o13 o14 o15 o16 o17 o18 o19 : Option Value} : XR sc d 108 748 [o0, o1, o2, o3, o4, o5, o6, o7, o8, o9, o10, o11, o12, o13, o14, o15, o16, o17, o18, o19] [] (T, z, xv V, J, R) = XR sc d 108 749 [o0, o1, o2, o3, o4, o5, o6, o7, o8, o9, o10, o11, o12, o13, o14, o15, o16, o17, o18, o19] [xw 0] (T, z, xv V, J, R) :=
  sw_iconst f_108_748
theorem bL_isRidden_749 {o0 o1 o2 o3 o4 o5 o6 o7 o8 o9 o10 o11 o12 o13 o14 o15 o16 o17 o18 o19 : Option Value} {y0 : Int} (g1 : y0 = 0 ∨ y0 = 1) : XR sc d 108 749 [o0, o1, o2, o3, o4, o5, o6, o7, o8, o9, o10, o11, o12, o13, o14, o15, o16, o17, o18, o19] [xw y0] (T, z, xv V, J, R) = some (.inl (some (xw y0)), (T, z, xv V, J, R)) :=
  sw_zreturn f_108_749 mr_108 g1
theorem bL_isRidden_750 {o0 o1 o2 o3 o4 o6 o7 o8 o9 o10 o11 o12 o13 o14 o15 o16 o17 o18 o19 : Option Value} {x5 : Int} (g1 : 0 ≤ x5 ∧ x5 ≤ 2147483647) (g2 : -2147483648 ≤ (x5 % 9) ∧ (x5 % 9) ≤ 2147483647) : XR sc d 108 750 [o0, o1, o2, o3, o4, some (xw x5), o6, o7, o8, o9, o10, o11, o12, o13, o14, o15, o16, o17, o18, o19] [] (T, z, xv V, J, R) = if (x5 % 9) = 0 then XR sc d 108 758 [o0, o1, o2, o3, o4, some (xw x5), o6, o7, o8, o9, o10, o11, o12, o13, o14, o15, o16, o17, o18, o19] [] (T, z, xv V, J, R) else XR sc d 108 768 [o0, o1, o2, o3, o4, some (xw x5), o6, o7, o8, o9, o10, o11, o12, o13, o14, o15, o16, o17, o18, o19] [] (T, z, xv V, J, R) :=
  (sw_iload f_108_750 rfl).trans ((sw_bipush f_108_752 c8_9).trans ((sw_irem f_108_754 ⟨by decide, by decide, g1⟩).trans (sw_if_ne (t := 768) f_108_755 ⟨by decide, rfl⟩ g2)))
theorem bL_isRidden_758 {o0 o1 o2 o3 o4 o5 o7 o8 o9 o10 o11 o12 o13 o14 o15 o16 o17 o18 o19 : Option Value} {x6 : Int} (g1 : 0 ≤ x6 ∧ x6 ≤ 2147483647) : XR sc d 108 758 [o0, o1, o2, o3, o4, o5, some (xw x6), o7, o8, o9, o10, o11, o12, o13, o14, o15, o16, o17, o18, o19] [] (T, z, xv V, J, R) = XR sc d 108 775 [o0, o1, o2, o3, o4, o5, some (xw x6), o7, o8, o9, o10, o11, o12, o13, o14, o15, o16, o17, o18, o19] [xw ((x6 % 2) * 101)] (T, z, xv V, J, R) :=
  (sw_iload f_108_758 rfl).trans ((sw_iconst f_108_760).trans ((sw_irem f_108_761 ⟨by decide, by decide, g1⟩).trans ((sw_bipush f_108_762 c8_101).trans ((sw_imul f_108_764).trans (st_goto (t := 775) f_108_765 ⟨by decide, rfl⟩)))))
theorem bL_isRidden_768 {o0 o1 o2 o3 o4 o5 o7 o8 o9 o10 o11 o12 o13 o14 o15 o16 o17 o18 o19 : Option Value} {x6 : Int} (g1 : 0 ≤ x6 ∧ x6 ≤ 2147483647) : XR sc d 108 768 [o0, o1, o2, o3, o4, o5, some (xw x6), o7, o8, o9, o10, o11, o12, o13, o14, o15, o16, o17, o18, o19] [] (T, z, xv V, J, R) = XR sc d 108 775 [o0, o1, o2, o3, o4, o5, some (xw x6), o7, o8, o9, o10, o11, o12, o13, o14, o15, o16, o17, o18, o19] [xw (1 + (x6 % 30))] (T, z, xv V, J, R) :=
  (sw_iconst f_108_768).trans ((sw_iload f_108_769 rfl).trans ((sw_bipush f_108_771 c8_30).trans ((sw_irem f_108_773 ⟨by decide, by decide, g1⟩).trans (sw_iadd f_108_774))))
theorem bL_isRidden_775 {o0 o1 o2 o3 o4 o5 o6 o7 o8 o9 o10 o11 o12 o13 o14 o15 o16 o17 o18 o19 : Option Value} {y0 : Int} (g1 : -2147483648 ≤ y0 ∧ y0 ≤ 2147483647) : XR sc d 108 775 [o0, o1, o2, o3, o4, o5, o6, o7, o8, o9, o10, o11, o12, o13, o14, o15, o16, o17, o18, o19] [xw y0] (T, z, xv V, J, R) = if y0 ≤ 0 then XR sc d 108 793 [o0, o1, o2, o3, o4, o5, o6, o7, o8, some (xw y0), o10, o11, o12, o13, o14, o15, o16, o17, o18, o19] [] (T, z, xv V, J, R) else XR sc d 108 782 [o0, o1, o2, o3, o4, o5, o6, o7, o8, some (xw y0), o10, o11, o12, o13, o14, o15, o16, o17, o18, o19] [] (T, z, xv V, J, R) :=
  (sw_istore (L' := [o0, o1, o2, o3, o4, o5, o6, o7, o8, some (xw y0), o10, o11, o12, o13, o14, o15, o16, o17, o18, o19]) f_108_775 (Nat.le_of_ble_eq_true rfl) rfl).trans ((sw_iload f_108_777 rfl).trans (sw_if_le (t := 793) f_108_779 ⟨by decide, rfl⟩ g1))
theorem bL_isRidden_782 {o0 o1 o2 o3 o4 o5 o6 o7 o8 o10 o11 o12 o13 o14 o15 o16 o17 o18 o19 : Option Value} {x9 : Int} (g1 : -2147483648 ≤ x9 ∧ x9 ≤ 2147483647) : XR sc d 108 782 [o0, o1, o2, o3, o4, o5, o6, o7, o8, some (xw x9), o10, o11, o12, o13, o14, o15, o16, o17, o18, o19] [] (T, z, xv V, J, R) = if 101 ≤ x9 then XR sc d 108 793 [o0, o1, o2, o3, o4, o5, o6, o7, o8, some (xw x9), o10, o11, o12, o13, o14, o15, o16, o17, o18, o19] [] (T, z, xv V, J, R) else XR sc d 108 789 [o0, o1, o2, o3, o4, o5, o6, o7, o8, some (xw x9), o10, o11, o12, o13, o14, o15, o16, o17, o18, o19] [] (T, z, xv V, J, R) :=
  (sw_iload f_108_782 rfl).trans ((sw_bipush f_108_784 c8_101).trans (sw_icmp_ge (t := 793) f_108_786 ⟨by decide, rfl⟩ g1 ⟨by decide, by decide⟩))
theorem bL_isRidden_789 {o0 o1 o2 o3 o4 o5 o6 o7 o8 o9 o10 o11 o12 o13 o14 o15 o16 o17 o18 o19 : Option Value} : XR sc d 108 789 [o0, o1, o2, o3, o4, o5, o6, o7, o8, o9, o10, o11, o12, o13, o14, o15, o16, o17, o18, o19] [] (T, z, xv V, J, R) = XR sc d 108 794 [o0, o1, o2, o3, o4, o5, o6, o7, o8, o9, o10, o11, o12, o13, o14, o15, o16, o17, o18, o19] [xw 1] (T, z, xv V, J, R) :=
  (sw_iconst f_108_789).trans (st_goto (t := 794) f_108_790 ⟨by decide, rfl⟩)
theorem bL_isRidden_793 {o0 o1 o2 o3 o4 o5 o6 o7 o8 o9 o10 o11 o12 o13 o14 o15 o16 o17 o18 o19 : Option Value} : XR sc d 108 793 [o0, o1, o2, o3, o4, o5, o6, o7, o8, o9, o10, o11, o12, o13, o14, o15, o16, o17, o18, o19] [] (T, z, xv V, J, R) = XR sc d 108 794 [o0, o1, o2, o3, o4, o5, o6, o7, o8, o9, o10, o11, o12, o13, o14, o15, o16, o17, o18, o19] [xw 0] (T, z, xv V, J, R) :=
  sw_iconst f_108_793
theorem bL_isRidden_794 {o0 o1 o2 o3 o4 o5 o6 o7 o8 o9 o10 o11 o12 o13 o14 o15 o16 o17 o18 o19 : Option Value} {y0 : Int} : XR sc d 108 794 [o0, o1, o2, o3, o4, o5, o6, o7, o8, o9, o10, o11, o12, o13, o14, o15, o16, o17, o18, o19] [xw y0] (T, z, xv V, J, R) = XR sc d 108 800 [o0, o1, o2, o3, o4, o5, o6, o7, o8, o9, some (xw y0), some (xw 42), o12, o13, o14, o15, o16, o17, o18, o19] [] (T, z, xv V, J, R) :=
  (sw_istore (L' := [o0, o1, o2, o3, o4, o5, o6, o7, o8, o9, some (xw y0), o11, o12, o13, o14, o15, o16, o17, o18, o19]) f_108_794 (Nat.le_of_ble_eq_true rfl) rfl).trans ((sw_bipush f_108_796 c8_42).trans (sw_istore (L' := [o0, o1, o2, o3, o4, o5, o6, o7, o8, o9, some (xw y0), some (xw 42), o12, o13, o14, o15, o16, o17, o18, o19]) f_108_798 (Nat.le_of_ble_eq_true rfl) rfl))
theorem bL_isRidden_800 {o0 o1 o2 o3 o4 o5 o6 o7 o8 o9 o10 o12 o13 o14 o15 o16 o17 o18 o19 : Option Value} {x11 : Int} (g1 : -2147483648 ≤ x11 ∧ x11 ≤ 2147483647) : XR sc d 108 800 [o0, o1, o2, o3, o4, o5, o6, o7, o8, o9, o10, some (xw x11), o12, o13, o14, o15, o16, o17, o18, o19] [] (T, z, xv V, J, R) = if 56 ≤ x11 then XR sc d 108 859 [o0, o1, o2, o3, o4, o5, o6, o7, o8, o9, o10, some (xw x11), o12, o13, o14, o15, o16, o17, o18, o19] [] (T, z, xv V, J, R) else XR sc d 108 807 [o0, o1, o2, o3, o4, o5, o6, o7, o8, o9, o10, some (xw x11), o12, o13, o14, o15, o16, o17, o18, o19] [] (T, z, xv V, J, R) :=
  (sw_iload f_108_800 rfl).trans ((sw_bipush f_108_802 c8_56).trans (sw_icmp_ge (t := 859) f_108_804 ⟨by decide, rfl⟩ g1 ⟨by decide, by decide⟩))
theorem bL_isRidden_807 {o0 o1 o2 o3 o4 o5 o6 o7 o8 o9 o11 o12 o13 o14 o15 o16 o17 o18 o19 : Option Value} {x10 : Int} (g1 : -2147483648 ≤ x10 ∧ x10 ≤ 2147483647) : XR sc d 108 807 [o0, o1, o2, o3, o4, o5, o6, o7, o8, o9, some (xw x10), o11, o12, o13, o14, o15, o16, o17, o18, o19] [] (T, z, xv V, J, R) = if x10 = 0 then XR sc d 108 859 [o0, o1, o2, o3, o4, o5, o6, o7, o8, o9, some (xw x10), o11, o12, o13, o14, o15, o16, o17, o18, o19] [] (T, z, xv V, J, R) else XR sc d 108 812 [o0, o1, o2, o3, o4, o5, o6, o7, o8, o9, some (xw x10), o11, o12, o13, o14, o15, o16, o17, o18, o19] [] (T, z, xv V, J, R) :=
  (sw_iload f_108_807 rfl).trans (sw_if_eq (t := 859) f_108_809 ⟨by decide, rfl⟩ g1)
theorem bL_isRidden_812 {o0 o1 o2 o3 o4 o5 o6 o7 o8 o9 o10 o11 o12 o13 o14 o15 o16 o17 o18 o19 : Option Value} : XR sc d 108 812 [o0, o1, o2, o3, o4, o5, o6, o7, o8, o9, o10, o11, o12, o13, o14, o15, o16, o17, o18, o19] [] (T, z, xv V, J, R) = XR sc d 108 815 [o0, o1, o2, o3, o4, o5, o6, o7, o8, o9, o10, o11, some (xw 0), o13, o14, o15, o16, o17, o18, o19] [] (T, z, xv V, J, R) :=
  (sw_iconst f_108_812).trans (sw_istore (L' := [o0, o1, o2, o3, o4, o5, o6, o7, o8, o9, o10, o11, some (xw 0), o13, o14, o15, o16, o17, o18, o19]) f_108_813 (Nat.le_of_ble_eq_true rfl) rfl)
theorem bL_isRidden_815 {o0 o1 o2 o3 o4 o5 o6 o7 o8 o10 o11 o13 o14 o15 o16 o17 o18 o19 : Option Value} {x12 x9 : Int} (g1 : -2147483648 ≤ x12 ∧ x12 ≤ 2147483647) (g2 : -2147483648 ≤ x9 ∧ x9 ≤ 2147483647) : XR sc d 108 815 [o0, o1, o2, o3, o4, o5, o6, o7, o8, some (xw x9), o10, o11, some (xw x12), o13, o14, o15, o16, o17, o18, o19] [] (T, z, xv V, J, R) = if x9 ≤ x12 then XR sc d 108 853 [o0, o1, o2, o3, o4, o5, o6, o7, o8, some (xw x9), o10, o11, some (xw x12), o13, o14, o15, o16, o17, o18, o19] [] (T, z, xv V, J, R) else XR sc d 108 822 [o0, o1, o2, o3, o4, o5, o6, o7, o8, some (xw x9), o10, o11, some (xw x12), o13, o14, o15, o16, o17, o18, o19] [] (T, z, xv V, J, R) :=
  (sw_iload f_108_815 rfl).trans ((sw_iload f_108_817 rfl).trans (sw_icmp_ge (t := 853) f_108_819 ⟨by decide, rfl⟩ g1 g2))
theorem bL_isRidden_822 {o0 o2 o3 o4 o5 o6 o7 o8 o9 o10 o12 o13 o14 o15 o16 o17 o18 o19 : Option Value} {x11 : Int} {a1 : Nat} (g1 : T a1 = (32, (T a1).2)) (g2 : (0 : Int) ≤ x11 ∧ x11 < ((T a1).2 : Int) ∧ (T a1).2 ≤ 3584) (g3 : -2147483648 ≤ (V a1 x11.toNat) ∧ (V a1 x11.toNat) ≤ 2147483647) : XR sc d 108 822 [o0, some (.ref a1), o2, o3, o4, o5, o6, o7, o8, o9, o10, some (xw x11), o12, o13, o14, o15, o16, o17, o18, o19] [] (T, z, xv V, J, R) = if 10 ≤ (V a1 x11.toNat) then XR sc d 108 843 [o0, some (.ref a1), o2, o3, o4, o5, o6, o7, o8, o9, o10, some (xw x11), o12, o13, o14, o15, o16, o17, o18, o19] [xw (V a1 x11.toNat), xw x11, .ref a1] (T, z, xv V, J, R) else XR sc d 108 836 [o0, some (.ref a1), o2, o3, o4, o5, o6, o7, o8, o9, o10, some (xw x11), o12, o13, o14, o15, o16, o17, o18, o19] [xw (V a1 x11.toNat), xw x11, .ref a1] (T, z, xv V, J, R) :=
  (st_aload_n f_108_822 rfl).trans ((sw_iload f_108_823 rfl).trans ((st_dup2 f_108_825 rfl rfl).trans ((sw_iaload f_108_826 g1 g2).trans ((st_aload_n f_108_827 rfl).trans ((sw_iload f_108_828 rfl).trans ((sw_iaload f_108_830 g1 g2).trans ((sw_bipush f_108_831 c8_10).trans (sw_icmp_ge (t := 843) f_108_833 ⟨by decide, rfl⟩ g3 ⟨by decide, by decide⟩))))))))
theorem bL_isRidden_836 {o0 o2 o3 o4 o5 o6 o7 o8 o9 o10 o12 o13 o14 o15 o16 o17 o18 o19 : Option Value} {s0 s1 s2 : Value} {x11 : Int} {a1 : Nat} (g1 : T a1 = (32, (T a1).2)) (g2 : (0 : Int) ≤ x11 ∧ x11 < ((T a1).2 : Int) ∧ (T a1).2 ≤ 3584) : XR sc d 108 836 [o0, some (.ref a1), o2, o3, o4, o5, o6, o7, o8, o9, o10, some (xw x11), o12, o13, o14, o15, o16, o17, o18, o19] [s0, s1, s2] (T, z, xv V, J, R) = XR sc d 108 845 [o0, some (.ref a1), o2, o3, o4, o5, o6, o7, o8, o9, o10, some (xw x11), o12, o13, o14, o15, o16, o17, o18, o19] [xw (V a1 x11.toNat), s0, s1, s2] (T, z, xv V, J, R) :=
  (st_aload_n f_108_836 rfl).trans ((sw_iload f_108_837 rfl).trans ((sw_iaload f_108_839 g1 g2).trans (st_goto (t := 845) f_108_840 ⟨by decide, rfl⟩)))
theorem bL_isRidden_843 {o0 o1 o2 o3 o4 o5 o6 o7 o8 o9 o10 o11 o12 o13 o14 o15 o16 o17 o18 o19 : Option Value} {s0 s1 s2 : Value} : XR sc d 108 843 [o0, o1, o2, o3, o4, o5, o6, o7, o8, o9, o10, o11, o12, o13, o14, o15, o16, o17, o18, o19] [s0, s1, s2] (T, z, xv V, J, R) = XR sc d 108 845 [o0, o1, o2, o3, o4, o5, o6, o7, o8, o9, o10, o11, o12, o13, o14, o15, o16, o17, o18, o19] [xw 10, s0, s1, s2] (T, z, xv V, J, R) :=
  sw_bipush f_108_843 c8_10
theorem bL_isRidden_845 {o0 o1 o2 o3 o4 o5 o6 o7 o8 o9 o10 o11 o13 o14 o15 o16 o17 o18 o19 : Option Value} {y0 y1 y2 x12 : Int} {b3 : Nat} (g1 : T b3 = (32, (T b3).2)) (g2 : (0 : Int) ≤ y2 ∧ y2 < ((T b3).2 : Int) ∧ (T b3).2 ≤ 3584) : XR sc d 108 845 [o0, o1, o2, o3, o4, o5, o6, o7, o8, o9, o10, o11, some (xw x12), o13, o14, o15, o16, o17, o18, o19] [xw y0, xw y1, xw y2, .ref b3] (T, z, xv V, J, R) = XR sc d 108 815 [o0, o1, o2, o3, o4, o5, o6, o7, o8, o9, o10, o11, some (xw (x12 + 1)), o13, o14, o15, o16, o17, o18, o19] [] (T, z, xv (xup2 V b3 y2.toNat (y1 - y0)), J, R) :=
  (sw_isub f_108_845).trans ((sw_iastore f_108_846 g1 g2).trans ((sw_iinc (L' := [o0, o1, o2, o3, o4, o5, o6, o7, o8, o9, o10, o11, some (xw (x12 + 1)), o13, o14, o15, o16, o17, o18, o19]) f_108_847 rfl (Nat.le_of_ble_eq_true rfl) rfl).trans (st_goto (t := 815) f_108_850 ⟨by decide, rfl⟩)))
theorem bL_isRidden_853 {o0 o1 o2 o3 o4 o5 o6 o7 o8 o9 o10 o12 o13 o14 o15 o16 o17 o18 o19 : Option Value} {x11 : Int} : XR sc d 108 853 [o0, o1, o2, o3, o4, o5, o6, o7, o8, o9, o10, some (xw x11), o12, o13, o14, o15, o16, o17, o18, o19] [] (T, z, xv V, J, R) = XR sc d 108 800 [o0, o1, o2, o3, o4, o5, o6, o7, o8, o9, o10, some (xw (x11 + 1)), o12, o13, o14, o15, o16, o17, o18, o19] [] (T, z, xv V, J, R) :=
  (sw_iinc (L' := [o0, o1, o2, o3, o4, o5, o6, o7, o8, o9, o10, some (xw (x11 + 1)), o12, o13, o14, o15, o16, o17, o18, o19]) f_108_853 rfl (Nat.le_of_ble_eq_true rfl) rfl).trans (st_goto (t := 800) f_108_856 ⟨by decide, rfl⟩)
theorem bL_isRidden_859 {o0 o2 o3 o4 o5 o6 o7 o8 o9 o10 o11 o12 o13 o14 o15 o16 o17 o18 o19 : Option Value} {a1 : Nat} : XR sc d 108 859 [o0, some (.ref a1), o2, o3, o4, o5, o6, o7, o8, o9, o10, o11, o12, o13, o14, o15, o16, o17, o18, o19] [] (T, z, xv V, J, R) = xret 108 (XR sc d 108) 861 864 [o0, some (.ref a1), o2, o3, o4, o5, o6, o7, o8, o9, o10, o11, o12, o13, o14, o15, o16, o17, o18, o19] [] (X sc d 102 [.ref a1, xw 0] (T, z, xv V, J, R)) :=
  (st_aload_n f_108_859 rfl).trans ((sw_iconst f_108_860).trans (st_callS' f_108_861 h_108_141 mn_102 rfl rfl rfl rfl))
theorem bL_isRidden_864 {o0 o1 o2 o3 o4 o5 o6 o7 o8 o9 o10 o11 o12 o13 o14 o15 o16 o17 o18 o19 : Option Value} {y0 : Int} (g1 : -2147483648 ≤ y0 ∧ y0 ≤ 2147483647) : XR sc d 108 864 [o0, o1, o2, o3, o4, o5, o6, o7, o8, o9, o10, o11, o12, o13, o14, o15, o16, o17, o18, o19] [xw y0] (T, z, xv V, J, R) = if y0 = 0 then XR sc d 108 871 [o0, o1, o2, o3, o4, o5, o6, o7, o8, o9, o10, o11, o12, o13, o14, o15, o16, o17, o18, o19] [] (T, z, xv V, J, R) else XR sc d 108 867 [o0, o1, o2, o3, o4, o5, o6, o7, o8, o9, o10, o11, o12, o13, o14, o15, o16, o17, o18, o19] [] (T, z, xv V, J, R) :=
  sw_if_eq (t := 871) f_108_864 ⟨by decide, rfl⟩ g1
theorem bL_isRidden_867 {o0 o1 o2 o3 o4 o5 o6 o7 o8 o9 o10 o11 o12 o13 o14 o15 o16 o17 o18 o19 : Option Value} : XR sc d 108 867 [o0, o1, o2, o3, o4, o5, o6, o7, o8, o9, o10, o11, o12, o13, o14, o15, o16, o17, o18, o19] [] (T, z, xv V, J, R) = XR sc d 108 872 [o0, o1, o2, o3, o4, o5, o6, o7, o8, o9, o10, o11, o12, o13, o14, o15, o16, o17, o18, o19] [xw 1] (T, z, xv V, J, R) :=
  (sw_iconst f_108_867).trans (st_goto (t := 872) f_108_868 ⟨by decide, rfl⟩)
theorem bL_isRidden_871 {o0 o1 o2 o3 o4 o5 o6 o7 o8 o9 o10 o11 o12 o13 o14 o15 o16 o17 o18 o19 : Option Value} : XR sc d 108 871 [o0, o1, o2, o3, o4, o5, o6, o7, o8, o9, o10, o11, o12, o13, o14, o15, o16, o17, o18, o19] [] (T, z, xv V, J, R) = XR sc d 108 872 [o0, o1, o2, o3, o4, o5, o6, o7, o8, o9, o10, o11, o12, o13, o14, o15, o16, o17, o18, o19] [xw 0] (T, z, xv V, J, R) :=
  sw_iconst f_108_871
theorem bL_isRidden_872 {o0 o2 o3 o4 o5 o6 o7 o8 o9 o10 o11 o12 o13 o14 o15 o16 o17 o18 o19 : Option Value} {s0 : Value} {a1 : Nat} : XR sc d 108 872 [o0, some (.ref a1), o2, o3, o4, o5, o6, o7, o8, o9, o10, o11, o12, o13, o14, o15, o16, o17, o18, o19] [s0] (T, z, xv V, J, R) = xret 108 (XR sc d 108) 874 877 [o0, some (.ref a1), o2, o3, o4, o5, o6, o7, o8, o9, o10, o11, o12, o13, o14, o15, o16, o17, o18, o19] [s0] (X sc d 102 [.ref a1, xw 1] (T, z, xv V, J, R)) :=
  (st_aload_n f_108_872 rfl).trans ((sw_iconst f_108_873).trans (st_callS' f_108_874 h_108_141 mn_102 rfl rfl rfl rfl))
theorem bL_isRidden_877 {o0 o1 o2 o3 o4 o5 o6 o7 o8 o9 o10 o11 o12 o13 o14 o15 o16 o17 o18 o19 : Option Value} {s1 : Value} {y0 : Int} (g1 : -2147483648 ≤ y0 ∧ y0 ≤ 2147483647) : XR sc d 108 877 [o0, o1, o2, o3, o4, o5, o6, o7, o8, o9, o10, o11, o12, o13, o14, o15, o16, o17, o18, o19] [xw y0, s1] (T, z, xv V, J, R) = if y0 = 0 then XR sc d 108 884 [o0, o1, o2, o3, o4, o5, o6, o7, o8, o9, o10, o11, o12, o13, o14, o15, o16, o17, o18, o19] [s1] (T, z, xv V, J, R) else XR sc d 108 880 [o0, o1, o2, o3, o4, o5, o6, o7, o8, o9, o10, o11, o12, o13, o14, o15, o16, o17, o18, o19] [s1] (T, z, xv V, J, R) :=
  sw_if_eq (t := 884) f_108_877 ⟨by decide, rfl⟩ g1
theorem bL_isRidden_880 {o0 o1 o2 o3 o4 o5 o6 o7 o8 o9 o10 o11 o12 o13 o14 o15 o16 o17 o18 o19 : Option Value} {s0 : Value} : XR sc d 108 880 [o0, o1, o2, o3, o4, o5, o6, o7, o8, o9, o10, o11, o12, o13, o14, o15, o16, o17, o18, o19] [s0] (T, z, xv V, J, R) = XR sc d 108 885 [o0, o1, o2, o3, o4, o5, o6, o7, o8, o9, o10, o11, o12, o13, o14, o15, o16, o17, o18, o19] [xw 1, s0] (T, z, xv V, J, R) :=
  (sw_iconst f_108_880).trans (st_goto (t := 885) f_108_881 ⟨by decide, rfl⟩)
theorem bL_isRidden_884 {o0 o1 o2 o3 o4 o5 o6 o7 o8 o9 o10 o11 o12 o13 o14 o15 o16 o17 o18 o19 : Option Value} {s0 : Value} : XR sc d 108 884 [o0, o1, o2, o3, o4, o5, o6, o7, o8, o9, o10, o11, o12, o13, o14, o15, o16, o17, o18, o19] [s0] (T, z, xv V, J, R) = XR sc d 108 885 [o0, o1, o2, o3, o4, o5, o6, o7, o8, o9, o10, o11, o12, o13, o14, o15, o16, o17, o18, o19] [xw 0, s0] (T, z, xv V, J, R) :=
  sw_iconst f_108_884
theorem bL_isRidden_885 {o1 o2 o3 o4 o5 o6 o7 o8 o10 o11 o12 o13 o14 o15 o16 o17 o18 o19 : Option Value} {y0 y1 x9 : Int} {a0 : Nat} : XR sc d 108 885 [some (.ref a0), o1, o2, o3, o4, o5, o6, o7, o8, some (xw x9), o10, o11, o12, o13, o14, o15, o16, o17, o18, o19] [xw y0, xw y1] (T, z, xv V, J, R) = xret 108 (XR sc d 108) 898 901 [some (.ref a0), o1, o2, o3, o4, o5, o6, o7, o8, some (xw x9), o10, some (xw (y1 + y0)), o12, o13, o14, o15, o16, o17, o18, o19] [] (X sc d 92 [.ref a0, xw 16, xw x9, xw 0, xw 0, xw 0, xw 0, xw 0] (T, z, xv V, J, R)) :=
  (sw_iadd f_108_885).trans ((sw_istore (L' := [some (.ref a0), o1, o2, o3, o4, o5, o6, o7, o8, some (xw x9), o10, some (xw (y1 + y0)), o12, o13, o14, o15, o16, o17, o18, o19]) f_108_886 (Nat.le_of_ble_eq_true rfl) rfl).trans ((st_aload_n f_108_888 rfl).trans ((sw_bipush f_108_889 c8_16).trans ((sw_iload f_108_891 rfl).trans ((sw_iconst f_108_893).trans ((sw_iconst f_108_894).trans ((sw_iconst f_108_895).trans ((sw_iconst f_108_896).trans ((sw_iconst f_108_897).trans (st_callS' f_108_898 h_108_124 mn_92 rfl rfl rfl rfl))))))))))
theorem bL_isRidden_901 {o0 o1 o2 o3 o4 o5 o6 o7 o8 o9 o11 o12 o13 o14 o15 o16 o17 o18 o19 : Option Value} {s0 : Value} {x10 : Int} (g1 : -2147483648 ≤ x10 ∧ x10 ≤ 2147483647) : XR sc d 108 901 [o0, o1, o2, o3, o4, o5, o6, o7, o8, o9, some (xw x10), o11, o12, o13, o14, o15, o16, o17, o18, o19] [s0] (T, z, xv V, J, R) = if x10 = 0 then XR sc d 108 911 [o0, o1, o2, o3, o4, o5, o6, o7, o8, o9, some (xw x10), o11, o12, o13, o14, o15, o16, o17, o18, o19] [s0] (T, z, xv V, J, R) else XR sc d 108 906 [o0, o1, o2, o3, o4, o5, o6, o7, o8, o9, some (xw x10), o11, o12, o13, o14, o15, o16, o17, o18, o19] [s0] (T, z, xv V, J, R) :=
  (sw_iload f_108_901 rfl).trans (sw_if_eq (t := 911) f_108_903 ⟨by decide, rfl⟩ g1)
theorem bL_isRidden_906 {o0 o1 o2 o3 o4 o5 o6 o7 o8 o9 o10 o12 o13 o14 o15 o16 o17 o18 o19 : Option Value} {s0 : Value} {x11 : Int} : XR sc d 108 906 [o0, o1, o2, o3, o4, o5, o6, o7, o8, o9, o10, some (xw x11), o12, o13, o14, o15, o16, o17, o18, o19] [s0] (T, z, xv V, J, R) = XR sc d 108 913 [o0, o1, o2, o3, o4, o5, o6, o7, o8, o9, o10, some (xw x11), o12, o13, o14, o15, o16, o17, o18, o19] [xw x11, s0] (T, z, xv V, J, R) :=
  (sw_iload f_108_906 rfl).trans (st_goto (t := 913) f_108_908 ⟨by decide, rfl⟩)
theorem bL_isRidden_911 {o0 o1 o2 o3 o4 o5 o6 o7 o8 o9 o10 o11 o12 o13 o14 o15 o16 o17 o18 o19 : Option Value} {s0 : Value} : XR sc d 108 911 [o0, o1, o2, o3, o4, o5, o6, o7, o8, o9, o10, o11, o12, o13, o14, o15, o16, o17, o18, o19] [s0] (T, z, xv V, J, R) = XR sc d 108 913 [o0, o1, o2, o3, o4, o5, o6, o7, o8, o9, o10, o11, o12, o13, o14, o15, o16, o17, o18, o19] [xw (-2000000), s0] (T, z, xv V, J, R) :=
  sw_ldc (-2000000) f_108_911 k_108_82 rfl
theorem bL_isRidden_913 {o0 o1 o2 o3 o4 o5 o6 o7 o8 o9 o10 o11 o12 o13 o14 o15 o16 o17 o18 o19 : Option Value} {y0 y1 : Int} (g1 : -2147483648 ≤ y1 ∧ y1 ≤ 2147483647) (g2 : -2147483648 ≤ y0 ∧ y0 ≤ 2147483647) : XR sc d 108 913 [o0, o1, o2, o3, o4, o5, o6, o7, o8, o9, o10, o11, o12, o13, o14, o15, o16, o17, o18, o19] [xw y0, xw y1] (T, z, xv V, J, R) = if y1 = y0 then XR sc d 108 916 [o0, o1, o2, o3, o4, o5, o6, o7, o8, o9, o10, o11, o12, o13, o14, o15, o16, o17, o18, o19] [] (T, z, xv V, J, R) else XR sc d 108 920 [o0, o1, o2, o3, o4, o5, o6, o7, o8, o9, o10, o11, o12, o13, o14, o15, o16, o17, o18, o19] [] (T, z, xv V, J, R) :=
  sw_icmp_ne (t := 920) f_108_913 ⟨by decide, rfl⟩ g1 g2
theorem bL_isRidden_916 {o0 o1 o2 o3 o4 o5 o6 o7 o8 o9 o10 o11 o12 o13 o14 o15 o16 o17 o18 o19 : Option Value} : XR sc d 108 916 [o0, o1, o2, o3, o4, o5, o6, o7, o8, o9, o10, o11, o12, o13, o14, o15, o16, o17, o18, o19] [] (T, z, xv V, J, R) = XR sc d 108 921 [o0, o1, o2, o3, o4, o5, o6, o7, o8, o9, o10, o11, o12, o13, o14, o15, o16, o17, o18, o19] [xw 1] (T, z, xv V, J, R) :=
  (sw_iconst f_108_916).trans (st_goto (t := 921) f_108_917 ⟨by decide, rfl⟩)
theorem bL_isRidden_920 {o0 o1 o2 o3 o4 o5 o6 o7 o8 o9 o10 o11 o12 o13 o14 o15 o16 o17 o18 o19 : Option Value} : XR sc d 108 920 [o0, o1, o2, o3, o4, o5, o6, o7, o8, o9, o10, o11, o12, o13, o14, o15, o16, o17, o18, o19] [] (T, z, xv V, J, R) = XR sc d 108 921 [o0, o1, o2, o3, o4, o5, o6, o7, o8, o9, o10, o11, o12, o13, o14, o15, o16, o17, o18, o19] [xw 0] (T, z, xv V, J, R) :=
  sw_iconst f_108_920
theorem bL_isRidden_921 {o0 o1 o2 o3 o4 o5 o6 o7 o8 o9 o10 o11 o12 o13 o14 o15 o16 o17 o18 o19 : Option Value} {y0 : Int} (g1 : y0 = 0 ∨ y0 = 1) : XR sc d 108 921 [o0, o1, o2, o3, o4, o5, o6, o7, o8, o9, o10, o11, o12, o13, o14, o15, o16, o17, o18, o19] [xw y0] (T, z, xv V, J, R) = some (.inl (some (xw y0)), (T, z, xv V, J, R)) :=
  sw_zreturn f_108_921 mr_108 g1
end BLK
