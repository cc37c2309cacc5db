/-! instructions, by program (gen2.py) -/
set_option maxRecDepth 100000 in
theorem f_107_0 : xft 107 0 = some (.iload 7) := by decide +kernel
set_option maxRecDepth 100000 in
theorem f_107_2 : xft 107 2 = some (.aload 5) := by decide +kernel
set_option maxRecDepth 100000 in
theorem f_107_4 : xft 107 4 = some (.iconst 1) := by decide +kernel
set_option maxRecDepth 100000 in
theorem f_107_5 : xft 107 5 = some (.iaload) := by decide +kernel
set_option maxRecDepth 100000 in
theorem f_107_6 : xft 107 6 = some (.iconst 1) := by decide +kernel
set_option maxRecDepth 100000 in
theorem f_107_7 : xft 107 7 = some (.iadd) := by decide +kernel
set_option maxRecDepth 100000 in
theorem f_107_8 : xft 107 8 = some (.irem) := by decide +kernel
set_option maxRecDepth 100000 in
theorem f_107_9 : xft 107 9 = some (.istore 9) := by decide +kernel
set_option maxRecDepth 100000 in
theorem f_107_11 : xft 107 11 = some (.iload 9) := by decide +kernel
set_option maxRecDepth 100000 in
theorem f_107_13 : xft 107 13 = some (.aload 5) := by decide +kernel
set_option maxRecDepth 100000 in
theorem f_107_15 : xft 107 15 = some (.iconst 1) := by decide +kernel
set_option maxRecDepth 100000 in
theorem f_107_16 : xft 107 16 = some (.iaload) := by decide +kernel
set_option maxRecDepth 100000 in
theorem f_107_17 : xft 107 17 = some (.if_icmp .ge 7) := by decide +kernel
set_option maxRecDepth 100000 in
theorem f_107_20 : xft 107 20 = some (.iconst 1) := by decide +kernel
set_option maxRecDepth 100000 in
theorem f_107_21 : xft 107 21 = some (.goto 4) := by decide +kernel
set_option maxRecDepth 100000 in
theorem f_107_24 : xft 107 24 = some (.iconst 0) := by decide +kernel
set_option maxRecDepth 100000 in
theorem f_107_25 : xft 107 25 = some (.istore 10) := by decide +kernel
set_option maxRecDepth 100000 in
theorem f_107_27 : xft 107 27 = some (.iload 10) := by decide +kernel
set_option maxRecDepth 100000 in
theorem f_107_29 : xft 107 29 = some (.ifCond .eq 10) := by decide +kernel
set_option maxRecDepth 100000 in
theorem f_107_32 : xft 107 32 = some (.aload_n 1) := by decide +kernel
set_option maxRecDepth 100000 in
theorem f_107_33 : xft 107 33 = some (.iload 9) := by decide +kernel
set_option maxRecDepth 100000 in
theorem f_107_35 : xft 107 35 = some (.iaload) := by decide +kernel
set_option maxRecDepth 100000 in
theorem f_107_36 : xft 107 36 = some (.goto 4) := by decide +kernel
set_option maxRecDepth 100000 in
theorem f_107_39 : xft 107 39 = some (.iconst 0) := by decide +kernel
set_option maxRecDepth 100000 in
theorem f_107_40 : xft 107 40 = some (.istore 11) := by decide +kernel
set_option maxRecDepth 100000 in
theorem f_107_42 : xft 107 42 = some (.iload 10) := by decide +kernel
set_option maxRecDepth 100000 in
theorem f_107_44 : xft 107 44 = some (.ifCond .eq 22) := by decide +kernel
set_option maxRecDepth 100000 in
theorem f_107_47 : xft 107 47 = some (.aload 4) := by decide +kernel
set_option maxRecDepth 100000 in
theorem f_107_49 : xft 107 49 = some (.iload 9) := by decide +kernel
set_option maxRecDepth 100000 in
theorem f_107_51 : xft 107 51 = some (.iaload) := by decide +kernel
set_option maxRecDepth 100000 in
theorem f_107_52 : xft 107 52 = some (.ifCond .ne 14) := by decide +kernel
set_option maxRecDepth 100000 in
theorem f_107_55 : xft 107 55 = some (.iload 11) := by decide +kernel
set_option maxRecDepth 100000 in
theorem f_107_57 : xft 107 57 = some (.ldc 111) := by decide +kernel
set_option maxRecDepth 100000 in
theorem f_107_59 : xft 107 59 = some (.if_icmp .ge 7) := by decide +kernel
set_option maxRecDepth 100000 in
theorem f_107_62 : xft 107 62 = some (.iconst 1) := by decide +kernel
set_option maxRecDepth 100000 in
theorem f_107_63 : xft 107 63 = some (.goto 4) := by decide +kernel
set_option maxRecDepth 100000 in
theorem f_107_66 : xft 107 66 = some (.iconst 0) := by decide +kernel
set_option maxRecDepth 100000 in
theorem f_107_67 : xft 107 67 = some (.istore 12) := by decide +kernel
set_option maxRecDepth 100000 in
theorem f_107_69 : xft 107 69 = some (.iload 6) := by decide +kernel
set_option maxRecDepth 100000 in
theorem f_107_71 : xft 107 71 = some (.ifCond .ne 174) := by decide +kernel
set_option maxRecDepth 100000 in
theorem f_107_74 : xft 107 74 = some (.iload 8) := by decide +kernel
set_option maxRecDepth 100000 in
theorem f_107_76 : xft 107 76 = some (.bipush 10) := by decide +kernel
set_option maxRecDepth 100000 in
theorem f_107_78 : xft 107 78 = some (.irem) := by decide +kernel
set_option maxRecDepth 100000 in
theorem f_107_79 : xft 107 79 = some (.istore 13) := by decide +kernel
set_option maxRecDepth 100000 in
theorem f_107_81 : xft 107 81 = some (.iload 10) := by decide +kernel
set_option maxRecDepth 100000 in
theorem f_107_83 : xft 107 83 = some (.ifCond .eq 33) := by decide +kernel
set_option maxRecDepth 100000 in
theorem f_107_86 : xft 107 86 = some (.iload 13) := by decide +kernel
set_option maxRecDepth 100000 in
theorem f_107_88 : xft 107 88 = some (.ifCond .le 28) := by decide +kernel
set_option maxRecDepth 100000 in
theorem f_107_91 : xft 107 91 = some (.iload 13) := by decide +kernel
set_option maxRecDepth 100000 in
theorem f_107_93 : xft 107 93 = some (.bipush 9) := by decide +kernel
set_option maxRecDepth 100000 in
theorem f_107_95 : xft 107 95 = some (.if_icmp .ge 21) := by decide +kernel
set_option maxRecDepth 100000 in
theorem f_107_98 : xft 107 98 = some (.iload 13) := by decide +kernel
set_option maxRecDepth 100000 in
theorem f_107_100 : xft 107 100 = some (.iload 11) := by decide +kernel
set_option maxRecDepth 100000 in
theorem f_107_102 : xft 107 102 = some (.sipush 256) := by decide +kernel
set_option maxRecDepth 100000 in
theorem f_107_105 : xft 107 105 = some (.idiv) := by decide +kernel
set_option maxRecDepth 100000 in
theorem f_107_106 : xft 107 106 = some (.bipush 16) := by decide +kernel
set_option maxRecDepth 100000 in
theorem f_107_108 : xft 107 108 = some (.irem) := by decide +kernel
set_option maxRecDepth 100000 in
theorem f_107_109 : xft 107 109 = some (.if_icmp .ge 7) := by decide +kernel
set_option maxRecDepth 100000 in
theorem f_107_112 : xft 107 112 = some (.iconst 1) := by decide +kernel
set_option maxRecDepth 100000 in
theorem f_107_113 : xft 107 113 = some (.goto 4) := by decide +kernel
set_option maxRecDepth 100000 in
theorem f_107_116 : xft 107 116 = some (.iconst 0) := by decide +kernel
set_option maxRecDepth 100000 in
theorem f_107_117 : xft 107 117 = some (.istore 14) := by decide +kernel
set_option maxRecDepth 100000 in
theorem f_107_119 : xft 107 119 = some (.iload 14) := by decide +kernel
set_option maxRecDepth 100000 in
theorem f_107_121 : xft 107 121 = some (.ifCond .eq 18) := by decide +kernel
set_option maxRecDepth 100000 in
theorem f_107_124 : xft 107 124 = some (.iload 11) := by decide +kernel
set_option maxRecDepth 100000 in
theorem f_107_126 : xft 107 126 = some (.ldc 123) := by decide +kernel
set_option maxRecDepth 100000 in
theorem f_107_128 : xft 107 128 = some (.idiv) := by decide +kernel
set_option maxRecDepth 100000 in
theorem f_107_129 : xft 107 129 = some (.bipush 8) := by decide +kernel
set_option maxRecDepth 100000 in
theorem f_107_131 : xft 107 131 = some (.irem) := by decide +kernel
set_option maxRecDepth 100000 in
theorem f_107_132 : xft 107 132 = some (.ifCond .ne 7) := by decide +kernel
set_option maxRecDepth 100000 in
theorem f_107_135 : xft 107 135 = some (.iconst 1) := by decide +kernel
set_option maxRecDepth 100000 in
theorem f_107_136 : xft 107 136 = some (.goto 4) := by decide +kernel
set_option maxRecDepth 100000 in
theorem f_107_139 : xft 107 139 = some (.iconst 0) := by decide +kernel
set_option maxRecDepth 100000 in
theorem f_107_140 : xft 107 140 = some (.istore 15) := by decide +kernel
set_option maxRecDepth 100000 in
theorem f_107_142 : xft 107 142 = some (.aload_n 1) := by decide +kernel
set_option maxRecDepth 100000 in
theorem f_107_143 : xft 107 143 = some (.iload 15) := by decide +kernel
set_option maxRecDepth 100000 in
theorem f_107_145 : xft 107 145 = some (.ifCond .eq 8) := by decide +kernel
set_option maxRecDepth 100000 in
theorem f_107_148 : xft 107 148 = some (.iload 9) := by decide +kernel
set_option maxRecDepth 100000 in
theorem f_107_150 : xft 107 150 = some (.goto 5) := by decide +kernel
set_option maxRecDepth 100000 in
theorem f_107_153 : xft 107 153 = some (.bipush 10) := by decide +kernel
set_option maxRecDepth 100000 in
theorem f_107_155 : xft 107 155 = some (.dup2) := by decide +kernel
set_option maxRecDepth 100000 in
theorem f_107_156 : xft 107 156 = some (.iaload) := by decide +kernel
set_option maxRecDepth 100000 in
theorem f_107_157 : xft 107 157 = some (.iload 15) := by decide +kernel
set_option maxRecDepth 100000 in
theorem f_107_159 : xft 107 159 = some (.ifCond .eq 22) := by decide +kernel
set_option maxRecDepth 100000 in
theorem f_107_162 : xft 107 162 = some (.sipush 256) := by decide +kernel
set_option maxRecDepth 100000 in
theorem f_107_165 : xft 107 165 = some (.iload 13) := by decide +kernel
set_option maxRecDepth 100000 in
theorem f_107_167 : xft 107 167 = some (.iload 11) := by decide +kernel
set_option maxRecDepth 100000 in
theorem f_107_169 : xft 107 169 = some (.sipush 256) := by decide +kernel
set_option maxRecDepth 100000 in
theorem f_107_172 : xft 107 172 = some (.idiv) := by decide +kernel
set_option maxRecDepth 100000 in
theorem f_107_173 : xft 107 173 = some (.bipush 16) := by decide +kernel
set_option maxRecDepth 100000 in
theorem f_107_175 : xft 107 175 = some (.irem) := by decide +kernel
set_option maxRecDepth 100000 in
theorem f_107_176 : xft 107 176 = some (.isub) := by decide +kernel
set_option maxRecDepth 100000 in
theorem f_107_177 : xft 107 177 = some (.imul) := by decide +kernel
set_option maxRecDepth 100000 in
theorem f_107_178 : xft 107 178 = some (.goto 4) := by decide +kernel
set_option maxRecDepth 100000 in
theorem f_107_181 : xft 107 181 = some (.iconst 0) := by decide +kernel
set_option maxRecDepth 100000 in
theorem f_107_182 : xft 107 182 = some (.iadd) := by decide +kernel
set_option maxRecDepth 100000 in
theorem f_107_183 : xft 107 183 = some (.iastore) := by decide +kernel
set_option maxRecDepth 100000 in
theorem f_107_184 : xft 107 184 = some (.aload_n 0) := by decide +kernel
set_option maxRecDepth 100000 in
theorem f_107_185 : xft 107 185 = some (.iconst 4) := by decide +kernel
set_option maxRecDepth 100000 in
theorem f_107_186 : xft 107 186 = some (.iload 9) := by decide +kernel
set_option maxRecDepth 100000 in
theorem f_107_188 : xft 107 188 = some (.iload 13) := by decide +kernel
set_option maxRecDepth 100000 in
theorem f_107_190 : xft 107 190 = some (.iconst 0) := by decide +kernel
set_option maxRecDepth 100000 in
theorem f_107_191 : xft 107 191 = some (.iconst 0) := by decide +kernel
set_option maxRecDepth 100000 in
theorem f_107_192 : xft 107 192 = some (.iconst 0) := by decide +kernel
set_option maxRecDepth 100000 in
theorem f_107_193 : xft 107 193 = some (.iconst 0) := by decide +kernel
set_option maxRecDepth 100000 in
theorem f_107_194 : xft 107 194 = some (.invokestatic 124) := by decide +kernel
set_option maxRecDepth 100000 in
theorem f_107_197 : xft 107 197 = some (.iload 10) := by decide +kernel
set_option maxRecDepth 100000 in
theorem f_107_199 : xft 107 199 = some (.ifCond .ne 8) := by decide +kernel
set_option maxRecDepth 100000 in
theorem f_107_202 : xft 107 202 = some (.ldc 79) := by decide +kernel
set_option maxRecDepth 100000 in
theorem f_107_204 : xft 107 204 = some (.goto 32) := by decide +kernel
set_option maxRecDepth 100000 in
theorem f_107_207 : xft 107 207 = some (.iload 14) := by decide +kernel
set_option maxRecDepth 100000 in
theorem f_107_209 : xft 107 209 = some (.ifCond .ne 8) := by decide +kernel
set_option maxRecDepth 100000 in
theorem f_107_212 : xft 107 212 = some (.ldc 82) := by decide +kernel
set_option maxRecDepth 100000 in
theorem f_107_214 : xft 107 214 = some (.goto 22) := by decide +kernel
set_option maxRecDepth 100000 in
theorem f_107_217 : xft 107 217 = some (.iload 15) := by decide +kernel
set_option maxRecDepth 100000 in
theorem f_107_219 : xft 107 219 = some (.ifCond .eq 15) := by decide +kernel
set_option maxRecDepth 100000 in
theorem f_107_222 : xft 107 222 = some (.iload 11) := by decide +kernel
set_option maxRecDepth 100000 in
theorem f_107_224 : xft 107 224 = some (.sipush 256) := by decide +kernel
set_option maxRecDepth 100000 in
theorem f_107_227 : xft 107 227 = some (.idiv) := by decide +kernel
set_option maxRecDepth 100000 in
theorem f_107_228 : xft 107 228 = some (.bipush 16) := by decide +kernel
set_option maxRecDepth 100000 in
theorem f_107_230 : xft 107 230 = some (.irem) := by decide +kernel
set_option maxRecDepth 100000 in
theorem f_107_231 : xft 107 231 = some (.goto 5) := by decide +kernel
set_option maxRecDepth 100000 in
theorem f_107_234 : xft 107 234 = some (.ldc 85) := by decide +kernel
set_option maxRecDepth 100000 in
theorem f_107_236 : xft 107 236 = some (.if_icmp .ne 7) := by decide +kernel
set_option maxRecDepth 100000 in
theorem f_107_239 : xft 107 239 = some (.iconst 1) := by decide +kernel
set_option maxRecDepth 100000 in
theorem f_107_240 : xft 107 240 = some (.goto 4) := by decide +kernel
set_option maxRecDepth 100000 in
theorem f_107_243 : xft 107 243 = some (.iconst 0) := by decide +kernel
set_option maxRecDepth 100000 in
theorem f_107_244 : xft 107 244 = some (.ireturn) := by decide +kernel
set_option maxRecDepth 100000 in
theorem f_107_245 : xft 107 245 = some (.iload 6) := by decide +kernel
set_option maxRecDepth 100000 in
theorem f_107_247 : xft 107 247 = some (.iconst 1) := by decide +kernel
set_option maxRecDepth 100000 in
theorem f_107_248 : xft 107 248 = some (.if_icmp .ne 196) := by decide +kernel
set_option maxRecDepth 100000 in
theorem f_107_251 : xft 107 251 = some (.iload 8) := by decide +kernel
set_option maxRecDepth 100000 in
theorem f_107_253 : xft 107 253 = some (.bipush 28) := by decide +kernel
set_option maxRecDepth 100000 in
theorem f_107_255 : xft 107 255 = some (.irem) := by decide +kernel
set_option maxRecDepth 100000 in
theorem f_107_256 : xft 107 256 = some (.istore 13) := by decide +kernel
set_option maxRecDepth 100000 in
theorem f_107_258 : xft 107 258 = some (.iload 10) := by decide +kernel
set_option maxRecDepth 100000 in
theorem f_107_260 : xft 107 260 = some (.ifCond .eq 27) := by decide +kernel
set_option maxRecDepth 100000 in
theorem f_107_263 : xft 107 263 = some (.iload 13) := by decide +kernel
set_option maxRecDepth 100000 in
theorem f_107_265 : xft 107 265 = some (.iconst 2) := by decide +kernel
set_option maxRecDepth 100000 in
theorem f_107_266 : xft 107 266 = some (.if_icmp .le 21) := by decide +kernel
set_option maxRecDepth 100000 in
theorem f_107_269 : xft 107 269 = some (.iload 13) := by decide +kernel
set_option maxRecDepth 100000 in
theorem f_107_271 : xft 107 271 = some (.iconst 4) := by decide +kernel
set_option maxRecDepth 100000 in
theorem f_107_272 : xft 107 272 = some (.iload 11) := by decide +kernel
set_option maxRecDepth 100000 in
theorem f_107_274 : xft 107 274 = some (.bipush 16) := by decide +kernel
set_option maxRecDepth 100000 in
theorem f_107_276 : xft 107 276 = some (.irem) := by decide +kernel
set_option maxRecDepth 100000 in
theorem f_107_277 : xft 107 277 = some (.imul) := by decide +kernel
set_option maxRecDepth 100000 in
theorem f_107_278 : xft 107 278 = some (.iconst 2) := by decide +kernel
set_option maxRecDepth 100000 in
theorem f_107_279 : xft 107 279 = some (.isub) := by decide +kernel
set_option maxRecDepth 100000 in
theorem f_107_280 : xft 107 280 = some (.if_icmp .ge 7) := by decide +kernel
set_option maxRecDepth 100000 in
theorem f_107_283 : xft 107 283 = some (.iconst 1) := by decide +kernel
set_option maxRecDepth 100000 in
theorem f_107_284 : xft 107 284 = some (.goto 4) := by decide +kernel
set_option maxRecDepth 100000 in
theorem f_107_287 : xft 107 287 = some (.iconst 0) := by decide +kernel
set_option maxRecDepth 100000 in
theorem f_107_288 : xft 107 288 = some (.istore 14) := by decide +kernel
set_option maxRecDepth 100000 in
theorem f_107_290 : xft 107 290 = some (.iload 14) := by decide +kernel
set_option maxRecDepth 100000 in
theorem f_107_292 : xft 107 292 = some (.ifCond .eq 18) := by decide +kernel
set_option maxRecDepth 100000 in
theorem f_107_295 : xft 107 295 = some (.aload_n 3) := by decide +kernel
set_option maxRecDepth 100000 in
theorem f_107_296 : xft 107 296 = some (.iload 9) := by decide +kernel
set_option maxRecDepth 100000 in
theorem f_107_298 : xft 107 298 = some (.iaload) := by decide +kernel
set_option maxRecDepth 100000 in
theorem f_107_299 : xft 107 299 = some (.iload 13) := by decide +kernel
set_option maxRecDepth 100000 in
theorem f_107_301 : xft 107 301 = some (.iconst 1) := by decide +kernel
set_option maxRecDepth 100000 in
theorem f_107_302 : xft 107 302 = some (.isub) := by decide +kernel
set_option maxRecDepth 100000 in
theorem f_107_303 : xft 107 303 = some (.ishr) := by decide +kernel
set_option maxRecDepth 100000 in
theorem f_107_304 : xft 107 304 = some (.bipush 7) := by decide +kernel
set_option maxRecDepth 100000 in
theorem f_107_306 : xft 107 306 = some (.iand) := by decide +kernel
set_option maxRecDepth 100000 in
theorem f_107_307 : xft 107 307 = some (.goto 4) := by decide +kernel
set_option maxRecDepth 100000 in
theorem f_107_310 : xft 107 310 = some (.iconst 0) := by decide +kernel
set_option maxRecDepth 100000 in
theorem f_107_311 : xft 107 311 = some (.istore 15) := by decide +kernel
set_option maxRecDepth 100000 in
theorem f_107_313 : xft 107 313 = some (.iload 14) := by decide +kernel
set_option maxRecDepth 100000 in
theorem f_107_315 : xft 107 315 = some (.ifCond .eq 28) := by decide +kernel
set_option maxRecDepth 100000 in
theorem f_107_318 : xft 107 318 = some (.iload 15) := by decide +kernel
set_option maxRecDepth 100000 in
theorem f_107_320 : xft 107 320 = some (.ifCond .ne 23) := by decide +kernel
set_option maxRecDepth 100000 in
theorem f_107_323 : xft 107 323 = some (.iload 11) := by decide +kernel
set_option maxRecDepth 100000 in
theorem f_107_325 : xft 107 325 = some (.ldc 123) := by decide +kernel
set_option maxRecDepth 100000 in
theorem f_107_327 : xft 107 327 = some (.idiv) := by decide +kernel
set_option maxRecDepth 100000 in
theorem f_107_328 : xft 107 328 = some (.bipush 8) := by decide +kernel
set_option maxRecDepth 100000 in
theorem f_107_330 : xft 107 330 = some (.irem) := by decide +kernel
set_option maxRecDepth 100000 in
theorem f_107_331 : xft 107 331 = some (.ifCond .ne 12) := by decide +kernel
set_option maxRecDepth 100000 in
theorem f_107_334 : xft 107 334 = some (.iload 12) := by decide +kernel
set_option maxRecDepth 100000 in
theorem f_107_336 : xft 107 336 = some (.ifCond .eq 7) := by decide +kernel
set_option maxRecDepth 100000 in
theorem f_107_339 : xft 107 339 = some (.iconst 1) := by decide +kernel
set_option maxRecDepth 100000 in
theorem f_107_340 : xft 107 340 = some (.goto 4) := by decide +kernel
set_option maxRecDepth 100000 in
theorem f_107_343 : xft 107 343 = some (.iconst 0) := by decide +kernel
set_option maxRecDepth 100000 in
theorem f_107_344 : xft 107 344 = some (.istore 16) := by decide +kernel
set_option maxRecDepth 100000 in
theorem f_107_346 : xft 107 346 = some (.iload 16) := by decide +kernel
set_option maxRecDepth 100000 in
theorem f_107_348 : xft 107 348 = some (.ifCond .eq 18) := by decide +kernel
set_option maxRecDepth 100000 in
theorem f_107_351 : xft 107 351 = some (.aload_n 3) := by decide +kernel
set_option maxRecDepth 100000 in
theorem f_107_352 : xft 107 352 = some (.iload 9) := by decide +kernel
set_option maxRecDepth 100000 in
theorem f_107_354 : xft 107 354 = some (.iaload) := by decide +kernel
set_option maxRecDepth 100000 in
theorem f_107_355 : xft 107 355 = some (.iconst 1) := by decide +kernel
set_option maxRecDepth 100000 in
theorem f_107_356 : xft 107 356 = some (.iload 13) := by decide +kernel
set_option maxRecDepth 100000 in
theorem f_107_358 : xft 107 358 = some (.ishl) := by decide +kernel
set_option maxRecDepth 100000 in
theorem f_107_359 : xft 107 359 = some (.irem) := by decide +kernel
set_option maxRecDepth 100000 in
theorem f_107_360 : xft 107 360 = some (.invokestatic 116) := by decide +kernel
set_option maxRecDepth 100000 in
theorem f_107_363 : xft 107 363 = some (.goto 4) := by decide +kernel
set_option maxRecDepth 100000 in
theorem f_107_366 : xft 107 366 = some (.iconst 0) := by decide +kernel
set_option maxRecDepth 100000 in
theorem f_107_367 : xft 107 367 = some (.istore 17) := by decide +kernel
set_option maxRecDepth 100000 in
theorem f_107_369 : xft 107 369 = some (.aload_n 3) := by decide +kernel
set_option maxRecDepth 100000 in
theorem f_107_370 : xft 107 370 = some (.iload 16) := by decide +kernel
set_option maxRecDepth 100000 in
theorem f_107_372 : xft 107 372 = some (.ifCond .eq 8) := by decide +kernel
set_option maxRecDepth 100000 in
theorem f_107_375 : xft 107 375 = some (.iload 9) := by decide +kernel
set_option maxRecDepth 100000 in
theorem f_107_377 : xft 107 377 = some (.goto 5) := by decide +kernel
set_option maxRecDepth 100000 in
theorem f_107_380 : xft 107 380 = some (.bipush 10) := by decide +kernel
set_option maxRecDepth 100000 in
theorem f_107_382 : xft 107 382 = some (.dup2) := by decide +kernel
set_option maxRecDepth 100000 in
theorem f_107_383 : xft 107 383 = some (.iaload) := by decide +kernel
set_option maxRecDepth 100000 in
theorem f_107_384 : xft 107 384 = some (.iconst 1) := by decide +kernel
set_option maxRecDepth 100000 in
theorem f_107_385 : xft 107 385 = some (.iload 13) := by decide +kernel
set_option maxRecDepth 100000 in
theorem f_107_387 : xft 107 387 = some (.ishl) := by decide +kernel
set_option maxRecDepth 100000 in
theorem f_107_388 : xft 107 388 = some (.ior) := by decide +kernel
set_option maxRecDepth 100000 in
theorem f_107_389 : xft 107 389 = some (.iastore) := by decide +kernel
set_option maxRecDepth 100000 in
theorem f_107_390 : xft 107 390 = some (.aload_n 0) := by decide +kernel
set_option maxRecDepth 100000 in
theorem f_107_391 : xft 107 391 = some (.iconst 5) := by decide +kernel
set_option maxRecDepth 100000 in
theorem f_107_392 : xft 107 392 = some (.iload 9) := by decide +kernel
set_option maxRecDepth 100000 in
theorem f_107_394 : xft 107 394 = some (.iload 13) := by decide +kernel
set_option maxRecDepth 100000 in
theorem f_107_396 : xft 107 396 = some (.iconst 0) := by decide +kernel
set_option maxRecDepth 100000 in
theorem f_107_397 : xft 107 397 = some (.iconst 0) := by decide +kernel
set_option maxRecDepth 100000 in
theorem f_107_398 : xft 107 398 = some (.iconst 0) := by decide +kernel
set_option maxRecDepth 100000 in
theorem f_107_399 : xft 107 399 = some (.iconst 0) := by decide +kernel
set_option maxRecDepth 100000 in
theorem f_107_400 : xft 107 400 = some (.invokestatic 124) := by decide +kernel
set_option maxRecDepth 100000 in
theorem f_107_403 : xft 107 403 = some (.iload 10) := by decide +kernel
set_option maxRecDepth 100000 in
theorem f_107_405 : xft 107 405 = some (.ifCond .ne 8) := by decide +kernel
set_option maxRecDepth 100000 in
theorem f_107_408 : xft 107 408 = some (.ldc 79) := by decide +kernel
set_option maxRecDepth 100000 in
theorem f_107_410 : xft 107 410 = some (.goto 25) := by decide +kernel
set_option maxRecDepth 100000 in
theorem f_107_413 : xft 107 413 = some (.iload 14) := by decide +kernel
set_option maxRecDepth 100000 in
theorem f_107_415 : xft 107 415 = some (.ifCond .ne 8) := by decide +kernel
set_option maxRecDepth 100000 in
theorem f_107_418 : xft 107 418 = some (.ldc 82) := by decide +kernel
set_option maxRecDepth 100000 in
theorem f_107_420 : xft 107 420 = some (.goto 15) := by decide +kernel
set_option maxRecDepth 100000 in
theorem f_107_423 : xft 107 423 = some (.iload 16) := by decide +kernel
set_option maxRecDepth 100000 in
theorem f_107_425 : xft 107 425 = some (.ifCond .eq 8) := by decide +kernel
set_option maxRecDepth 100000 in
theorem f_107_428 : xft 107 428 = some (.iload 17) := by decide +kernel
set_option maxRecDepth 100000 in
theorem f_107_430 : xft 107 430 = some (.goto 5) := by decide +kernel
set_option maxRecDepth 100000 in
theorem f_107_433 : xft 107 433 = some (.ldc 85) := by decide +kernel
set_option maxRecDepth 100000 in
theorem f_107_435 : xft 107 435 = some (.if_icmp .ne 7) := by decide +kernel
set_option maxRecDepth 100000 in
theorem f_107_438 : xft 107 438 = some (.iconst 1) := by decide +kernel
set_option maxRecDepth 100000 in
theorem f_107_439 : xft 107 439 = some (.goto 4) := by decide +kernel
set_option maxRecDepth 100000 in
theorem f_107_442 : xft 107 442 = some (.iconst 0) := by decide +kernel
set_option maxRecDepth 100000 in
theorem f_107_443 : xft 107 443 = some (.ireturn) := by decide +kernel
set_option maxRecDepth 100000 in
theorem f_107_444 : xft 107 444 = some (.iload 6) := by decide +kernel
set_option maxRecDepth 100000 in
theorem f_107_446 : xft 107 446 = some (.iconst 2) := by decide +kernel
set_option maxRecDepth 100000 in
theorem f_107_447 : xft 107 447 = some (.if_icmp .ne 278) := by decide +kernel
set_option maxRecDepth 100000 in
theorem f_107_450 : xft 107 450 = some (.iload 8) := by decide +kernel
set_option maxRecDepth 100000 in
theorem f_107_452 : xft 107 452 = some (.bipush 17) := by decide +kernel
set_option maxRecDepth 100000 in
theorem f_107_454 : xft 107 454 = some (.irem) := by decide +kernel
set_option maxRecDepth 100000 in
theorem f_107_455 : xft 107 455 = some (.bipush 16) := by decide +kernel
set_option maxRecDepth 100000 in
theorem f_107_457 : xft 107 457 = some (.if_icmp .ne 8) := by decide +kernel
set_option maxRecDepth 100000 in
theorem f_107_460 : xft 107 460 = some (.bipush 8) := by decide +kernel
set_option maxRecDepth 100000 in
theorem f_107_462 : xft 107 462 = some (.goto 7) := by decide +kernel
set_option maxRecDepth 100000 in
theorem f_107_465 : xft 107 465 = some (.iload 8) := by decide +kernel
set_option maxRecDepth 100000 in
theorem f_107_467 : xft 107 467 = some (.iconst 4) := by decide +kernel
set_option maxRecDepth 100000 in
theorem f_107_468 : xft 107 468 = some (.irem) := by decide +kernel
set_option maxRecDepth 100000 in
theorem f_107_469 : xft 107 469 = some (.istore 13) := by decide +kernel
set_option maxRecDepth 100000 in
theorem f_107_471 : xft 107 471 = some (.iload 8) := by decide +kernel
set_option maxRecDepth 100000 in
theorem f_107_473 : xft 107 473 = some (.bipush 17) := by decide +kernel
set_option maxRecDepth 100000 in
theorem f_107_475 : xft 107 475 = some (.idiv) := by decide +kernel
set_option maxRecDepth 100000 in
theorem f_107_476 : xft 107 476 = some (.iconst 4) := by decide +kernel
set_option maxRecDepth 100000 in
theorem f_107_477 : xft 107 477 = some (.irem) := by decide +kernel
set_option maxRecDepth 100000 in
theorem f_107_478 : xft 107 478 = some (.istore 14) := by decide +kernel
set_option maxRecDepth 100000 in
theorem f_107_480 : xft 107 480 = some (.iload 10) := by decide +kernel
set_option maxRecDepth 100000 in
theorem f_107_482 : xft 107 482 = some (.ifCond .eq 21) := by decide +kernel
set_option maxRecDepth 100000 in
theorem f_107_485 : xft 107 485 = some (.iload 8) := by decide +kernel
set_option maxRecDepth 100000 in
theorem f_107_487 : xft 107 487 = some (.bipush 68) := by decide +kernel
set_option maxRecDepth 100000 in
theorem f_107_489 : xft 107 489 = some (.idiv) := by decide +kernel
set_option maxRecDepth 100000 in
theorem f_107_490 : xft 107 490 = some (.aload_n 3) := by decide +kernel
set_option maxRecDepth 100000 in
theorem f_107_491 : xft 107 491 = some (.iload 9) := by decide +kernel
set_option maxRecDepth 100000 in
theorem f_107_493 : xft 107 493 = some (.iaload) := by decide +kernel
set_option maxRecDepth 100000 in
theorem f_107_494 : xft 107 494 = some (.invokestatic 116) := by decide +kernel
set_option maxRecDepth 100000 in
theorem f_107_497 : xft 107 497 = some (.iconst 1) := by decide +kernel
set_option maxRecDepth 100000 in
theorem f_107_498 : xft 107 498 = some (.iadd) := by decide +kernel
set_option maxRecDepth 100000 in
theorem f_107_499 : xft 107 499 = some (.irem) := by decide +kernel
set_option maxRecDepth 100000 in
theorem f_107_500 : xft 107 500 = some (.goto 4) := by decide +kernel
set_option maxRecDepth 100000 in
theorem f_107_503 : xft 107 503 = some (.iconst 0) := by decide +kernel
set_option maxRecDepth 100000 in
theorem f_107_504 : xft 107 504 = some (.istore 15) := by decide +kernel
set_option maxRecDepth 100000 in
theorem f_107_506 : xft 107 506 = some (.iload 10) := by decide +kernel
set_option maxRecDepth 100000 in
theorem f_107_508 : xft 107 508 = some (.ifCond .eq 26) := by decide +kernel
set_option maxRecDepth 100000 in
theorem f_107_511 : xft 107 511 = some (.iload 13) := by decide +kernel
set_option maxRecDepth 100000 in
theorem f_107_513 : xft 107 513 = some (.bipush 8) := by decide +kernel
set_option maxRecDepth 100000 in
theorem f_107_515 : xft 107 515 = some (.if_icmp .ge 19) := by decide +kernel
set_option maxRecDepth 100000 in
theorem f_107_518 : xft 107 518 = some (.iload 15) := by decide +kernel
set_option maxRecDepth 100000 in
theorem f_107_520 : xft 107 520 = some (.aload_n 3) := by decide +kernel
set_option maxRecDepth 100000 in
theorem f_107_521 : xft 107 521 = some (.iload 9) := by decide +kernel
set_option maxRecDepth 100000 in
theorem f_107_523 : xft 107 523 = some (.iaload) := by decide +kernel
set_option maxRecDepth 100000 in
theorem f_107_524 : xft 107 524 = some (.invokestatic 116) := by decide +kernel
set_option maxRecDepth 100000 in
theorem f_107_527 : xft 107 527 = some (.if_icmp .ge 7) := by decide +kernel
set_option maxRecDepth 100000 in
theorem f_107_530 : xft 107 530 = some (.iconst 1) := by decide +kernel
set_option maxRecDepth 100000 in
theorem f_107_531 : xft 107 531 = some (.goto 4) := by decide +kernel
set_option maxRecDepth 100000 in
theorem f_107_534 : xft 107 534 = some (.iconst 0) := by decide +kernel
set_option maxRecDepth 100000 in
theorem f_107_535 : xft 107 535 = some (.istore 16) := by decide +kernel
set_option maxRecDepth 100000 in
theorem f_107_537 : xft 107 537 = some (.iload 16) := by decide +kernel
set_option maxRecDepth 100000 in
theorem f_107_539 : xft 107 539 = some (.ifCond .eq 30) := by decide +kernel
set_option maxRecDepth 100000 in
theorem f_107_542 : xft 107 542 = some (.iload 13) := by decide +kernel
set_option maxRecDepth 100000 in
theorem f_107_544 : xft 107 544 = some (.iload 14) := by decide +kernel
set_option maxRecDepth 100000 in
theorem f_107_546 : xft 107 546 = some (.if_icmp .eq 23) := by decide +kernel
set_option maxRecDepth 100000 in
theorem f_107_549 : xft 107 549 = some (.iload 12) := by decide +kernel
set_option maxRecDepth 100000 in
theorem f_107_551 : xft 107 551 = some (.ifCond .eq 18) := by decide +kernel
set_option maxRecDepth 100000 in
theorem f_107_554 : xft 107 554 = some (.iload 11) := by decide +kernel
set_option maxRecDepth 100000 in
theorem f_107_556 : xft 107 556 = some (.ldc 164) := by decide +kernel
set_option maxRecDepth 100000 in
theorem f_107_558 : xft 107 558 = some (.idiv) := by decide +kernel
set_option maxRecDepth 100000 in
theorem f_107_559 : xft 107 559 = some (.iconst 2) := by decide +kernel
set_option maxRecDepth 100000 in
theorem f_107_560 : xft 107 560 = some (.irem) := by decide +kernel
set_option maxRecDepth 100000 in
theorem f_107_561 : xft 107 561 = some (.iconst 1) := by decide +kernel
set_option maxRecDepth 100000 in
theorem f_107_562 : xft 107 562 = some (.if_icmp .ne 7) := by decide +kernel
set_option maxRecDepth 100000 in
theorem f_107_565 : xft 107 565 = some (.iconst 1) := by decide +kernel
set_option maxRecDepth 100000 in
theorem f_107_566 : xft 107 566 = some (.goto 4) := by decide +kernel
set_option maxRecDepth 100000 in
theorem f_107_569 : xft 107 569 = some (.iconst 0) := by decide +kernel
set_option maxRecDepth 100000 in
theorem f_107_570 : xft 107 570 = some (.istore 17) := by decide +kernel
set_option maxRecDepth 100000 in
theorem f_107_572 : xft 107 572 = some (.iconst 0) := by decide +kernel
set_option maxRecDepth 100000 in
theorem f_107_573 : xft 107 573 = some (.istore 18) := by decide +kernel
set_option maxRecDepth 100000 in
theorem f_107_575 : xft 107 575 = some (.iconst 0) := by decide +kernel
set_option maxRecDepth 100000 in
theorem f_107_576 : xft 107 576 = some (.istore 19) := by decide +kernel
set_option maxRecDepth 100000 in
theorem f_107_578 : xft 107 578 = some (.iload 19) := by decide +kernel
set_option maxRecDepth 100000 in
theorem f_107_580 : xft 107 580 = some (.bipush 30) := by decide +kernel
set_option maxRecDepth 100000 in
theorem f_107_582 : xft 107 582 = some (.if_icmp .ge 53) := by decide +kernel
set_option maxRecDepth 100000 in
theorem f_107_585 : xft 107 585 = some (.iload 16) := by decide +kernel
set_option maxRecDepth 100000 in
theorem f_107_587 : xft 107 587 = some (.ifCond .eq 48) := by decide +kernel
set_option maxRecDepth 100000 in
theorem f_107_590 : xft 107 590 = some (.aload_n 3) := by decide +kernel
set_option maxRecDepth 100000 in
theorem f_107_591 : xft 107 591 = some (.iload 9) := by decide +kernel
set_option maxRecDepth 100000 in
theorem f_107_593 : xft 107 593 = some (.iaload) := by decide +kernel
set_option maxRecDepth 100000 in
theorem f_107_594 : xft 107 594 = some (.iload 19) := by decide +kernel
set_option maxRecDepth 100000 in
theorem f_107_596 : xft 107 596 = some (.ishr) := by decide +kernel
set_option maxRecDepth 100000 in
theorem f_107_597 : xft 107 597 = some (.iconst 1) := by decide +kernel
set_option maxRecDepth 100000 in
theorem f_107_598 : xft 107 598 = some (.iand) := by decide +kernel
set_option maxRecDepth 100000 in
theorem f_107_599 : xft 107 599 = some (.iconst 1) := by decide +kernel
set_option maxRecDepth 100000 in
theorem f_107_600 : xft 107 600 = some (.if_icmp .ne 25) := by decide +kernel
set_option maxRecDepth 100000 in
theorem f_107_603 : xft 107 603 = some (.aload_n 3) := by decide +kernel
set_option maxRecDepth 100000 in
theorem f_107_604 : xft 107 604 = some (.iload 9) := by decide +kernel
set_option maxRecDepth 100000 in
theorem f_107_606 : xft 107 606 = some (.iaload) := by decide +kernel
set_option maxRecDepth 100000 in
theorem f_107_607 : xft 107 607 = some (.iconst 1) := by decide +kernel
set_option maxRecDepth 100000 in
theorem f_107_608 : xft 107 608 = some (.iload 19) := by decide +kernel
set_option maxRecDepth 100000 in
theorem f_107_610 : xft 107 610 = some (.ishl) := by decide +kernel
set_option maxRecDepth 100000 in
theorem f_107_611 : xft 107 611 = some (.irem) := by decide +kernel
set_option maxRecDepth 100000 in
theorem f_107_612 : xft 107 612 = some (.invokestatic 116) := by decide +kernel
set_option maxRecDepth 100000 in
theorem f_107_615 : xft 107 615 = some (.iload 15) := by decide +kernel
set_option maxRecDepth 100000 in
theorem f_107_617 : xft 107 617 = some (.if_icmp .ne 8) := by decide +kernel
set_option maxRecDepth 100000 in
theorem f_107_620 : xft 107 620 = some (.iload 19) := by decide +kernel
set_option maxRecDepth 100000 in
theorem f_107_622 : xft 107 622 = some (.goto 5) := by decide +kernel
set_option maxRecDepth 100000 in
theorem f_107_625 : xft 107 625 = some (.iload 18) := by decide +kernel
set_option maxRecDepth 100000 in
theorem f_107_627 : xft 107 627 = some (.istore 18) := by decide +kernel
set_option maxRecDepth 100000 in
theorem f_107_629 : xft 107 629 = some (.iinc 19 1) := by decide +kernel
set_option maxRecDepth 100000 in
theorem f_107_632 : xft 107 632 = some (.goto (-54)) := by decide +kernel
set_option maxRecDepth 100000 in
theorem f_107_635 : xft 107 635 = some (.aload 4) := by decide +kernel
set_option maxRecDepth 100000 in
theorem f_107_637 : xft 107 637 = some (.iload 17) := by decide +kernel
set_option maxRecDepth 100000 in
theorem f_107_639 : xft 107 639 = some (.ifCond .eq 8) := by decide +kernel
set_option maxRecDepth 100000 in
theorem f_107_642 : xft 107 642 = some (.iload 9) := by decide +kernel
set_option maxRecDepth 100000 in
theorem f_107_644 : xft 107 644 = some (.goto 5) := by decide +kernel
set_option maxRecDepth 100000 in
theorem f_107_647 : xft 107 647 = some (.bipush 10) := by decide +kernel
set_option maxRecDepth 100000 in
theorem f_107_649 : xft 107 649 = some (.iconst 1) := by decide +kernel
set_option maxRecDepth 100000 in
theorem f_107_650 : xft 107 650 = some (.iload 13) := by decide +kernel
set_option maxRecDepth 100000 in
theorem f_107_652 : xft 107 652 = some (.iadd) := by decide +kernel
set_option maxRecDepth 100000 in
theorem f_107_653 : xft 107 653 = some (.bipush 8) := by decide +kernel
set_option maxRecDepth 100000 in
theorem f_107_655 : xft 107 655 = some (.iload 14) := by decide +kernel
set_option maxRecDepth 100000 in
theorem f_107_657 : xft 107 657 = some (.imul) := by decide +kernel
set_option maxRecDepth 100000 in
theorem f_107_658 : xft 107 658 = some (.iadd) := by decide +kernel
set_option maxRecDepth 100000 in
theorem f_107_659 : xft 107 659 = some (.bipush 64) := by decide +kernel
set_option maxRecDepth 100000 in
theorem f_107_661 : xft 107 661 = some (.iload 18) := by decide +kernel
set_option maxRecDepth 100000 in
theorem f_107_663 : xft 107 663 = some (.imul) := by decide +kernel
set_option maxRecDepth 100000 in
theorem f_107_664 : xft 107 664 = some (.iadd) := by decide +kernel
set_option maxRecDepth 100000 in
theorem f_107_665 : xft 107 665 = some (.iastore) := by decide +kernel
set_option maxRecDepth 100000 in
theorem f_107_666 : xft 107 666 = some (.aload_n 0) := by decide +kernel
set_option maxRecDepth 100000 in
theorem f_107_667 : xft 107 667 = some (.bipush 7) := by decide +kernel
set_option maxRecDepth 100000 in
theorem f_107_669 : xft 107 669 = some (.iload 9) := by decide +kernel
set_option maxRecDepth 100000 in
theorem f_107_671 : xft 107 671 = some (.iload 13) := by decide +kernel
set_option maxRecDepth 100000 in
theorem f_107_673 : xft 107 673 = some (.iload 14) := by decide +kernel
set_option maxRecDepth 100000 in
theorem f_107_675 : xft 107 675 = some (.iload 15) := by decide +kernel
set_option maxRecDepth 100000 in
theorem f_107_677 : xft 107 677 = some (.iconst 0) := by decide +kernel
set_option maxRecDepth 100000 in
theorem f_107_678 : xft 107 678 = some (.iconst 0) := by decide +kernel
set_option maxRecDepth 100000 in
theorem f_107_679 : xft 107 679 = some (.invokestatic 124) := by decide +kernel
set_option maxRecDepth 100000 in
theorem f_107_682 : xft 107 682 = some (.iload 16) := by decide +kernel
set_option maxRecDepth 100000 in
theorem f_107_684 : xft 107 684 = some (.ifCond .ne 8) := by decide +kernel
set_option maxRecDepth 100000 in
theorem f_107_687 : xft 107 687 = some (.ldc 79) := by decide +kernel
set_option maxRecDepth 100000 in
theorem f_107_689 : xft 107 689 = some (.goto 27) := by decide +kernel
set_option maxRecDepth 100000 in
theorem f_107_692 : xft 107 692 = some (.iload 13) := by decide +kernel
set_option maxRecDepth 100000 in
theorem f_107_694 : xft 107 694 = some (.iload 14) := by decide +kernel
set_option maxRecDepth 100000 in
theorem f_107_696 : xft 107 696 = some (.if_icmp .ne 8) := by decide +kernel
set_option maxRecDepth 100000 in
theorem f_107_699 : xft 107 699 = some (.ldc 82) := by decide +kernel
set_option maxRecDepth 100000 in
theorem f_107_701 : xft 107 701 = some (.goto 15) := by decide +kernel
set_option maxRecDepth 100000 in
theorem f_107_704 : xft 107 704 = some (.iload 17) := by decide +kernel
set_option maxRecDepth 100000 in
theorem f_107_706 : xft 107 706 = some (.ifCond .eq 8) := by decide +kernel
set_option maxRecDepth 100000 in
theorem f_107_709 : xft 107 709 = some (.iload 18) := by decide +kernel
set_option maxRecDepth 100000 in
theorem f_107_711 : xft 107 711 = some (.goto 5) := by decide +kernel
set_option maxRecDepth 100000 in
theorem f_107_714 : xft 107 714 = some (.ldc 85) := by decide +kernel
set_option maxRecDepth 100000 in
theorem f_107_716 : xft 107 716 = some (.if_icmp .ne 7) := by decide +kernel
set_option maxRecDepth 100000 in
theorem f_107_719 : xft 107 719 = some (.iconst 1) := by decide +kernel
set_option maxRecDepth 100000 in
theorem f_107_720 : xft 107 720 = some (.goto 4) := by decide +kernel
set_option maxRecDepth 100000 in
theorem f_107_723 : xft 107 723 = some (.iconst 0) := by decide +kernel
set_option maxRecDepth 100000 in
theorem f_107_724 : xft 107 724 = some (.ireturn) := by decide +kernel
set_option maxRecDepth 100000 in
theorem f_107_725 : xft 107 725 = some (.iload 6) := by decide +kernel
set_option maxRecDepth 100000 in
theorem f_107_727 : xft 107 727 = some (.iconst 3) := by decide +kernel
set_option maxRecDepth 100000 in
theorem f_107_728 : xft 107 728 = some (.if_icmp .ne 104) := by decide +kernel
set_option maxRecDepth 100000 in
theorem f_107_731 : xft 107 731 = some (.iload 10) := by decide +kernel
set_option maxRecDepth 100000 in
theorem f_107_733 : xft 107 733 = some (.ifCond .eq 15) := by decide +kernel
set_option maxRecDepth 100000 in
theorem f_107_736 : xft 107 736 = some (.aload 4) := by decide +kernel
set_option maxRecDepth 100000 in
theorem f_107_738 : xft 107 738 = some (.iload 9) := by decide +kernel
set_option maxRecDepth 100000 in
theorem f_107_740 : xft 107 740 = some (.iaload) := by decide +kernel
set_option maxRecDepth 100000 in
theorem f_107_741 : xft 107 741 = some (.ifCond .le 7) := by decide +kernel
set_option maxRecDepth 100000 in
theorem f_107_744 : xft 107 744 = some (.iconst 1) := by decide +kernel
set_option maxRecDepth 100000 in
theorem f_107_745 : xft 107 745 = some (.goto 4) := by decide +kernel
set_option maxRecDepth 100000 in
theorem f_107_748 : xft 107 748 = some (.iconst 0) := by decide +kernel
set_option maxRecDepth 100000 in
theorem f_107_749 : xft 107 749 = some (.istore 13) := by decide +kernel
set_option maxRecDepth 100000 in
theorem f_107_751 : xft 107 751 = some (.iload 13) := by decide +kernel
set_option maxRecDepth 100000 in
theorem f_107_753 : xft 107 753 = some (.ifCond .eq 16) := by decide +kernel
set_option maxRecDepth 100000 in
theorem f_107_756 : xft 107 756 = some (.aload 4) := by decide +kernel
set_option maxRecDepth 100000 in
theorem f_107_758 : xft 107 758 = some (.iload 9) := by decide +kernel
set_option maxRecDepth 100000 in
theorem f_107_760 : xft 107 760 = some (.iaload) := by decide +kernel
set_option maxRecDepth 100000 in
theorem f_107_761 : xft 107 761 = some (.iconst 1) := by decide +kernel
set_option maxRecDepth 100000 in
theorem f_107_762 : xft 107 762 = some (.isub) := by decide +kernel
set_option maxRecDepth 100000 in
theorem f_107_763 : xft 107 763 = some (.bipush 64) := by decide +kernel
set_option maxRecDepth 100000 in
theorem f_107_765 : xft 107 765 = some (.idiv) := by decide +kernel
set_option maxRecDepth 100000 in
theorem f_107_766 : xft 107 766 = some (.goto 4) := by decide +kernel
set_option maxRecDepth 100000 in
theorem f_107_769 : xft 107 769 = some (.iconst 0) := by decide +kernel
set_option maxRecDepth 100000 in
theorem f_107_770 : xft 107 770 = some (.istore 14) := by decide +kernel
set_option maxRecDepth 100000 in
theorem f_107_772 : xft 107 772 = some (.aload 4) := by decide +kernel
set_option maxRecDepth 100000 in
theorem f_107_774 : xft 107 774 = some (.iload 13) := by decide +kernel
set_option maxRecDepth 100000 in
theorem f_107_776 : xft 107 776 = some (.ifCond .eq 8) := by decide +kernel
set_option maxRecDepth 100000 in
theorem f_107_779 : xft 107 779 = some (.iload 9) := by decide +kernel
set_option maxRecDepth 100000 in
theorem f_107_781 : xft 107 781 = some (.goto 5) := by decide +kernel
set_option maxRecDepth 100000 in
theorem f_107_784 : xft 107 784 = some (.bipush 10) := by decide +kernel
set_option maxRecDepth 100000 in
theorem f_107_786 : xft 107 786 = some (.iconst 0) := by decide +kernel
set_option maxRecDepth 100000 in
theorem f_107_787 : xft 107 787 = some (.iastore) := by decide +kernel
set_option maxRecDepth 100000 in
theorem f_107_788 : xft 107 788 = some (.aload_n 0) := by decide +kernel
set_option maxRecDepth 100000 in
theorem f_107_789 : xft 107 789 = some (.bipush 8) := by decide +kernel
set_option maxRecDepth 100000 in
theorem f_107_791 : xft 107 791 = some (.iload 9) := by decide +kernel
set_option maxRecDepth 100000 in
theorem f_107_793 : xft 107 793 = some (.iconst 0) := by decide +kernel
set_option maxRecDepth 100000 in
theorem f_107_794 : xft 107 794 = some (.iconst 0) := by decide +kernel
set_option maxRecDepth 100000 in
theorem f_107_795 : xft 107 795 = some (.iconst 0) := by decide +kernel
set_option maxRecDepth 100000 in
theorem f_107_796 : xft 107 796 = some (.iconst 0) := by decide +kernel
set_option maxRecDepth 100000 in
theorem f_107_797 : xft 107 797 = some (.iconst 0) := by decide +kernel
set_option maxRecDepth 100000 in
theorem f_107_798 : xft 107 798 = some (.invokestatic 124) := by decide +kernel
set_option maxRecDepth 100000 in
theorem f_107_801 : xft 107 801 = some (.iload 10) := by decide +kernel
set_option maxRecDepth 100000 in
theorem f_107_803 : xft 107 803 = some (.ifCond .ne 8) := by decide +kernel
set_option maxRecDepth 100000 in
theorem f_107_806 : xft 107 806 = some (.ldc 79) := by decide +kernel
set_option maxRecDepth 100000 in
theorem f_107_808 : xft 107 808 = some (.goto 15) := by decide +kernel
set_option maxRecDepth 100000 in
theorem f_107_811 : xft 107 811 = some (.iload 13) := by decide +kernel
set_option maxRecDepth 100000 in
theorem f_107_813 : xft 107 813 = some (.ifCond .eq 8) := by decide +kernel
set_option maxRecDepth 100000 in
theorem f_107_816 : xft 107 816 = some (.iload 14) := by decide +kernel
set_option maxRecDepth 100000 in
theorem f_107_818 : xft 107 818 = some (.goto 5) := by decide +kernel
set_option maxRecDepth 100000 in
theorem f_107_821 : xft 107 821 = some (.ldc 85) := by decide +kernel
set_option maxRecDepth 100000 in
theorem f_107_823 : xft 107 823 = some (.if_icmp .ne 7) := by decide +kernel
set_option maxRecDepth 100000 in
theorem f_107_826 : xft 107 826 = some (.iconst 1) := by decide +kernel
set_option maxRecDepth 100000 in
theorem f_107_827 : xft 107 827 = some (.goto 4) := by decide +kernel
set_option maxRecDepth 100000 in
theorem f_107_830 : xft 107 830 = some (.iconst 0) := by decide +kernel
set_option maxRecDepth 100000 in
theorem f_107_831 : xft 107 831 = some (.ireturn) := by decide +kernel
set_option maxRecDepth 100000 in
theorem f_107_832 : xft 107 832 = some (.iload 6) := by decide +kernel
set_option maxRecDepth 100000 in
theorem f_107_834 : xft 107 834 = some (.iconst 4) := by decide +kernel
set_option maxRecDepth 100000 in
theorem f_107_835 : xft 107 835 = some (.if_icmp .ne 214) := by decide +kernel
set_option maxRecDepth 100000 in
theorem f_107_838 : xft 107 838 = some (.iload 7) := by decide +kernel
set_option maxRecDepth 100000 in
theorem f_107_840 : xft 107 840 = some (.bipush 17) := by decide +kernel
set_option maxRecDepth 100000 in
theorem f_107_842 : xft 107 842 = some (.irem) := by decide +kernel
set_option maxRecDepth 100000 in
theorem f_107_843 : xft 107 843 = some (.bipush 16) := by decide +kernel
set_option maxRecDepth 100000 in
theorem f_107_845 : xft 107 845 = some (.if_icmp .ne 7) := by decide +kernel
set_option maxRecDepth 100000 in
theorem f_107_848 : xft 107 848 = some (.iconst (-1)) := by decide +kernel
set_option maxRecDepth 100000 in
theorem f_107_849 : xft 107 849 = some (.goto 7) := by decide +kernel
set_option maxRecDepth 100000 in
theorem f_107_852 : xft 107 852 = some (.iload 7) := by decide +kernel
set_option maxRecDepth 100000 in
theorem f_107_854 : xft 107 854 = some (.iconst 4) := by decide +kernel
set_option maxRecDepth 100000 in
theorem f_107_855 : xft 107 855 = some (.irem) := by decide +kernel
set_option maxRecDepth 100000 in
theorem f_107_856 : xft 107 856 = some (.istore 13) := by decide +kernel
set_option maxRecDepth 100000 in
theorem f_107_858 : xft 107 858 = some (.iload 8) := by decide +kernel
set_option maxRecDepth 100000 in
theorem f_107_860 : xft 107 860 = some (.iconst 4) := by decide +kernel
set_option maxRecDepth 100000 in
theorem f_107_861 : xft 107 861 = some (.irem) := by decide +kernel
set_option maxRecDepth 100000 in
theorem f_107_862 : xft 107 862 = some (.istore 14) := by decide +kernel
set_option maxRecDepth 100000 in
theorem f_107_864 : xft 107 864 = some (.iload 8) := by decide +kernel
set_option maxRecDepth 100000 in
theorem f_107_866 : xft 107 866 = some (.iconst 4) := by decide +kernel
set_option maxRecDepth 100000 in
theorem f_107_867 : xft 107 867 = some (.idiv) := by decide +kernel
set_option maxRecDepth 100000 in
theorem f_107_868 : xft 107 868 = some (.bipush 9) := by decide +kernel
set_option maxRecDepth 100000 in
theorem f_107_870 : xft 107 870 = some (.irem) := by decide +kernel
set_option maxRecDepth 100000 in
theorem f_107_871 : xft 107 871 = some (.ifCond .ne 17) := by decide +kernel
set_option maxRecDepth 100000 in
theorem f_107_874 : xft 107 874 = some (.iload 8) := by decide +kernel
set_option maxRecDepth 100000 in
theorem f_107_876 : xft 107 876 = some (.bipush 36) := by decide +kernel
set_option maxRecDepth 100000 in
theorem f_107_878 : xft 107 878 = some (.idiv) := by decide +kernel
set_option maxRecDepth 100000 in
theorem f_107_879 : xft 107 879 = some (.iconst 2) := by decide +kernel
set_option maxRecDepth 100000 in
theorem f_107_880 : xft 107 880 = some (.irem) := by decide +kernel
set_option maxRecDepth 100000 in
theorem f_107_881 : xft 107 881 = some (.sipush 10000) := by decide +kernel
set_option maxRecDepth 100000 in
theorem f_107_884 : xft 107 884 = some (.imul) := by decide +kernel
set_option maxRecDepth 100000 in
theorem f_107_885 : xft 107 885 = some (.goto 13) := by decide +kernel
set_option maxRecDepth 100000 in
theorem f_107_888 : xft 107 888 = some (.iconst 1) := by decide +kernel
set_option maxRecDepth 100000 in
theorem f_107_889 : xft 107 889 = some (.iload 8) := by decide +kernel
set_option maxRecDepth 100000 in
theorem f_107_891 : xft 107 891 = some (.iconst 4) := by decide +kernel
set_option maxRecDepth 100000 in
theorem f_107_892 : xft 107 892 = some (.idiv) := by decide +kernel
set_option maxRecDepth 100000 in
theorem f_107_893 : xft 107 893 = some (.sipush 500) := by decide +kernel
set_option maxRecDepth 100000 in
theorem f_107_896 : xft 107 896 = some (.irem) := by decide +kernel
set_option maxRecDepth 100000 in
theorem f_107_897 : xft 107 897 = some (.iadd) := by decide +kernel
set_option maxRecDepth 100000 in
theorem f_107_898 : xft 107 898 = some (.istore 15) := by decide +kernel
set_option maxRecDepth 100000 in
theorem f_107_900 : xft 107 900 = some (.iload 13) := by decide +kernel
set_option maxRecDepth 100000 in
theorem f_107_902 : xft 107 902 = some (.iload 14) := by decide +kernel
set_option maxRecDepth 100000 in
theorem f_107_904 : xft 107 904 = some (.if_icmp .eq 20) := by decide +kernel
set_option maxRecDepth 100000 in
theorem f_107_907 : xft 107 907 = some (.iload 15) := by decide +kernel
set_option maxRecDepth 100000 in
theorem f_107_909 : xft 107 909 = some (.ifCond .le 15) := by decide +kernel
set_option maxRecDepth 100000 in
theorem f_107_912 : xft 107 912 = some (.iload 15) := by decide +kernel
set_option maxRecDepth 100000 in
theorem f_107_914 : xft 107 914 = some (.sipush 10000) := by decide +kernel
set_option maxRecDepth 100000 in
theorem f_107_917 : xft 107 917 = some (.if_icmp .ge 7) := by decide +kernel
set_option maxRecDepth 100000 in
theorem f_107_920 : xft 107 920 = some (.iconst 1) := by decide +kernel
set_option maxRecDepth 100000 in
theorem f_107_921 : xft 107 921 = some (.goto 4) := by decide +kernel
set_option maxRecDepth 100000 in
theorem f_107_924 : xft 107 924 = some (.iconst 0) := by decide +kernel
set_option maxRecDepth 100000 in
theorem f_107_925 : xft 107 925 = some (.istore 16) := by decide +kernel
set_option maxRecDepth 100000 in
theorem f_107_927 : xft 107 927 = some (.bipush 9) := by decide +kernel
set_option maxRecDepth 100000 in
theorem f_107_929 : xft 107 929 = some (.newarray .int) := by decide +kernel
set_option maxRecDepth 100000 in
theorem f_107_931 : xft 107 931 = some (.astore 17) := by decide +kernel
set_option maxRecDepth 100000 in
theorem f_107_933 : xft 107 933 = some (.iload 13) := by decide +kernel
set_option maxRecDepth 100000 in
theorem f_107_935 : xft 107 935 = some (.ifCond .lt 28) := by decide +kernel
set_option maxRecDepth 100000 in
theorem f_107_938 : xft 107 938 = some (.iload 16) := by decide +kernel
set_option maxRecDepth 100000 in
theorem f_107_940 : xft 107 940 = some (.ifCond .eq 23) := by decide +kernel
set_option maxRecDepth 100000 in
theorem f_107_943 : xft 107 943 = some (.aload 4) := by decide +kernel
set_option maxRecDepth 100000 in
theorem f_107_945 : xft 107 945 = some (.aload 5) := by decide +kernel
set_option maxRecDepth 100000 in
theorem f_107_947 : xft 107 947 = some (.iload 13) := by decide +kernel
set_option maxRecDepth 100000 in
theorem f_107_949 : xft 107 949 = some (.iload 14) := by decide +kernel
set_option maxRecDepth 100000 in
theorem f_107_951 : xft 107 951 = some (.aload 17) := by decide +kernel
set_option maxRecDepth 100000 in
theorem f_107_953 : xft 107 953 = some (.invokestatic 103) := by decide +kernel
set_option maxRecDepth 100000 in
theorem f_107_956 : xft 107 956 = some (.ifCond .eq 7) := by decide +kernel
set_option maxRecDepth 100000 in
theorem f_107_959 : xft 107 959 = some (.iconst 1) := by decide +kernel
set_option maxRecDepth 100000 in
theorem f_107_960 : xft 107 960 = some (.goto 4) := by decide +kernel
set_option maxRecDepth 100000 in
theorem f_107_963 : xft 107 963 = some (.iconst 0) := by decide +kernel
set_option maxRecDepth 100000 in
theorem f_107_964 : xft 107 964 = some (.istore 18) := by decide +kernel
set_option maxRecDepth 100000 in
theorem f_107_966 : xft 107 966 = some (.iload 18) := by decide +kernel
set_option maxRecDepth 100000 in
theorem f_107_968 : xft 107 968 = some (.ifCond .eq 22) := by decide +kernel
set_option maxRecDepth 100000 in
theorem f_107_971 : xft 107 971 = some (.aload_n 1) := by decide +kernel
set_option maxRecDepth 100000 in
theorem f_107_972 : xft 107 972 = some (.aload_n 2) := by decide +kernel
set_option maxRecDepth 100000 in
theorem f_107_973 : xft 107 973 = some (.aload_n 3) := by decide +kernel
set_option maxRecDepth 100000 in
theorem f_107_974 : xft 107 974 = some (.aload 4) := by decide +kernel
set_option maxRecDepth 100000 in
theorem f_107_976 : xft 107 976 = some (.aload 5) := by decide +kernel
set_option maxRecDepth 100000 in
theorem f_107_978 : xft 107 978 = some (.iload 13) := by decide +kernel
set_option maxRecDepth 100000 in
theorem f_107_980 : xft 107 980 = some (.iload 14) := by decide +kernel
set_option maxRecDepth 100000 in
theorem f_107_982 : xft 107 982 = some (.iload 15) := by decide +kernel
set_option maxRecDepth 100000 in
theorem f_107_984 : xft 107 984 = some (.invokestatic 165) := by decide +kernel
set_option maxRecDepth 100000 in
theorem f_107_987 : xft 107 987 = some (.goto 4) := by decide +kernel
set_option maxRecDepth 100000 in
theorem f_107_990 : xft 107 990 = some (.iconst 0) := by decide +kernel
set_option maxRecDepth 100000 in
theorem f_107_991 : xft 107 991 = some (.istore 19) := by decide +kernel
set_option maxRecDepth 100000 in
theorem f_107_993 : xft 107 993 = some (.aload_n 0) := by decide +kernel
set_option maxRecDepth 100000 in
theorem f_107_994 : xft 107 994 = some (.bipush 9) := by decide +kernel
set_option maxRecDepth 100000 in
theorem f_107_996 : xft 107 996 = some (.iload 13) := by decide +kernel
set_option maxRecDepth 100000 in
theorem f_107_998 : xft 107 998 = some (.iload 14) := by decide +kernel
set_option maxRecDepth 100000 in
theorem f_107_1000 : xft 107 1000 = some (.iload 15) := by decide +kernel
set_option maxRecDepth 100000 in
theorem f_107_1002 : xft 107 1002 = some (.iconst 0) := by decide +kernel
set_option maxRecDepth 100000 in
theorem f_107_1003 : xft 107 1003 = some (.iconst 0) := by decide +kernel
set_option maxRecDepth 100000 in
theorem f_107_1004 : xft 107 1004 = some (.iconst 0) := by decide +kernel
set_option maxRecDepth 100000 in
theorem f_107_1005 : xft 107 1005 = some (.invokestatic 124) := by decide +kernel
set_option maxRecDepth 100000 in
theorem f_107_1008 : xft 107 1008 = some (.iload 13) := by decide +kernel
set_option maxRecDepth 100000 in
theorem f_107_1010 : xft 107 1010 = some (.ifCond .ge 8) := by decide +kernel
set_option maxRecDepth 100000 in
theorem f_107_1013 : xft 107 1013 = some (.ldc 79) := by decide +kernel
set_option maxRecDepth 100000 in
theorem f_107_1015 : xft 107 1015 = some (.goto 25) := by decide +kernel
set_option maxRecDepth 100000 in
theorem f_107_1018 : xft 107 1018 = some (.iload 16) := by decide +kernel
set_option maxRecDepth 100000 in
theorem f_107_1020 : xft 107 1020 = some (.ifCond .ne 8) := by decide +kernel
set_option maxRecDepth 100000 in
theorem f_107_1023 : xft 107 1023 = some (.ldc 82) := by decide +kernel
set_option maxRecDepth 100000 in
theorem f_107_1025 : xft 107 1025 = some (.goto 15) := by decide +kernel
set_option maxRecDepth 100000 in
theorem f_107_1028 : xft 107 1028 = some (.iload 18) := by decide +kernel
set_option maxRecDepth 100000 in
theorem f_107_1030 : xft 107 1030 = some (.ifCond .eq 8) := by decide +kernel
set_option maxRecDepth 100000 in
theorem f_107_1033 : xft 107 1033 = some (.iload 19) := by decide +kernel
set_option maxRecDepth 100000 in
theorem f_107_1035 : xft 107 1035 = some (.goto 5) := by decide +kernel
set_option maxRecDepth 100000 in
theorem f_107_1038 : xft 107 1038 = some (.ldc 85) := by decide +kernel
set_option maxRecDepth 100000 in
theorem f_107_1040 : xft 107 1040 = some (.if_icmp .ne 7) := by decide +kernel
set_option maxRecDepth 100000 in
theorem f_107_1043 : xft 107 1043 = some (.iconst 1) := by decide +kernel
set_option maxRecDepth 100000 in
theorem f_107_1044 : xft 107 1044 = some (.goto 4) := by decide +kernel
set_option maxRecDepth 100000 in
theorem f_107_1047 : xft 107 1047 = some (.iconst 0) := by decide +kernel
set_option maxRecDepth 100000 in
theorem f_107_1048 : xft 107 1048 = some (.ireturn) := by decide +kernel
set_option maxRecDepth 100000 in
theorem f_107_1049 : xft 107 1049 = some (.iload 6) := by decide +kernel
set_option maxRecDepth 100000 in
theorem f_107_1051 : xft 107 1051 = some (.iconst 5) := by decide +kernel
set_option maxRecDepth 100000 in
theorem f_107_1052 : xft 107 1052 = some (.if_icmp .ne 57) := by decide +kernel
set_option maxRecDepth 100000 in
theorem f_107_1055 : xft 107 1055 = some (.aload_n 2) := by decide +kernel
set_option maxRecDepth 100000 in
theorem f_107_1056 : xft 107 1056 = some (.iload 10) := by decide +kernel
set_option maxRecDepth 100000 in
theorem f_107_1058 : xft 107 1058 = some (.ifCond .eq 8) := by decide +kernel
set_option maxRecDepth 100000 in
theorem f_107_1061 : xft 107 1061 = some (.iload 9) := by decide +kernel
set_option maxRecDepth 100000 in
theorem f_107_1063 : xft 107 1063 = some (.goto 5) := by decide +kernel
set_option maxRecDepth 100000 in
theorem f_107_1066 : xft 107 1066 = some (.bipush 10) := by decide +kernel
set_option maxRecDepth 100000 in
theorem f_107_1068 : xft 107 1068 = some (.dup2) := by decide +kernel
set_option maxRecDepth 100000 in
theorem f_107_1069 : xft 107 1069 = some (.iaload) := by decide +kernel
set_option maxRecDepth 100000 in
theorem f_107_1070 : xft 107 1070 = some (.iconst 2) := by decide +kernel
set_option maxRecDepth 100000 in
theorem f_107_1071 : xft 107 1071 = some (.idiv) := by decide +kernel
set_option maxRecDepth 100000 in
theorem f_107_1072 : xft 107 1072 = some (.iastore) := by decide +kernel
set_option maxRecDepth 100000 in
theorem f_107_1073 : xft 107 1073 = some (.aload_n 0) := by decide +kernel
set_option maxRecDepth 100000 in
theorem f_107_1074 : xft 107 1074 = some (.bipush 10) := by decide +kernel
set_option maxRecDepth 100000 in
theorem f_107_1076 : xft 107 1076 = some (.iload 9) := by decide +kernel
set_option maxRecDepth 100000 in
theorem f_107_1078 : xft 107 1078 = some (.iconst 0) := by decide +kernel
set_option maxRecDepth 100000 in
theorem f_107_1079 : xft 107 1079 = some (.iconst 0) := by decide +kernel
set_option maxRecDepth 100000 in
theorem f_107_1080 : xft 107 1080 = some (.iconst 0) := by decide +kernel
set_option maxRecDepth 100000 in
theorem f_107_1081 : xft 107 1081 = some (.iconst 0) := by decide +kernel
set_option maxRecDepth 100000 in
theorem f_107_1082 : xft 107 1082 = some (.iconst 0) := by decide +kernel
set_option maxRecDepth 100000 in
theorem f_107_1083 : xft 107 1083 = some (.invokestatic 124) := by decide +kernel
set_option maxRecDepth 100000 in
theorem f_107_1086 : xft 107 1086 = some (.iload 10) := by decide +kernel
set_option maxRecDepth 100000 in
theorem f_107_1088 : xft 107 1088 = some (.ifCond .eq 10) := by decide +kernel
set_option maxRecDepth 100000 in
theorem f_107_1091 : xft 107 1091 = some (.aload_n 2) := by decide +kernel
set_option maxRecDepth 100000 in
theorem f_107_1092 : xft 107 1092 = some (.iload 9) := by decide +kernel
set_option maxRecDepth 100000 in
theorem f_107_1094 : xft 107 1094 = some (.iaload) := by decide +kernel
set_option maxRecDepth 100000 in
theorem f_107_1095 : xft 107 1095 = some (.goto 5) := by decide +kernel
set_option maxRecDepth 100000 in
theorem f_107_1098 : xft 107 1098 = some (.ldc 79) := by decide +kernel
set_option maxRecDepth 100000 in
theorem f_107_1100 : xft 107 1100 = some (.if_icmp .ne 7) := by decide +kernel
set_option maxRecDepth 100000 in
theorem f_107_1103 : xft 107 1103 = some (.iconst 1) := by decide +kernel
set_option maxRecDepth 100000 in
theorem f_107_1104 : xft 107 1104 = some (.goto 4) := by decide +kernel
set_option maxRecDepth 100000 in
theorem f_107_1107 : xft 107 1107 = some (.iconst 0) := by decide +kernel
set_option maxRecDepth 100000 in
theorem f_107_1108 : xft 107 1108 = some (.ireturn) := by decide +kernel
set_option maxRecDepth 100000 in
theorem f_107_1109 : xft 107 1109 = some (.iload 8) := by decide +kernel
set_option maxRecDepth 100000 in
theorem f_107_1111 : xft 107 1111 = some (.aload 5) := by decide +kernel
set_option maxRecDepth 100000 in
theorem f_107_1113 : xft 107 1113 = some (.iconst 1) := by decide +kernel
set_option maxRecDepth 100000 in
theorem f_107_1114 : xft 107 1114 = some (.iaload) := by decide +kernel
set_option maxRecDepth 100000 in
theorem f_107_1115 : xft 107 1115 = some (.iconst 1) := by decide +kernel
set_option maxRecDepth 100000 in
theorem f_107_1116 : xft 107 1116 = some (.iadd) := by decide +kernel
set_option maxRecDepth 100000 in
theorem f_107_1117 : xft 107 1117 = some (.irem) := by decide +kernel
set_option maxRecDepth 100000 in
theorem f_107_1118 : xft 107 1118 = some (.istore 13) := by decide +kernel
set_option maxRecDepth 100000 in
theorem f_107_1120 : xft 107 1120 = some (.iload 8) := by decide +kernel
set_option maxRecDepth 100000 in
theorem f_107_1122 : xft 107 1122 = some (.bipush 11) := by decide +kernel
set_option maxRecDepth 100000 in
theorem f_107_1124 : xft 107 1124 = some (.idiv) := by decide +kernel
set_option maxRecDepth 100000 in
theorem f_107_1125 : xft 107 1125 = some (.bipush 14) := by decide +kernel
set_option maxRecDepth 100000 in
theorem f_107_1127 : xft 107 1127 = some (.irem) := by decide +kernel
set_option maxRecDepth 100000 in
theorem f_107_1128 : xft 107 1128 = some (.istore 14) := by decide +kernel
set_option maxRecDepth 100000 in
theorem f_107_1130 : xft 107 1130 = some (.iload 7) := by decide +kernel
set_option maxRecDepth 100000 in
theorem f_107_1132 : xft 107 1132 = some (.bipush 11) := by decide +kernel
set_option maxRecDepth 100000 in
theorem f_107_1134 : xft 107 1134 = some (.idiv) := by decide +kernel
set_option maxRecDepth 100000 in
theorem f_107_1135 : xft 107 1135 = some (.bipush 52) := by decide +kernel
set_option maxRecDepth 100000 in
theorem f_107_1137 : xft 107 1137 = some (.irem) := by decide +kernel
set_option maxRecDepth 100000 in
theorem f_107_1138 : xft 107 1138 = some (.istore 15) := by decide +kernel
set_option maxRecDepth 100000 in
theorem f_107_1140 : xft 107 1140 = some (.iload 10) := by decide +kernel
set_option maxRecDepth 100000 in
theorem f_107_1142 : xft 107 1142 = some (.ifCond .eq 16) := by decide +kernel
set_option maxRecDepth 100000 in
theorem f_107_1145 : xft 107 1145 = some (.iload 13) := by decide +kernel
set_option maxRecDepth 100000 in
theorem f_107_1147 : xft 107 1147 = some (.aload 5) := by decide +kernel
set_option maxRecDepth 100000 in
theorem f_107_1149 : xft 107 1149 = some (.iconst 1) := by decide +kernel
set_option maxRecDepth 100000 in
theorem f_107_1150 : xft 107 1150 = some (.iaload) := by decide +kernel
set_option maxRecDepth 100000 in
theorem f_107_1151 : xft 107 1151 = some (.if_icmp .ge 7) := by decide +kernel
set_option maxRecDepth 100000 in
theorem f_107_1154 : xft 107 1154 = some (.iconst 1) := by decide +kernel
set_option maxRecDepth 100000 in
theorem f_107_1155 : xft 107 1155 = some (.goto 4) := by decide +kernel
set_option maxRecDepth 100000 in
theorem f_107_1158 : xft 107 1158 = some (.iconst 0) := by decide +kernel
set_option maxRecDepth 100000 in
theorem f_107_1159 : xft 107 1159 = some (.istore 16) := by decide +kernel
set_option maxRecDepth 100000 in
theorem f_107_1161 : xft 107 1161 = some (.iload 9) := by decide +kernel
set_option maxRecDepth 100000 in
theorem f_107_1163 : xft 107 1163 = some (.iload 13) := by decide +kernel
set_option maxRecDepth 100000 in
theorem f_107_1165 : xft 107 1165 = some (.if_icmp .eq 31) := by decide +kernel
set_option maxRecDepth 100000 in
theorem f_107_1168 : xft 107 1168 = some (.iload 14) := by decide +kernel
set_option maxRecDepth 100000 in
theorem f_107_1170 : xft 107 1170 = some (.ifCond .le 26) := by decide +kernel
set_option maxRecDepth 100000 in
theorem f_107_1173 : xft 107 1173 = some (.iload 14) := by decide +kernel
set_option maxRecDepth 100000 in
theorem f_107_1175 : xft 107 1175 = some (.bipush 13) := by decide +kernel
set_option maxRecDepth 100000 in
theorem f_107_1177 : xft 107 1177 = some (.if_icmp .ge 19) := by decide +kernel
set_option maxRecDepth 100000 in
theorem f_107_1180 : xft 107 1180 = some (.iload 15) := by decide +kernel
set_option maxRecDepth 100000 in
theorem f_107_1182 : xft 107 1182 = some (.ifCond .le 14) := by decide +kernel
set_option maxRecDepth 100000 in
theorem f_107_1185 : xft 107 1185 = some (.iload 15) := by decide +kernel
set_option maxRecDepth 100000 in
theorem f_107_1187 : xft 107 1187 = some (.bipush 51) := by decide +kernel
set_option maxRecDepth 100000 in
theorem f_107_1189 : xft 107 1189 = some (.if_icmp .ge 7) := by decide +kernel
set_option maxRecDepth 100000 in
theorem f_107_1192 : xft 107 1192 = some (.iconst 1) := by decide +kernel
set_option maxRecDepth 100000 in
theorem f_107_1193 : xft 107 1193 = some (.goto 4) := by decide +kernel
set_option maxRecDepth 100000 in
theorem f_107_1196 : xft 107 1196 = some (.iconst 0) := by decide +kernel
set_option maxRecDepth 100000 in
theorem f_107_1197 : xft 107 1197 = some (.istore 17) := by decide +kernel
set_option maxRecDepth 100000 in
theorem f_107_1199 : xft 107 1199 = some (.iload 16) := by decide +kernel
set_option maxRecDepth 100000 in
theorem f_107_1201 : xft 107 1201 = some (.ifCond .eq 60) := by decide +kernel
set_option maxRecDepth 100000 in
theorem f_107_1204 : xft 107 1204 = some (.iload 17) := by decide +kernel
set_option maxRecDepth 100000 in
theorem f_107_1206 : xft 107 1206 = some (.ifCond .eq 55) := by decide +kernel
set_option maxRecDepth 100000 in
theorem f_107_1209 : xft 107 1209 = some (.iload 12) := by decide +kernel
set_option maxRecDepth 100000 in
theorem f_107_1211 : xft 107 1211 = some (.ifCond .eq 50) := by decide +kernel
set_option maxRecDepth 100000 in
theorem f_107_1214 : xft 107 1214 = some (.aload 4) := by decide +kernel
set_option maxRecDepth 100000 in
theorem f_107_1216 : xft 107 1216 = some (.iload 13) := by decide +kernel
set_option maxRecDepth 100000 in
theorem f_107_1218 : xft 107 1218 = some (.iaload) := by decide +kernel
set_option maxRecDepth 100000 in
theorem f_107_1219 : xft 107 1219 = some (.ifCond .ne 42) := by decide +kernel
set_option maxRecDepth 100000 in
theorem f_107_1222 : xft 107 1222 = some (.aload_n 1) := by decide +kernel
set_option maxRecDepth 100000 in
theorem f_107_1223 : xft 107 1223 = some (.iload 13) := by decide +kernel
set_option maxRecDepth 100000 in
theorem f_107_1225 : xft 107 1225 = some (.iaload) := by decide +kernel
set_option maxRecDepth 100000 in
theorem f_107_1226 : xft 107 1226 = some (.ldc 111) := by decide +kernel
set_option maxRecDepth 100000 in
theorem f_107_1228 : xft 107 1228 = some (.if_icmp .ge 33) := by decide +kernel
set_option maxRecDepth 100000 in
theorem f_107_1231 : xft 107 1231 = some (.iload 11) := by decide +kernel
set_option maxRecDepth 100000 in
theorem f_107_1233 : xft 107 1233 = some (.ldc 123) := by decide +kernel
set_option maxRecDepth 100000 in
theorem f_107_1235 : xft 107 1235 = some (.idiv) := by decide +kernel
set_option maxRecDepth 100000 in
theorem f_107_1236 : xft 107 1236 = some (.bipush 8) := by decide +kernel
set_option maxRecDepth 100000 in
theorem f_107_1238 : xft 107 1238 = some (.irem) := by decide +kernel
set_option maxRecDepth 100000 in
theorem f_107_1239 : xft 107 1239 = some (.iconst 4) := by decide +kernel
set_option maxRecDepth 100000 in
theorem f_107_1240 : xft 107 1240 = some (.if_icmp .ge 21) := by decide +kernel
set_option maxRecDepth 100000 in
theorem f_107_1243 : xft 107 1243 = some (.aload_n 1) := by decide +kernel
set_option maxRecDepth 100000 in
theorem f_107_1244 : xft 107 1244 = some (.iload 13) := by decide +kernel
set_option maxRecDepth 100000 in
theorem f_107_1246 : xft 107 1246 = some (.iaload) := by decide +kernel
set_option maxRecDepth 100000 in
theorem f_107_1247 : xft 107 1247 = some (.ldc 123) := by decide +kernel
set_option maxRecDepth 100000 in
theorem f_107_1249 : xft 107 1249 = some (.idiv) := by decide +kernel
set_option maxRecDepth 100000 in
theorem f_107_1250 : xft 107 1250 = some (.bipush 8) := by decide +kernel
set_option maxRecDepth 100000 in
theorem f_107_1252 : xft 107 1252 = some (.irem) := by decide +kernel
set_option maxRecDepth 100000 in
theorem f_107_1253 : xft 107 1253 = some (.iconst 4) := by decide +kernel
set_option maxRecDepth 100000 in
theorem f_107_1254 : xft 107 1254 = some (.if_icmp .ge 7) := by decide +kernel
set_option maxRecDepth 100000 in
theorem f_107_1257 : xft 107 1257 = some (.iconst 1) := by decide +kernel
set_option maxRecDepth 100000 in
theorem f_107_1258 : xft 107 1258 = some (.goto 4) := by decide +kernel
set_option maxRecDepth 100000 in
theorem f_107_1261 : xft 107 1261 = some (.iconst 0) := by decide +kernel
set_option maxRecDepth 100000 in
theorem f_107_1262 : xft 107 1262 = some (.istore 18) := by decide +kernel
set_option maxRecDepth 100000 in
theorem f_107_1264 : xft 107 1264 = some (.iconst 0) := by decide +kernel
set_option maxRecDepth 100000 in
theorem f_107_1265 : xft 107 1265 = some (.istore 19) := by decide +kernel
set_option maxRecDepth 100000 in
theorem f_107_1267 : xft 107 1267 = some (.iload 18) := by decide +kernel
set_option maxRecDepth 100000 in
theorem f_107_1269 : xft 107 1269 = some (.ifCond .eq 138) := by decide +kernel
set_option maxRecDepth 100000 in
theorem f_107_1272 : xft 107 1272 = some (.iload 11) := by decide +kernel
set_option maxRecDepth 100000 in
theorem f_107_1274 : xft 107 1274 = some (.bipush 16) := by decide +kernel
set_option maxRecDepth 100000 in
theorem f_107_1276 : xft 107 1276 = some (.irem) := by decide +kernel
set_option maxRecDepth 100000 in
theorem f_107_1277 : xft 107 1277 = some (.aload_n 1) := by decide +kernel
set_option maxRecDepth 100000 in
theorem f_107_1278 : xft 107 1278 = some (.iload 13) := by decide +kernel
set_option maxRecDepth 100000 in
theorem f_107_1280 : xft 107 1280 = some (.iaload) := by decide +kernel
set_option maxRecDepth 100000 in
theorem f_107_1281 : xft 107 1281 = some (.bipush 16) := by decide +kernel
set_option maxRecDepth 100000 in
theorem f_107_1283 : xft 107 1283 = some (.irem) := by decide +kernel
set_option maxRecDepth 100000 in
theorem f_107_1284 : xft 107 1284 = some (.if_icmp .ge 11) := by decide +kernel
set_option maxRecDepth 100000 in
theorem f_107_1287 : xft 107 1287 = some (.iload 11) := by decide +kernel
set_option maxRecDepth 100000 in
theorem f_107_1289 : xft 107 1289 = some (.bipush 16) := by decide +kernel
set_option maxRecDepth 100000 in
theorem f_107_1291 : xft 107 1291 = some (.irem) := by decide +kernel
set_option maxRecDepth 100000 in
theorem f_107_1292 : xft 107 1292 = some (.goto 10) := by decide +kernel
set_option maxRecDepth 100000 in
theorem f_107_1295 : xft 107 1295 = some (.aload_n 1) := by decide +kernel
set_option maxRecDepth 100000 in
theorem f_107_1296 : xft 107 1296 = some (.iload 13) := by decide +kernel
set_option maxRecDepth 100000 in
theorem f_107_1298 : xft 107 1298 = some (.iaload) := by decide +kernel
set_option maxRecDepth 100000 in
theorem f_107_1299 : xft 107 1299 = some (.bipush 16) := by decide +kernel
set_option maxRecDepth 100000 in
theorem f_107_1301 : xft 107 1301 = some (.irem) := by decide +kernel
set_option maxRecDepth 100000 in
theorem f_107_1302 : xft 107 1302 = some (.istore 20) := by decide +kernel
set_option maxRecDepth 100000 in
theorem f_107_1304 : xft 107 1304 = some (.iload 11) := by decide +kernel
set_option maxRecDepth 100000 in
theorem f_107_1306 : xft 107 1306 = some (.sipush 256) := by decide +kernel
set_option maxRecDepth 100000 in
theorem f_107_1309 : xft 107 1309 = some (.idiv) := by decide +kernel
set_option maxRecDepth 100000 in
theorem f_107_1310 : xft 107 1310 = some (.bipush 16) := by decide +kernel
set_option maxRecDepth 100000 in
theorem f_107_1312 : xft 107 1312 = some (.irem) := by decide +kernel
set_option maxRecDepth 100000 in
theorem f_107_1313 : xft 107 1313 = some (.aload_n 1) := by decide +kernel
set_option maxRecDepth 100000 in
theorem f_107_1314 : xft 107 1314 = some (.iload 13) := by decide +kernel
set_option maxRecDepth 100000 in
theorem f_107_1316 : xft 107 1316 = some (.iaload) := by decide +kernel
set_option maxRecDepth 100000 in
theorem f_107_1317 : xft 107 1317 = some (.sipush 256) := by decide +kernel
set_option maxRecDepth 100000 in
theorem f_107_1320 : xft 107 1320 = some (.idiv) := by decide +kernel
set_option maxRecDepth 100000 in
theorem f_107_1321 : xft 107 1321 = some (.bipush 16) := by decide +kernel
set_option maxRecDepth 100000 in
theorem f_107_1323 : xft 107 1323 = some (.irem) := by decide +kernel
set_option maxRecDepth 100000 in
theorem f_107_1324 : xft 107 1324 = some (.if_icmp .ge 15) := by decide +kernel
set_option maxRecDepth 100000 in
theorem f_107_1327 : xft 107 1327 = some (.iload 11) := by decide +kernel
set_option maxRecDepth 100000 in
theorem f_107_1329 : xft 107 1329 = some (.sipush 256) := by decide +kernel
set_option maxRecDepth 100000 in
theorem f_107_1332 : xft 107 1332 = some (.idiv) := by decide +kernel
set_option maxRecDepth 100000 in
theorem f_107_1333 : xft 107 1333 = some (.bipush 16) := by decide +kernel
set_option maxRecDepth 100000 in
theorem f_107_1335 : xft 107 1335 = some (.irem) := by decide +kernel
set_option maxRecDepth 100000 in
theorem f_107_1336 : xft 107 1336 = some (.goto 14) := by decide +kernel
set_option maxRecDepth 100000 in
theorem f_107_1339 : xft 107 1339 = some (.aload_n 1) := by decide +kernel
set_option maxRecDepth 100000 in
theorem f_107_1340 : xft 107 1340 = some (.iload 13) := by decide +kernel
set_option maxRecDepth 100000 in
theorem f_107_1342 : xft 107 1342 = some (.iaload) := by decide +kernel
set_option maxRecDepth 100000 in
theorem f_107_1343 : xft 107 1343 = some (.sipush 256) := by decide +kernel
set_option maxRecDepth 100000 in
theorem f_107_1346 : xft 107 1346 = some (.idiv) := by decide +kernel
set_option maxRecDepth 100000 in
theorem f_107_1347 : xft 107 1347 = some (.bipush 16) := by decide +kernel
set_option maxRecDepth 100000 in
theorem f_107_1349 : xft 107 1349 = some (.irem) := by decide +kernel
set_option maxRecDepth 100000 in
theorem f_107_1350 : xft 107 1350 = some (.istore 21) := by decide +kernel
set_option maxRecDepth 100000 in
theorem f_107_1352 : xft 107 1352 = some (.iload 20) := by decide +kernel
set_option maxRecDepth 100000 in
theorem f_107_1354 : xft 107 1354 = some (.iload 14) := by decide +kernel
set_option maxRecDepth 100000 in
theorem f_107_1356 : xft 107 1356 = some (.iload 15) := by decide +kernel
set_option maxRecDepth 100000 in
theorem f_107_1358 : xft 107 1358 = some (.imul) := by decide +kernel
set_option maxRecDepth 100000 in
theorem f_107_1359 : xft 107 1359 = some (.iload 21) := by decide +kernel
set_option maxRecDepth 100000 in
theorem f_107_1361 : xft 107 1361 = some (.bipush 20) := by decide +kernel
set_option maxRecDepth 100000 in
theorem f_107_1363 : xft 107 1363 = some (.iload 14) := by decide +kernel
set_option maxRecDepth 100000 in
theorem f_107_1365 : xft 107 1365 = some (.isub) := by decide +kernel
set_option maxRecDepth 100000 in
theorem f_107_1366 : xft 107 1366 = some (.imul) := by decide +kernel
set_option maxRecDepth 100000 in
theorem f_107_1367 : xft 107 1367 = some (.if_icmp .ge 11) := by decide +kernel
set_option maxRecDepth 100000 in
theorem f_107_1370 : xft 107 1370 = some (.iload 14) := by decide +kernel
set_option maxRecDepth 100000 in
theorem f_107_1372 : xft 107 1372 = some (.iload 15) := by decide +kernel
set_option maxRecDepth 100000 in
theorem f_107_1374 : xft 107 1374 = some (.imul) := by decide +kernel
set_option maxRecDepth 100000 in
theorem f_107_1375 : xft 107 1375 = some (.goto 11) := by decide +kernel
set_option maxRecDepth 100000 in
theorem f_107_1378 : xft 107 1378 = some (.iload 21) := by decide +kernel
set_option maxRecDepth 100000 in
theorem f_107_1380 : xft 107 1380 = some (.bipush 20) := by decide +kernel
set_option maxRecDepth 100000 in
theorem f_107_1382 : xft 107 1382 = some (.iload 14) := by decide +kernel
set_option maxRecDepth 100000 in
theorem f_107_1384 : xft 107 1384 = some (.isub) := by decide +kernel
set_option maxRecDepth 100000 in
theorem f_107_1385 : xft 107 1385 = some (.imul) := by decide +kernel
set_option maxRecDepth 100000 in
theorem f_107_1386 : xft 107 1386 = some (.imul) := by decide +kernel
set_option maxRecDepth 100000 in
theorem f_107_1387 : xft 107 1387 = some (.istore 19) := by decide +kernel
set_option maxRecDepth 100000 in
theorem f_107_1389 : xft 107 1389 = some (.aload_n 1) := by decide +kernel
set_option maxRecDepth 100000 in
theorem f_107_1390 : xft 107 1390 = some (.iload 9) := by decide +kernel
set_option maxRecDepth 100000 in
theorem f_107_1392 : xft 107 1392 = some (.dup2) := by decide +kernel
set_option maxRecDepth 100000 in
theorem f_107_1393 : xft 107 1393 = some (.iaload) := by decide +kernel
set_option maxRecDepth 100000 in
theorem f_107_1394 : xft 107 1394 = some (.ldc 123) := by decide +kernel
set_option maxRecDepth 100000 in
theorem f_107_1396 : xft 107 1396 = some (.iadd) := by decide +kernel
set_option maxRecDepth 100000 in
theorem f_107_1397 : xft 107 1397 = some (.iastore) := by decide +kernel
set_option maxRecDepth 100000 in
theorem f_107_1398 : xft 107 1398 = some (.aload_n 1) := by decide +kernel
set_option maxRecDepth 100000 in
theorem f_107_1399 : xft 107 1399 = some (.iload 13) := by decide +kernel
set_option maxRecDepth 100000 in
theorem f_107_1401 : xft 107 1401 = some (.dup2) := by decide +kernel
set_option maxRecDepth 100000 in
theorem f_107_1402 : xft 107 1402 = some (.iaload) := by decide +kernel
set_option maxRecDepth 100000 in
theorem f_107_1403 : xft 107 1403 = some (.ldc 123) := by decide +kernel
set_option maxRecDepth 100000 in
theorem f_107_1405 : xft 107 1405 = some (.iadd) := by decide +kernel
set_option maxRecDepth 100000 in
theorem f_107_1406 : xft 107 1406 = some (.iastore) := by decide +kernel
set_option maxRecDepth 100000 in
theorem f_107_1407 : xft 107 1407 = some (.aload_n 0) := by decide +kernel
set_option maxRecDepth 100000 in
theorem f_107_1408 : xft 107 1408 = some (.bipush 11) := by decide +kernel
set_option maxRecDepth 100000 in
theorem f_107_1410 : xft 107 1410 = some (.iload 9) := by decide +kernel
set_option maxRecDepth 100000 in
theorem f_107_1412 : xft 107 1412 = some (.iload 13) := by decide +kernel
set_option maxRecDepth 100000 in
theorem f_107_1414 : xft 107 1414 = some (.iload 14) := by decide +kernel
set_option maxRecDepth 100000 in
theorem f_107_1416 : xft 107 1416 = some (.iload 15) := by decide +kernel
set_option maxRecDepth 100000 in
theorem f_107_1418 : xft 107 1418 = some (.iconst 0) := by decide +kernel
set_option maxRecDepth 100000 in
theorem f_107_1419 : xft 107 1419 = some (.iconst 0) := by decide +kernel
set_option maxRecDepth 100000 in
theorem f_107_1420 : xft 107 1420 = some (.invokestatic 124) := by decide +kernel
set_option maxRecDepth 100000 in
theorem f_107_1423 : xft 107 1423 = some (.iload 16) := by decide +kernel
set_option maxRecDepth 100000 in
theorem f_107_1425 : xft 107 1425 = some (.ifCond .ne 8) := by decide +kernel
set_option maxRecDepth 100000 in
theorem f_107_1428 : xft 107 1428 = some (.ldc 79) := by decide +kernel
set_option maxRecDepth 100000 in
theorem f_107_1430 : xft 107 1430 = some (.goto 25) := by decide +kernel
set_option maxRecDepth 100000 in
theorem f_107_1433 : xft 107 1433 = some (.iload 17) := by decide +kernel
set_option maxRecDepth 100000 in
theorem f_107_1435 : xft 107 1435 = some (.ifCond .ne 8) := by decide +kernel
set_option maxRecDepth 100000 in
theorem f_107_1438 : xft 107 1438 = some (.ldc 82) := by decide +kernel
set_option maxRecDepth 100000 in
theorem f_107_1440 : xft 107 1440 = some (.goto 15) := by decide +kernel
set_option maxRecDepth 100000 in
theorem f_107_1443 : xft 107 1443 = some (.iload 18) := by decide +kernel
set_option maxRecDepth 100000 in
theorem f_107_1445 : xft 107 1445 = some (.ifCond .eq 8) := by decide +kernel
set_option maxRecDepth 100000 in
theorem f_107_1448 : xft 107 1448 = some (.iload 19) := by decide +kernel
set_option maxRecDepth 100000 in
theorem f_107_1450 : xft 107 1450 = some (.goto 5) := by decide +kernel
set_option maxRecDepth 100000 in
theorem f_107_1453 : xft 107 1453 = some (.ldc 85) := by decide +kernel
set_option maxRecDepth 100000 in
theorem f_107_1455 : xft 107 1455 = some (.if_icmp .ne 7) := by decide +kernel
set_option maxRecDepth 100000 in
theorem f_107_1458 : xft 107 1458 = some (.iconst 1) := by decide +kernel
set_option maxRecDepth 100000 in
theorem f_107_1459 : xft 107 1459 = some (.goto 4) := by decide +kernel
set_option maxRecDepth 100000 in
theorem f_107_1462 : xft 107 1462 = some (.iconst 0) := by decide +kernel
set_option maxRecDepth 100000 in
theorem f_107_1463 : xft 107 1463 = some (.ireturn) := by decide +kernel
/-! blocks, by program (gen2.py) -/
section BLK
variable {sc : xS} {d : Nat} {T : Nat → Nat × Nat} {z : Nat × Nat} {V : Nat → Nat → Int} {J : Nat → Nat → Int64} {R : Nat → Nat → Option Nat}
theorem eL_isPart {x6 x7 x8 : Int} {a0 a1 a2 a3 a4 a5 : Nat} : X sc (d + 1) 107 [.ref a0, .ref a1, .ref a2, .ref a3, .ref a4, .ref a5, xw x6, xw x7, xw x8] (T, z, xv V, J, R) = XR sc d 107 0 [some (.ref a0), some (.ref a1), some (.ref a2), some (.ref a3), some (.ref a4), some (.ref a5), some (xw x6), some (xw x7), some (xw x8), none, none, none, none, none, none, none, none, none, none, none, none, none] [] (T, z, xv V, J, R) :=
  (X_eq ⟨jl_107, by rw [mn_107]; rfl, rfl, by rw [lm_107]; exact Nat.le_of_ble_eq_true rfl⟩).trans (by unfold xent; rw [lm_107]; rfl)
theorem bL_isPart_0 {o0 o1 o2 o3 o4 o6 o8 o9 o10 o11 o12 o13 o14 o15 o16 o17 o18 o19 o20 o21 : Option Value} {x7 : Int} {a5 : Nat} (g1 : T a5 = (32, (T a5).2)) (g2 : (0 : Int) ≤ 1 ∧ 1 < ((T a5).2 : Int) ∧ (T a5).2 ≤ 3584) (g3 : 0 < ((V a5 1) + 1) ∧ ((V a5 1) + 1) ≤ 2147483647 ∧ 0 ≤ x7 ∧ x7 ≤ 2147483647) (g4 : -2147483648 ≤ (x7 % ((V a5 1) + 1)) ∧ (x7 % ((V a5 1) + 1)) ≤ 2147483647) (g5 : -2147483648 ≤ (V a5 1) ∧ (V a5 1) ≤ 2147483647) : XR sc d 107 0 [o0, o1, o2, o3, o4, some (.ref a5), o6, some (xw x7), o8, o9, o10, o11, o12, o13, o14, o15, o16, o17, o18, o19, o20, o21] [] (T, z, xv V, J, R) = if (V a5 1) ≤ (x7 % ((V a5 1) + 1)) then XR sc d 107 24 [o0, o1, o2, o3, o4, some (.ref a5), o6, some (xw x7), o8, some (xw (x7 % ((V a5 1) + 1))), o10, o11, o12, o13, o14, o15, o16, o17, o18, o19, o20, o21] [] (T, z, xv V, J, R) else XR sc d 107 20 [o0, o1, o2, o3, o4, some (.ref a5), o6, some (xw x7), o8, some (xw (x7 % ((V a5 1) + 1))), o10, o11, o12, o13, o14, o15, o16, o17, o18, o19, o20, o21] [] (T, z, xv V, J, R) :=
  (sw_iload f_107_0 rfl).trans ((st_aload f_107_2 rfl).trans ((sw_iconst f_107_4).trans ((sw_iaload f_107_5 g1 g2).trans ((sw_iconst f_107_6).trans ((sw_iadd f_107_7).trans ((sw_irem f_107_8 g3).trans ((sw_istore (L' := [o0, o1, o2, o3, o4, some (.ref a5), o6, some (xw x7), o8, some (xw (x7 % ((V a5 1) + 1))), o10, o11, o12, o13, o14, o15, o16, o17, o18, o19, o20, o21]) f_107_9 (Nat.le_of_ble_eq_true rfl) rfl).trans ((sw_iload f_107_11 rfl).trans ((st_aload f_107_13 rfl).trans ((sw_iconst f_107_15).trans ((sw_iaload f_107_16 g1 g2).trans (sw_icmp_ge (t := 24) f_107_17 ⟨by decide, rfl⟩ g4 g5))))))))))))
theorem bL_isPart_20 {o0 o1 o2 o3 o4 o5 o6 o7 o8 o9 o10 o11 o12 o13 o14 o15 o16 o17 o18 o19 o20 o21 : Option Value} : XR sc d 107 20 [o0, o1, o2, o3, o4, o5, o6, o7, o8, o9, o10, o11, o12, o13, o14, o15, o16, o17, o18, o19, o20, o21] [] (T, z, xv V, J, R) = XR sc d 107 25 [o0, o1, o2, o3, o4, o5, o6, o7, o8, o9, o10, o11, o12, o13, o14, o15, o16, o17, o18, o19, o20, o21] [xw 1] (T, z, xv V, J, R) :=
  (sw_iconst f_107_20).trans (st_goto (t := 25) f_107_21 ⟨by decide, rfl⟩)
theorem bL_isPart_24 {o0 o1 o2 o3 o4 o5 o6 o7 o8 o9 o10 o11 o12 o13 o14 o15 o16 o17 o18 o19 o20 o21 : Option Value} : XR sc d 107 24 [o0, o1, o2, o3, o4, o5, o6, o7, o8, o9, o10, o11, o12, o13, o14, o15, o16, o17, o18, o19, o20, o21] [] (T, z, xv V, J, R) = XR sc d 107 25 [o0, o1, o2, o3, o4, o5, o6, o7, o8, o9, o10, o11, o12, o13, o14, o15, o16, o17, o18, o19, o20, o21] [xw 0] (T, z, xv V, J, R) :=
  sw_iconst f_107_24
theorem bL_isPart_25 {o0 o1 o2 o3 o4 o5 o6 o7 o8 o9 o10 o11 o12 o13 o14 o15 o16 o17 o18 o19 o20 o21 : Option Value} {y0 : Int} (g1 : -2147483648 ≤ y0 ∧ y0 ≤ 2147483647) : XR sc d 107 25 [o0, o1, o2, o3, o4, o5, o6, o7, o8, o9, o10, o11, o12, o13, o14, o15, o16, o17, o18, o19, o20, o21] [xw y0] (T, z, xv V, J, R) = if y0 = 0 then XR sc d 107 39 [o0, o1, o2, o3, o4, o5, o6, o7, o8, o9, some (xw y0), o11, o12, o13, o14, o15, o16, o17, o18, o19, o20, o21] [] (T, z, xv V, J, R) else XR sc d 107 32 [o0, o1, o2, o3, o4, o5, o6, o7, o8, o9, some (xw y0), o11, o12, o13, o14, o15, o16, o17, o18, o19, o20, o21] [] (T, z, xv V, J, R) :=
  (sw_istore (L' := [o0, o1, o2, o3, o4, o5, o6, o7, o8, o9, some (xw y0), o11, o12, o13, o14, o15, o16, o17, o18, o19, o20, o21]) f_107_25 (Nat.le_of_ble_eq_true rfl) rfl).trans ((sw_iload f_107_27 rfl).trans (sw_if_eq (t := 39) f_107_29 ⟨by decide, rfl⟩ g1))
theorem bL_isPart_32 {o0 o2 o3 o4 o5 o6 o7 o8 o10 o11 o12 o13 o14 o15 o16 o17 o18 o19 o20 o21 : Option Value} {x9 : Int} {a1 : Nat} (g1 : T a1 = (32, (T a1).2)) (g2 : (0 : Int) ≤ x9 ∧ x9 < ((T a1).2 : Int) ∧ (T a1).2 ≤ 3584) : XR sc d 107 32 [o0, some (.ref a1), o2, o3, o4, o5, o6, o7, o8, some (xw x9), o10, o11, o12, o13, o14, o15, o16, o17, o18, o19, o20, o21] [] (T, z, xv V, J, R) = XR sc d 107 40 [o0, some (.ref a1), o2, o3, o4, o5, o6, o7, o8, some (xw x9), o10, o11, o12, o13, o14, o15, o16, o17, o18, o19, o20, o21] [xw (V a1 x9.toNat)] (T, z, xv V, J, R) :=
  (st_aload_n f_107_32 rfl).trans ((sw_iload f_107_33 rfl).trans ((sw_iaload f_107_35 g1 g2).trans (st_goto (t := 40) f_107_36 ⟨by decide, rfl⟩)))
theorem bL_isPart_39 {o0 o1 o2 o3 o4 o5 o6 o7 o8 o9 o10 o11 o12 o13 o14 o15 o16 o17 o18 o19 o20 o21 : Option Value} : XR sc d 107 39 [o0, o1, o2, o3, o4, o5, o6, o7, o8, o9, o10, o11, o12, o13, o14, o15, o16, o17, o18, o19, o20, o21] [] (T, z, xv V, J, R) = XR sc d 107 40 [o0, o1, o2, o3, o4, o5, o6, o7, o8, o9, o10, o11, o12, o13, o14, o15, o16, o17, o18, o19, o20, o21] [xw 0] (T, z, xv V, J, R) :=
  sw_iconst f_107_39
theorem bL_isPart_40 {o0 o1 o2 o3 o4 o5 o6 o7 o8 o9 o11 o12 o13 o14 o15 o16 o17 o18 o19 o20 o21 : Option Value} {y0 x10 : Int} (g1 : -2147483648 ≤ x10 ∧ x10 ≤ 2147483647) : XR sc d 107 40 [o0, o1, o2, o3, o4, o5, o6, o7, o8, o9, some (xw x10), o11, o12, o13, o14, o15, o16, o17, o18, o19, o20, o21] [xw y0] (T, z, xv V, J, R) = if x10 = 0 then XR sc d 107 66 [o0, o1, o2, o3, o4, o5, o6, o7, o8, o9, some (xw x10), some (xw y0), o12, o13, o14, o15, o16, o17, o18, o19, o20, o21] [] (T, z, xv V, J, R) else XR sc d 107 47 [o0, o1, o2, o3, o4, o5, o6, o7, o8, o9, some (xw x10), some (xw y0), o12, o13, o14, o15, o16, o17, o18, o19, o20, o21] [] (T, z, xv V, J, R) :=
  (sw_istore (L' := [o0, o1, o2, o3, o4, o5, o6, o7, o8, o9, some (xw x10), some (xw y0), o12, o13, o14, o15, o16, o17, o18, o19, o20, o21]) f_107_40 (Nat.le_of_ble_eq_true rfl) rfl).trans ((sw_iload f_107_42 rfl).trans (sw_if_eq (t := 66) f_107_44 ⟨by decide, rfl⟩ g1))
theorem bL_isPart_47 {o0 o1 o2 o3 o5 o6 o7 o8 o10 o11 o12 o13 o14 o15 o16 o17 o18 o19 o20 o21 : Option Value} {x9 : Int} {a4 : Nat} (g1 : T a4 = (32, (T a4).2)) (g2 : (0 : Int) ≤ x9 ∧ x9 < ((T a4).2 : Int) ∧ (T a4).2 ≤ 3584) (g3 : -2147483648 ≤ (V a4 x9.toNat) ∧ (V a4 x9.toNat) ≤ 2147483647) : XR sc d 107 47 [o0, o1, o2, o3, some (.ref a4), o5, o6, o7, o8, some (xw x9), o10, o11, o12, o13, o14, o15, o16, o17, o18, o19, o20, o21] [] (T, z, xv V, J, R) = if (V a4 x9.toNat) = 0 then XR sc d 107 55 [o0, o1, o2, o3, some (.ref a4), o5, o6, o7, o8, some (xw x9), o10, o11, o12, o13, o14, o15, o16, o17, o18, o19, o20, o21] [] (T, z, xv V, J, R) else XR sc d 107 66 [o0, o1, o2, o3, some (.ref a4), o5, o6, o7, o8, some (xw x9), o10, o11, o12, o13, o14, o15, o16, o17, o18, o19, o20, o21] [] (T, z, xv V, J, R) :=
  (st_aload f_107_47 rfl).trans ((sw_iload f_107_49 rfl).trans ((sw_iaload f_107_51 g1 g2).trans (sw_if_ne (t := 66) f_107_52 ⟨by decide, rfl⟩ g3)))
theorem bL_isPart_55 {o0 o1 o2 o3 o4 o5 o6 o7 o8 o9 o10 o12 o13 o14 o15 o16 o17 o18 o19 o20 o21 : Option Value} {x11 : Int} (g1 : -2147483648 ≤ x11 ∧ x11 ≤ 2147483647) : XR sc d 107 55 [o0, o1, o2, o3, o4, o5, o6, o7, o8, o9, o10, some (xw x11), o12, o13, o14, o15, o16, o17, o18, o19, o20, o21] [] (T, z, xv V, J, R) = if 524288 ≤ x11 then XR sc d 107 66 [o0, o1, o2, o3, o4, o5, o6, o7, o8, o9, o10, some (xw x11), o12, o13, o14, o15, o16, o17, o18, o19, o20, o21] [] (T, z, xv V, J, R) else XR sc d 107 62 [o0, o1, o2, o3, o4, o5, o6, o7, o8, o9, o10, some (xw x11), o12, o13, o14, o15, o16, o17, o18, o19, o20, o21] [] (T, z, xv V, J, R) :=
  (sw_iload f_107_55 rfl).trans ((sw_ldc 524288 f_107_57 k_107_111 rfl).trans (sw_icmp_ge (t := 66) f_107_59 ⟨by decide, rfl⟩ g1 ⟨by decide, by decide⟩))
theorem bL_isPart_62 {o0 o1 o2 o3 o4 o5 o6 o7 o8 o9 o10 o11 o12 o13 o14 o15 o16 o17 o18 o19 o20 o21 : Option Value} : XR sc d 107 62 [o0, o1, o2, o3, o4, o5, o6, o7, o8, o9, o10, o11, o12, o13, o14, o15, o16, o17, o18, o19, o20, o21] [] (T, z, xv V, J, R) = XR sc d 107 67 [o0, o1, o2, o3, o4, o5, o6, o7, o8, o9, o10, o11, o12, o13, o14, o15, o16, o17, o18, o19, o20, o21] [xw 1] (T, z, xv V, J, R) :=
  (sw_iconst f_107_62).trans (st_goto (t := 67) f_107_63 ⟨by decide, rfl⟩)
theorem bL_isPart_66 {o0 o1 o2 o3 o4 o5 o6 o7 o8 o9 o10 o11 o12 o13 o14 o15 o16 o17 o18 o19 o20 o21 : Option Value} : XR sc d 107 66 [o0, o1, o2, o3, o4, o5, o6, o7, o8, o9, o10, o11, o12, o13, o14, o15, o16, o17, o18, o19, o20, o21] [] (T, z, xv V, J, R) = XR sc d 107 67 [o0, o1, o2, o3, o4, o5, o6, o7, o8, o9, o10, o11, o12, o13, o14, o15, o16, o17, o18, o19, o20, o21] [xw 0] (T, z, xv V, J, R) :=
  sw_iconst f_107_66
theorem bL_isPart_67 {o0 o1 o2 o3 o4 o5 o7 o8 o9 o10 o11 o12 o13 o14 o15 o16 o17 o18 o19 o20 o21 : Option Value} {y0 x6 : Int} (g1 : -2147483648 ≤ x6 ∧ x6 ≤ 2147483647) : XR sc d 107 67 [o0, o1, o2, o3, o4, o5, some (xw x6), o7, o8, o9, o10, o11, o12, o13, o14, o15, o16, o17, o18, o19, o20, o21] [xw y0] (T, z, xv V, J, R) = if x6 = 0 then XR sc d 107 74 [o0, o1, o2, o3, o4, o5, some (xw x6), o7, o8, o9, o10, o11, some (xw y0), o13, o14, o15, o16, o17, o18, o19, o20, o21] [] (T, z, xv V, J, R) else XR sc d 107 245 [o0, o1, o2, o3, o4, o5, some (xw x6), o7, o8, o9, o10, o11, some (xw y0), o13, o14, o15, o16, o17, o18, o19, o20, o21] [] (T, z, xv V, J, R) :=
  (sw_istore (L' := [o0, o1, o2, o3, o4, o5, some (xw x6), o7, o8, o9, o10, o11, some (xw y0), o13, o14, o15, o16, o17, o18, o19, o20, o21]) f_107_67 (Nat.le_of_ble_eq_true rfl) rfl).trans ((sw_iload f_107_69 rfl).trans (sw_if_ne (t := 245) f_107_71 ⟨by decide, rfl⟩ g1))
theorem bL_isPart_74 {o0 o1 o2 o3 o4 o5 o6 o7 o9 o11 o12 o13 o14 o15 o16 o17 o18 o19 o20 o21 : Option Value} {x8 x10 : Int} (g1 : 0 ≤ x8 ∧ x8 ≤ 2147483647) (g2 : -2147483648 ≤ x10 ∧ x10 ≤ 2147483647) : XR sc d 107 74 [o0, o1, o2, o3, o4, o5, o6, o7, some (xw x8), o9, some (xw x10), o11, o12, o13, o14, o15, o16, o17, o18, o19, o20, o21] [] (T, z, xv V, J, R) = if x10 = 0 then XR sc d 107 116 [o0, o1, o2, o3, o4, o5, o6, o7, some (xw x8), o9, some (xw x10), o11, o12, some (xw (x8 % 10)), o14, o15, o16, o17, o18, o19, o20, o21] [] (T, z, xv V, J, R) else XR sc d 107 86 [o0, o1, o2, o3, o4, o5, o6, o7, some (xw x8), o9, some (xw x10), o11, o12, some (xw (x8 % 10)), o14, o15, o16, o17, o18, o19, o20, o21] [] (T, z, xv V, J, R) :=
  (sw_iload f_107_74 rfl).trans ((sw_bipush f_107_76 c8_10).trans ((sw_irem f_107_78 ⟨by decide, by decide, g1⟩).trans ((sw_istore (L' := [o0, o1, o2, o3, o4, o5, o6, o7, some (xw x8), o9, some (xw x10), o11, o12, some (xw (x8 % 10)), o14, o15, o16, o17, o18, o19, o20, o21]) f_107_79 (Nat.le_of_ble_eq_true rfl) rfl).trans ((sw_iload f_107_81 rfl).trans (sw_if_eq (t := 116) f_107_83 ⟨by decide, rfl⟩ g2)))))
theorem bL_isPart_86 {o0 o1 o2 o3 o4 o5 o6 o7 o8 o9 o10 o11 o12 o14 o15 o16 o17 o18 o19 o20 o21 : Option Value} {x13 : Int} (g1 : -2147483648 ≤ x13 ∧ x13 ≤ 2147483647) : XR sc d 107 86 [o0, o1, o2, o3, o4, o5, o6, o7, o8, o9, o10, o11, o12, some (xw x13), o14, o15, o16, o17, o18, o19, o20, o21] [] (T, z, xv V, J, R) = if x13 ≤ 0 then XR sc d 107 116 [o0, o1, o2, o3, o4, o5, o6, o7, o8, o9, o10, o11, o12, some (xw x13), o14, o15, o16, o17, o18, o19, o20, o21] [] (T, z, xv V, J, R) else XR sc d 107 91 [o0, o1, o2, o3, o4, o5, o6, o7, o8, o9, o10, o11, o12, some (xw x13), o14, o15, o16, o17, o18, o19, o20, o21] [] (T, z, xv V, J, R) :=
  (sw_iload f_107_86 rfl).trans (sw_if_le (t := 116) f_107_88 ⟨by decide, rfl⟩ g1)
theorem bL_isPart_91 {o0 o1 o2 o3 o4 o5 o6 o7 o8 o9 o10 o11 o12 o14 o15 o16 o17 o18 o19 o20 o21 : Option Value} {x13 : Int} (g1 : -2147483648 ≤ x13 ∧ x13 ≤ 2147483647) : XR sc d 107 91 [o0, o1, o2, o3, o4, o5, o6, o7, o8, o9, o10, o11, o12, some (xw x13), o14, o15, o16, o17, o18, o19, o20, o21] [] (T, z, xv V, J, R) = if 9 ≤ x13 then XR sc d 107 116 [o0, o1, o2, o3, o4, o5, o6, o7, o8, o9, o10, o11, o12, some (xw x13), o14, o15, o16, o17, o18, o19, o20, o21] [] (T, z, xv V, J, R) else XR sc d 107 98 [o0, o1, o2, o3, o4, o5, o6, o7, o8, o9, o10, o11, o12, some (xw x13), o14, o15, o16, o17, o18, o19, o20, o21] [] (T, z, xv V, J, R) :=
  (sw_iload f_107_91 rfl).trans ((sw_bipush f_107_93 c8_9).trans (sw_icmp_ge (t := 116) f_107_95 ⟨by decide, rfl⟩ g1 ⟨by decide, by decide⟩))
theorem bL_isPart_98 {o0 o1 o2 o3 o4 o5 o6 o7 o8 o9 o10 o12 o14 o15 o16 o17 o18 o19 o20 o21 : Option Value} {x13 x11 : Int} (g1 : 0 ≤ x11 ∧ x11 ≤ 2147483647) (g2 : 0 ≤ (x11 / 256) ∧ (x11 / 256) ≤ 2147483647) (g3 : -2147483648 ≤ x13 ∧ x13 ≤ 2147483647) (g4 : -2147483648 ≤ ((x11 / 256) % 16) ∧ ((x11 / 256) % 16) ≤ 2147483647) : XR sc d 107 98 [o0, o1, o2, o3, o4, o5, o6, o7, o8, o9, o10, some (xw x11), o12, some (xw x13), o14, o15, o16, o17, o18, o19, o20, o21] [] (T, z, xv V, J, R) = if ((x11 / 256) % 16) ≤ x13 then XR sc d 107 116 [o0, o1, o2, o3, o4, o5, o6, o7, o8, o9, o10, some (xw x11), o12, some (xw x13), o14, o15, o16, o17, o18, o19, o20, o21] [] (T, z, xv V, J, R) else XR sc d 107 112 [o0, o1, o2, o3, o4, o5, o6, o7, o8, o9, o10, some (xw x11), o12, some (xw x13), o14, o15, o16, o17, o18, o19, o20, o21] [] (T, z, xv V, J, R) :=
  (sw_iload f_107_98 rfl).trans ((sw_iload f_107_100 rfl).trans ((sw_sipush f_107_102 c16_256).trans ((sw_idiv f_107_105 ⟨by decide, by decide, g1⟩).trans ((sw_bipush f_107_106 c8_16).trans ((sw_irem f_107_108 ⟨by decide, by decide, g2⟩).trans (sw_icmp_ge (t := 116) f_107_109 ⟨by decide, rfl⟩ g3 g4))))))
theorem bL_isPart_112 {o0 o1 o2 o3 o4 o5 o6 o7 o8 o9 o10 o11 o12 o13 o14 o15 o16 o17 o18 o19 o20 o21 : Option Value} : XR sc d 107 112 [o0, o1, o2, o3, o4, o5, o6, o7, o8, o9, o10, o11, o12, o13, o14, o15, o16, o17, o18, o19, o20, o21] [] (T, z, xv V, J, R) = XR sc d 107 117 [o0, o1, o2, o3, o4, o5, o6, o7, o8, o9, o10, o11, o12, o13, o14, o15, o16, o17, o18, o19, o20, o21] [xw 1] (T, z, xv V, J, R) :=
  (sw_iconst f_107_112).trans (st_goto (t := 117) f_107_113 ⟨by decide, rfl⟩)
theorem bL_isPart_116 {o0 o1 o2 o3 o4 o5 o6 o7 o8 o9 o10 o11 o12 o13 o14 o15 o16 o17 o18 o19 o20 o21 : Option Value} : XR sc d 107 116 [o0, o1, o2, o3, o4, o5, o6, o7, o8, o9, o10, o11, o12, o13, o14, o15, o16, o17, o18, o19, o20, o21] [] (T, z, xv V, J, R) = XR sc d 107 117 [o0, o1, o2, o3, o4, o5, o6, o7, o8, o9, o10, o11, o12, o13, o14, o15, o16, o17, o18, o19, o20, o21] [xw 0] (T, z, xv V, J, R) :=
  sw_iconst f_107_116
theorem bL_isPart_117 {o0 o1 o2 o3 o4 o5 o6 o7 o8 o9 o10 o11 o12 o13 o14 o15 o16 o17 o18 o19 o20 o21 : Option Value} {y0 : Int} (g1 : -2147483648 ≤ y0 ∧ y0 ≤ 2147483647) : XR sc d 107 117 [o0, o1, o2, o3, o4, o5, o6, o7, o8, o9, o10, o11, o12, o13, o14, o15, o16, o17, o18, o19, o20, o21] [xw y0] (T, z, xv V, J, R) = if y0 = 0 then XR sc d 107 139 [o0, o1, o2, o3, o4, o5, o6, o7, o8, o9, o10, o11, o12, o13, some (xw y0), o15, o16, o17, o18, o19, o20, o21] [] (T, z, xv V, J, R) else XR sc d 107 124 [o0, o1, o2, o3, o4, o5, o6, o7, o8, o9, o10, o11, o12, o13, some (xw y0), o15, o16, o17, o18, o19, o20, o21] [] (T, z, xv V, J, R) :=
  (sw_istore (L' := [o0, o1, o2, o3, o4, o5, o6, o7, o8, o9, o10, o11, o12, o13, some (xw y0), o15, o16, o17, o18, o19, o20, o21]) f_107_117 (Nat.le_of_ble_eq_true rfl) rfl).trans ((sw_iload f_107_119 rfl).trans (sw_if_eq (t := 139) f_107_121 ⟨by decide, rfl⟩ g1))
theorem bL_isPart_124 {o0 o1 o2 o3 o4 o5 o6 o7 o8 o9 o10 o12 o13 o14 o15 o16 o17 o18 o19 o20 o21 : Option Value} {x11 : Int} (g1 : 0 ≤ x11 ∧ x11 ≤ 2147483647) (g2 : 0 ≤ (x11 / 65536) ∧ (x11 / 65536) ≤ 2147483647) (g3 : -2147483648 ≤ ((x11 / 65536) % 8) ∧ ((x11 / 65536) % 8) ≤ 2147483647) : XR sc d 107 124 [o0, o1, o2, o3, o4, o5, o6, o7, o8, o9, o10, some (xw x11), o12, o13, o14, o15, o16, o17, o18, o19, o20, o21] [] (T, z, xv V, J, R) = if ((x11 / 65536) % 8) = 0 then XR sc d 107 135 [o0, o1, o2, o3, o4, o5, o6, o7, o8, o9, o10, some (xw x11), o12, o13, o14, o15, o16, o17, o18, o19, o20, o21] [] (T, z, xv V, J, R) else XR sc d 107 139 [o0, o1, o2, o3, o4, o5, o6, o7, o8, o9, o10, some (xw x11), o12, o13, o14, o15, o16, o17, o18, o19, o20, o21] [] (T, z, xv V, J, R) :=
  (sw_iload f_107_124 rfl).trans ((sw_ldc 65536 f_107_126 k_107_123 rfl).trans ((sw_idiv f_107_128 ⟨by decide, by decide, g1⟩).trans ((sw_bipush f_107_129 c8_8).trans ((sw_irem f_107_131 ⟨by decide, by decide, g2⟩).trans (sw_if_ne (t := 139) f_107_132 ⟨by decide, rfl⟩ g3)))))
theorem bL_isPart_135 {o0 o1 o2 o3 o4 o5 o6 o7 o8 o9 o10 o11 o12 o13 o14 o15 o16 o17 o18 o19 o20 o21 : Option Value} : XR sc d 107 135 [o0, o1, o2, o3, o4, o5, o6, o7, o8, o9, o10, o11, o12, o13, o14, o15, o16, o17, o18, o19, o20, o21] [] (T, z, xv V, J, R) = XR sc d 107 140 [o0, o1, o2, o3, o4, o5, o6, o7, o8, o9, o10, o11, o12, o13, o14, o15, o16, o17, o18, o19, o20, o21] [xw 1] (T, z, xv V, J, R) :=
  (sw_iconst f_107_135).trans (st_goto (t := 140) f_107_136 ⟨by decide, rfl⟩)
theorem bL_isPart_139 {o0 o1 o2 o3 o4 o5 o6 o7 o8 o9 o10 o11 o12 o13 o14 o15 o16 o17 o18 o19 o20 o21 : Option Value} : XR sc d 107 139 [o0, o1, o2, o3, o4, o5, o6, o7, o8, o9, o10, o11, o12, o13, o14, o15, o16, o17, o18, o19, o20, o21] [] (T, z, xv V, J, R) = XR sc d 107 140 [o0, o1, o2, o3, o4, o5, o6, o7, o8, o9, o10, o11, o12, o13, o14, o15, o16, o17, o18, o19, o20, o21] [xw 0] (T, z, xv V, J, R) :=
  sw_iconst f_107_139
theorem bL_isPart_140 {o0 o2 o3 o4 o5 o6 o7 o8 o9 o10 o11 o12 o13 o14 o15 o16 o17 o18 o19 o20 o21 : Option Value} {y0 : Int} {a1 : Nat} (g1 : -2147483648 ≤ y0 ∧ y0 ≤ 2147483647) : XR sc d 107 140 [o0, some (.ref a1), o2, o3, o4, o5, o6, o7, o8, o9, o10, o11, o12, o13, o14, o15, o16, o17, o18, o19, o20, o21] [xw y0] (T, z, xv V, J, R) = if y0 = 0 then XR sc d 107 153 [o0, some (.ref a1), o2, o3, o4, o5, o6, o7, o8, o9, o10, o11, o12, o13, o14, some (xw y0), o16, o17, o18, o19, o20, o21] [.ref a1] (T, z, xv V, J, R) else XR sc d 107 148 [o0, some (.ref a1), o2, o3, o4, o5, o6, o7, o8, o9, o10, o11, o12, o13, o14, some (xw y0), o16, o17, o18, o19, o20, o21] [.ref a1] (T, z, xv V, J, R) :=
  (sw_istore (L' := [o0, some (.ref a1), o2, o3, o4, o5, o6, o7, o8, o9, o10, o11, o12, o13, o14, some (xw y0), o16, o17, o18, o19, o20, o21]) f_107_140 (Nat.le_of_ble_eq_true rfl) rfl).trans ((st_aload_n f_107_142 rfl).trans ((sw_iload f_107_143 rfl).trans (sw_if_eq (t := 153) f_107_145 ⟨by decide, rfl⟩ g1)))
theorem bL_isPart_148 {o0 o1 o2 o3 o4 o5 o6 o7 o8 o10 o11 o12 o13 o14 o15 o16 o17 o18 o19 o20 o21 : Option Value} {s0 : Value} {x9 : Int} : XR sc d 107 148 [o0, o1, o2, o3, o4, o5, o6, o7, o8, some (xw x9), o10, o11, o12, o13, o14, o15, o16, o17, o18, o19, o20, o21] [s0] (T, z, xv V, J, R) = XR sc d 107 155 [o0, o1, o2, o3, o4, o5, o6, o7, o8, some (xw x9), o10, o11, o12, o13, o14, o15, o16, o17, o18, o19, o20, o21] [xw x9, s0] (T, z, xv V, J, R) :=
  (sw_iload f_107_148 rfl).trans (st_goto (t := 155) f_107_150 ⟨by decide, rfl⟩)
theorem bL_isPart_153 {o0 o1 o2 o3 o4 o5 o6 o7 o8 o9 o10 o11 o12 o13 o14 o15 o16 o17 o18 o19 o20 o21 : Option Value} {s0 : Value} : XR sc d 107 153 [o0, o1, o2, o3, o4, o5, o6, o7, o8, o9, o10, o11, o12, o13, o14, o15, o16, o17, o18, o19, o20, o21] [s0] (T, z, xv V, J, R) = XR sc d 107 155 [o0, o1, o2, o3, o4, o5, o6, o7, o8, o9, o10, o11, o12, o13, o14, o15, o16, o17, o18, o19, o20, o21] [xw 10, s0] (T, z, xv V, J, R) :=
  sw_bipush f_107_153 c8_10
theorem bL_isPart_155 {o0 o1 o2 o3 o4 o5 o6 o7 o8 o9 o10 o11 o12 o13 o14 o16 o17 o18 o19 o20 o21 : Option Value} {y0 x15 : Int} {b1 : Nat} (g1 : T b1 = (32, (T b1).2)) (g2 : (0 : Int) ≤ y0 ∧ y0 < ((T b1).2 : Int) ∧ (T b1).2 ≤ 3584) (g3 : -2147483648 ≤ x15 ∧ x15 ≤ 2147483647) : XR sc d 107 155 [o0, o1, o2, o3, o4, o5, o6, o7, o8, o9, o10, o11, o12, o13, o14, some (xw x15), o16, o17, o18, o19, o20, o21] [xw y0, .ref b1] (T, z, xv V, J, R) = if x15 = 0 then XR sc d 107 181 [o0, o1, o2, o3, o4, o5, o6, o7, o8, o9, o10, o11, o12, o13, o14, some (xw x15), o16, o17, o18, o19, o20, o21] [xw (V b1 y0.toNat), xw y0, .ref b1] (T, z, xv V, J, R) else XR sc d 107 162 [o0, o1, o2, o3, o4, o5, o6, o7, o8, o9, o10, o11, o12, o13, o14, some (xw x15), o16, o17, o18, o19, o20, o21] [xw (V b1 y0.toNat), xw y0, .ref b1] (T, z, xv V, J, R) :=
  (st_dup2 f_107_155 rfl rfl).trans ((sw_iaload f_107_156 g1 g2).trans ((sw_iload f_107_157 rfl).trans (sw_if_eq (t := 181) f_107_159 ⟨by decide, rfl⟩ g3)))
theorem bL_isPart_162 {o0 o1 o2 o3 o4 o5 o6 o7 o8 o9 o10 o12 o14 o15 o16 o17 o18 o19 o20 o21 : Option Value} {s0 s1 s2 : Value} {x13 x11 : Int} (g1 : 0 ≤ x11 ∧ x11 ≤ 2147483647) (g2 : 0 ≤ (x11 / 256) ∧ (x11 / 256) ≤ 2147483647) : XR sc d 107 162 [o0, o1, o2, o3, o4, o5, o6, o7, o8, o9, o10, some (xw x11), o12, some (xw x13), o14, o15, o16, o17, o18, o19, o20, o21] [s0, s1, s2] (T, z, xv V, J, R) = XR sc d 107 182 [o0, o1, o2, o3, o4, o5, o6, o7, o8, o9, o10, some (xw x11), o12, some (xw x13), o14, o15, o16, o17, o18, o19, o20, o21] [xw (256 * (x13 - ((x11 / 256) % 16))), s0, s1, s2] (T, z, xv V, J, R) :=
  (sw_sipush f_107_162 c16_256).trans ((sw_iload f_107_165 rfl).trans ((sw_iload f_107_167 rfl).trans ((sw_sipush f_107_169 c16_256).trans ((sw_idiv f_107_172 ⟨by decide, by decide, g1⟩).trans ((sw_bipush f_107_173 c8_16).trans ((sw_irem f_107_175 ⟨by decide, by decide, g2⟩).trans ((sw_isub f_107_176).trans ((sw_imul f_107_177).trans (st_goto (t := 182) f_107_178 ⟨by decide, rfl⟩)))))))))
theorem bL_isPart_181 {o0 o1 o2 o3 o4 o5 o6 o7 o8 o9 o10 o11 o12 o13 o14 o15 o16 o17 o18 o19 o20 o21 : Option Value} {s0 s1 s2 : Value} : XR sc d 107 181 [o0, o1, o2, o3, o4, o5, o6, o7, o8, o9, o10, o11, o12, o13, o14, o15, o16, o17, o18, o19, o20, o21] [s0, s1, s2] (T, z, xv V, J, R) = XR sc d 107 182 [o0, o1, o2, o3, o4, o5, o6, o7, o8, o9, o10, o11, o12, o13, o14, o15, o16, o17, o18, o19, o20, o21] [xw 0, s0, s1, s2] (T, z, xv V, J, R) :=
  sw_iconst f_107_181
theorem bL_isPart_182 {o1 o2 o3 o4 o5 o6 o7 o8 o10 o11 o12 o14 o15 o16 o17 o18 o19 o20 o21 : Option Value} {y0 y1 y2 x9 x13 : Int} {b3 a0 : Nat} (g1 : T b3 = (32, (T b3).2)) (g2 : (0 : Int) ≤ y2 ∧ y2 < ((T b3).2 : Int) ∧ (T b3).2 ≤ 3584) : XR sc d 107 182 [some (.ref a0), o1, o2, o3, o4, o5, o6, o7, o8, some (xw x9), o10, o11, o12, some (xw x13), o14, o15, o16, o17, o18, o19, o20, o21] [xw y0, xw y1, xw y2, .ref b3] (T, z, xv V, J, R) = xret 107 (XR sc d 107) 194 197 [some (.ref a0), o1, o2, o3, o4, o5, o6, o7, o8, some (xw x9), o10, o11, o12, some (xw x13), o14, o15, o16, o17, o18, o19, o20, o21] [] (X sc d 92 [.ref a0, xw 4, xw x9, xw x13, xw 0, xw 0, xw 0, xw 0] (T, z, xv (xup2 V b3 y2.toNat (y1 + y0)), J, R)) :=
  (sw_iadd f_107_182).trans ((sw_iastore f_107_183 g1 g2).trans ((st_aload_n f_107_184 rfl).trans ((sw_iconst f_107_185).trans ((sw_iload f_107_186 rfl).trans ((sw_iload f_107_188 rfl).trans ((sw_iconst f_107_190).trans ((sw_iconst f_107_191).trans ((sw_iconst f_107_192).trans ((sw_iconst f_107_193).trans (st_callS' f_107_194 h_107_124 mn_92 rfl rfl rfl rfl))))))))))
theorem bL_isPart_197 {o0 o1 o2 o3 o4 o5 o6 o7 o8 o9 o11 o12 o13 o14 o15 o16 o17 o18 o19 o20 o21 : Option Value} {s0 : Value} {x10 : Int} (g1 : -2147483648 ≤ x10 ∧ x10 ≤ 2147483647) : XR sc d 107 197 [o0, o1, o2, o3, o4, o5, o6, o7, o8, o9, some (xw x10), o11, o12, o13, o14, o15, o16, o17, o18, o19, o20, o21] [s0] (T, z, xv V, J, R) = if x10 = 0 then XR sc d 107 202 [o0, o1, o2, o3, o4, o5, o6, o7, o8, o9, some (xw x10), o11, o12, o13, o14, o15, o16, o17, o18, o19, o20, o21] [s0] (T, z, xv V, J, R) else XR sc d 107 207 [o0, o1, o2, o3, o4, o5, o6, o7, o8, o9, some (xw x10), o11, o12, o13, o14, o15, o16, o17, o18, o19, o20, o21] [s0] (T, z, xv V, J, R) :=
  (sw_iload f_107_197 rfl).trans (sw_if_ne (t := 207) f_107_199 ⟨by decide, rfl⟩ g1)
theorem bL_isPart_202 {o0 o1 o2 o3 o4 o5 o6 o7 o8 o9 o10 o11 o12 o13 o14 o15 o16 o17 o18 o19 o20 o21 : Option Value} {s0 : Value} : XR sc d 107 202 [o0, o1, o2, o3, o4, o5, o6, o7, o8, o9, o10, o11, o12, o13, o14, o15, o16, o17, o18, o19, o20, o21] [s0] (T, z, xv V, J, R) = XR sc d 107 236 [o0, o1, o2, o3, o4, o5, o6, o7, o8, o9, o10, o11, o12, o13, o14, o15, o16, o17, o18, o19, o20, o21] [xw (-3000000), s0] (T, z, xv V, J, R) :=
  (sw_ldc (-3000000) f_107_202 k_107_79 rfl).trans (st_goto (t := 236) f_107_204 ⟨by decide, rfl⟩)
theorem bL_isPart_207 {o0 o1 o2 o3 o4 o5 o6 o7 o8 o9 o10 o11 o12 o13 o15 o16 o17 o18 o19 o20 o21 : Option Value} {s0 : Value} {x14 : Int} (g1 : -2147483648 ≤ x14 ∧ x14 ≤ 2147483647) : XR sc d 107 207 [o0, o1, o2, o3, o4, o5, o6, o7, o8, o9, o10, o11, o12, o13, some (xw x14), o15, o16, o17, o18, o19, o20, o21] [s0] (T, z, xv V, J, R) = if x14 = 0 then XR sc d 107 212 [o0, o1, o2, o3, o4, o5, o6, o7, o8, o9, o10, o11, o12, o13, some (xw x14), o15, o16, o17, o18, o19, o20, o21] [s0] (T, z, xv V, J, R) else XR sc d 107 217 [o0, o1, o2, o3, o4, o5, o6, o7, o8, o9, o10, o11, o12, o13, some (xw x14), o15, o16, o17, o18, o19, o20, o21] [s0] (T, z, xv V, J, R) :=
  (sw_iload f_107_207 rfl).trans (sw_if_ne (t := 217) f_107_209 ⟨by decide, rfl⟩ g1)
theorem bL_isPart_212 {o0 o1 o2 o3 o4 o5 o6 o7 o8 o9 o10 o11 o12 o13 o14 o15 o16 o17 o18 o19 o20 o21 : Option Value} {s0 : Value} : XR sc d 107 212 [o0, o1, o2, o3, o4, o5, o6, o7, o8, o9, o10, o11, o12, o13, o14, o15, o16, o17, o18, o19, o20, o21] [s0] (T, z, xv V, J, R) = XR sc d 107 236 [o0, o1, o2, o3, o4, o5, o6, o7, o8, o9, o10, o11, o12, o13, o14, o15, o16, o17, o18, o19, o20, o21] [xw (-2000000), s0] (T, z, xv V, J, R) :=
  (sw_ldc (-2000000) f_107_212 k_107_82 rfl).trans (st_goto (t := 236) f_107_214 ⟨by decide, rfl⟩)
theorem bL_isPart_217 {o0 o1 o2 o3 o4 o5 o6 o7 o8 o9 o10 o11 o12 o13 o14 o16 o17 o18 o19 o20 o21 : Option Value} {s0 : Value} {x15 : Int} (g1 : -2147483648 ≤ x15 ∧ x15 ≤ 2147483647) : XR sc d 107 217 [o0, o1, o2, o3, o4, o5, o6, o7, o8, o9, o10, o11, o12, o13, o14, some (xw x15), o16, o17, o18, o19, o20, o21] [s0] (T, z, xv V, J, R) = if x15 = 0 then XR sc d 107 234 [o0, o1, o2, o3, o4, o5, o6, o7, o8, o9, o10, o11, o12, o13, o14, some (xw x15), o16, o17, o18, o19, o20, o21] [s0] (T, z, xv V, J, R) else XR sc d 107 222 [o0, o1, o2, o3, o4, o5, o6, o7, o8, o9, o10, o11, o12, o13, o14, some (xw x15), o16, o17, o18, o19, o20, o21] [s0] (T, z, xv V, J, R) :=
  (sw_iload f_107_217 rfl).trans (sw_if_eq (t := 234) f_107_219 ⟨by decide, rfl⟩ g1)
theorem bL_isPart_222 {o0 o1 o2 o3 o4 o5 o6 o7 o8 o9 o10 o12 o13 o14 o15 o16 o17 o18 o19 o20 o21 : Option Value} {s0 : Value} {x11 : Int} (g1 : 0 ≤ x11 ∧ x11 ≤ 2147483647) (g2 : 0 ≤ (x11 / 256) ∧ (x11 / 256) ≤ 2147483647) : XR sc d 107 222 [o0, o1, o2, o3, o4, o5, o6, o7, o8, o9, o10, some (xw x11), o12, o13, o14, o15, o16, o17, o18, o19, o20, o21] [s0] (T, z, xv V, J, R) = XR sc d 107 236 [o0, o1, o2, o3, o4, o5, o6, o7, o8, o9, o10, some (xw x11), o12, o13, o14, o15, o16, o17, o18, o19, o20, o21] [xw ((x11 / 256) % 16), s0] (T, z, xv V, J, R) :=
  (sw_iload f_107_222 rfl).trans ((sw_sipush f_107_224 c16_256).trans ((sw_idiv f_107_227 ⟨by decide, by decide, g1⟩).trans ((sw_bipush f_107_228 c8_16).trans ((sw_irem f_107_230 ⟨by decide, by decide, g2⟩).trans (st_goto (t := 236) f_107_231 ⟨by decide, rfl⟩)))))
theorem bL_isPart_234 {o0 o1 o2 o3 o4 o5 o6 o7 o8 o9 o10 o11 o12 o13 o14 o15 o16 o17 o18 o19 o20 o21 : Option Value} {s0 : Value} : XR sc d 107 234 [o0, o1, o2, o3, o4, o5, o6, o7, o8, o9, o10, o11, o12, o13, o14, o15, o16, o17, o18, o19, o20, o21] [s0] (T, z, xv V, J, R) = XR sc d 107 236 [o0, o1, o2, o3, o4, o5, o6, o7, o8, o9, o10, o11, o12, o13, o14, o15, o16, o17, o18, o19, o20, o21] [xw (-1000000), s0] (T, z, xv V, J, R) :=
  sw_ldc (-1000000) f_107_234 k_107_85 rfl
theorem bL_isPart_236 {o0 o1 o2 o3 o4 o5 o6 o7 o8 o9 o10 o11 o12 o13 o14 o15 o16 o17 o18 o19 o20 o21 : Option Value} {y0 y1 : Int} (g1 : -2147483648 ≤ y1 ∧ y1 ≤ 2147483647) (g2 : -2147483648 ≤ y0 ∧ y0 ≤ 2147483647) : XR sc d 107 236 [o0, o1, o2, o3, o4, o5, o6, o7, o8, o9, o10, o11, o12, o13, o14, o15, o16, o17, o18, o19, o20, o21] [xw y0, xw y1] (T, z, xv V, J, R) = if y1 = y0 then XR sc d 107 239 [o0, o1, o2, o3, o4, o5, o6, o7, o8, o9, o10, o11, o12, o13, o14, o15, o16, o17, o18, o19, o20, o21] [] (T, z, xv V, J, R) else XR sc d 107 243 [o0, o1, o2, o3, o4, o5, o6, o7, o8, o9, o10, o11, o12, o13, o14, o15, o16, o17, o18, o19, o20, o21] [] (T, z, xv V, J, R) :=
  sw_icmp_ne (t := 243) f_107_236 ⟨by decide, rfl⟩ g1 g2
theorem bL_isPart_239 {o0 o1 o2 o3 o4 o5 o6 o7 o8 o9 o10 o11 o12 o13 o14 o15 o16 o17 o18 o19 o20 o21 : Option Value} : XR sc d 107 239 [o0, o1, o2, o3, o4, o5, o6, o7, o8, o9, o10, o11, o12, o13, o14, o15, o16, o17, o18, o19, o20, o21] [] (T, z, xv V, J, R) = XR sc d 107 244 [o0, o1, o2, o3, o4, o5, o6, o7, o8, o9, o10, o11, o12, o13, o14, o15, o16, o17, o18, o19, o20, o21] [xw 1] (T, z, xv V, J, R) :=
  (sw_iconst f_107_239).trans (st_goto (t := 244) f_107_240 ⟨by decide, rfl⟩)
theorem bL_isPart_243 {o0 o1 o2 o3 o4 o5 o6 o7 o8 o9 o10 o11 o12 o13 o14 o15 o16 o17 o18 o19 o20 o21 : Option Value} : XR sc d 107 243 [o0, o1, o2, o3, o4, o5, o6, o7, o8, o9, o10, o11, o12, o13, o14, o15, o16, o17, o18, o19, o20, o21] [] (T, z, xv V, J, R) = XR sc d 107 244 [o0, o1, o2, o3, o4, o5, o6, o7, o8, o9, o10, o11, o12, o13, o14, o15, o16, o17, o18, o19, o20, o21] [xw 0] (T, z, xv V, J, R) :=
  sw_iconst f_107_243
theorem bL_isPart_244 {o0 o1 o2 o3 o4 o5 o6 o7 o8 o9 o10 o11 o12 o13 o14 o15 o16 o17 o18 o19 o20 o21 : Option Value} {y0 : Int} (g1 : y0 = 0 ∨ y0 = 1) : XR sc d 107 244 [o0, o1, o2, o3, o4, o5, o6, o7, o8, o9, o10, o11, o12, o13, o14, o15, o16, o17, o18, o19, o20, o21] [xw y0] (T, z, xv V, J, R) = some (.inl (some (xw y0)), (T, z, xv V, J, R)) :=
  sw_zreturn f_107_244 mr_107 g1
theorem bL_isPart_245 {o0 o1 o2 o3 o4 o5 o7 o8 o9 o10 o11 o12 o13 o14 o15 o16 o17 o18 o19 o20 o21 : Option Value} {x6 : Int} (g1 : -2147483648 ≤ x6 ∧ x6 ≤ 2147483647) : XR sc d 107 245 [o0, o1, o2, o3, o4, o5, some (xw x6), o7, o8, o9, o10, o11, o12, o13, o14, o15, o16, o17, o18, o19, o20, o21] [] (T, z, xv V, J, R) = if x6 = 1 then XR sc d 107 251 [o0, o1, o2, o3, o4, o5, some (xw x6), o7, o8, o9, o10, o11, o12, o13, o14, o15, o16, o17, o18, o19, o20, o21] [] (T, z, xv V, J, R) else XR sc d 107 444 [o0, o1, o2, o3, o4, o5, some (xw x6), o7, o8, o9, o10, o11, o12, o13, o14, o15, o16, o17, o18, o19, o20, o21] [] (T, z, xv V, J, R) :=
  (sw_iload f_107_245 rfl).trans ((sw_iconst f_107_247).trans (sw_icmp_ne (t := 444) f_107_248 ⟨by decide, rfl⟩ g1 ⟨by decide, by decide⟩))
theorem bL_isPart_251 {o0 o1 o2 o3 o4 o5 o6 o7 o9 o11 o12 o13 o14 o15 o16 o17 o18 o19 o20 o21 : Option Value} {x8 x10 : Int} (g1 : 0 ≤ x8 ∧ x8 ≤ 2147483647) (g2 : -2147483648 ≤ x10 ∧ x10 ≤ 2147483647) : XR sc d 107 251 [o0, o1, o2, o3, o4, o5, o6, o7, some (xw x8), o9, some (xw x10), o11, o12, o13, o14, o15, o16, o17, o18, o19, o20, o21] [] (T, z, xv V, J, R) = if x10 = 0 then XR sc d 107 287 [o0, o1, o2, o3, o4, o5, o6, o7, some (xw x8), o9, some (xw x10), o11, o12, some (xw (x8 % 28)), o14, o15, o16, o17, o18, o19, o20, o21] [] (T, z, xv V, J, R) else XR sc d 107 263 [o0, o1, o2, o3, o4, o5, o6, o7, some (xw x8), o9, some (xw x10), o11, o12, some (xw (x8 % 28)), o14, o15, o16, o17, o18, o19, o20, o21] [] (T, z, xv V, J, R) :=
  (sw_iload f_107_251 rfl).trans ((sw_bipush f_107_253 c8_28).trans ((sw_irem f_107_255 ⟨by decide, by decide, g1⟩).trans ((sw_istore (L' := [o0, o1, o2, o3, o4, o5, o6, o7, some (xw x8), o9, some (xw x10), o11, o12, some (xw (x8 % 28)), o14, o15, o16, o17, o18, o19, o20, o21]) f_107_256 (Nat.le_of_ble_eq_true rfl) rfl).trans ((sw_iload f_107_258 rfl).trans (sw_if_eq (t := 287) f_107_260 ⟨by decide, rfl⟩ g2)))))
theorem bL_isPart_263 {o0 o1 o2 o3 o4 o5 o6 o7 o8 o9 o10 o11 o12 o14 o15 o16 o17 o18 o19 o20 o21 : Option Value} {x13 : Int} (g1 : -2147483648 ≤ x13 ∧ x13 ≤ 2147483647) : XR sc d 107 263 [o0, o1, o2, o3, o4, o5, o6, o7, o8, o9, o10, o11, o12, some (xw x13), o14, o15, o16, o17, o18, o19, o20, o21] [] (T, z, xv V, J, R) = if x13 ≤ 2 then XR sc d 107 287 [o0, o1, o2, o3, o4, o5, o6, o7, o8, o9, o10, o11, o12, some (xw x13), o14, o15, o16, o17, o18, o19, o20, o21] [] (T, z, xv V, J, R) else XR sc d 107 269 [o0, o1, o2, o3, o4, o5, o6, o7, o8, o9, o10, o11, o12, some (xw x13), o14, o15, o16, o17, o18, o19, o20, o21] [] (T, z, xv V, J, R) :=
  (sw_iload f_107_263 rfl).trans ((sw_iconst f_107_265).trans (sw_icmp_le (t := 287) f_107_266 ⟨by decide, rfl⟩ g1 ⟨by decide, by decide⟩))
theorem bL_isPart_269 {o0 o1 o2 o3 o4 o5 o6 o7 o8 o9 o10 o12 o14 o15 o16 o17 o18 o19 o20 o21 : Option Value} {x13 x11 : Int} (g1 : 0 ≤ x11 ∧ x11 ≤ 2147483647) (g2 : -2147483648 ≤ x13 ∧ x13 ≤ 2147483647) (g3 : -2147483648 ≤ ((4 * (x11 % 16)) - 2) ∧ ((4 * (x11 % 16)) - 2) ≤ 2147483647) : XR sc d 107 269 [o0, o1, o2, o3, o4, o5, o6, o7, o8, o9, o10, some (xw x11), o12, some (xw x13), o14, o15, o16, o17, o18, o19, o20, o21] [] (T, z, xv V, J, R) = if ((4 * (x11 % 16)) - 2) ≤ x13 then XR sc d 107 287 [o0, o1, o2, o3, o4, o5, o6, o7, o8, o9, o10, some (xw x11), o12, some (xw x13), o14, o15, o16, o17, o18, o19, o20, o21] [] (T, z, xv V, J, R) else XR sc d 107 283 [o0, o1, o2, o3, o4, o5, o6, o7, o8, o9, o10, some (xw x11), o12, some (xw x13), o14, o15, o16, o17, o18, o19, o20, o21] [] (T, z, xv V, J, R) :=
  (sw_iload f_107_269 rfl).trans ((sw_iconst f_107_271).trans ((sw_iload f_107_272 rfl).trans ((sw_bipush f_107_274 c8_16).trans ((sw_irem f_107_276 ⟨by decide, by decide, g1⟩).trans ((sw_imul f_107_277).trans ((sw_iconst f_107_278).trans ((sw_isub f_107_279).trans (sw_icmp_ge (t := 287) f_107_280 ⟨by decide, rfl⟩ g2 g3))))))))
theorem bL_isPart_283 {o0 o1 o2 o3 o4 o5 o6 o7 o8 o9 o10 o11 o12 o13 o14 o15 o16 o17 o18 o19 o20 o21 : Option Value} : XR sc d 107 283 [o0, o1, o2, o3, o4, o5, o6, o7, o8, o9, o10, o11, o12, o13, o14, o15, o16, o17, o18, o19, o20, o21] [] (T, z, xv V, J, R) = XR sc d 107 288 [o0, o1, o2, o3, o4, o5, o6, o7, o8, o9, o10, o11, o12, o13, o14, o15, o16, o17, o18, o19, o20, o21] [xw 1] (T, z, xv V, J, R) :=
  (sw_iconst f_107_283).trans (st_goto (t := 288) f_107_284 ⟨by decide, rfl⟩)
theorem bL_isPart_287 {o0 o1 o2 o3 o4 o5 o6 o7 o8 o9 o10 o11 o12 o13 o14 o15 o16 o17 o18 o19 o20 o21 : Option Value} : XR sc d 107 287 [o0, o1, o2, o3, o4, o5, o6, o7, o8, o9, o10, o11, o12, o13, o14, o15, o16, o17, o18, o19, o20, o21] [] (T, z, xv V, J, R) = XR sc d 107 288 [o0, o1, o2, o3, o4, o5, o6, o7, o8, o9, o10, o11, o12, o13, o14, o15, o16, o17, o18, o19, o20, o21] [xw 0] (T, z, xv V, J, R) :=
  sw_iconst f_107_287
theorem bL_isPart_288 {o0 o1 o2 o3 o4 o5 o6 o7 o8 o9 o10 o11 o12 o13 o14 o15 o16 o17 o18 o19 o20 o21 : Option Value} {y0 : Int} (g1 : -2147483648 ≤ y0 ∧ y0 ≤ 2147483647) : XR sc d 107 288 [o0, o1, o2, o3, o4, o5, o6, o7, o8, o9, o10, o11, o12, o13, o14, o15, o16, o17, o18, o19, o20, o21] [xw y0] (T, z, xv V, J, R) = if y0 = 0 then XR sc d 107 310 [o0, o1, o2, o3, o4, o5, o6, o7, o8, o9, o10, o11, o12, o13, some (xw y0), o15, o16, o17, o18, o19, o20, o21] [] (T, z, xv V, J, R) else XR sc d 107 295 [o0, o1, o2, o3, o4, o5, o6, o7, o8, o9, o10, o11, o12, o13, some (xw y0), o15, o16, o17, o18, o19, o20, o21] [] (T, z, xv V, J, R) :=
  (sw_istore (L' := [o0, o1, o2, o3, o4, o5, o6, o7, o8, o9, o10, o11, o12, o13, some (xw y0), o15, o16, o17, o18, o19, o20, o21]) f_107_288 (Nat.le_of_ble_eq_true rfl) rfl).trans ((sw_iload f_107_290 rfl).trans (sw_if_eq (t := 310) f_107_292 ⟨by decide, rfl⟩ g1))
theorem bL_isPart_295 {o0 o1 o2 o4 o5 o6 o7 o8 o10 o11 o12 o14 o15 o16 o17 o18 o19 o20 o21 : Option Value} {x9 x13 : Int} {a3 : Nat} (g1 : T a3 = (32, (T a3).2)) (g2 : (0 : Int) ≤ x9 ∧ x9 < ((T a3).2 : Int) ∧ (T a3).2 ≤ 3584) : XR sc d 107 295 [o0, o1, o2, some (.ref a3), o4, o5, o6, o7, o8, some (xw x9), o10, o11, o12, some (xw x13), o14, o15, o16, o17, o18, o19, o20, o21] [] (T, z, xv V, J, R) = XR sc d 107 311 [o0, o1, o2, some (.ref a3), o4, o5, o6, o7, o8, some (xw x9), o10, o11, o12, some (xw x13), o14, o15, o16, o17, o18, o19, o20, o21] [xw (iAnd (iShr (V a3 x9.toNat) (x13 - 1)) 7)] (T, z, xv V, J, R) :=
  (st_aload_n f_107_295 rfl).trans ((sw_iload f_107_296 rfl).trans ((sw_iaload f_107_298 g1 g2).trans ((sw_iload f_107_299 rfl).trans ((sw_iconst f_107_301).trans ((sw_isub f_107_302).trans ((sw_ishr f_107_303).trans ((sw_bipush f_107_304 c8_7).trans ((sw_iand f_107_306).trans (st_goto (t := 311) f_107_307 ⟨by decide, rfl⟩)))))))))
theorem bL_isPart_310 {o0 o1 o2 o3 o4 o5 o6 o7 o8 o9 o10 o11 o12 o13 o14 o15 o16 o17 o18 o19 o20 o21 : Option Value} : XR sc d 107 310 [o0, o1, o2, o3, o4, o5, o6, o7, o8, o9, o10, o11, o12, o13, o14, o15, o16, o17, o18, o19, o20, o21] [] (T, z, xv V, J, R) = XR sc d 107 311 [o0, o1, o2, o3, o4, o5, o6, o7, o8, o9, o10, o11, o12, o13, o14, o15, o16, o17, o18, o19, o20, o21] [xw 0] (T, z, xv V, J, R) :=
  sw_iconst f_107_310
theorem bL_isPart_311 {o0 o1 o2 o3 o4 o5 o6 o7 o8 o9 o10 o11 o12 o13 o15 o16 o17 o18 o19 o20 o21 : Option Value} {y0 x14 : Int} (g1 : -2147483648 ≤ x14 ∧ x14 ≤ 2147483647) : XR sc d 107 311 [o0, o1, o2, o3, o4, o5, o6, o7, o8, o9, o10, o11, o12, o13, some (xw x14), o15, o16, o17, o18, o19, o20, o21] [xw y0] (T, z, xv V, J, R) = if x14 = 0 then XR sc d 107 343 [o0, o1, o2, o3, o4, o5, o6, o7, o8, o9, o10, o11, o12, o13, some (xw x14), some (xw y0), o16, o17, o18, o19, o20, o21] [] (T, z, xv V, J, R) else XR sc d 107 318 [o0, o1, o2, o3, o4, o5, o6, o7, o8, o9, o10, o11, o12, o13, some (xw x14), some (xw y0), o16, o17, o18, o19, o20, o21] [] (T, z, xv V, J, R) :=
  (sw_istore (L' := [o0, o1, o2, o3, o4, o5, o6, o7, o8, o9, o10, o11, o12, o13, some (xw x14), some (xw y0), o16, o17, o18, o19, o20, o21]) f_107_311 (Nat.le_of_ble_eq_true rfl) rfl).trans ((sw_iload f_107_313 rfl).trans (sw_if_eq (t := 343) f_107_315 ⟨by decide, rfl⟩ g1))
theorem bL_isPart_318 {o0 o1 o2 o3 o4 o5 o6 o7 o8 o9 o10 o11 o12 o13 o14 o16 o17 o18 o19 o20 o21 : Option Value} {x15 : Int} (g1 : -2147483648 ≤ x15 ∧ x15 ≤ 2147483647) : XR sc d 107 318 [o0, o1, o2, o3, o4, o5, o6, o7, o8, o9, o10, o11, o12, o13, o14, some (xw x15), o16, o17, o18, o19, o20, o21] [] (T, z, xv V, J, R) = if x15 = 0 then XR sc d 107 323 [o0, o1, o2, o3, o4, o5, o6, o7, o8, o9, o10, o11, o12, o13, o14, some (xw x15), o16, o17, o18, o19, o20, o21] [] (T, z, xv V, J, R) else XR sc d 107 343 [o0, o1, o2, o3, o4, o5, o6, o7, o8, o9, o10, o11, o12, o13, o14, some (xw x15), o16, o17, o18, o19, o20, o21] [] (T, z, xv V, J, R) :=
  (sw_iload f_107_318 rfl).trans (sw_if_ne (t := 343) f_107_320 ⟨by decide, rfl⟩ g1)
theorem bL_isPart_323 {o0 o1 o2 o3 o4 o5 o6 o7 o8 o9 o10 o12 o13 o14 o15 o16 o17 o18 o19 o20 o21 : Option Value} {x11 : Int} (g1 : 0 ≤ x11 ∧ x11 ≤ 2147483647) (g2 : 0 ≤ (x11 / 65536) ∧ (x11 / 65536) ≤ 2147483647) (g3 : -2147483648 ≤ ((x11 / 65536) % 8) ∧ ((x11 / 65536) % 8) ≤ 2147483647) : XR sc d 107 323 [o0, o1, o2, o3, o4, o5, o6, o7, o8, o9, o10, some (xw x11), o12, o13, o14, o15, o16, o17, o18, o19, o20, o21] [] (T, z, xv V, J, R) = if ((x11 / 65536) % 8) = 0 then XR sc d 107 334 [o0, o1, o2, o3, o4, o5, o6, o7, o8, o9, o10, some (xw x11), o12, o13, o14, o15, o16, o17, o18, o19, o20, o21] [] (T, z, xv V, J, R) else XR sc d 107 343 [o0, o1, o2, o3, o4, o5, o6, o7, o8, o9, o10, some (xw x11), o12, o13, o14, o15, o16, o17, o18, o19, o20, o21] [] (T, z, xv V, J, R) :=
  (sw_iload f_107_323 rfl).trans ((sw_ldc 65536 f_107_325 k_107_123 rfl).trans ((sw_idiv f_107_327 ⟨by decide, by decide, g1⟩).trans ((sw_bipush f_107_328 c8_8).trans ((sw_irem f_107_330 ⟨by decide, by decide, g2⟩).trans (sw_if_ne (t := 343) f_107_331 ⟨by decide, rfl⟩ g3)))))
theorem bL_isPart_334 {o0 o1 o2 o3 o4 o5 o6 o7 o8 o9 o10 o11 o13 o14 o15 o16 o17 o18 o19 o20 o21 : Option Value} {x12 : Int} (g1 : -2147483648 ≤ x12 ∧ x12 ≤ 2147483647) : XR sc d 107 334 [o0, o1, o2, o3, o4, o5, o6, o7, o8, o9, o10, o11, some (xw x12), o13, o14, o15, o16, o17, o18, o19, o20, o21] [] (T, z, xv V, J, R) = if x12 = 0 then XR sc d 107 343 [o0, o1, o2, o3, o4, o5, o6, o7, o8, o9, o10, o11, some (xw x12), o13, o14, o15, o16, o17, o18, o19, o20, o21] [] (T, z, xv V, J, R) else XR sc d 107 339 [o0, o1, o2, o3, o4, o5, o6, o7, o8, o9, o10, o11, some (xw x12), o13, o14, o15, o16, o17, o18, o19, o20, o21] [] (T, z, xv V, J, R) :=
  (sw_iload f_107_334 rfl).trans (sw_if_eq (t := 343) f_107_336 ⟨by decide, rfl⟩ g1)
theorem bL_isPart_339 {o0 o1 o2 o3 o4 o5 o6 o7 o8 o9 o10 o11 o12 o13 o14 o15 o16 o17 o18 o19 o20 o21 : Option Value} : XR sc d 107 339 [o0, o1, o2, o3, o4, o5, o6, o7, o8, o9, o10, o11, o12, o13, o14, o15, o16, o17, o18, o19, o20, o21] [] (T, z, xv V, J, R) = XR sc d 107 344 [o0, o1, o2, o3, o4, o5, o6, o7, o8, o9, o10, o11, o12, o13, o14, o15, o16, o17, o18, o19, o20, o21] [xw 1] (T, z, xv V, J, R) :=
  (sw_iconst f_107_339).trans (st_goto (t := 344) f_107_340 ⟨by decide, rfl⟩)
theorem bL_isPart_343 {o0 o1 o2 o3 o4 o5 o6 o7 o8 o9 o10 o11 o12 o13 o14 o15 o16 o17 o18 o19 o20 o21 : Option Value} : XR sc d 107 343 [o0, o1, o2, o3, o4, o5, o6, o7, o8, o9, o10, o11, o12, o13, o14, o15, o16, o17, o18, o19, o20, o21] [] (T, z, xv V, J, R) = XR sc d 107 344 [o0, o1, o2, o3, o4, o5, o6, o7, o8, o9, o10, o11, o12, o13, o14, o15, o16, o17, o18, o19, o20, o21] [xw 0] (T, z, xv V, J, R) :=
  sw_iconst f_107_343
theorem bL_isPart_344 {o0 o1 o2 o3 o4 o5 o6 o7 o8 o9 o10 o11 o12 o13 o14 o15 o16 o17 o18 o19 o20 o21 : Option Value} {y0 : Int} (g1 : -2147483648 ≤ y0 ∧ y0 ≤ 2147483647) : XR sc d 107 344 [o0, o1, o2, o3, o4, o5, o6, o7, o8, o9, o10, o11, o12, o13, o14, o15, o16, o17, o18, o19, o20, o21] [xw y0] (T, z, xv V, J, R) = if y0 = 0 then XR sc d 107 366 [o0, o1, o2, o3, o4, o5, o6, o7, o8, o9, o10, o11, o12, o13, o14, o15, some (xw y0), o17, o18, o19, o20, o21] [] (T, z, xv V, J, R) else XR sc d 107 351 [o0, o1, o2, o3, o4, o5, o6, o7, o8, o9, o10, o11, o12, o13, o14, o15, some (xw y0), o17, o18, o19, o20, o21] [] (T, z, xv V, J, R) :=
  (sw_istore (L' := [o0, o1, o2, o3, o4, o5, o6, o7, o8, o9, o10, o11, o12, o13, o14, o15, some (xw y0), o17, o18, o19, o20, o21]) f_107_344 (Nat.le_of_ble_eq_true rfl) rfl).trans ((sw_iload f_107_346 rfl).trans (sw_if_eq (t := 366) f_107_348 ⟨by decide, rfl⟩ g1))
theorem bL_isPart_351 {o0 o1 o2 o4 o5 o6 o7 o8 o10 o11 o12 o14 o15 o16 o17 o18 o19 o20 o21 : Option Value} {x9 x13 : Int} {a3 : Nat} (g1 : T a3 = (32, (T a3).2)) (g2 : (0 : Int) ≤ x9 ∧ x9 < ((T a3).2 : Int) ∧ (T a3).2 ≤ 3584) (g3 : 0 < (iShl 1 x13) ∧ (iShl 1 x13) ≤ 2147483647 ∧ 0 ≤ (V a3 x9.toNat) ∧ (V a3 x9.toNat) ≤ 2147483647) : XR sc d 107 351 [o0, o1, o2, some (.ref a3), o4, o5, o6, o7, o8, some (xw x9), o10, o11, o12, some (xw x13), o14, o15, o16, o17, o18, o19, o20, o21] [] (T, z, xv V, J, R) = xret 107 (XR sc d 107) 360 363 [o0, o1, o2, some (.ref a3), o4, o5, o6, o7, o8, some (xw x9), o10, o11, o12, some (xw x13), o14, o15, o16, o17, o18, o19, o20, o21] [] (X sc d 103 [xw ((V a3 x9.toNat) % (iShl 1 x13))] (T, z, xv V, J, R)) :=
  (st_aload_n f_107_351 rfl).trans ((sw_iload f_107_352 rfl).trans ((sw_iaload f_107_354 g1 g2).trans ((sw_iconst f_107_355).trans ((sw_iload f_107_356 rfl).trans ((sw_ishl f_107_358).trans ((sw_irem f_107_359 g3).trans (st_callS' f_107_360 h_107_116 mn_103 rfl rfl rfl rfl)))))))
theorem bL_isPart_363 {o0 o1 o2 o3 o4 o5 o6 o7 o8 o9 o10 o11 o12 o13 o14 o15 o16 o17 o18 o19 o20 o21 : Option Value} {s0 : Value} : XR sc d 107 363 [o0, o1, o2, o3, o4, o5, o6, o7, o8, o9, o10, o11, o12, o13, o14, o15, o16, o17, o18, o19, o20, o21] [s0] (T, z, xv V, J, R) = XR sc d 107 367 [o0, o1, o2, o3, o4, o5, o6, o7, o8, o9, o10, o11, o12, o13, o14, o15, o16, o17, o18, o19, o20, o21] [s0] (T, z, xv V, J, R) :=
  st_goto (t := 367) f_107_363 ⟨by decide, rfl⟩
theorem bL_isPart_366 {o0 o1 o2 o3 o4 o5 o6 o7 o8 o9 o10 o11 o12 o13 o14 o15 o16 o17 o18 o19 o20 o21 : Option Value} : XR sc d 107 366 [o0, o1, o2, o3, o4, o5, o6, o7, o8, o9, o10, o11, o12, o13, o14, o15, o16, o17, o18, o19, o20, o21] [] (T, z, xv V, J, R) = XR sc d 107 367 [o0, o1, o2, o3, o4, o5, o6, o7, o8, o9, o10, o11, o12, o13, o14, o15, o16, o17, o18, o19, o20, o21] [xw 0] (T, z, xv V, J, R) :=
  sw_iconst f_107_366
theorem bL_isPart_367 {o0 o1 o2 o4 o5 o6 o7 o8 o9 o10 o11 o12 o13 o14 o15 o17 o18 o19 o20 o21 : Option Value} {y0 x16 : Int} {a3 : Nat} (g1 : -2147483648 ≤ x16 ∧ x16 ≤ 2147483647) : XR sc d 107 367 [o0, o1, o2, some (.ref a3), o4, o5, o6, o7, o8, o9, o10, o11, o12, o13, o14, o15, some (xw x16), o17, o18, o19, o20, o21] [xw y0] (T, z, xv V, J, R) = if x16 = 0 then XR sc d 107 380 [o0, o1, o2, some (.ref a3), o4, o5, o6, o7, o8, o9, o10, o11, o12, o13, o14, o15, some (xw x16), some (xw y0), o18, o19, o20, o21] [.ref a3] (T, z, xv V, J, R) else XR sc d 107 375 [o0, o1, o2, some (.ref a3), o4, o5, o6, o7, o8, o9, o10, o11, o12, o13, o14, o15, some (xw x16), some (xw y0), o18, o19, o20, o21] [.ref a3] (T, z, xv V, J, R) :=
  (sw_istore (L' := [o0, o1, o2, some (.ref a3), o4, o5, o6, o7, o8, o9, o10, o11, o12, o13, o14, o15, some (xw x16), some (xw y0), o18, o19, o20, o21]) f_107_367 (Nat.le_of_ble_eq_true rfl) rfl).trans ((st_aload_n f_107_369 rfl).trans ((sw_iload f_107_370 rfl).trans (sw_if_eq (t := 380) f_107_372 ⟨by decide, rfl⟩ g1)))
theorem bL_isPart_375 {o0 o1 o2 o3 o4 o5 o6 o7 o8 o10 o11 o12 o13 o14 o15 o16 o17 o18 o19 o20 o21 : Option Value} {s0 : Value} {x9 : Int} : XR sc d 107 375 [o0, o1, o2, o3, o4, o5, o6, o7, o8, some (xw x9), o10, o11, o12, o13, o14, o15, o16, o17, o18, o19, o20, o21] [s0] (T, z, xv V, J, R) = XR sc d 107 382 [o0, o1, o2, o3, o4, o5, o6, o7, o8, some (xw x9), o10, o11, o12, o13, o14, o15, o16, o17, o18, o19, o20, o21] [xw x9, s0] (T, z, xv V, J, R) :=
  (sw_iload f_107_375 rfl).trans (st_goto (t := 382) f_107_377 ⟨by decide, rfl⟩)
theorem bL_isPart_380 {o0 o1 o2 o3 o4 o5 o6 o7 o8 o9 o10 o11 o12 o13 o14 o15 o16 o17 o18 o19 o20 o21 : Option Value} {s0 : Value} : XR sc d 107 380 [o0, o1, o2, o3, o4, o5, o6, o7, o8, o9, o10, o11, o12, o13, o14, o15, o16, o17, o18, o19, o20, o21] [s0] (T, z, xv V, J, R) = XR sc d 107 382 [o0, o1, o2, o3, o4, o5, o6, o7, o8, o9, o10, o11, o12, o13, o14, o15, o16, o17, o18, o19, o20, o21] [xw 10, s0] (T, z, xv V, J, R) :=
  sw_bipush f_107_380 c8_10
theorem bL_isPart_382 {o1 o2 o3 o4 o5 o6 o7 o8 o10 o11 o12 o14 o15 o16 o17 o18 o19 o20 o21 : Option Value} {y0 x13 x9 : Int} {b1 a0 : Nat} (g1 : T b1 = (32, (T b1).2)) (g2 : (0 : Int) ≤ y0 ∧ y0 < ((T b1).2 : Int) ∧ (T b1).2 ≤ 3584) : XR sc d 107 382 [some (.ref a0), o1, o2, o3, o4, o5, o6, o7, o8, some (xw x9), o10, o11, o12, some (xw x13), o14, o15, o16, o17, o18, o19, o20, o21] [xw y0, .ref b1] (T, z, xv V, J, R) = xret 107 (XR sc d 107) 400 403 [some (.ref a0), o1, o2, o3, o4, o5, o6, o7, o8, some (xw x9), o10, o11, o12, some (xw x13), o14, o15, o16, o17, o18, o19, o20, o21] [] (X sc d 92 [.ref a0, xw 5, xw x9, xw x13, xw 0, xw 0, xw 0, xw 0] (T, z, xv (xup2 V b1 y0.toNat (iOr (V b1 y0.toNat) (iShl 1 x13))), J, R)) :=
  (st_dup2 f_107_382 rfl rfl).trans ((sw_iaload f_107_383 g1 g2).trans ((sw_iconst f_107_384).trans ((sw_iload f_107_385 rfl).trans ((sw_ishl f_107_387).trans ((sw_ior f_107_388).trans ((sw_iastore f_107_389 g1 g2).trans ((st_aload_n f_107_390 rfl).trans ((sw_iconst f_107_391).trans ((sw_iload f_107_392 rfl).trans ((sw_iload f_107_394 rfl).trans ((sw_iconst f_107_396).trans ((sw_iconst f_107_397).trans ((sw_iconst f_107_398).trans ((sw_iconst f_107_399).trans (st_callS' f_107_400 h_107_124 mn_92 rfl rfl rfl rfl)))))))))))))))
theorem bL_isPart_403 {o0 o1 o2 o3 o4 o5 o6 o7 o8 o9 o11 o12 o13 o14 o15 o16 o17 o18 o19 o20 o21 : Option Value} {s0 : Value} {x10 : Int} (g1 : -2147483648 ≤ x10 ∧ x10 ≤ 2147483647) : XR sc d 107 403 [o0, o1, o2, o3, o4, o5, o6, o7, o8, o9, some (xw x10), o11, o12, o13, o14, o15, o16, o17, o18, o19, o20, o21] [s0] (T, z, xv V, J, R) = if x10 = 0 then XR sc d 107 408 [o0, o1, o2, o3, o4, o5, o6, o7, o8, o9, some (xw x10), o11, o12, o13, o14, o15, o16, o17, o18, o19, o20, o21] [s0] (T, z, xv V, J, R) else XR sc d 107 413 [o0, o1, o2, o3, o4, o5, o6, o7, o8, o9, some (xw x10), o11, o12, o13, o14, o15, o16, o17, o18, o19, o20, o21] [s0] (T, z, xv V, J, R) :=
  (sw_iload f_107_403 rfl).trans (sw_if_ne (t := 413) f_107_405 ⟨by decide, rfl⟩ g1)
theorem bL_isPart_408 {o0 o1 o2 o3 o4 o5 o6 o7 o8 o9 o10 o11 o12 o13 o14 o15 o16 o17 o18 o19 o20 o21 : Option Value} {s0 : Value} : XR sc d 107 408 [o0, o1, o2, o3, o4, o5, o6, o7, o8, o9, o10, o11, o12, o13, o14, o15, o16, o17, o18, o19, o20, o21] [s0] (T, z, xv V, J, R) = XR sc d 107 435 [o0, o1, o2, o3, o4, o5, o6, o7, o8, o9, o10, o11, o12, o13, o14, o15, o16, o17, o18, o19, o20, o21] [xw (-3000000), s0] (T, z, xv V, J, R) :=
  (sw_ldc (-3000000) f_107_408 k_107_79 rfl).trans (st_goto (t := 435) f_107_410 ⟨by decide, rfl⟩)
theorem bL_isPart_413 {o0 o1 o2 o3 o4 o5 o6 o7 o8 o9 o10 o11 o12 o13 o15 o16 o17 o18 o19 o20 o21 : Option Value} {s0 : Value} {x14 : Int} (g1 : -2147483648 ≤ x14 ∧ x14 ≤ 2147483647) : XR sc d 107 413 [o0, o1, o2, o3, o4, o5, o6, o7, o8, o9, o10, o11, o12, o13, some (xw x14), o15, o16, o17, o18, o19, o20, o21] [s0] (T, z, xv V, J, R) = if x14 = 0 then XR sc d 107 418 [o0, o1, o2, o3, o4, o5, o6, o7, o8, o9, o10, o11, o12, o13, some (xw x14), o15, o16, o17, o18, o19, o20, o21] [s0] (T, z, xv V, J, R) else XR sc d 107 423 [o0, o1, o2, o3, o4, o5, o6, o7, o8, o9, o10, o11, o12, o13, some (xw x14), o15, o16, o17, o18, o19, o20, o21] [s0] (T, z, xv V, J, R) :=
  (sw_iload f_107_413 rfl).trans (sw_if_ne (t := 423) f_107_415 ⟨by decide, rfl⟩ g1)
theorem bL_isPart_418 {o0 o1 o2 o3 o4 o5 o6 o7 o8 o9 o10 o11 o12 o13 o14 o15 o16 o17 o18 o19 o20 o21 : Option Value} {s0 : Value} : XR sc d 107 418 [o0, o1, o2, o3, o4, o5, o6, o7, o8, o9, o10, o11, o12, o13, o14, o15, o16, o17, o18, o19, o20, o21] [s0] (T, z, xv V, J, R) = XR sc d 107 435 [o0, o1, o2, o3, o4, o5, o6, o7, o8, o9, o10, o11, o12, o13, o14, o15, o16, o17, o18, o19, o20, o21] [xw (-2000000), s0] (T, z, xv V, J, R) :=
  (sw_ldc (-2000000) f_107_418 k_107_82 rfl).trans (st_goto (t := 435) f_107_420 ⟨by decide, rfl⟩)
theorem bL_isPart_423 {o0 o1 o2 o3 o4 o5 o6 o7 o8 o9 o10 o11 o12 o13 o14 o15 o17 o18 o19 o20 o21 : Option Value} {s0 : Value} {x16 : Int} (g1 : -2147483648 ≤ x16 ∧ x16 ≤ 2147483647) : XR sc d 107 423 [o0, o1, o2, o3, o4, o5, o6, o7, o8, o9, o10, o11, o12, o13, o14, o15, some (xw x16), o17, o18, o19, o20, o21] [s0] (T, z, xv V, J, R) = if x16 = 0 then XR sc d 107 433 [o0, o1, o2, o3, o4, o5, o6, o7, o8, o9, o10, o11, o12, o13, o14, o15, some (xw x16), o17, o18, o19, o20, o21] [s0] (T, z, xv V, J, R) else XR sc d 107 428 [o0, o1, o2, o3, o4, o5, o6, o7, o8, o9, o10, o11, o12, o13, o14, o15, some (xw x16), o17, o18, o19, o20, o21] [s0] (T, z, xv V, J, R) :=
  (sw_iload f_107_423 rfl).trans (sw_if_eq (t := 433) f_107_425 ⟨by decide, rfl⟩ g1)
theorem bL_isPart_428 {o0 o1 o2 o3 o4 o5 o6 o7 o8 o9 o10 o11 o12 o13 o14 o15 o16 o18 o19 o20 o21 : Option Value} {s0 : Value} {x17 : Int} : XR sc d 107 428 [o0, o1, o2, o3, o4, o5, o6, o7, o8, o9, o10, o11, o12, o13, o14, o15, o16, some (xw x17), o18, o19, o20, o21] [s0] (T, z, xv V, J, R) = XR sc d 107 435 [o0, o1, o2, o3, o4, o5, o6, o7, o8, o9, o10, o11, o12, o13, o14, o15, o16, some (xw x17), o18, o19, o20, o21] [xw x17, s0] (T, z, xv V, J, R) :=
  (sw_iload f_107_428 rfl).trans (st_goto (t := 435) f_107_430 ⟨by decide, rfl⟩)
theorem bL_isPart_433 {o0 o1 o2 o3 o4 o5 o6 o7 o8 o9 o10 o11 o12 o13 o14 o15 o16 o17 o18 o19 o20 o21 : Option Value} {s0 : Value} : XR sc d 107 433 [o0, o1, o2, o3, o4, o5, o6, o7, o8, o9, o10, o11, o12, o13, o14, o15, o16, o17, o18, o19, o20, o21] [s0] (T, z, xv V, J, R) = XR sc d 107 435 [o0, o1, o2, o3, o4, o5, o6, o7, o8, o9, o10, o11, o12, o13, o14, o15, o16, o17, o18, o19, o20, o21] [xw (-1000000), s0] (T, z, xv V, J, R) :=
  sw_ldc (-1000000) f_107_433 k_107_85 rfl
theorem bL_isPart_435 {o0 o1 o2 o3 o4 o5 o6 o7 o8 o9 o10 o11 o12 o13 o14 o15 o16 o17 o18 o19 o20 o21 : Option Value} {y0 y1 : Int} (g1 : -2147483648 ≤ y1 ∧ y1 ≤ 2147483647) (g2 : -2147483648 ≤ y0 ∧ y0 ≤ 2147483647) : XR sc d 107 435 [o0, o1, o2, o3, o4, o5, o6, o7, o8, o9, o10, o11, o12, o13, o14, o15, o16, o17, o18, o19, o20, o21] [xw y0, xw y1] (T, z, xv V, J, R) = if y1 = y0 then XR sc d 107 438 [o0, o1, o2, o3, o4, o5, o6, o7, o8, o9, o10, o11, o12, o13, o14, o15, o16, o17, o18, o19, o20, o21] [] (T, z, xv V, J, R) else XR sc d 107 442 [o0, o1, o2, o3, o4, o5, o6, o7, o8, o9, o10, o11, o12, o13, o14, o15, o16, o17, o18, o19, o20, o21] [] (T, z, xv V, J, R) :=
  sw_icmp_ne (t := 442) f_107_435 ⟨by decide, rfl⟩ g1 g2
theorem bL_isPart_438 {o0 o1 o2 o3 o4 o5 o6 o7 o8 o9 o10 o11 o12 o13 o14 o15 o16 o17 o18 o19 o20 o21 : Option Value} : XR sc d 107 438 [o0, o1, o2, o3, o4, o5, o6, o7, o8, o9, o10, o11, o12, o13, o14, o15, o16, o17, o18, o19, o20, o21] [] (T, z, xv V, J, R) = XR sc d 107 443 [o0, o1, o2, o3, o4, o5, o6, o7, o8, o9, o10, o11, o12, o13, o14, o15, o16, o17, o18, o19, o20, o21] [xw 1] (T, z, xv V, J, R) :=
  (sw_iconst f_107_438).trans (st_goto (t := 443) f_107_439 ⟨by decide, rfl⟩)
theorem bL_isPart_442 {o0 o1 o2 o3 o4 o5 o6 o7 o8 o9 o10 o11 o12 o13 o14 o15 o16 o17 o18 o19 o20 o21 : Option Value} : XR sc d 107 442 [o0, o1, o2, o3, o4, o5, o6, o7, o8, o9, o10, o11, o12, o13, o14, o15, o16, o17, o18, o19, o20, o21] [] (T, z, xv V, J, R) = XR sc d 107 443 [o0, o1, o2, o3, o4, o5, o6, o7, o8, o9, o10, o11, o12, o13, o14, o15, o16, o17, o18, o19, o20, o21] [xw 0] (T, z, xv V, J, R) :=
  sw_iconst f_107_442
theorem bL_isPart_443 {o0 o1 o2 o3 o4 o5 o6 o7 o8 o9 o10 o11 o12 o13 o14 o15 o16 o17 o18 o19 o20 o21 : Option Value} {y0 : Int} (g1 : y0 = 0 ∨ y0 = 1) : XR sc d 107 443 [o0, o1, o2, o3, o4, o5, o6, o7, o8, o9, o10, o11, o12, o13, o14, o15, o16, o17, o18, o19, o20, o21] [xw y0] (T, z, xv V, J, R) = some (.inl (some (xw y0)), (T, z, xv V, J, R)) :=
  sw_zreturn f_107_443 mr_107 g1
theorem bL_isPart_444 {o0 o1 o2 o3 o4 o5 o7 o8 o9 o10 o11 o12 o13 o14 o15 o16 o17 o18 o19 o20 o21 : Option Value} {x6 : Int} (g1 : -2147483648 ≤ x6 ∧ x6 ≤ 2147483647) : XR sc d 107 444 [o0, o1, o2, o3, o4, o5, some (xw x6), o7, o8, o9, o10, o11, o12, o13, o14, o15, o16, o17, o18, o19, o20, o21] [] (T, z, xv V, J, R) = if x6 = 2 then XR sc d 107 450 [o0, o1, o2, o3, o4, o5, some (xw x6), o7, o8, o9, o10, o11, o12, o13, o14, o15, o16, o17, o18, o19, o20, o21] [] (T, z, xv V, J, R) else XR sc d 107 725 [o0, o1, o2, o3, o4, o5, some (xw x6), o7, o8, o9, o10, o11, o12, o13, o14, o15, o16, o17, o18, o19, o20, o21] [] (T, z, xv V, J, R) :=
  (sw_iload f_107_444 rfl).trans ((sw_iconst f_107_446).trans (sw_icmp_ne (t := 725) f_107_447 ⟨by decide, rfl⟩ g1 ⟨by decide, by decide⟩))
theorem bL_isPart_450 {o0 o1 o2 o3 o4 o5 o6 o7 o9 o10 o11 o12 o13 o14 o15 o16 o17 o18 o19 o20 o21 : Option Value} {x8 : Int} (g1 : 0 ≤ x8 ∧ x8 ≤ 2147483647) (g2 : -2147483648 ≤ (x8 % 17) ∧ (x8 % 17) ≤ 2147483647) : XR sc d 107 450 [o0, o1, o2, o3, o4, o5, o6, o7, some (xw x8), o9, o10, o11, o12, o13, o14, o15, o16, o17, o18, o19, o20, o21] [] (T, z, xv V, J, R) = if (x8 % 17) = 16 then XR sc d 107 460 [o0, o1, o2, o3, o4, o5, o6, o7, some (xw x8), o9, o10, o11, o12, o13, o14, o15, o16, o17, o18, o19, o20, o21] [] (T, z, xv V, J, R) else XR sc d 107 465 [o0, o1, o2, o3, o4, o5, o6, o7, some (xw x8), o9, o10, o11, o12, o13, o14, o15, o16, o17, o18, o19, o20, o21] [] (T, z, xv V, J, R) :=
  (sw_iload f_107_450 rfl).trans ((sw_bipush f_107_452 c8_17).trans ((sw_irem f_107_454 ⟨by decide, by decide, g1⟩).trans ((sw_bipush f_107_455 c8_16).trans (sw_icmp_ne (t := 465) f_107_457 ⟨by decide, rfl⟩ g2 ⟨by decide, by decide⟩))))
theorem bL_isPart_460 {o0 o1 o2 o3 o4 o5 o6 o7 o8 o9 o10 o11 o12 o13 o14 o15 o16 o17 o18 o19 o20 o21 : Option Value} : XR sc d 107 460 [o0, o1, o2, o3, o4, o5, o6, o7, o8, o9, o10, o11, o12, o13, o14, o15, o16, o17, o18, o19, o20, o21] [] (T, z, xv V, J, R) = XR sc d 107 469 [o0, o1, o2, o3, o4, o5, o6, o7, o8, o9, o10, o11, o12, o13, o14, o15, o16, o17, o18, o19, o20, o21] [xw 8] (T, z, xv V, J, R) :=
  (sw_bipush f_107_460 c8_8).trans (st_goto (t := 469) f_107_462 ⟨by decide, rfl⟩)
theorem bL_isPart_465 {o0 o1 o2 o3 o4 o5 o6 o7 o9 o10 o11 o12 o13 o14 o15 o16 o17 o18 o19 o20 o21 : Option Value} {x8 : Int} (g1 : 0 ≤ x8 ∧ x8 ≤ 2147483647) : XR sc d 107 465 [o0, o1, o2, o3, o4, o5, o6, o7, some (xw x8), o9, o10, o11, o12, o13, o14, o15, o16, o17, o18, o19, o20, o21] [] (T, z, xv V, J, R) = XR sc d 107 469 [o0, o1, o2, o3, o4, o5, o6, o7, some (xw x8), o9, o10, o11, o12, o13, o14, o15, o16, o17, o18, o19, o20, o21] [xw (x8 % 4)] (T, z, xv V, J, R) :=
  (sw_iload f_107_465 rfl).trans ((sw_iconst f_107_467).trans (sw_irem f_107_468 ⟨by decide, by decide, g1⟩))
theorem bL_isPart_469 {o0 o1 o2 o3 o4 o5 o6 o7 o9 o11 o12 o13 o14 o15 o16 o17 o18 o19 o20 o21 : Option Value} {y0 x8 x10 : Int} (g1 : 0 ≤ x8 ∧ x8 ≤ 2147483647) (g2 : 0 ≤ (x8 / 17) ∧ (x8 / 17) ≤ 2147483647) (g3 : -2147483648 ≤ x10 ∧ x10 ≤ 2147483647) : XR sc d 107 469 [o0, o1, o2, o3, o4, o5, o6, o7, some (xw x8), o9, some (xw x10), o11, o12, o13, o14, o15, o16, o17, o18, o19, o20, o21] [xw y0] (T, z, xv V, J, R) = if x10 = 0 then XR sc d 107 503 [o0, o1, o2, o3, o4, o5, o6, o7, some (xw x8), o9, some (xw x10), o11, o12, some (xw y0), some (xw ((x8 / 17) % 4)), o15, o16, o17, o18, o19, o20, o21] [] (T, z, xv V, J, R) else XR sc d 107 485 [o0, o1, o2, o3, o4, o5, o6, o7, some (xw x8), o9, some (xw x10), o11, o12, some (xw y0), some (xw ((x8 / 17) % 4)), o15, o16, o17, o18, o19, o20, o21] [] (T, z, xv V, J, R) :=
  (sw_istore (L' := [o0, o1, o2, o3, o4, o5, o6, o7, some (xw x8), o9, some (xw x10), o11, o12, some (xw y0), o14, o15, o16, o17, o18, o19, o20, o21]) f_107_469 (Nat.le_of_ble_eq_true rfl) rfl).trans ((sw_iload f_107_471 rfl).trans ((sw_bipush f_107_473 c8_17).trans ((sw_idiv f_107_475 ⟨by decide, by decide, g1⟩).trans ((sw_iconst f_107_476).trans ((sw_irem f_107_477 ⟨by decide, by decide, g2⟩).trans ((sw_istore (L' := [o0, o1, o2, o3, o4, o5, o6, o7, some (xw x8), o9, some (xw x10), o11, o12, some (xw y0), some (xw ((x8 / 17) % 4)), o15, o16, o17, o18, o19, o20, o21]) f_107_478 (Nat.le_of_ble_eq_true rfl) rfl).trans ((sw_iload f_107_480 rfl).trans (sw_if_eq (t := 503) f_107_482 ⟨by decide, rfl⟩ g3))))))))
theorem bL_isPart_485 {o0 o1 o2 o4 o5 o6 o7 o10 o11 o12 o13 o14 o15 o16 o17 o18 o19 o20 o21 : Option Value} {x8 x9 : Int} {a3 : Nat} (g1 : 0 ≤ x8 ∧ x8 ≤ 2147483647) (g2 : T a3 = (32, (T a3).2)) (g3 : (0 : Int) ≤ x9 ∧ x9 < ((T a3).2 : Int) ∧ (T a3).2 ≤ 3584) : XR sc d 107 485 [o0, o1, o2, some (.ref a3), o4, o5, o6, o7, some (xw x8), some (xw x9), o10, o11, o12, o13, o14, o15, o16, o17, o18, o19, o20, o21] [] (T, z, xv V, J, R) = xret 107 (XR sc d 107) 494 497 [o0, o1, o2, some (.ref a3), o4, o5, o6, o7, some (xw x8), some (xw x9), o10, o11, o12, o13, o14, o15, o16, o17, o18, o19, o20, o21] [xw (x8 / 68)] (X sc d 103 [xw (V a3 x9.toNat)] (T, z, xv V, J, R)) :=
  (sw_iload f_107_485 rfl).trans ((sw_bipush f_107_487 c8_68).trans ((sw_idiv f_107_489 ⟨by decide, by decide, g1⟩).trans ((st_aload_n f_107_490 rfl).trans ((sw_iload f_107_491 rfl).trans ((sw_iaload f_107_493 g2 g3).trans (st_callS' f_107_494 h_107_116 mn_103 rfl rfl rfl rfl))))))
theorem bL_isPart_497 {o0 o1 o2 o3 o4 o5 o6 o7 o8 o9 o10 o11 o12 o13 o14 o15 o16 o17 o18 o19 o20 o21 : Option Value} {y0 y1 : Int} (g1 : 0 < (y0 + 1) ∧ (y0 + 1) ≤ 2147483647 ∧ 0 ≤ y1 ∧ y1 ≤ 2147483647) : XR sc d 107 497 [o0, o1, o2, o3, o4, o5, o6, o7, o8, o9, o10, o11, o12, o13, o14, o15, o16, o17, o18, o19, o20, o21] [xw y0, xw y1] (T, z, xv V, J, R) = XR sc d 107 504 [o0, o1, o2, o3, o4, o5, o6, o7, o8, o9, o10, o11, o12, o13, o14, o15, o16, o17, o18, o19, o20, o21] [xw (y1 % (y0 + 1))] (T, z, xv V, J, R) :=
  (sw_iconst f_107_497).trans ((sw_iadd f_107_498).trans ((sw_irem f_107_499 g1).trans (st_goto (t := 504) f_107_500 ⟨by decide, rfl⟩)))
theorem bL_isPart_503 {o0 o1 o2 o3 o4 o5 o6 o7 o8 o9 o10 o11 o12 o13 o14 o15 o16 o17 o18 o19 o20 o21 : Option Value} : XR sc d 107 503 [o0, o1, o2, o3, o4, o5, o6, o7, o8, o9, o10, o11, o12, o13, o14, o15, o16, o17, o18, o19, o20, o21] [] (T, z, xv V, J, R) = XR sc d 107 504 [o0, o1, o2, o3, o4, o5, o6, o7, o8, o9, o10, o11, o12, o13, o14, o15, o16, o17, o18, o19, o20, o21] [xw 0] (T, z, xv V, J, R) :=
  sw_iconst f_107_503
theorem bL_isPart_504 {o0 o1 o2 o3 o4 o5 o6 o7 o8 o9 o11 o12 o13 o14 o15 o16 o17 o18 o19 o20 o21 : Option Value} {y0 x10 : Int} (g1 : -2147483648 ≤ x10 ∧ x10 ≤ 2147483647) : XR sc d 107 504 [o0, o1, o2, o3, o4, o5, o6, o7, o8, o9, some (xw x10), o11, o12, o13, o14, o15, o16, o17, o18, o19, o20, o21] [xw y0] (T, z, xv V, J, R) = if x10 = 0 then XR sc d 107 534 [o0, o1, o2, o3, o4, o5, o6, o7, o8, o9, some (xw x10), o11, o12, o13, o14, some (xw y0), o16, o17, o18, o19, o20, o21] [] (T, z, xv V, J, R) else XR sc d 107 511 [o0, o1, o2, o3, o4, o5, o6, o7, o8, o9, some (xw x10), o11, o12, o13, o14, some (xw y0), o16, o17, o18, o19, o20, o21] [] (T, z, xv V, J, R) :=
  (sw_istore (L' := [o0, o1, o2, o3, o4, o5, o6, o7, o8, o9, some (xw x10), o11, o12, o13, o14, some (xw y0), o16, o17, o18, o19, o20, o21]) f_107_504 (Nat.le_of_ble_eq_true rfl) rfl).trans ((sw_iload f_107_506 rfl).trans (sw_if_eq (t := 534) f_107_508 ⟨by decide, rfl⟩ g1))
theorem bL_isPart_511 {o0 o1 o2 o3 o4 o5 o6 o7 o8 o9 o10 o11 o12 o14 o15 o16 o17 o18 o19 o20 o21 : Option Value} {x13 : Int} (g1 : -2147483648 ≤ x13 ∧ x13 ≤ 2147483647) : XR sc d 107 511 [o0, o1, o2, o3, o4, o5, o6, o7, o8, o9, o10, o11, o12, some (xw x13), o14, o15, o16, o17, o18, o19, o20, o21] [] (T, z, xv V, J, R) = if 8 ≤ x13 then XR sc d 107 534 [o0, o1, o2, o3, o4, o5, o6, o7, o8, o9, o10, o11, o12, some (xw x13), o14, o15, o16, o17, o18, o19, o20, o21] [] (T, z, xv V, J, R) else XR sc d 107 518 [o0, o1, o2, o3, o4, o5, o6, o7, o8, o9, o10, o11, o12, some (xw x13), o14, o15, o16, o17, o18, o19, o20, o21] [] (T, z, xv V, J, R) :=
  (sw_iload f_107_511 rfl).trans ((sw_bipush f_107_513 c8_8).trans (sw_icmp_ge (t := 534) f_107_515 ⟨by decide, rfl⟩ g1 ⟨by decide, by decide⟩))
theorem bL_isPart_518 {o0 o1 o2 o4 o5 o6 o7 o8 o10 o11 o12 o13 o14 o16 o17 o18 o19 o20 o21 : Option Value} {x15 x9 : Int} {a3 : Nat} (g1 : T a3 = (32, (T a3).2)) (g2 : (0 : Int) ≤ x9 ∧ x9 < ((T a3).2 : Int) ∧ (T a3).2 ≤ 3584) : XR sc d 107 518 [o0, o1, o2, some (.ref a3), o4, o5, o6, o7, o8, some (xw x9), o10, o11, o12, o13, o14, some (xw x15), o16, o17, o18, o19, o20, o21] [] (T, z, xv V, J, R) = xret 107 (XR sc d 107) 524 527 [o0, o1, o2, some (.ref a3), o4, o5, o6, o7, o8, some (xw x9), o10, o11, o12, o13, o14, some (xw x15), o16, o17, o18, o19, o20, o21] [xw x15] (X sc d 103 [xw (V a3 x9.toNat)] (T, z, xv V, J, R)) :=
  (sw_iload f_107_518 rfl).trans ((st_aload_n f_107_520 rfl).trans ((sw_iload f_107_521 rfl).trans ((sw_iaload f_107_523 g1 g2).trans (st_callS' f_107_524 h_107_116 mn_103 rfl rfl rfl rfl))))
theorem bL_isPart_527 {o0 o1 o2 o3 o4 o5 o6 o7 o8 o9 o10 o11 o12 o13 o14 o15 o16 o17 o18 o19 o20 o21 : Option Value} {y0 y1 : Int} (g1 : -2147483648 ≤ y1 ∧ y1 ≤ 2147483647) (g2 : -2147483648 ≤ y0 ∧ y0 ≤ 2147483647) : XR sc d 107 527 [o0, o1, o2, o3, o4, o5, o6, o7, o8, o9, o10, o11, o12, o13, o14, o15, o16, o17, o18, o19, o20, o21] [xw y0, xw y1] (T, z, xv V, J, R) = if y0 ≤ y1 then XR sc d 107 534 [o0, o1, o2, o3, o4, o5, o6, o7, o8, o9, o10, o11, o12, o13, o14, o15, o16, o17, o18, o19, o20, o21] [] (T, z, xv V, J, R) else XR sc d 107 530 [o0, o1, o2, o3, o4, o5, o6, o7, o8, o9, o10, o11, o12, o13, o14, o15, o16, o17, o18, o19, o20, o21] [] (T, z, xv V, J, R) :=
  sw_icmp_ge (t := 534) f_107_527 ⟨by decide, rfl⟩ g1 g2
theorem bL_isPart_530 {o0 o1 o2 o3 o4 o5 o6 o7 o8 o9 o10 o11 o12 o13 o14 o15 o16 o17 o18 o19 o20 o21 : Option Value} : XR sc d 107 530 [o0, o1, o2, o3, o4, o5, o6, o7, o8, o9, o10, o11, o12, o13, o14, o15, o16, o17, o18, o19, o20, o21] [] (T, z, xv V, J, R) = XR sc d 107 535 [o0, o1, o2, o3, o4, o5, o6, o7, o8, o9, o10, o11, o12, o13, o14, o15, o16, o17, o18, o19, o20, o21] [xw 1] (T, z, xv V, J, R) :=
  (sw_iconst f_107_530).trans (st_goto (t := 535) f_107_531 ⟨by decide, rfl⟩)
theorem bL_isPart_534 {o0 o1 o2 o3 o4 o5 o6 o7 o8 o9 o10 o11 o12 o13 o14 o15 o16 o17 o18 o19 o20 o21 : Option Value} : XR sc d 107 534 [o0, o1, o2, o3, o4, o5, o6, o7, o8, o9, o10, o11, o12, o13, o14, o15, o16, o17, o18, o19, o20, o21] [] (T, z, xv V, J, R) = XR sc d 107 535 [o0, o1, o2, o3, o4, o5, o6, o7, o8, o9, o10, o11, o12, o13, o14, o15, o16, o17, o18, o19, o20, o21] [xw 0] (T, z, xv V, J, R) :=
  sw_iconst f_107_534
theorem bL_isPart_535 {o0 o1 o2 o3 o4 o5 o6 o7 o8 o9 o10 o11 o12 o13 o14 o15 o16 o17 o18 o19 o20 o21 : Option Value} {y0 : Int} (g1 : -2147483648 ≤ y0 ∧ y0 ≤ 2147483647) : XR sc d 107 535 [o0, o1, o2, o3, o4, o5, o6, o7, o8, o9, o10, o11, o12, o13, o14, o15, o16, o17, o18, o19, o20, o21] [xw y0] (T, z, xv V, J, R) = if y0 = 0 then XR sc d 107 569 [o0, o1, o2, o3, o4, o5, o6, o7, o8, o9, o10, o11, o12, o13, o14, o15, some (xw y0), o17, o18, o19, o20, o21] [] (T, z, xv V, J, R) else XR sc d 107 542 [o0, o1, o2, o3, o4, o5, o6, o7, o8, o9, o10, o11, o12, o13, o14, o15, some (xw y0), o17, o18, o19, o20, o21] [] (T, z, xv V, J, R) :=
  (sw_istore (L' := [o0, o1, o2, o3, o4, o5, o6, o7, o8, o9, o10, o11, o12, o13, o14, o15, some (xw y0), o17, o18, o19, o20, o21]) f_107_535 (Nat.le_of_ble_eq_true rfl) rfl).trans ((sw_iload f_107_537 rfl).trans (sw_if_eq (t := 569) f_107_539 ⟨by decide, rfl⟩ g1))
theorem bL_isPart_542 {o0 o1 o2 o3 o4 o5 o6 o7 o8 o9 o10 o11 o12 o15 o16 o17 o18 o19 o20 o21 : Option Value} {x13 x14 : Int} (g1 : -2147483648 ≤ x13 ∧ x13 ≤ 2147483647) (g2 : -2147483648 ≤ x14 ∧ x14 ≤ 2147483647) : XR sc d 107 542 [o0, o1, o2, o3, o4, o5, o6, o7, o8, o9, o10, o11, o12, some (xw x13), some (xw x14), o15, o16, o17, o18, o19, o20, o21] [] (T, z, xv V, J, R) = if x13 = x14 then XR sc d 107 569 [o0, o1, o2, o3, o4, o5, o6, o7, o8, o9, o10, o11, o12, some (xw x13), some (xw x14), o15, o16, o17, o18, o19, o20, o21] [] (T, z, xv V, J, R) else XR sc d 107 549 [o0, o1, o2, o3, o4, o5, o6, o7, o8, o9, o10, o11, o12, some (xw x13), some (xw x14), o15, o16, o17, o18, o19, o20, o21] [] (T, z, xv V, J, R) :=
  (sw_iload f_107_542 rfl).trans ((sw_iload f_107_544 rfl).trans (sw_icmp_eq (t := 569) f_107_546 ⟨by decide, rfl⟩ g1 g2))
theorem bL_isPart_549 {o0 o1 o2 o3 o4 o5 o6 o7 o8 o9 o10 o11 o13 o14 o15 o16 o17 o18 o19 o20 o21 : Option Value} {x12 : Int} (g1 : -2147483648 ≤ x12 ∧ x12 ≤ 2147483647) : XR sc d 107 549 [o0, o1, o2, o3, o4, o5, o6, o7, o8, o9, o10, o11, some (xw x12), o13, o14, o15, o16, o17, o18, o19, o20, o21] [] (T, z, xv V, J, R) = if x12 = 0 then XR sc d 107 569 [o0, o1, o2, o3, o4, o5, o6, o7, o8, o9, o10, o11, some (xw x12), o13, o14, o15, o16, o17, o18, o19, o20, o21] [] (T, z, xv V, J, R) else XR sc d 107 554 [o0, o1, o2, o3, o4, o5, o6, o7, o8, o9, o10, o11, some (xw x12), o13, o14, o15, o16, o17, o18, o19, o20, o21] [] (T, z, xv V, J, R) :=
  (sw_iload f_107_549 rfl).trans (sw_if_eq (t := 569) f_107_551 ⟨by decide, rfl⟩ g1)
theorem bL_isPart_554 {o0 o1 o2 o3 o4 o5 o6 o7 o8 o9 o10 o12 o13 o14 o15 o16 o17 o18 o19 o20 o21 : Option Value} {x11 : Int} (g1 : 0 ≤ x11 ∧ x11 ≤ 2147483647) (g2 : 0 ≤ (x11 / 32768) ∧ (x11 / 32768) ≤ 2147483647) (g3 : -2147483648 ≤ ((x11 / 32768) % 2) ∧ ((x11 / 32768) % 2) ≤ 2147483647) : XR sc d 107 554 [o0, o1, o2, o3, o4, o5, o6, o7, o8, o9, o10, some (xw x11), o12, o13, o14, o15, o16, o17, o18, o19, o20, o21] [] (T, z, xv V, J, R) = if ((x11 / 32768) % 2) = 1 then XR sc d 107 565 [o0, o1, o2, o3, o4, o5, o6, o7, o8, o9, o10, some (xw x11), o12, o13, o14, o15, o16, o17, o18, o19, o20, o21] [] (T, z, xv V, J, R) else XR sc d 107 569 [o0, o1, o2, o3, o4, o5, o6, o7, o8, o9, o10, some (xw x11), o12, o13, o14, o15, o16, o17, o18, o19, o20, o21] [] (T, z, xv V, J, R) :=
  (sw_iload f_107_554 rfl).trans ((sw_ldc 32768 f_107_556 k_107_164 rfl).trans ((sw_idiv f_107_558 ⟨by decide, by decide, g1⟩).trans ((sw_iconst f_107_559).trans ((sw_irem f_107_560 ⟨by decide, by decide, g2⟩).trans ((sw_iconst f_107_561).trans (sw_icmp_ne (t := 569) f_107_562 ⟨by decide, rfl⟩ g3 ⟨by decide, by decide⟩))))))
theorem bL_isPart_565 {o0 o1 o2 o3 o4 o5 o6 o7 o8 o9 o10 o11 o12 o13 o14 o15 o16 o17 o18 o19 o20 o21 : Option Value} : XR sc d 107 565 [o0, o1, o2, o3, o4, o5, o6, o7, o8, o9, o10, o11, o12, o13, o14, o15, o16, o17, o18, o19, o20, o21] [] (T, z, xv V, J, R) = XR sc d 107 570 [o0, o1, o2, o3, o4, o5, o6, o7, o8, o9, o10, o11, o12, o13, o14, o15, o16, o17, o18, o19, o20, o21] [xw 1] (T, z, xv V, J, R) :=
  (sw_iconst f_107_565).trans (st_goto (t := 570) f_107_566 ⟨by decide, rfl⟩)
theorem bL_isPart_569 {o0 o1 o2 o3 o4 o5 o6 o7 o8 o9 o10 o11 o12 o13 o14 o15 o16 o17 o18 o19 o20 o21 : Option Value} : XR sc d 107 569 [o0, o1, o2, o3, o4, o5, o6, o7, o8, o9, o10, o11, o12, o13, o14, o15, o16, o17, o18, o19, o20, o21] [] (T, z, xv V, J, R) = XR sc d 107 570 [o0, o1, o2, o3, o4, o5, o6, o7, o8, o9, o10, o11, o12, o13, o14, o15, o16, o17, o18, o19, o20, o21] [xw 0] (T, z, xv V, J, R) :=
  sw_iconst f_107_569
theorem bL_isPart_570 {o0 o1 o2 o3 o4 o5 o6 o7 o8 o9 o10 o11 o12 o13 o14 o15 o16 o17 o18 o19 o20 o21 : Option Value} {y0 : Int} : XR sc d 107 570 [o0, o1, o2, o3, o4, o5, o6, o7, o8, o9, o10, o11, o12, o13, o14, o15, o16, o17, o18, o19, o20, o21] [xw y0] (T, z, xv V, J, R) = XR sc d 107 578 [o0, o1, o2, o3, o4, o5, o6, o7, o8, o9, o10, o11, o12, o13, o14, o15, o16, some (xw y0), some (xw 0), some (xw 0), o20, o21] [] (T, z, xv V, J, R) :=
  (sw_istore (L' := [o0, o1, o2, o3, o4, o5, o6, o7, o8, o9, o10, o11, o12, o13, o14, o15, o16, some (xw y0), o18, o19, o20, o21]) f_107_570 (Nat.le_of_ble_eq_true rfl) rfl).trans ((sw_iconst f_107_572).trans ((sw_istore (L' := [o0, o1, o2, o3, o4, o5, o6, o7, o8, o9, o10, o11, o12, o13, o14, o15, o16, some (xw y0), some (xw 0), o19, o20, o21]) f_107_573 (Nat.le_of_ble_eq_true rfl) rfl).trans ((sw_iconst f_107_575).trans (sw_istore (L' := [o0, o1, o2, o3, o4, o5, o6, o7, o8, o9, o10, o11, o12, o13, o14, o15, o16, some (xw y0), some (xw 0), some (xw 0), o20, o21]) f_107_576 (Nat.le_of_ble_eq_true rfl) rfl))))
theorem bL_isPart_578 {o0 o1 o2 o3 o4 o5 o6 o7 o8 o9 o10 o11 o12 o13 o14 o15 o16 o17 o18 o20 o21 : Option Value} {x19 : Int} (g1 : -2147483648 ≤ x19 ∧ x19 ≤ 2147483647) : XR sc d 107 578 [o0, o1, o2, o3, o4, o5, o6, o7, o8, o9, o10, o11, o12, o13, o14, o15, o16, o17, o18, some (xw x19), o20, o21] [] (T, z, xv V, J, R) = if 30 ≤ x19 then XR sc d 107 635 [o0, o1, o2, o3, o4, o5, o6, o7, o8, o9, o10, o11, o12, o13, o14, o15, o16, o17, o18, some (xw x19), o20, o21] [] (T, z, xv V, J, R) else XR sc d 107 585 [o0, o1, o2, o3, o4, o5, o6, o7, o8, o9, o10, o11, o12, o13, o14, o15, o16, o17, o18, some (xw x19), o20, o21] [] (T, z, xv V, J, R) :=
  (sw_iload f_107_578 rfl).trans ((sw_bipush f_107_580 c8_30).trans (sw_icmp_ge (t := 635) f_107_582 ⟨by decide, rfl⟩ g1 ⟨by decide, by decide⟩))
theorem bL_isPart_585 {o0 o1 o2 o3 o4 o5 o6 o7 o8 o9 o10 o11 o12 o13 o14 o15 o17 o18 o19 o20 o21 : Option Value} {x16 : Int} (g1 : -2147483648 ≤ x16 ∧ x16 ≤ 2147483647) : XR sc d 107 585 [o0, o1, o2, o3, o4, o5, o6, o7, o8, o9, o10, o11, o12, o13, o14, o15, some (xw x16), o17, o18, o19, o20, o21] [] (T, z, xv V, J, R) = if x16 = 0 then XR sc d 107 635 [o0, o1, o2, o3, o4, o5, o6, o7, o8, o9, o10, o11, o12, o13, o14, o15, some (xw x16), o17, o18, o19, o20, o21] [] (T, z, xv V, J, R) else XR sc d 107 590 [o0, o1, o2, o3, o4, o5, o6, o7, o8, o9, o10, o11, o12, o13, o14, o15, some (xw x16), o17, o18, o19, o20, o21] [] (T, z, xv V, J, R) :=
  (sw_iload f_107_585 rfl).trans (sw_if_eq (t := 635) f_107_587 ⟨by decide, rfl⟩ g1)
theorem bL_isPart_590 {o0 o1 o2 o4 o5 o6 o7 o8 o10 o11 o12 o13 o14 o15 o16 o17 o18 o20 o21 : Option Value} {x9 x19 : Int} {a3 : Nat} (g1 : T a3 = (32, (T a3).2)) (g2 : (0 : Int) ≤ x9 ∧ x9 < ((T a3).2 : Int) ∧ (T a3).2 ≤ 3584) (g3 : -2147483648 ≤ (iAnd (iShr (V a3 x9.toNat) x19) 1) ∧ (iAnd (iShr (V a3 x9.toNat) x19) 1) ≤ 2147483647) : XR sc d 107 590 [o0, o1, o2, some (.ref a3), o4, o5, o6, o7, o8, some (xw x9), o10, o11, o12, o13, o14, o15, o16, o17, o18, some (xw x19), o20, o21] [] (T, z, xv V, J, R) = if (iAnd (iShr (V a3 x9.toNat) x19) 1) = 1 then XR sc d 107 603 [o0, o1, o2, some (.ref a3), o4, o5, o6, o7, o8, some (xw x9), o10, o11, o12, o13, o14, o15, o16, o17, o18, some (xw x19), o20, o21] [] (T, z, xv V, J, R) else XR sc d 107 625 [o0, o1, o2, some (.ref a3), o4, o5, o6, o7, o8, some (xw x9), o10, o11, o12, o13, o14, o15, o16, o17, o18, some (xw x19), o20, o21] [] (T, z, xv V, J, R) :=
  (st_aload_n f_107_590 rfl).trans ((sw_iload f_107_591 rfl).trans ((sw_iaload f_107_593 g1 g2).trans ((sw_iload f_107_594 rfl).trans ((sw_ishr f_107_596).trans ((sw_iconst f_107_597).trans ((sw_iand f_107_598).trans ((sw_iconst f_107_599).trans (sw_icmp_ne (t := 625) f_107_600 ⟨by decide, rfl⟩ g3 ⟨by decide, by decide⟩))))))))
theorem bL_isPart_603 {o0 o1 o2 o4 o5 o6 o7 o8 o10 o11 o12 o13 o14 o15 o16 o17 o18 o20 o21 : Option Value} {x9 x19 : Int} {a3 : Nat} (g1 : T a3 = (32, (T a3).2)) (g2 : (0 : Int) ≤ x9 ∧ x9 < ((T a3).2 : Int) ∧ (T a3).2 ≤ 3584) (g3 : 0 < (iShl 1 x19) ∧ (iShl 1 x19) ≤ 2147483647 ∧ 0 ≤ (V a3 x9.toNat) ∧ (V a3 x9.toNat) ≤ 2147483647) : XR sc d 107 603 [o0, o1, o2, some (.ref a3), o4, o5, o6, o7, o8, some (xw x9), o10, o11, o12, o13, o14, o15, o16, o17, o18, some (xw x19), o20, o21] [] (T, z, xv V, J, R) = xret 107 (XR sc d 107) 612 615 [o0, o1, o2, some (.ref a3), o4, o5, o6, o7, o8, some (xw x9), o10, o11, o12, o13, o14, o15, o16, o17, o18, some (xw x19), o20, o21] [] (X sc d 103 [xw ((V a3 x9.toNat) % (iShl 1 x19))] (T, z, xv V, J, R)) :=
  (st_aload_n f_107_603 rfl).trans ((sw_iload f_107_604 rfl).trans ((sw_iaload f_107_606 g1 g2).trans ((sw_iconst f_107_607).trans ((sw_iload f_107_608 rfl).trans ((sw_ishl f_107_610).trans ((sw_irem f_107_611 g3).trans (st_callS' f_107_612 h_107_116 mn_103 rfl rfl rfl rfl)))))))
theorem bL_isPart_615 {o0 o1 o2 o3 o4 o5 o6 o7 o8 o9 o10 o11 o12 o13 o14 o16 o17 o18 o19 o20 o21 : Option Value} {x15 y0 : Int} (g1 : -2147483648 ≤ y0 ∧ y0 ≤ 2147483647) (g2 : -2147483648 ≤ x15 ∧ x15 ≤ 2147483647) : XR sc d 107 615 [o0, o1, o2, o3, o4, o5, o6, o7, o8, o9, o10, o11, o12, o13, o14, some (xw x15), o16, o17, o18, o19, o20, o21] [xw y0] (T, z, xv V, J, R) = if y0 = x15 then XR sc d 107 620 [o0, o1, o2, o3, o4, o5, o6, o7, o8, o9, o10, o11, o12, o13, o14, some (xw x15), o16, o17, o18, o19, o20, o21] [] (T, z, xv V, J, R) else XR sc d 107 625 [o0, o1, o2, o3, o4, o5, o6, o7, o8, o9, o10, o11, o12, o13, o14, some (xw x15), o16, o17, o18, o19, o20, o21] [] (T, z, xv V, J, R) :=
  (sw_iload f_107_615 rfl).trans (sw_icmp_ne (t := 625) f_107_617 ⟨by decide, rfl⟩ g1 g2)
theorem bL_isPart_620 {o0 o1 o2 o3 o4 o5 o6 o7 o8 o9 o10 o11 o12 o13 o14 o15 o16 o17 o18 o20 o21 : Option Value} {x19 : Int} : XR sc d 107 620 [o0, o1, o2, o3, o4, o5, o6, o7, o8, o9, o10, o11, o12, o13, o14, o15, o16, o17, o18, some (xw x19), o20, o21] [] (T, z, xv V, J, R) = XR sc d 107 627 [o0, o1, o2, o3, o4, o5, o6, o7, o8, o9, o10, o11, o12, o13, o14, o15, o16, o17, o18, some (xw x19), o20, o21] [xw x19] (T, z, xv V, J, R) :=
  (sw_iload f_107_620 rfl).trans (st_goto (t := 627) f_107_622 ⟨by decide, rfl⟩)
theorem bL_isPart_625 {o0 o1 o2 o3 o4 o5 o6 o7 o8 o9 o10 o11 o12 o13 o14 o15 o16 o17 o19 o20 o21 : Option Value} {x18 : Int} : XR sc d 107 625 [o0, o1, o2, o3, o4, o5, o6, o7, o8, o9, o10, o11, o12, o13, o14, o15, o16, o17, some (xw x18), o19, o20, o21] [] (T, z, xv V, J, R) = XR sc d 107 627 [o0, o1, o2, o3, o4, o5, o6, o7, o8, o9, o10, o11, o12, o13, o14, o15, o16, o17, some (xw x18), o19, o20, o21] [xw x18] (T, z, xv V, J, R) :=
  sw_iload f_107_625 rfl
theorem bL_isPart_627 {o0 o1 o2 o3 o4 o5 o6 o7 o8 o9 o10 o11 o12 o13 o14 o15 o16 o17 o18 o20 o21 : Option Value} {y0 x19 : Int} : XR sc d 107 627 [o0, o1, o2, o3, o4, o5, o6, o7, o8, o9, o10, o11, o12, o13, o14, o15, o16, o17, o18, some (xw x19), o20, o21] [xw y0] (T, z, xv V, J, R) = XR sc d 107 578 [o0, o1, o2, o3, o4, o5, o6, o7, o8, o9, o10, o11, o12, o13, o14, o15, o16, o17, some (xw y0), some (xw (x19 + 1)), o20, o21] [] (T, z, xv V, J, R) :=
  (sw_istore (L' := [o0, o1, o2, o3, o4, o5, o6, o7, o8, o9, o10, o11, o12, o13, o14, o15, o16, o17, some (xw y0), some (xw x19), o20, o21]) f_107_627 (Nat.le_of_ble_eq_true rfl) rfl).trans ((sw_iinc (L' := [o0, o1, o2, o3, o4, o5, o6, o7, o8, o9, o10, o11, o12, o13, o14, o15, o16, o17, some (xw y0), some (xw (x19 + 1)), o20, o21]) f_107_629 rfl (Nat.le_of_ble_eq_true rfl) rfl).trans (st_goto (t := 578) f_107_632 ⟨by decide, rfl⟩))
theorem bL_isPart_635 {o0 o1 o2 o3 o5 o6 o7 o8 o9 o10 o11 o12 o13 o14 o15 o16 o18 o19 o20 o21 : Option Value} {x17 : Int} {a4 : Nat} (g1 : -2147483648 ≤ x17 ∧ x17 ≤ 2147483647) : XR sc d 107 635 [o0, o1, o2, o3, some (.ref a4), o5, o6, o7, o8, o9, o10, o11, o12, o13, o14, o15, o16, some (xw x17), o18, o19, o20, o21] [] (T, z, xv V, J, R) = if x17 = 0 then XR sc d 107 647 [o0, o1, o2, o3, some (.ref a4), o5, o6, o7, o8, o9, o10, o11, o12, o13, o14, o15, o16, some (xw x17), o18, o19, o20, o21] [.ref a4] (T, z, xv V, J, R) else XR sc d 107 642 [o0, o1, o2, o3, some (.ref a4), o5, o6, o7, o8, o9, o10, o11, o12, o13, o14, o15, o16, some (xw x17), o18, o19, o20, o21] [.ref a4] (T, z, xv V, J, R) :=
  (st_aload f_107_635 rfl).trans ((sw_iload f_107_637 rfl).trans (sw_if_eq (t := 647) f_107_639 ⟨by decide, rfl⟩ g1))
theorem bL_isPart_642 {o0 o1 o2 o3 o4 o5 o6 o7 o8 o10 o11 o12 o13 o14 o15 o16 o17 o18 o19 o20 o21 : Option Value} {s0 : Value} {x9 : Int} : XR sc d 107 642 [o0, o1, o2, o3, o4, o5, o6, o7, o8, some (xw x9), o10, o11, o12, o13, o14, o15, o16, o17, o18, o19, o20, o21] [s0] (T, z, xv V, J, R) = XR sc d 107 649 [o0, o1, o2, o3, o4, o5, o6, o7, o8, some (xw x9), o10, o11, o12, o13, o14, o15, o16, o17, o18, o19, o20, o21] [xw x9, s0] (T, z, xv V, J, R) :=
  (sw_iload f_107_642 rfl).trans (st_goto (t := 649) f_107_644 ⟨by decide, rfl⟩)
theorem bL_isPart_647 {o0 o1 o2 o3 o4 o5 o6 o7 o8 o9 o10 o11 o12 o13 o14 o15 o16 o17 o18 o19 o20 o21 : Option Value} {s0 : Value} : XR sc d 107 647 [o0, o1, o2, o3, o4, o5, o6, o7, o8, o9, o10, o11, o12, o13, o14, o15, o16, o17, o18, o19, o20, o21] [s0] (T, z, xv V, J, R) = XR sc d 107 649 [o0, o1, o2, o3, o4, o5, o6, o7, o8, o9, o10, o11, o12, o13, o14, o15, o16, o17, o18, o19, o20, o21] [xw 10, s0] (T, z, xv V, J, R) :=
  sw_bipush f_107_647 c8_10
theorem bL_isPart_649 {o1 o2 o3 o4 o5 o6 o7 o8 o10 o11 o12 o16 o17 o19 o20 o21 : Option Value} {x13 x14 x18 y0 x9 x15 : Int} {b1 a0 : Nat} (g1 : T b1 = (32, (T b1).2)) (g2 : (0 : Int) ≤ y0 ∧ y0 < ((T b1).2 : Int) ∧ (T b1).2 ≤ 3584) : XR sc d 107 649 [some (.ref a0), o1, o2, o3, o4, o5, o6, o7, o8, some (xw x9), o10, o11, o12, some (xw x13), some (xw x14), some (xw x15), o16, o17, some (xw x18), o19, o20, o21] [xw y0, .ref b1] (T, z, xv V, J, R) = xret 107 (XR sc d 107) 679 682 [some (.ref a0), o1, o2, o3, o4, o5, o6, o7, o8, some (xw x9), o10, o11, o12, some (xw x13), some (xw x14), some (xw x15), o16, o17, some (xw x18), o19, o20, o21] [] (X sc d 92 [.ref a0, xw 7, xw x9, xw x13, xw x14, xw x15, xw 0, xw 0] (T, z, xv (xup2 V b1 y0.toNat (((1 + x13) + (8 * x14)) + (64 * x18))), J, R)) :=
  (sw_iconst f_107_649).trans ((sw_iload f_107_650 rfl).trans ((sw_iadd f_107_652).trans ((sw_bipush f_107_653 c8_8).trans ((sw_iload f_107_655 rfl).trans ((sw_imul f_107_657).trans ((sw_iadd f_107_658).trans ((sw_bipush f_107_659 c8_64).trans ((sw_iload f_107_661 rfl).trans ((sw_imul f_107_663).trans ((sw_iadd f_107_664).trans ((sw_iastore f_107_665 g1 g2).trans ((st_aload_n f_107_666 rfl).trans ((sw_bipush f_107_667 c8_7).trans ((sw_iload f_107_669 rfl).trans ((sw_iload f_107_671 rfl).trans ((sw_iload f_107_673 rfl).trans ((sw_iload f_107_675 rfl).trans ((sw_iconst f_107_677).trans ((sw_iconst f_107_678).trans (st_callS' f_107_679 h_107_124 mn_92 rfl rfl rfl rfl))))))))))))))))))))
theorem bL_isPart_682 {o0 o1 o2 o3 o4 o5 o6 o7 o8 o9 o10 o11 o12 o13 o14 o15 o17 o18 o19 o20 o21 : Option Value} {s0 : Value} {x16 : Int} (g1 : -2147483648 ≤ x16 ∧ x16 ≤ 2147483647) : XR sc d 107 682 [o0, o1, o2, o3, o4, o5, o6, o7, o8, o9, o10, o11, o12, o13, o14, o15, some (xw x16), o17, o18, o19, o20, o21] [s0] (T, z, xv V, J, R) = if x16 = 0 then XR sc d 107 687 [o0, o1, o2, o3, o4, o5, o6, o7, o8, o9, o10, o11, o12, o13, o14, o15, some (xw x16), o17, o18, o19, o20, o21] [s0] (T, z, xv V, J, R) else XR sc d 107 692 [o0, o1, o2, o3, o4, o5, o6, o7, o8, o9, o10, o11, o12, o13, o14, o15, some (xw x16), o17, o18, o19, o20, o21] [s0] (T, z, xv V, J, R) :=
  (sw_iload f_107_682 rfl).trans (sw_if_ne (t := 692) f_107_684 ⟨by decide, rfl⟩ g1)
theorem bL_isPart_687 {o0 o1 o2 o3 o4 o5 o6 o7 o8 o9 o10 o11 o12 o13 o14 o15 o16 o17 o18 o19 o20 o21 : Option Value} {s0 : Value} : XR sc d 107 687 [o0, o1, o2, o3, o4, o5, o6, o7, o8, o9, o10, o11, o12, o13, o14, o15, o16, o17, o18, o19, o20, o21] [s0] (T, z, xv V, J, R) = XR sc d 107 716 [o0, o1, o2, o3, o4, o5, o6, o7, o8, o9, o10, o11, o12, o13, o14, o15, o16, o17, o18, o19, o20, o21] [xw (-3000000), s0] (T, z, xv V, J, R) :=
  (sw_ldc (-3000000) f_107_687 k_107_79 rfl).trans (st_goto (t := 716) f_107_689 ⟨by decide, rfl⟩)
theorem bL_isPart_692 {o0 o1 o2 o3 o4 o5 o6 o7 o8 o9 o10 o11 o12 o15 o16 o17 o18 o19 o20 o21 : Option Value} {s0 : Value} {x13 x14 : Int} (g1 : -2147483648 ≤ x13 ∧ x13 ≤ 2147483647) (g2 : -2147483648 ≤ x14 ∧ x14 ≤ 2147483647) : XR sc d 107 692 [o0, o1, o2, o3, o4, o5, o6, o7, o8, o9, o10, o11, o12, some (xw x13), some (xw x14), o15, o16, o17, o18, o19, o20, o21] [s0] (T, z, xv V, J, R) = if x13 = x14 then XR sc d 107 699 [o0, o1, o2, o3, o4, o5, o6, o7, o8, o9, o10, o11, o12, some (xw x13), some (xw x14), o15, o16, o17, o18, o19, o20, o21] [s0] (T, z, xv V, J, R) else XR sc d 107 704 [o0, o1, o2, o3, o4, o5, o6, o7, o8, o9, o10, o11, o12, some (xw x13), some (xw x14), o15, o16, o17, o18, o19, o20, o21] [s0] (T, z, xv V, J, R) :=
  (sw_iload f_107_692 rfl).trans ((sw_iload f_107_694 rfl).trans (sw_icmp_ne (t := 704) f_107_696 ⟨by decide, rfl⟩ g1 g2))
theorem bL_isPart_699 {o0 o1 o2 o3 o4 o5 o6 o7 o8 o9 o10 o11 o12 o13 o14 o15 o16 o17 o18 o19 o20 o21 : Option Value} {s0 : Value} : XR sc d 107 699 [o0, o1, o2, o3, o4, o5, o6, o7, o8, o9, o10, o11, o12, o13, o14, o15, o16, o17, o18, o19, o20, o21] [s0] (T, z, xv V, J, R) = XR sc d 107 716 [o0, o1, o2, o3, o4, o5, o6, o7, o8, o9, o10, o11, o12, o13, o14, o15, o16, o17, o18, o19, o20, o21] [xw (-2000000), s0] (T, z, xv V, J, R) :=
  (sw_ldc (-2000000) f_107_699 k_107_82 rfl).trans (st_goto (t := 716) f_107_701 ⟨by decide, rfl⟩)
theorem bL_isPart_704 {o0 o1 o2 o3 o4 o5 o6 o7 o8 o9 o10 o11 o12 o13 o14 o15 o16 o18 o19 o20 o21 : Option Value} {s0 : Value} {x17 : Int} (g1 : -2147483648 ≤ x17 ∧ x17 ≤ 2147483647) : XR sc d 107 704 [o0, o1, o2, o3, o4, o5, o6, o7, o8, o9, o10, o11, o12, o13, o14, o15, o16, some (xw x17), o18, o19, o20, o21] [s0] (T, z, xv V, J, R) = if x17 = 0 then XR sc d 107 714 [o0, o1, o2, o3, o4, o5, o6, o7, o8, o9, o10, o11, o12, o13, o14, o15, o16, some (xw x17), o18, o19, o20, o21] [s0] (T, z, xv V, J, R) else XR sc d 107 709 [o0, o1, o2, o3, o4, o5, o6, o7, o8, o9, o10, o11, o12, o13, o14, o15, o16, some (xw x17), o18, o19, o20, o21] [s0] (T, z, xv V, J, R) :=
  (sw_iload f_107_704 rfl).trans (sw_if_eq (t := 714) f_107_706 ⟨by decide, rfl⟩ g1)
theorem bL_isPart_709 {o0 o1 o2 o3 o4 o5 o6 o7 o8 o9 o10 o11 o12 o13 o14 o15 o16 o17 o19 o20 o21 : Option Value} {s0 : Value} {x18 : Int} : XR sc d 107 709 [o0, o1, o2, o3, o4, o5, o6, o7, o8, o9, o10, o11, o12, o13, o14, o15, o16, o17, some (xw x18), o19, o20, o21] [s0] (T, z, xv V, J, R) = XR sc d 107 716 [o0, o1, o2, o3, o4, o5, o6, o7, o8, o9, o10, o11, o12, o13, o14, o15, o16, o17, some (xw x18), o19, o20, o21] [xw x18, s0] (T, z, xv V, J, R) :=
  (sw_iload f_107_709 rfl).trans (st_goto (t := 716) f_107_711 ⟨by decide, rfl⟩)
theorem bL_isPart_714 {o0 o1 o2 o3 o4 o5 o6 o7 o8 o9 o10 o11 o12 o13 o14 o15 o16 o17 o18 o19 o20 o21 : Option Value} {s0 : Value} : XR sc d 107 714 [o0, o1, o2, o3, o4, o5, o6, o7, o8, o9, o10, o11, o12, o13, o14, o15, o16, o17, o18, o19, o20, o21] [s0] (T, z, xv V, J, R) = XR sc d 107 716 [o0, o1, o2, o3, o4, o5, o6, o7, o8, o9, o10, o11, o12, o13, o14, o15, o16, o17, o18, o19, o20, o21] [xw (-1000000), s0] (T, z, xv V, J, R) :=
  sw_ldc (-1000000) f_107_714 k_107_85 rfl
theorem bL_isPart_716 {o0 o1 o2 o3 o4 o5 o6 o7 o8 o9 o10 o11 o12 o13 o14 o15 o16 o17 o18 o19 o20 o21 : Option Value} {y0 y1 : Int} (g1 : -2147483648 ≤ y1 ∧ y1 ≤ 2147483647) (g2 : -2147483648 ≤ y0 ∧ y0 ≤ 2147483647) : XR sc d 107 716 [o0, o1, o2, o3, o4, o5, o6, o7, o8, o9, o10, o11, o12, o13, o14, o15, o16, o17, o18, o19, o20, o21] [xw y0, xw y1] (T, z, xv V, J, R) = if y1 = y0 then XR sc d 107 719 [o0, o1, o2, o3, o4, o5, o6, o7, o8, o9, o10, o11, o12, o13, o14, o15, o16, o17, o18, o19, o20, o21] [] (T, z, xv V, J, R) else XR sc d 107 723 [o0, o1, o2, o3, o4, o5, o6, o7, o8, o9, o10, o11, o12, o13, o14, o15, o16, o17, o18, o19, o20, o21] [] (T, z, xv V, J, R) :=
  sw_icmp_ne (t := 723) f_107_716 ⟨by decide, rfl⟩ g1 g2
theorem bL_isPart_719 {o0 o1 o2 o3 o4 o5 o6 o7 o8 o9 o10 o11 o12 o13 o14 o15 o16 o17 o18 o19 o20 o21 : Option Value} : XR sc d 107 719 [o0, o1, o2, o3, o4, o5, o6, o7, o8, o9, o10, o11, o12, o13, o14, o15, o16, o17, o18, o19, o20, o21] [] (T, z, xv V, J, R) = XR sc d 107 724 [o0, o1, o2, o3, o4, o5, o6, o7, o8, o9, o10, o11, o12, o13, o14, o15, o16, o17, o18, o19, o20, o21] [xw 1] (T, z, xv V, J, R) :=
  (sw_iconst f_107_719).trans (st_goto (t := 724) f_107_720 ⟨by decide, rfl⟩)
theorem bL_isPart_723 {o0 o1 o2 o3 o4 o5 o6 o7 o8 o9 o10 o11 o12 o13 o14 o15 o16 o17 o18 o19 o20 o21 : Option Value} : XR sc d 107 723 [o0, o1, o2, o3, o4, o5, o6, o7, o8, o9, o10, o11, o12, o13, o14, o15, o16, o17, o18, o19, o20, o21] [] (T, z, xv V, J, R) = XR sc d 107 724 [o0, o1, o2, o3, o4, o5, o6, o7, o8, o9, o10, o11, o12, o13, o14, o15, o16, o17, o18, o19, o20, o21] [xw 0] (T, z, xv V, J, R) :=
  sw_iconst f_107_723
theorem bL_isPart_724 {o0 o1 o2 o3 o4 o5 o6 o7 o8 o9 o10 o11 o12 o13 o14 o15 o16 o17 o18 o19 o20 o21 : Option Value} {y0 : Int} (g1 : y0 = 0 ∨ y0 = 1) : XR sc d 107 724 [o0, o1, o2, o3, o4, o5, o6, o7, o8, o9, o10, o11, o12, o13, o14, o15, o16, o17, o18, o19, o20, o21] [xw y0] (T, z, xv V, J, R) = some (.inl (some (xw y0)), (T, z, xv V, J, R)) :=
  sw_zreturn f_107_724 mr_107 g1
theorem bL_isPart_725 {o0 o1 o2 o3 o4 o5 o7 o8 o9 o10 o11 o12 o13 o14 o15 o16 o17 o18 o19 o20 o21 : Option Value} {x6 : Int} (g1 : -2147483648 ≤ x6 ∧ x6 ≤ 2147483647) : XR sc d 107 725 [o0, o1, o2, o3, o4, o5, some (xw x6), o7, o8, o9, o10, o11, o12, o13, o14, o15, o16, o17, o18, o19, o20, o21] [] (T, z, xv V, J, R) = if x6 = 3 then XR sc d 107 731 [o0, o1, o2, o3, o4, o5, some (xw x6), o7, o8, o9, o10, o11, o12, o13, o14, o15, o16, o17, o18, o19, o20, o21] [] (T, z, xv V, J, R) else XR sc d 107 832 [o0, o1, o2, o3, o4, o5, some (xw x6), o7, o8, o9, o10, o11, o12, o13, o14, o15, o16, o17, o18, o19, o20, o21] [] (T, z, xv V, J, R) :=
  (sw_iload f_107_725 rfl).trans ((sw_iconst f_107_727).trans (sw_icmp_ne (t := 832) f_107_728 ⟨by decide, rfl⟩ g1 ⟨by decide, by decide⟩))
theorem bL_isPart_731 {o0 o1 o2 o3 o4 o5 o6 o7 o8 o9 o11 o12 o13 o14 o15 o16 o17 o18 o19 o20 o21 : Option Value} {x10 : Int} (g1 : -2147483648 ≤ x10 ∧ x10 ≤ 2147483647) : XR sc d 107 731 [o0, o1, o2, o3, o4, o5, o6, o7, o8, o9, some (xw x10), o11, o12, o13, o14, o15, o16, o17, o18, o19, o20, o21] [] (T, z, xv V, J, R) = if x10 = 0 then XR sc d 107 748 [o0, o1, o2, o3, o4, o5, o6, o7, o8, o9, some (xw x10), o11, o12, o13, o14, o15, o16, o17, o18, o19, o20, o21] [] (T, z, xv V, J, R) else XR sc d 107 736 [o0, o1, o2, o3, o4, o5, o6, o7, o8, o9, some (xw x10), o11, o12, o13, o14, o15, o16, o17, o18, o19, o20, o21] [] (T, z, xv V, J, R) :=
  (sw_iload f_107_731 rfl).trans (sw_if_eq (t := 748) f_107_733 ⟨by decide, rfl⟩ g1)
theorem bL_isPart_736 {o0 o1 o2 o3 o5 o6 o7 o8 o10 o11 o12 o13 o14 o15 o16 o17 o18 o19 o20 o21 : Option Value} {x9 : Int} {a4 : Nat} (g1 : T a4 = (32, (T a4).2)) (g2 : (0 : Int) ≤ x9 ∧ x9 < ((T a4).2 : Int) ∧ (T a4).2 ≤ 3584) (g3 : -2147483648 ≤ (V a4 x9.toNat) ∧ (V a4 x9.toNat) ≤ 2147483647) : XR sc d 107 736 [o0, o1, o2, o3, some (.ref a4), o5, o6, o7, o8, some (xw x9), o10, o11, o12, o13, o14, o15, o16, o17, o18, o19, o20, o21] [] (T, z, xv V, J, R) = if (V a4 x9.toNat) ≤ 0 then XR sc d 107 748 [o0, o1, o2, o3, some (.ref a4), o5, o6, o7, o8, some (xw x9), o10, o11, o12, o13, o14, o15, o16, o17, o18, o19, o20, o21] [] (T, z, xv V, J, R) else XR sc d 107 744 [o0, o1, o2, o3, some (.ref a4), o5, o6, o7, o8, some (xw x9), o10, o11, o12, o13, o14, o15, o16, o17, o18, o19, o20, o21] [] (T, z, xv V, J, R) :=
  (st_aload f_107_736 rfl).trans ((sw_iload f_107_738 rfl).trans ((sw_iaload f_107_740 g1 g2).trans (sw_if_le (t := 748) f_107_741 ⟨by decide, rfl⟩ g3)))
theorem bL_isPart_744 {o0 o1 o2 o3 o4 o5 o6 o7 o8 o9 o10 o11 o12 o13 o14 o15 o16 o17 o18 o19 o20 o21 : Option Value} : XR sc d 107 744 [o0, o1, o2, o3, o4, o5, o6, o7, o8, o9, o10, o11, o12, o13, o14, o15, o16, o17, o18, o19, o20, o21] [] (T, z, xv V, J, R) = XR sc d 107 749 [o0, o1, o2, o3, o4, o5, o6, o7, o8, o9, o10, o11, o12, o13, o14, o15, o16, o17, o18, o19, o20, o21] [xw 1] (T, z, xv V, J, R) :=
  (sw_iconst f_107_744).trans (st_goto (t := 749) f_107_745 ⟨by decide, rfl⟩)
theorem bL_isPart_748 {o0 o1 o2 o3 o4 o5 o6 o7 o8 o9 o10 o11 o12 o13 o14 o15 o16 o17 o18 o19 o20 o21 : Option Value} : XR sc d 107 748 [o0, o1, o2, o3, o4, o5, o6, o7, o8, o9, o10, o11, o12, o13, o14, o15, o16, o17, o18, o19, o20, o21] [] (T, z, xv V, J, R) = XR sc d 107 749 [o0, o1, o2, o3, o4, o5, o6, o7, o8, o9, o10, o11, o12, o13, o14, o15, o16, o17, o18, o19, o20, o21] [xw 0] (T, z, xv V, J, R) :=
  sw_iconst f_107_748
theorem bL_isPart_749 {o0 o1 o2 o3 o4 o5 o6 o7 o8 o9 o10 o11 o12 o13 o14 o15 o16 o17 o18 o19 o20 o21 : Option Value} {y0 : Int} (g1 : -2147483648 ≤ y0 ∧ y0 ≤ 2147483647) : XR sc d 107 749 [o0, o1, o2, o3, o4, o5, o6, o7, o8, o9, o10, o11, o12, o13, o14, o15, o16, o17, o18, o19, o20, o21] [xw y0] (T, z, xv V, J, R) = if y0 = 0 then XR sc d 107 769 [o0, o1, o2, o3, o4, o5, o6, o7, o8, o9, o10, o11, o12, some (xw y0), o14, o15, o16, o17, o18, o19, o20, o21] [] (T, z, xv V, J, R) else XR sc d 107 756 [o0, o1, o2, o3, o4, o5, o6, o7, o8, o9, o10, o11, o12, some (xw y0), o14, o15, o16, o17, o18, o19, o20, o21] [] (T, z, xv V, J, R) :=
  (sw_istore (L' := [o0, o1, o2, o3, o4, o5, o6, o7, o8, o9, o10, o11, o12, some (xw y0), o14, o15, o16, o17, o18, o19, o20, o21]) f_107_749 (Nat.le_of_ble_eq_true rfl) rfl).trans ((sw_iload f_107_751 rfl).trans (sw_if_eq (t := 769) f_107_753 ⟨by decide, rfl⟩ g1))
theorem bL_isPart_756 {o0 o1 o2 o3 o5 o6 o7 o8 o10 o11 o12 o13 o14 o15 o16 o17 o18 o19 o20 o21 : Option Value} {x9 : Int} {a4 : Nat} (g1 : T a4 = (32, (T a4).2)) (g2 : (0 : Int) ≤ x9 ∧ x9 < ((T a4).2 : Int) ∧ (T a4).2 ≤ 3584) (g3 : 0 ≤ ((V a4 x9.toNat) - 1) ∧ ((V a4 x9.toNat) - 1) ≤ 2147483647) : XR sc d 107 756 [o0, o1, o2, o3, some (.ref a4), o5, o6, o7, o8, some (xw x9), o10, o11, o12, o13, o14, o15, o16, o17, o18, o19, o20, o21] [] (T, z, xv V, J, R) = XR sc d 107 770 [o0, o1, o2, o3, some (.ref a4), o5, o6, o7, o8, some (xw x9), o10, o11, o12, o13, o14, o15, o16, o17, o18, o19, o20, o21] [xw (((V a4 x9.toNat) - 1) / 64)] (T, z, xv V, J, R) :=
  (st_aload f_107_756 rfl).trans ((sw_iload f_107_758 rfl).trans ((sw_iaload f_107_760 g1 g2).trans ((sw_iconst f_107_761).trans ((sw_isub f_107_762).trans ((sw_bipush f_107_763 c8_64).trans ((sw_idiv f_107_765 ⟨by decide, by decide, g3⟩).trans (st_goto (t := 770) f_107_766 ⟨by decide, rfl⟩)))))))
theorem bL_isPart_769 {o0 o1 o2 o3 o4 o5 o6 o7 o8 o9 o10 o11 o12 o13 o14 o15 o16 o17 o18 o19 o20 o21 : Option Value} : XR sc d 107 769 [o0, o1, o2, o3, o4, o5, o6, o7, o8, o9, o10, o11, o12, o13, o14, o15, o16, o17, o18, o19, o20, o21] [] (T, z, xv V, J, R) = XR sc d 107 770 [o0, o1, o2, o3, o4, o5, o6, o7, o8, o9, o10, o11, o12, o13, o14, o15, o16, o17, o18, o19, o20, o21] [xw 0] (T, z, xv V, J, R) :=
  sw_iconst f_107_769
theorem bL_isPart_770 {o0 o1 o2 o3 o5 o6 o7 o8 o9 o10 o11 o12 o14 o15 o16 o17 o18 o19 o20 o21 : Option Value} {y0 x13 : Int} {a4 : Nat} (g1 : -2147483648 ≤ x13 ∧ x13 ≤ 2147483647) : XR sc d 107 770 [o0, o1, o2, o3, some (.ref a4), o5, o6, o7, o8, o9, o10, o11, o12, some (xw x13), o14, o15, o16, o17, o18, o19, o20, o21] [xw y0] (T, z, xv V, J, R) = if x13 = 0 then XR sc d 107 784 [o0, o1, o2, o3, some (.ref a4), o5, o6, o7, o8, o9, o10, o11, o12, some (xw x13), some (xw y0), o15, o16, o17, o18, o19, o20, o21] [.ref a4] (T, z, xv V, J, R) else XR sc d 107 779 [o0, o1, o2, o3, some (.ref a4), o5, o6, o7, o8, o9, o10, o11, o12, some (xw x13), some (xw y0), o15, o16, o17, o18, o19, o20, o21] [.ref a4] (T, z, xv V, J, R) :=
  (sw_istore (L' := [o0, o1, o2, o3, some (.ref a4), o5, o6, o7, o8, o9, o10, o11, o12, some (xw x13), some (xw y0), o15, o16, o17, o18, o19, o20, o21]) f_107_770 (Nat.le_of_ble_eq_true rfl) rfl).trans ((st_aload f_107_772 rfl).trans ((sw_iload f_107_774 rfl).trans (sw_if_eq (t := 784) f_107_776 ⟨by decide, rfl⟩ g1)))
theorem bL_isPart_779 {o0 o1 o2 o3 o4 o5 o6 o7 o8 o10 o11 o12 o13 o14 o15 o16 o17 o18 o19 o20 o21 : Option Value} {s0 : Value} {x9 : Int} : XR sc d 107 779 [o0, o1, o2, o3, o4, o5, o6, o7, o8, some (xw x9), o10, o11, o12, o13, o14, o15, o16, o17, o18, o19, o20, o21] [s0] (T, z, xv V, J, R) = XR sc d 107 786 [o0, o1, o2, o3, o4, o5, o6, o7, o8, some (xw x9), o10, o11, o12, o13, o14, o15, o16, o17, o18, o19, o20, o21] [xw x9, s0] (T, z, xv V, J, R) :=
  (sw_iload f_107_779 rfl).trans (st_goto (t := 786) f_107_781 ⟨by decide, rfl⟩)
theorem bL_isPart_784 {o0 o1 o2 o3 o4 o5 o6 o7 o8 o9 o10 o11 o12 o13 o14 o15 o16 o17 o18 o19 o20 o21 : Option Value} {s0 : Value} : XR sc d 107 784 [o0, o1, o2, o3, o4, o5, o6, o7, o8, o9, o10, o11, o12, o13, o14, o15, o16, o17, o18, o19, o20, o21] [s0] (T, z, xv V, J, R) = XR sc d 107 786 [o0, o1, o2, o3, o4, o5, o6, o7, o8, o9, o10, o11, o12, o13, o14, o15, o16, o17, o18, o19, o20, o21] [xw 10, s0] (T, z, xv V, J, R) :=
  sw_bipush f_107_784 c8_10
theorem bL_isPart_786 {o1 o2 o3 o4 o5 o6 o7 o8 o10 o11 o12 o13 o14 o15 o16 o17 o18 o19 o20 o21 : Option Value} {y0 x9 : Int} {b1 a0 : Nat} (g1 : T b1 = (32, (T b1).2)) (g2 : (0 : Int) ≤ y0 ∧ y0 < ((T b1).2 : Int) ∧ (T b1).2 ≤ 3584) : XR sc d 107 786 [some (.ref a0), o1, o2, o3, o4, o5, o6, o7, o8, some (xw x9), o10, o11, o12, o13, o14, o15, o16, o17, o18, o19, o20, o21] [xw y0, .ref b1] (T, z, xv V, J, R) = xret 107 (XR sc d 107) 798 801 [some (.ref a0), o1, o2, o3, o4, o5, o6, o7, o8, some (xw x9), o10, o11, o12, o13, o14, o15, o16, o17, o18, o19, o20, o21] [] (X sc d 92 [.ref a0, xw 8, xw x9, xw 0, xw 0, xw 0, xw 0, xw 0] (T, z, xv (xup2 V b1 y0.toNat 0), J, R)) :=
  (sw_iconst f_107_786).trans ((sw_iastore f_107_787 g1 g2).trans ((st_aload_n f_107_788 rfl).trans ((sw_bipush f_107_789 c8_8).trans ((sw_iload f_107_791 rfl).trans ((sw_iconst f_107_793).trans ((sw_iconst f_107_794).trans ((sw_iconst f_107_795).trans ((sw_iconst f_107_796).trans ((sw_iconst f_107_797).trans (st_callS' f_107_798 h_107_124 mn_92 rfl rfl rfl rfl))))))))))
theorem bL_isPart_801 {o0 o1 o2 o3 o4 o5 o6 o7 o8 o9 o11 o12 o13 o14 o15 o16 o17 o18 o19 o20 o21 : Option Value} {s0 : Value} {x10 : Int} (g1 : -2147483648 ≤ x10 ∧ x10 ≤ 2147483647) : XR sc d 107 801 [o0, o1, o2, o3, o4, o5, o6, o7, o8, o9, some (xw x10), o11, o12, o13, o14, o15, o16, o17, o18, o19, o20, o21] [s0] (T, z, xv V, J, R) = if x10 = 0 then XR sc d 107 806 [o0, o1, o2, o3, o4, o5, o6, o7, o8, o9, some (xw x10), o11, o12, o13, o14, o15, o16, o17, o18, o19, o20, o21] [s0] (T, z, xv V, J, R) else XR sc d 107 811 [o0, o1, o2, o3, o4, o5, o6, o7, o8, o9, some (xw x10), o11, o12, o13, o14, o15, o16, o17, o18, o19, o20, o21] [s0] (T, z, xv V, J, R) :=
  (sw_iload f_107_801 rfl).trans (sw_if_ne (t := 811) f_107_803 ⟨by decide, rfl⟩ g1)
theorem bL_isPart_806 {o0 o1 o2 o3 o4 o5 o6 o7 o8 o9 o10 o11 o12 o13 o14 o15 o16 o17 o18 o19 o20 o21 : Option Value} {s0 : Value} : XR sc d 107 806 [o0, o1, o2, o3, o4, o5, o6, o7, o8, o9, o10, o11, o12, o13, o14, o15, o16, o17, o18, o19, o20, o21] [s0] (T, z, xv V, J, R) = XR sc d 107 823 [o0, o1, o2, o3, o4, o5, o6, o7, o8, o9, o10, o11, o12, o13, o14, o15, o16, o17, o18, o19, o20, o21] [xw (-3000000), s0] (T, z, xv V, J, R) :=
  (sw_ldc (-3000000) f_107_806 k_107_79 rfl).trans (st_goto (t := 823) f_107_808 ⟨by decide, rfl⟩)
theorem bL_isPart_811 {o0 o1 o2 o3 o4 o5 o6 o7 o8 o9 o10 o11 o12 o14 o15 o16 o17 o18 o19 o20 o21 : Option Value} {s0 : Value} {x13 : Int} (g1 : -2147483648 ≤ x13 ∧ x13 ≤ 2147483647) : XR sc d 107 811 [o0, o1, o2, o3, o4, o5, o6, o7, o8, o9, o10, o11, o12, some (xw x13), o14, o15, o16, o17, o18, o19, o20, o21] [s0] (T, z, xv V, J, R) = if x13 = 0 then XR sc d 107 821 [o0, o1, o2, o3, o4, o5, o6, o7, o8, o9, o10, o11, o12, some (xw x13), o14, o15, o16, o17, o18, o19, o20, o21] [s0] (T, z, xv V, J, R) else XR sc d 107 816 [o0, o1, o2, o3, o4, o5, o6, o7, o8, o9, o10, o11, o12, some (xw x13), o14, o15, o16, o17, o18, o19, o20, o21] [s0] (T, z, xv V, J, R) :=
  (sw_iload f_107_811 rfl).trans (sw_if_eq (t := 821) f_107_813 ⟨by decide, rfl⟩ g1)
theorem bL_isPart_816 {o0 o1 o2 o3 o4 o5 o6 o7 o8 o9 o10 o11 o12 o13 o15 o16 o17 o18 o19 o20 o21 : Option Value} {s0 : Value} {x14 : Int} : XR sc d 107 816 [o0, o1, o2, o3, o4, o5, o6, o7, o8, o9, o10, o11, o12, o13, some (xw x14), o15, o16, o17, o18, o19, o20, o21] [s0] (T, z, xv V, J, R) = XR sc d 107 823 [o0, o1, o2, o3, o4, o5, o6, o7, o8, o9, o10, o11, o12, o13, some (xw x14), o15, o16, o17, o18, o19, o20, o21] [xw x14, s0] (T, z, xv V, J, R) :=
  (sw_iload f_107_816 rfl).trans (st_goto (t := 823) f_107_818 ⟨by decide, rfl⟩)
theorem bL_isPart_821 {o0 o1 o2 o3 o4 o5 o6 o7 o8 o9 o10 o11 o12 o13 o14 o15 o16 o17 o18 o19 o20 o21 : Option Value} {s0 : Value} : XR sc d 107 821 [o0, o1, o2, o3, o4, o5, o6, o7, o8, o9, o10, o11, o12, o13, o14, o15, o16, o17, o18, o19, o20, o21] [s0] (T, z, xv V, J, R) = XR sc d 107 823 [o0, o1, o2, o3, o4, o5, o6, o7, o8, o9, o10, o11, o12, o13, o14, o15, o16, o17, o18, o19, o20, o21] [xw (-1000000), s0] (T, z, xv V, J, R) :=
  sw_ldc (-1000000) f_107_821 k_107_85 rfl
theorem bL_isPart_823 {o0 o1 o2 o3 o4 o5 o6 o7 o8 o9 o10 o11 o12 o13 o14 o15 o16 o17 o18 o19 o20 o21 : Option Value} {y0 y1 : Int} (g1 : -2147483648 ≤ y1 ∧ y1 ≤ 2147483647) (g2 : -2147483648 ≤ y0 ∧ y0 ≤ 2147483647) : XR sc d 107 823 [o0, o1, o2, o3, o4, o5, o6, o7, o8, o9, o10, o11, o12, o13, o14, o15, o16, o17, o18, o19, o20, o21] [xw y0, xw y1] (T, z, xv V, J, R) = if y1 = y0 then XR sc d 107 826 [o0, o1, o2, o3, o4, o5, o6, o7, o8, o9, o10, o11, o12, o13, o14, o15, o16, o17, o18, o19, o20, o21] [] (T, z, xv V, J, R) else XR sc d 107 830 [o0, o1, o2, o3, o4, o5, o6, o7, o8, o9, o10, o11, o12, o13, o14, o15, o16, o17, o18, o19, o20, o21] [] (T, z, xv V, J, R) :=
  sw_icmp_ne (t := 830) f_107_823 ⟨by decide, rfl⟩ g1 g2
theorem bL_isPart_826 {o0 o1 o2 o3 o4 o5 o6 o7 o8 o9 o10 o11 o12 o13 o14 o15 o16 o17 o18 o19 o20 o21 : Option Value} : XR sc d 107 826 [o0, o1, o2, o3, o4, o5, o6, o7, o8, o9, o10, o11, o12, o13, o14, o15, o16, o17, o18, o19, o20, o21] [] (T, z, xv V, J, R) = XR sc d 107 831 [o0, o1, o2, o3, o4, o5, o6, o7, o8, o9, o10, o11, o12, o13, o14, o15, o16, o17, o18, o19, o20, o21] [xw 1] (T, z, xv V, J, R) :=
  (sw_iconst f_107_826).trans (st_goto (t := 831) f_107_827 ⟨by decide, rfl⟩)
theorem bL_isPart_830 {o0 o1 o2 o3 o4 o5 o6 o7 o8 o9 o10 o11 o12 o13 o14 o15 o16 o17 o18 o19 o20 o21 : Option Value} : XR sc d 107 830 [o0, o1, o2, o3, o4, o5, o6, o7, o8, o9, o10, o11, o12, o13, o14, o15, o16, o17, o18, o19, o20, o21] [] (T, z, xv V, J, R) = XR sc d 107 831 [o0, o1, o2, o3, o4, o5, o6, o7, o8, o9, o10, o11, o12, o13, o14, o15, o16, o17, o18, o19, o20, o21] [xw 0] (T, z, xv V, J, R) :=
  sw_iconst f_107_830
theorem bL_isPart_831 {o0 o1 o2 o3 o4 o5 o6 o7 o8 o9 o10 o11 o12 o13 o14 o15 o16 o17 o18 o19 o20 o21 : Option Value} {y0 : Int} (g1 : y0 = 0 ∨ y0 = 1) : XR sc d 107 831 [o0, o1, o2, o3, o4, o5, o6, o7, o8, o9, o10, o11, o12, o13, o14, o15, o16, o17, o18, o19, o20, o21] [xw y0] (T, z, xv V, J, R) = some (.inl (some (xw y0)), (T, z, xv V, J, R)) :=
  sw_zreturn f_107_831 mr_107 g1
theorem bL_isPart_832 {o0 o1 o2 o3 o4 o5 o7 o8 o9 o10 o11 o12 o13 o14 o15 o16 o17 o18 o19 o20 o21 : Option Value} {x6 : Int} (g1 : -2147483648 ≤ x6 ∧ x6 ≤ 2147483647) : XR sc d 107 832 [o0, o1, o2, o3, o4, o5, some (xw x6), o7, o8, o9, o10, o11, o12, o13, o14, o15, o16, o17, o18, o19, o20, o21] [] (T, z, xv V, J, R) = if x6 = 4 then XR sc d 107 838 [o0, o1, o2, o3, o4, o5, some (xw x6), o7, o8, o9, o10, o11, o12, o13, o14, o15, o16, o17, o18, o19, o20, o21] [] (T, z, xv V, J, R) else XR sc d 107 1049 [o0, o1, o2, o3, o4, o5, some (xw x6), o7, o8, o9, o10, o11, o12, o13, o14, o15, o16, o17, o18, o19, o20, o21] [] (T, z, xv V, J, R) :=
  (sw_iload f_107_832 rfl).trans ((sw_iconst f_107_834).trans (sw_icmp_ne (t := 1049) f_107_835 ⟨by decide, rfl⟩ g1 ⟨by decide, by decide⟩))
theorem bL_isPart_838 {o0 o1 o2 o3 o4 o5 o6 o8 o9 o10 o11 o12 o13 o14 o15 o16 o17 o18 o19 o20 o21 : Option Value} {x7 : Int} (g1 : 0 ≤ x7 ∧ x7 ≤ 2147483647) (g2 : -2147483648 ≤ (x7 % 17) ∧ (x7 % 17) ≤ 2147483647) : XR sc d 107 838 [o0, o1, o2, o3, o4, o5, o6, some (xw x7), o8, o9, o10, o11, o12, o13, o14, o15, o16, o17, o18, o19, o20, o21] [] (T, z, xv V, J, R) = if (x7 % 17) = 16 then XR sc d 107 848 [o0, o1, o2, o3, o4, o5, o6, some (xw x7), o8, o9, o10, o11, o12, o13, o14, o15, o16, o17, o18, o19, o20, o21] [] (T, z, xv V, J, R) else XR sc d 107 852 [o0, o1, o2, o3, o4, o5, o6, some (xw x7), o8, o9, o10, o11, o12, o13, o14, o15, o16, o17, o18, o19, o20, o21] [] (T, z, xv V, J, R) :=
  (sw_iload f_107_838 rfl).trans ((sw_bipush f_107_840 c8_17).trans ((sw_irem f_107_842 ⟨by decide, by decide, g1⟩).trans ((sw_bipush f_107_843 c8_16).trans (sw_icmp_ne (t := 852) f_107_845 ⟨by decide, rfl⟩ g2 ⟨by decide, by decide⟩))))
theorem bL_isPart_848 {o0 o1 o2 o3 o4 o5 o6 o7 o8 o9 o10 o11 o12 o13 o14 o15 o16 o17 o18 o19 o20 o21 : Option Value} : XR sc d 107 848 [o0, o1, o2, o3, o4, o5, o6, o7, o8, o9, o10, o11, o12, o13, o14, o15, o16, o17, o18, o19, o20, o21] [] (T, z, xv V, J, R) = XR sc d 107 856 [o0, o1, o2, o3, o4, o5, o6, o7, o8, o9, o10, o11, o12, o13, o14, o15, o16, o17, o18, o19, o20, o21] [xw (-1)] (T, z, xv V, J, R) :=
  (sw_iconst f_107_848).trans (st_goto (t := 856) f_107_849 ⟨by decide, rfl⟩)
theorem bL_isPart_852 {o0 o1 o2 o3 o4 o5 o6 o8 o9 o10 o11 o12 o13 o14 o15 o16 o17 o18 o19 o20 o21 : Option Value} {x7 : Int} (g1 : 0 ≤ x7 ∧ x7 ≤ 2147483647) : XR sc d 107 852 [o0, o1, o2, o3, o4, o5, o6, some (xw x7), o8, o9, o10, o11, o12, o13, o14, o15, o16, o17, o18, o19, o20, o21] [] (T, z, xv V, J, R) = XR sc d 107 856 [o0, o1, o2, o3, o4, o5, o6, some (xw x7), o8, o9, o10, o11, o12, o13, o14, o15, o16, o17, o18, o19, o20, o21] [xw (x7 % 4)] (T, z, xv V, J, R) :=
  (sw_iload f_107_852 rfl).trans ((sw_iconst f_107_854).trans (sw_irem f_107_855 ⟨by decide, by decide, g1⟩))
theorem bL_isPart_856 {o0 o1 o2 o3 o4 o5 o6 o7 o9 o10 o11 o12 o13 o14 o15 o16 o17 o18 o19 o20 o21 : Option Value} {y0 x8 : Int} (g1 : 0 ≤ x8 ∧ x8 ≤ 2147483647) (g2 : 0 ≤ (x8 / 4) ∧ (x8 / 4) ≤ 2147483647) (g3 : -2147483648 ≤ ((x8 / 4) % 9) ∧ ((x8 / 4) % 9) ≤ 2147483647) : XR sc d 107 856 [o0, o1, o2, o3, o4, o5, o6, o7, some (xw x8), o9, o10, o11, o12, o13, o14, o15, o16, o17, o18, o19, o20, o21] [xw y0] (T, z, xv V, J, R) = if ((x8 / 4) % 9) = 0 then XR sc d 107 874 [o0, o1, o2, o3, o4, o5, o6, o7, some (xw x8), o9, o10, o11, o12, some (xw y0), some (xw (x8 % 4)), o15, o16, o17, o18, o19, o20, o21] [] (T, z, xv V, J, R) else XR sc d 107 888 [o0, o1, o2, o3, o4, o5, o6, o7, some (xw x8), o9, o10, o11, o12, some (xw y0), some (xw (x8 % 4)), o15, o16, o17, o18, o19, o20, o21] [] (T, z, xv V, J, R) :=
  (sw_istore (L' := [o0, o1, o2, o3, o4, o5, o6, o7, some (xw x8), o9, o10, o11, o12, some (xw y0), o14, o15, o16, o17, o18, o19, o20, o21]) f_107_856 (Nat.le_of_ble_eq_true rfl) rfl).trans ((sw_iload f_107_858 rfl).trans ((sw_iconst f_107_860).trans ((sw_irem f_107_861 ⟨by decide, by decide, g1⟩).trans ((sw_istore (L' := [o0, o1, o2, o3, o4, o5, o6, o7, some (xw x8), o9, o10, o11, o12, some (xw y0), some (xw (x8 % 4)), o15, o16, o17, o18, o19, o20, o21]) f_107_862 (Nat.le_of_ble_eq_true rfl) rfl).trans ((sw_iload f_107_864 rfl).trans ((sw_iconst f_107_866).trans ((sw_idiv f_107_867 ⟨by decide, by decide, g1⟩).trans ((sw_bipush f_107_868 c8_9).trans ((sw_irem f_107_870 ⟨by decide, by decide, g2⟩).trans (sw_if_ne (t := 888) f_107_871 ⟨by decide, rfl⟩ g3))))))))))
theorem bL_isPart_874 {o0 o1 o2 o3 o4 o5 o6 o7 o9 o10 o11 o12 o13 o14 o15 o16 o17 o18 o19 o20 o21 : Option Value} {x8 : Int} (g1 : 0 ≤ x8 ∧ x8 ≤ 2147483647) (g2 : 0 ≤ (x8 / 36) ∧ (x8 / 36) ≤ 2147483647) : XR sc d 107 874 [o0, o1, o2, o3, o4, o5, o6, o7, some (xw x8), o9, o10, o11, o12, o13, o14, o15, o16, o17, o18, o19, o20, o21] [] (T, z, xv V, J, R) = XR sc d 107 898 [o0, o1, o2, o3, o4, o5, o6, o7, some (xw x8), o9, o10, o11, o12, o13, o14, o15, o16, o17, o18, o19, o20, o21] [xw (((x8 / 36) % 2) * 10000)] (T, z, xv V, J, R) :=
  (sw_iload f_107_874 rfl).trans ((sw_bipush f_107_876 c8_36).trans ((sw_idiv f_107_878 ⟨by decide, by decide, g1⟩).trans ((sw_iconst f_107_879).trans ((sw_irem f_107_880 ⟨by decide, by decide, g2⟩).trans ((sw_sipush f_107_881 c16_10000).trans ((sw_imul f_107_884).trans (st_goto (t := 898) f_107_885 ⟨by decide, rfl⟩)))))))
theorem bL_isPart_888 {o0 o1 o2 o3 o4 o5 o6 o7 o9 o10 o11 o12 o13 o14 o15 o16 o17 o18 o19 o20 o21 : Option Value} {x8 : Int} (g1 : 0 ≤ x8 ∧ x8 ≤ 2147483647) (g2 : 0 ≤ (x8 / 4) ∧ (x8 / 4) ≤ 2147483647) : XR sc d 107 888 [o0, o1, o2, o3, o4, o5, o6, o7, some (xw x8), o9, o10, o11, o12, o13, o14, o15, o16, o17, o18, o19, o20, o21] [] (T, z, xv V, J, R) = XR sc d 107 898 [o0, o1, o2, o3, o4, o5, o6, o7, some (xw x8), o9, o10, o11, o12, o13, o14, o15, o16, o17, o18, o19, o20, o21] [xw (1 + ((x8 / 4) % 500))] (T, z, xv V, J, R) :=
  (sw_iconst f_107_888).trans ((sw_iload f_107_889 rfl).trans ((sw_iconst f_107_891).trans ((sw_idiv f_107_892 ⟨by decide, by decide, g1⟩).trans ((sw_sipush f_107_893 c16_500).trans ((sw_irem f_107_896 ⟨by decide, by decide, g2⟩).trans (sw_iadd f_107_897))))))
theorem bL_isPart_898 {o0 o1 o2 o3 o4 o5 o6 o7 o8 o9 o10 o11 o12 o15 o16 o17 o18 o19 o20 o21 : Option Value} {y0 x13 x14 : Int} (g1 : -2147483648 ≤ x13 ∧ x13 ≤ 2147483647) (g2 : -2147483648 ≤ x14 ∧ x14 ≤ 2147483647) : XR sc d 107 898 [o0, o1, o2, o3, o4, o5, o6, o7, o8, o9, o10, o11, o12, some (xw x13), some (xw x14), o15, o16, o17, o18, o19, o20, o21] [xw y0] (T, z, xv V, J, R) = if x13 = x14 then XR sc d 107 924 [o0, o1, o2, o3, o4, o5, o6, o7, o8, o9, o10, o11, o12, some (xw x13), some (xw x14), some (xw y0), o16, o17, o18, o19, o20, o21] [] (T, z, xv V, J, R) else XR sc d 107 907 [o0, o1, o2, o3, o4, o5, o6, o7, o8, o9, o10, o11, o12, some (xw x13), some (xw x14), some (xw y0), o16, o17, o18, o19, o20, o21] [] (T, z, xv V, J, R) :=
  (sw_istore (L' := [o0, o1, o2, o3, o4, o5, o6, o7, o8, o9, o10, o11, o12, some (xw x13), some (xw x14), some (xw y0), o16, o17, o18, o19, o20, o21]) f_107_898 (Nat.le_of_ble_eq_true rfl) rfl).trans ((sw_iload f_107_900 rfl).trans ((sw_iload f_107_902 rfl).trans (sw_icmp_eq (t := 924) f_107_904 ⟨by decide, rfl⟩ g1 g2)))
theorem bL_isPart_907 {o0 o1 o2 o3 o4 o5 o6 o7 o8 o9 o10 o11 o12 o13 o14 o16 o17 o18 o19 o20 o21 : Option Value} {x15 : Int} (g1 : -2147483648 ≤ x15 ∧ x15 ≤ 2147483647) : XR sc d 107 907 [o0, o1, o2, o3, o4, o5, o6, o7, o8, o9, o10, o11, o12, o13, o14, some (xw x15), o16, o17, o18, o19, o20, o21] [] (T, z, xv V, J, R) = if x15 ≤ 0 then XR sc d 107 924 [o0, o1, o2, o3, o4, o5, o6, o7, o8, o9, o10, o11, o12, o13, o14, some (xw x15), o16, o17, o18, o19, o20, o21] [] (T, z, xv V, J, R) else XR sc d 107 912 [o0, o1, o2, o3, o4, o5, o6, o7, o8, o9, o10, o11, o12, o13, o14, some (xw x15), o16, o17, o18, o19, o20, o21] [] (T, z, xv V, J, R) :=
  (sw_iload f_107_907 rfl).trans (sw_if_le (t := 924) f_107_909 ⟨by decide, rfl⟩ g1)
theorem bL_isPart_912 {o0 o1 o2 o3 o4 o5 o6 o7 o8 o9 o10 o11 o12 o13 o14 o16 o17 o18 o19 o20 o21 : Option Value} {x15 : Int} (g1 : -2147483648 ≤ x15 ∧ x15 ≤ 2147483647) : XR sc d 107 912 [o0, o1, o2, o3, o4, o5, o6, o7, o8, o9, o10, o11, o12, o13, o14, some (xw x15), o16, o17, o18, o19, o20, o21] [] (T, z, xv V, J, R) = if 10000 ≤ x15 then XR sc d 107 924 [o0, o1, o2, o3, o4, o5, o6, o7, o8, o9, o10, o11, o12, o13, o14, some (xw x15), o16, o17, o18, o19, o20, o21] [] (T, z, xv V, J, R) else XR sc d 107 920 [o0, o1, o2, o3, o4, o5, o6, o7, o8, o9, o10, o11, o12, o13, o14, some (xw x15), o16, o17, o18, o19, o20, o21] [] (T, z, xv V, J, R) :=
  (sw_iload f_107_912 rfl).trans ((sw_sipush f_107_914 c16_10000).trans (sw_icmp_ge (t := 924) f_107_917 ⟨by decide, rfl⟩ g1 ⟨by decide, by decide⟩))
theorem bL_isPart_920 {o0 o1 o2 o3 o4 o5 o6 o7 o8 o9 o10 o11 o12 o13 o14 o15 o16 o17 o18 o19 o20 o21 : Option Value} : XR sc d 107 920 [o0, o1, o2, o3, o4, o5, o6, o7, o8, o9, o10, o11, o12, o13, o14, o15, o16, o17, o18, o19, o20, o21] [] (T, z, xv V, J, R) = XR sc d 107 925 [o0, o1, o2, o3, o4, o5, o6, o7, o8, o9, o10, o11, o12, o13, o14, o15, o16, o17, o18, o19, o20, o21] [xw 1] (T, z, xv V, J, R) :=
  (sw_iconst f_107_920).trans (st_goto (t := 925) f_107_921 ⟨by decide, rfl⟩)
theorem bL_isPart_924 {o0 o1 o2 o3 o4 o5 o6 o7 o8 o9 o10 o11 o12 o13 o14 o15 o16 o17 o18 o19 o20 o21 : Option Value} : XR sc d 107 924 [o0, o1, o2, o3, o4, o5, o6, o7, o8, o9, o10, o11, o12, o13, o14, o15, o16, o17, o18, o19, o20, o21] [] (T, z, xv V, J, R) = XR sc d 107 925 [o0, o1, o2, o3, o4, o5, o6, o7, o8, o9, o10, o11, o12, o13, o14, o15, o16, o17, o18, o19, o20, o21] [xw 0] (T, z, xv V, J, R) :=
  sw_iconst f_107_924
theorem bL_isPart_925 {o0 o1 o2 o3 o4 o5 o6 o7 o8 o9 o10 o11 o12 o14 o15 o16 o17 o18 o19 o20 o21 : Option Value} {y0 x13 : Int} (g1 : -2147483648 ≤ x13 ∧ x13 ≤ 2147483647) : XR sc d 107 925 [o0, o1, o2, o3, o4, o5, o6, o7, o8, o9, o10, o11, o12, some (xw x13), o14, o15, o16, o17, o18, o19, o20, o21] [xw y0] (T, z, xv V, J, R) = if x13 < 0 then XR sc d 107 963 [o0, o1, o2, o3, o4, o5, o6, o7, o8, o9, o10, o11, o12, some (xw x13), o14, o15, some (xw y0), some (.ref z.1), o18, o19, o20, o21] [] ((va_up T z.1 (32, 9)), (z.1 + 1, z.2 + 9), xv (va_up V z.1 (fun _ => 0)), (va_up J z.1 (fun _ => 0)), (va_up R z.1 (fun _ => none))) else XR sc d 107 938 [o0, o1, o2, o3, o4, o5, o6, o7, o8, o9, o10, o11, o12, some (xw x13), o14, o15, some (xw y0), some (.ref z.1), o18, o19, o20, o21] [] ((va_up T z.1 (32, 9)), (z.1 + 1, z.2 + 9), xv (va_up V z.1 (fun _ => 0)), (va_up J z.1 (fun _ => 0)), (va_up R z.1 (fun _ => none))) :=
  (sw_istore (L' := [o0, o1, o2, o3, o4, o5, o6, o7, o8, o9, o10, o11, o12, some (xw x13), o14, o15, some (xw y0), o17, o18, o19, o20, o21]) f_107_925 (Nat.le_of_ble_eq_true rfl) rfl).trans ((sw_bipush f_107_927 c8_9).trans ((sw_newI 9 f_107_929 ⟨rfl, by decide⟩).trans ((st_astore (L' := [o0, o1, o2, o3, o4, o5, o6, o7, o8, o9, o10, o11, o12, some (xw x13), o14, o15, some (xw y0), some (.ref z.1), o18, o19, o20, o21]) f_107_931 (Nat.le_of_ble_eq_true rfl) rfl).trans ((sw_iload f_107_933 rfl).trans (sw_if_lt (t := 963) f_107_935 ⟨by decide, rfl⟩ g1)))))
theorem bL_isPart_938 {o0 o1 o2 o3 o4 o5 o6 o7 o8 o9 o10 o11 o12 o13 o14 o15 o17 o18 o19 o20 o21 : Option Value} {x16 : Int} (g1 : -2147483648 ≤ x16 ∧ x16 ≤ 2147483647) : XR sc d 107 938 [o0, o1, o2, o3, o4, o5, o6, o7, o8, o9, o10, o11, o12, o13, o14, o15, some (xw x16), o17, o18, o19, o20, o21] [] (T, z, xv V, J, R) = if x16 = 0 then XR sc d 107 963 [o0, o1, o2, o3, o4, o5, o6, o7, o8, o9, o10, o11, o12, o13, o14, o15, some (xw x16), o17, o18, o19, o20, o21] [] (T, z, xv V, J, R) else XR sc d 107 943 [o0, o1, o2, o3, o4, o5, o6, o7, o8, o9, o10, o11, o12, o13, o14, o15, some (xw x16), o17, o18, o19, o20, o21] [] (T, z, xv V, J, R) :=
  (sw_iload f_107_938 rfl).trans (sw_if_eq (t := 963) f_107_940 ⟨by decide, rfl⟩ g1)
theorem bL_isPart_943 {o0 o1 o2 o3 o6 o7 o8 o9 o10 o11 o12 o15 o16 o18 o19 o20 o21 : Option Value} {x13 x14 : Int} {a4 a5 a17 : Nat} : XR sc d 107 943 [o0, o1, o2, o3, some (.ref a4), some (.ref a5), o6, o7, o8, o9, o10, o11, o12, some (xw x13), some (xw x14), o15, o16, some (.ref a17), o18, o19, o20, o21] [] (T, z, xv V, J, R) = xret 107 (XR sc d 107) 953 956 [o0, o1, o2, o3, some (.ref a4), some (.ref a5), o6, o7, o8, o9, o10, o11, o12, some (xw x13), some (xw x14), o15, o16, some (.ref a17), o18, o19, o20, o21] [] (X sc d 95 [.ref a4, .ref a5, xw x13, xw x14, .ref a17] (T, z, xv V, J, R)) :=
  (st_aload f_107_943 rfl).trans ((st_aload f_107_945 rfl).trans ((sw_iload f_107_947 rfl).trans ((sw_iload f_107_949 rfl).trans ((st_aload f_107_951 rfl).trans (st_callS' f_107_953 h_107_103 mn_95 rfl rfl rfl rfl)))))
theorem bL_isPart_956 {o0 o1 o2 o3 o4 o5 o6 o7 o8 o9 o10 o11 o12 o13 o14 o15 o16 o17 o18 o19 o20 o21 : Option Value} {y0 : Int} (g1 : -2147483648 ≤ y0 ∧ y0 ≤ 2147483647) : XR sc d 107 956 [o0, o1, o2, o3, o4, o5, o6, o7, o8, o9, o10, o11, o12, o13, o14, o15, o16, o17, o18, o19, o20, o21] [xw y0] (T, z, xv V, J, R) = if y0 = 0 then XR sc d 107 963 [o0, o1, o2, o3, o4, o5, o6, o7, o8, o9, o10, o11, o12, o13, o14, o15, o16, o17, o18, o19, o20, o21] [] (T, z, xv V, J, R) else XR sc d 107 959 [o0, o1, o2, o3, o4, o5, o6, o7, o8, o9, o10, o11, o12, o13, o14, o15, o16, o17, o18, o19, o20, o21] [] (T, z, xv V, J, R) :=
  sw_if_eq (t := 963) f_107_956 ⟨by decide, rfl⟩ g1
theorem bL_isPart_959 {o0 o1 o2 o3 o4 o5 o6 o7 o8 o9 o10 o11 o12 o13 o14 o15 o16 o17 o18 o19 o20 o21 : Option Value} : XR sc d 107 959 [o0, o1, o2, o3, o4, o5, o6, o7, o8, o9, o10, o11, o12, o13, o14, o15, o16, o17, o18, o19, o20, o21] [] (T, z, xv V, J, R) = XR sc d 107 964 [o0, o1, o2, o3, o4, o5, o6, o7, o8, o9, o10, o11, o12, o13, o14, o15, o16, o17, o18, o19, o20, o21] [xw 1] (T, z, xv V, J, R) :=
  (sw_iconst f_107_959).trans (st_goto (t := 964) f_107_960 ⟨by decide, rfl⟩)
theorem bL_isPart_963 {o0 o1 o2 o3 o4 o5 o6 o7 o8 o9 o10 o11 o12 o13 o14 o15 o16 o17 o18 o19 o20 o21 : Option Value} : XR sc d 107 963 [o0, o1, o2, o3, o4, o5, o6, o7, o8, o9, o10, o11, o12, o13, o14, o15, o16, o17, o18, o19, o20, o21] [] (T, z, xv V, J, R) = XR sc d 107 964 [o0, o1, o2, o3, o4, o5, o6, o7, o8, o9, o10, o11, o12, o13, o14, o15, o16, o17, o18, o19, o20, o21] [xw 0] (T, z, xv V, J, R) :=
  sw_iconst f_107_963
theorem bL_isPart_964 {o0 o1 o2 o3 o4 o5 o6 o7 o8 o9 o10 o11 o12 o13 o14 o15 o16 o17 o18 o19 o20 o21 : Option Value} {y0 : Int} (g1 : -2147483648 ≤ y0 ∧ y0 ≤ 2147483647) : XR sc d 107 964 [o0, o1, o2, o3, o4, o5, o6, o7, o8, o9, o10, o11, o12, o13, o14, o15, o16, o17, o18, o19, o20, o21] [xw y0] (T, z, xv V, J, R) = if y0 = 0 then XR sc d 107 990 [o0, o1, o2, o3, o4, o5, o6, o7, o8, o9, o10, o11, o12, o13, o14, o15, o16, o17, some (xw y0), o19, o20, o21] [] (T, z, xv V, J, R) else XR sc d 107 971 [o0, o1, o2, o3, o4, o5, o6, o7, o8, o9, o10, o11, o12, o13, o14, o15, o16, o17, some (xw y0), o19, o20, o21] [] (T, z, xv V, J, R) :=
  (sw_istore (L' := [o0, o1, o2, o3, o4, o5, o6, o7, o8, o9, o10, o11, o12, o13, o14, o15, o16, o17, some (xw y0), o19, o20, o21]) f_107_964 (Nat.le_of_ble_eq_true rfl) rfl).trans ((sw_iload f_107_966 rfl).trans (sw_if_eq (t := 990) f_107_968 ⟨by decide, rfl⟩ g1))
theorem bL_isPart_971 {o0 o6 o7 o8 o9 o10 o11 o12 o16 o17 o18 o19 o20 o21 : Option Value} {x13 x14 x15 : Int} {a1 a2 a3 a4 a5 : Nat} : XR sc d 107 971 [o0, some (.ref a1), some (.ref a2), some (.ref a3), some (.ref a4), some (.ref a5), o6, o7, o8, o9, o10, o11, o12, some (xw x13), some (xw x14), some (xw x15), o16, o17, o18, o19, o20, o21] [] (T, z, xv V, J, R) = xret 107 (XR sc d 107) 984 987 [o0, some (.ref a1), some (.ref a2), some (.ref a3), some (.ref a4), some (.ref a5), o6, o7, o8, o9, o10, o11, o12, some (xw x13), some (xw x14), some (xw x15), o16, o17, o18, o19, o20, o21] [] (X sc d 99 [.ref a1, .ref a2, .ref a3, .ref a4, .ref a5, xw x13, xw x14, xw x15] (T, z, xv V, J, R)) :=
  (st_aload_n f_107_971 rfl).trans ((st_aload_n f_107_972 rfl).trans ((st_aload_n f_107_973 rfl).trans ((st_aload f_107_974 rfl).trans ((st_aload f_107_976 rfl).trans ((sw_iload f_107_978 rfl).trans ((sw_iload f_107_980 rfl).trans ((sw_iload f_107_982 rfl).trans (st_callS' f_107_984 h_107_165 mn_99 rfl rfl rfl rfl))))))))
theorem bL_isPart_987 {o0 o1 o2 o3 o4 o5 o6 o7 o8 o9 o10 o11 o12 o13 o14 o15 o16 o17 o18 o19 o20 o21 : Option Value} {s0 : Value} : XR sc d 107 987 [o0, o1, o2, o3, o4, o5, o6, o7, o8, o9, o10, o11, o12, o13, o14, o15, o16, o17, o18, o19, o20, o21] [s0] (T, z, xv V, J, R) = XR sc d 107 991 [o0, o1, o2, o3, o4, o5, o6, o7, o8, o9, o10, o11, o12, o13, o14, o15, o16, o17, o18, o19, o20, o21] [s0] (T, z, xv V, J, R) :=
  st_goto (t := 991) f_107_987 ⟨by decide, rfl⟩
theorem bL_isPart_990 {o0 o1 o2 o3 o4 o5 o6 o7 o8 o9 o10 o11 o12 o13 o14 o15 o16 o17 o18 o19 o20 o21 : Option Value} : XR sc d 107 990 [o0, o1, o2, o3, o4, o5, o6, o7, o8, o9, o10, o11, o12, o13, o14, o15, o16, o17, o18, o19, o20, o21] [] (T, z, xv V, J, R) = XR sc d 107 991 [o0, o1, o2, o3, o4, o5, o6, o7, o8, o9, o10, o11, o12, o13, o14, o15, o16, o17, o18, o19, o20, o21] [xw 0] (T, z, xv V, J, R) :=
  sw_iconst f_107_990
theorem bL_isPart_991 {o1 o2 o3 o4 o5 o6 o7 o8 o9 o10 o11 o12 o16 o17 o18 o19 o20 o21 : Option Value} {y0 x13 x14 x15 : Int} {a0 : Nat} : XR sc d 107 991 [some (.ref a0), o1, o2, o3, o4, o5, o6, o7, o8, o9, o10, o11, o12, some (xw x13), some (xw x14), some (xw x15), o16, o17, o18, o19, o20, o21] [xw y0] (T, z, xv V, J, R) = xret 107 (XR sc d 107) 1005 1008 [some (.ref a0), o1, o2, o3, o4, o5, o6, o7, o8, o9, o10, o11, o12, some (xw x13), some (xw x14), some (xw x15), o16, o17, o18, some (xw y0), o20, o21] [] (X sc d 92 [.ref a0, xw 9, xw x13, xw x14, xw x15, xw 0, xw 0, xw 0] (T, z, xv V, J, R)) :=
  (sw_istore (L' := [some (.ref a0), o1, o2, o3, o4, o5, o6, o7, o8, o9, o10, o11, o12, some (xw x13), some (xw x14), some (xw x15), o16, o17, o18, some (xw y0), o20, o21]) f_107_991 (Nat.le_of_ble_eq_true rfl) rfl).trans ((st_aload_n f_107_993 rfl).trans ((sw_bipush f_107_994 c8_9).trans ((sw_iload f_107_996 rfl).trans ((sw_iload f_107_998 rfl).trans ((sw_iload f_107_1000 rfl).trans ((sw_iconst f_107_1002).trans ((sw_iconst f_107_1003).trans ((sw_iconst f_107_1004).trans (st_callS' f_107_1005 h_107_124 mn_92 rfl rfl rfl rfl)))))))))
theorem bL_isPart_1008 {o0 o1 o2 o3 o4 o5 o6 o7 o8 o9 o10 o11 o12 o14 o15 o16 o17 o18 o19 o20 o21 : Option Value} {s0 : Value} {x13 : Int} (g1 : -2147483648 ≤ x13 ∧ x13 ≤ 2147483647) : XR sc d 107 1008 [o0, o1, o2, o3, o4, o5, o6, o7, o8, o9, o10, o11, o12, some (xw x13), o14, o15, o16, o17, o18, o19, o20, o21] [s0] (T, z, xv V, J, R) = if 0 ≤ x13 then XR sc d 107 1018 [o0, o1, o2, o3, o4, o5, o6, o7, o8, o9, o10, o11, o12, some (xw x13), o14, o15, o16, o17, o18, o19, o20, o21] [s0] (T, z, xv V, J, R) else XR sc d 107 1013 [o0, o1, o2, o3, o4, o5, o6, o7, o8, o9, o10, o11, o12, some (xw x13), o14, o15, o16, o17, o18, o19, o20, o21] [s0] (T, z, xv V, J, R) :=
  (sw_iload f_107_1008 rfl).trans (sw_if_ge (t := 1018) f_107_1010 ⟨by decide, rfl⟩ g1)
theorem bL_isPart_1013 {o0 o1 o2 o3 o4 o5 o6 o7 o8 o9 o10 o11 o12 o13 o14 o15 o16 o17 o18 o19 o20 o21 : Option Value} {s0 : Value} : XR sc d 107 1013 [o0, o1, o2, o3, o4, o5, o6, o7, o8, o9, o10, o11, o12, o13, o14, o15, o16, o17, o18, o19, o20, o21] [s0] (T, z, xv V, J, R) = XR sc d 107 1040 [o0, o1, o2, o3, o4, o5, o6, o7, o8, o9, o10, o11, o12, o13, o14, o15, o16, o17, o18, o19, o20, o21] [xw (-3000000), s0] (T, z, xv V, J, R) :=
  (sw_ldc (-3000000) f_107_1013 k_107_79 rfl).trans (st_goto (t := 1040) f_107_1015 ⟨by decide, rfl⟩)
theorem bL_isPart_1018 {o0 o1 o2 o3 o4 o5 o6 o7 o8 o9 o10 o11 o12 o13 o14 o15 o17 o18 o19 o20 o21 : Option Value} {s0 : Value} {x16 : Int} (g1 : -2147483648 ≤ x16 ∧ x16 ≤ 2147483647) : XR sc d 107 1018 [o0, o1, o2, o3, o4, o5, o6, o7, o8, o9, o10, o11, o12, o13, o14, o15, some (xw x16), o17, o18, o19, o20, o21] [s0] (T, z, xv V, J, R) = if x16 = 0 then XR sc d 107 1023 [o0, o1, o2, o3, o4, o5, o6, o7, o8, o9, o10, o11, o12, o13, o14, o15, some (xw x16), o17, o18, o19, o20, o21] [s0] (T, z, xv V, J, R) else XR sc d 107 1028 [o0, o1, o2, o3, o4, o5, o6, o7, o8, o9, o10, o11, o12, o13, o14, o15, some (xw x16), o17, o18, o19, o20, o21] [s0] (T, z, xv V, J, R) :=
  (sw_iload f_107_1018 rfl).trans (sw_if_ne (t := 1028) f_107_1020 ⟨by decide, rfl⟩ g1)
theorem bL_isPart_1023 {o0 o1 o2 o3 o4 o5 o6 o7 o8 o9 o10 o11 o12 o13 o14 o15 o16 o17 o18 o19 o20 o21 : Option Value} {s0 : Value} : XR sc d 107 1023 [o0, o1, o2, o3, o4, o5, o6, o7, o8, o9, o10, o11, o12, o13, o14, o15, o16, o17, o18, o19, o20, o21] [s0] (T, z, xv V, J, R) = XR sc d 107 1040 [o0, o1, o2, o3, o4, o5, o6, o7, o8, o9, o10, o11, o12, o13, o14, o15, o16, o17, o18, o19, o20, o21] [xw (-2000000), s0] (T, z, xv V, J, R) :=
  (sw_ldc (-2000000) f_107_1023 k_107_82 rfl).trans (st_goto (t := 1040) f_107_1025 ⟨by decide, rfl⟩)
theorem bL_isPart_1028 {o0 o1 o2 o3 o4 o5 o6 o7 o8 o9 o10 o11 o12 o13 o14 o15 o16 o17 o19 o20 o21 : Option Value} {s0 : Value} {x18 : Int} (g1 : -2147483648 ≤ x18 ∧ x18 ≤ 2147483647) : XR sc d 107 1028 [o0, o1, o2, o3, o4, o5, o6, o7, o8, o9, o10, o11, o12, o13, o14, o15, o16, o17, some (xw x18), o19, o20, o21] [s0] (T, z, xv V, J, R) = if x18 = 0 then XR sc d 107 1038 [o0, o1, o2, o3, o4, o5, o6, o7, o8, o9, o10, o11, o12, o13, o14, o15, o16, o17, some (xw x18), o19, o20, o21] [s0] (T, z, xv V, J, R) else XR sc d 107 1033 [o0, o1, o2, o3, o4, o5, o6, o7, o8, o9, o10, o11, o12, o13, o14, o15, o16, o17, some (xw x18), o19, o20, o21] [s0] (T, z, xv V, J, R) :=
  (sw_iload f_107_1028 rfl).trans (sw_if_eq (t := 1038) f_107_1030 ⟨by decide, rfl⟩ g1)
theorem bL_isPart_1033 {o0 o1 o2 o3 o4 o5 o6 o7 o8 o9 o10 o11 o12 o13 o14 o15 o16 o17 o18 o20 o21 : Option Value} {s0 : Value} {x19 : Int} : XR sc d 107 1033 [o0, o1, o2, o3, o4, o5, o6, o7, o8, o9, o10, o11, o12, o13, o14, o15, o16, o17, o18, some (xw x19), o20, o21] [s0] (T, z, xv V, J, R) = XR sc d 107 1040 [o0, o1, o2, o3, o4, o5, o6, o7, o8, o9, o10, o11, o12, o13, o14, o15, o16, o17, o18, some (xw x19), o20, o21] [xw x19, s0] (T, z, xv V, J, R) :=
  (sw_iload f_107_1033 rfl).trans (st_goto (t := 1040) f_107_1035 ⟨by decide, rfl⟩)
theorem bL_isPart_1038 {o0 o1 o2 o3 o4 o5 o6 o7 o8 o9 o10 o11 o12 o13 o14 o15 o16 o17 o18 o19 o20 o21 : Option Value} {s0 : Value} : XR sc d 107 1038 [o0, o1, o2, o3, o4, o5, o6, o7, o8, o9, o10, o11, o12, o13, o14, o15, o16, o17, o18, o19, o20, o21] [s0] (T, z, xv V, J, R) = XR sc d 107 1040 [o0, o1, o2, o3, o4, o5, o6, o7, o8, o9, o10, o11, o12, o13, o14, o15, o16, o17, o18, o19, o20, o21] [xw (-1000000), s0] (T, z, xv V, J, R) :=
  sw_ldc (-1000000) f_107_1038 k_107_85 rfl
theorem bL_isPart_1040 {o0 o1 o2 o3 o4 o5 o6 o7 o8 o9 o10 o11 o12 o13 o14 o15 o16 o17 o18 o19 o20 o21 : Option Value} {y0 y1 : Int} (g1 : -2147483648 ≤ y1 ∧ y1 ≤ 2147483647) (g2 : -2147483648 ≤ y0 ∧ y0 ≤ 2147483647) : XR sc d 107 1040 [o0, o1, o2, o3, o4, o5, o6, o7, o8, o9, o10, o11, o12, o13, o14, o15, o16, o17, o18, o19, o20, o21] [xw y0, xw y1] (T, z, xv V, J, R) = if y1 = y0 then XR sc d 107 1043 [o0, o1, o2, o3, o4, o5, o6, o7, o8, o9, o10, o11, o12, o13, o14, o15, o16, o17, o18, o19, o20, o21] [] (T, z, xv V, J, R) else XR sc d 107 1047 [o0, o1, o2, o3, o4, o5, o6, o7, o8, o9, o10, o11, o12, o13, o14, o15, o16, o17, o18, o19, o20, o21] [] (T, z, xv V, J, R) :=
  sw_icmp_ne (t := 1047) f_107_1040 ⟨by decide, rfl⟩ g1 g2
theorem bL_isPart_1043 {o0 o1 o2 o3 o4 o5 o6 o7 o8 o9 o10 o11 o12 o13 o14 o15 o16 o17 o18 o19 o20 o21 : Option Value} : XR sc d 107 1043 [o0, o1, o2, o3, o4, o5, o6, o7, o8, o9, o10, o11, o12, o13, o14, o15, o16, o17, o18, o19, o20, o21] [] (T, z, xv V, J, R) = XR sc d 107 1048 [o0, o1, o2, o3, o4, o5, o6, o7, o8, o9, o10, o11, o12, o13, o14, o15, o16, o17, o18, o19, o20, o21] [xw 1] (T, z, xv V, J, R) :=
  (sw_iconst f_107_1043).trans (st_goto (t := 1048) f_107_1044 ⟨by decide, rfl⟩)
theorem bL_isPart_1047 {o0 o1 o2 o3 o4 o5 o6 o7 o8 o9 o10 o11 o12 o13 o14 o15 o16 o17 o18 o19 o20 o21 : Option Value} : XR sc d 107 1047 [o0, o1, o2, o3, o4, o5, o6, o7, o8, o9, o10, o11, o12, o13, o14, o15, o16, o17, o18, o19, o20, o21] [] (T, z, xv V, J, R) = XR sc d 107 1048 [o0, o1, o2, o3, o4, o5, o6, o7, o8, o9, o10, o11, o12, o13, o14, o15, o16, o17, o18, o19, o20, o21] [xw 0] (T, z, xv V, J, R) :=
  sw_iconst f_107_1047
theorem bL_isPart_1048 {o0 o1 o2 o3 o4 o5 o6 o7 o8 o9 o10 o11 o12 o13 o14 o15 o16 o17 o18 o19 o20 o21 : Option Value} {y0 : Int} (g1 : y0 = 0 ∨ y0 = 1) : XR sc d 107 1048 [o0, o1, o2, o3, o4, o5, o6, o7, o8, o9, o10, o11, o12, o13, o14, o15, o16, o17, o18, o19, o20, o21] [xw y0] (T, z, xv V, J, R) = some (.inl (some (xw y0)), (T, z, xv V, J, R)) :=
  sw_zreturn f_107_1048 mr_107 g1
theorem bL_isPart_1049 {o0 o1 o2 o3 o4 o5 o7 o8 o9 o10 o11 o12 o13 o14 o15 o16 o17 o18 o19 o20 o21 : Option Value} {x6 : Int} (g1 : -2147483648 ≤ x6 ∧ x6 ≤ 2147483647) : XR sc d 107 1049 [o0, o1, o2, o3, o4, o5, some (xw x6), o7, o8, o9, o10, o11, o12, o13, o14, o15, o16, o17, o18, o19, o20, o21] [] (T, z, xv V, J, R) = if x6 = 5 then XR sc d 107 1055 [o0, o1, o2, o3, o4, o5, some (xw x6), o7, o8, o9, o10, o11, o12, o13, o14, o15, o16, o17, o18, o19, o20, o21] [] (T, z, xv V, J, R) else XR sc d 107 1109 [o0, o1, o2, o3, o4, o5, some (xw x6), o7, o8, o9, o10, o11, o12, o13, o14, o15, o16, o17, o18, o19, o20, o21] [] (T, z, xv V, J, R) :=
  (sw_iload f_107_1049 rfl).trans ((sw_iconst f_107_1051).trans (sw_icmp_ne (t := 1109) f_107_1052 ⟨by decide, rfl⟩ g1 ⟨by decide, by decide⟩))
theorem bL_isPart_1055 {o0 o1 o3 o4 o5 o6 o7 o8 o9 o11 o12 o13 o14 o15 o16 o17 o18 o19 o20 o21 : Option Value} {x10 : Int} {a2 : Nat} (g1 : -2147483648 ≤ x10 ∧ x10 ≤ 2147483647) : XR sc d 107 1055 [o0, o1, some (.ref a2), o3, o4, o5, o6, o7, o8, o9, some (xw x10), o11, o12, o13, o14, o15, o16, o17, o18, o19, o20, o21] [] (T, z, xv V, J, R) = if x10 = 0 then XR sc d 107 1066 [o0, o1, some (.ref a2), o3, o4, o5, o6, o7, o8, o9, some (xw x10), o11, o12, o13, o14, o15, o16, o17, o18, o19, o20, o21] [.ref a2] (T, z, xv V, J, R) else XR sc d 107 1061 [o0, o1, some (.ref a2), o3, o4, o5, o6, o7, o8, o9, some (xw x10), o11, o12, o13, o14, o15, o16, o17, o18, o19, o20, o21] [.ref a2] (T, z, xv V, J, R) :=
  (st_aload_n f_107_1055 rfl).trans ((sw_iload f_107_1056 rfl).trans (sw_if_eq (t := 1066) f_107_1058 ⟨by decide, rfl⟩ g1))
theorem bL_isPart_1061 {o0 o1 o2 o3 o4 o5 o6 o7 o8 o10 o11 o12 o13 o14 o15 o16 o17 o18 o19 o20 o21 : Option Value} {s0 : Value} {x9 : Int} : XR sc d 107 1061 [o0, o1, o2, o3, o4, o5, o6, o7, o8, some (xw x9), o10, o11, o12, o13, o14, o15, o16, o17, o18, o19, o20, o21] [s0] (T, z, xv V, J, R) = XR sc d 107 1068 [o0, o1, o2, o3, o4, o5, o6, o7, o8, some (xw x9), o10, o11, o12, o13, o14, o15, o16, o17, o18, o19, o20, o21] [xw x9, s0] (T, z, xv V, J, R) :=
  (sw_iload f_107_1061 rfl).trans (st_goto (t := 1068) f_107_1063 ⟨by decide, rfl⟩)
theorem bL_isPart_1066 {o0 o1 o2 o3 o4 o5 o6 o7 o8 o9 o10 o11 o12 o13 o14 o15 o16 o17 o18 o19 o20 o21 : Option Value} {s0 : Value} : XR sc d 107 1066 [o0, o1, o2, o3, o4, o5, o6, o7, o8, o9, o10, o11, o12, o13, o14, o15, o16, o17, o18, o19, o20, o21] [s0] (T, z, xv V, J, R) = XR sc d 107 1068 [o0, o1, o2, o3, o4, o5, o6, o7, o8, o9, o10, o11, o12, o13, o14, o15, o16, o17, o18, o19, o20, o21] [xw 10, s0] (T, z, xv V, J, R) :=
  sw_bipush f_107_1066 c8_10
theorem bL_isPart_1068 {o1 o2 o3 o4 o5 o6 o7 o8 o10 o11 o12 o13 o14 o15 o16 o17 o18 o19 o20 o21 : Option Value} {y0 x9 : Int} {b1 a0 : Nat} (g1 : T b1 = (32, (T b1).2)) (g2 : (0 : Int) ≤ y0 ∧ y0 < ((T b1).2 : Int) ∧ (T b1).2 ≤ 3584) (g3 : 0 ≤ (V b1 y0.toNat) ∧ (V b1 y0.toNat) ≤ 2147483647) : XR sc d 107 1068 [some (.ref a0), o1, o2, o3, o4, o5, o6, o7, o8, some (xw x9), o10, o11, o12, o13, o14, o15, o16, o17, o18, o19, o20, o21] [xw y0, .ref b1] (T, z, xv V, J, R) = xret 107 (XR sc d 107) 1083 1086 [some (.ref a0), o1, o2, o3, o4, o5, o6, o7, o8, some (xw x9), o10, o11, o12, o13, o14, o15, o16, o17, o18, o19, o20, o21] [] (X sc d 92 [.ref a0, xw 10, xw x9, xw 0, xw 0, xw 0, xw 0, xw 0] (T, z, xv (xup2 V b1 y0.toNat ((V b1 y0.toNat) / 2)), J, R)) :=
  (st_dup2 f_107_1068 rfl rfl).trans ((sw_iaload f_107_1069 g1 g2).trans ((sw_iconst f_107_1070).trans ((sw_idiv f_107_1071 ⟨by decide, by decide, g3⟩).trans ((sw_iastore f_107_1072 g1 g2).trans ((st_aload_n f_107_1073 rfl).trans ((sw_bipush f_107_1074 c8_10).trans ((sw_iload f_107_1076 rfl).trans ((sw_iconst f_107_1078).trans ((sw_iconst f_107_1079).trans ((sw_iconst f_107_1080).trans ((sw_iconst f_107_1081).trans ((sw_iconst f_107_1082).trans (st_callS' f_107_1083 h_107_124 mn_92 rfl rfl rfl rfl)))))))))))))
theorem bL_isPart_1086 {o0 o1 o2 o3 o4 o5 o6 o7 o8 o9 o11 o12 o13 o14 o15 o16 o17 o18 o19 o20 o21 : Option Value} {s0 : Value} {x10 : Int} (g1 : -2147483648 ≤ x10 ∧ x10 ≤ 2147483647) : XR sc d 107 1086 [o0, o1, o2, o3, o4, o5, o6, o7, o8, o9, some (xw x10), o11, o12, o13, o14, o15, o16, o17, o18, o19, o20, o21] [s0] (T, z, xv V, J, R) = if x10 = 0 then XR sc d 107 1098 [o0, o1, o2, o3, o4, o5, o6, o7, o8, o9, some (xw x10), o11, o12, o13, o14, o15, o16, o17, o18, o19, o20, o21] [s0] (T, z, xv V, J, R) else XR sc d 107 1091 [o0, o1, o2, o3, o4, o5, o6, o7, o8, o9, some (xw x10), o11, o12, o13, o14, o15, o16, o17, o18, o19, o20, o21] [s0] (T, z, xv V, J, R) :=
  (sw_iload f_107_1086 rfl).trans (sw_if_eq (t := 1098) f_107_1088 ⟨by decide, rfl⟩ g1)
theorem bL_isPart_1091 {o0 o1 o3 o4 o5 o6 o7 o8 o10 o11 o12 o13 o14 o15 o16 o17 o18 o19 o20 o21 : Option Value} {s0 : Value} {x9 : Int} {a2 : Nat} (g1 : T a2 = (32, (T a2).2)) (g2 : (0 : Int) ≤ x9 ∧ x9 < ((T a2).2 : Int) ∧ (T a2).2 ≤ 3584) : XR sc d 107 1091 [o0, o1, some (.ref a2), o3, o4, o5, o6, o7, o8, some (xw x9), o10, o11, o12, o13, o14, o15, o16, o17, o18, o19, o20, o21] [s0] (T, z, xv V, J, R) = XR sc d 107 1100 [o0, o1, some (.ref a2), o3, o4, o5, o6, o7, o8, some (xw x9), o10, o11, o12, o13, o14, o15, o16, o17, o18, o19, o20, o21] [xw (V a2 x9.toNat), s0] (T, z, xv V, J, R) :=
  (st_aload_n f_107_1091 rfl).trans ((sw_iload f_107_1092 rfl).trans ((sw_iaload f_107_1094 g1 g2).trans (st_goto (t := 1100) f_107_1095 ⟨by decide, rfl⟩)))
theorem bL_isPart_1098 {o0 o1 o2 o3 o4 o5 o6 o7 o8 o9 o10 o11 o12 o13 o14 o15 o16 o17 o18 o19 o20 o21 : Option Value} {s0 : Value} : XR sc d 107 1098 [o0, o1, o2, o3, o4, o5, o6, o7, o8, o9, o10, o11, o12, o13, o14, o15, o16, o17, o18, o19, o20, o21] [s0] (T, z, xv V, J, R) = XR sc d 107 1100 [o0, o1, o2, o3, o4, o5, o6, o7, o8, o9, o10, o11, o12, o13, o14, o15, o16, o17, o18, o19, o20, o21] [xw (-3000000), s0] (T, z, xv V, J, R) :=
  sw_ldc (-3000000) f_107_1098 k_107_79 rfl
theorem bL_isPart_1100 {o0 o1 o2 o3 o4 o5 o6 o7 o8 o9 o10 o11 o12 o13 o14 o15 o16 o17 o18 o19 o20 o21 : Option Value} {y0 y1 : Int} (g1 : -2147483648 ≤ y1 ∧ y1 ≤ 2147483647) (g2 : -2147483648 ≤ y0 ∧ y0 ≤ 2147483647) : XR sc d 107 1100 [o0, o1, o2, o3, o4, o5, o6, o7, o8, o9, o10, o11, o12, o13, o14, o15, o16, o17, o18, o19, o20, o21] [xw y0, xw y1] (T, z, xv V, J, R) = if y1 = y0 then XR sc d 107 1103 [o0, o1, o2, o3, o4, o5, o6, o7, o8, o9, o10, o11, o12, o13, o14, o15, o16, o17, o18, o19, o20, o21] [] (T, z, xv V, J, R) else XR sc d 107 1107 [o0, o1, o2, o3, o4, o5, o6, o7, o8, o9, o10, o11, o12, o13, o14, o15, o16, o17, o18, o19, o20, o21] [] (T, z, xv V, J, R) :=
  sw_icmp_ne (t := 1107) f_107_1100 ⟨by decide, rfl⟩ g1 g2
theorem bL_isPart_1103 {o0 o1 o2 o3 o4 o5 o6 o7 o8 o9 o10 o11 o12 o13 o14 o15 o16 o17 o18 o19 o20 o21 : Option Value} : XR sc d 107 1103 [o0, o1, o2, o3, o4, o5, o6, o7, o8, o9, o10, o11, o12, o13, o14, o15, o16, o17, o18, o19, o20, o21] [] (T, z, xv V, J, R) = XR sc d 107 1108 [o0, o1, o2, o3, o4, o5, o6, o7, o8, o9, o10, o11, o12, o13, o14, o15, o16, o17, o18, o19, o20, o21] [xw 1] (T, z, xv V, J, R) :=
  (sw_iconst f_107_1103).trans (st_goto (t := 1108) f_107_1104 ⟨by decide, rfl⟩)
theorem bL_isPart_1107 {o0 o1 o2 o3 o4 o5 o6 o7 o8 o9 o10 o11 o12 o13 o14 o15 o16 o17 o18 o19 o20 o21 : Option Value} : XR sc d 107 1107 [o0, o1, o2, o3, o4, o5, o6, o7, o8, o9, o10, o11, o12, o13, o14, o15, o16, o17, o18, o19, o20, o21] [] (T, z, xv V, J, R) = XR sc d 107 1108 [o0, o1, o2, o3, o4, o5, o6, o7, o8, o9, o10, o11, o12, o13, o14, o15, o16, o17, o18, o19, o20, o21] [xw 0] (T, z, xv V, J, R) :=
  sw_iconst f_107_1107
theorem bL_isPart_1108 {o0 o1 o2 o3 o4 o5 o6 o7 o8 o9 o10 o11 o12 o13 o14 o15 o16 o17 o18 o19 o20 o21 : Option Value} {y0 : Int} (g1 : y0 = 0 ∨ y0 = 1) : XR sc d 107 1108 [o0, o1, o2, o3, o4, o5, o6, o7, o8, o9, o10, o11, o12, o13, o14, o15, o16, o17, o18, o19, o20, o21] [xw y0] (T, z, xv V, J, R) = some (.inl (some (xw y0)), (T, z, xv V, J, R)) :=
  sw_zreturn f_107_1108 mr_107 g1
theorem bL_isPart_1109 {o0 o1 o2 o3 o4 o6 o9 o11 o12 o13 o14 o15 o16 o17 o18 o19 o20 o21 : Option Value} {x8 x7 x10 : Int} {a5 : Nat} (g1 : T a5 = (32, (T a5).2)) (g2 : (0 : Int) ≤ 1 ∧ 1 < ((T a5).2 : Int) ∧ (T a5).2 ≤ 3584) (g3 : 0 < ((V a5 1) + 1) ∧ ((V a5 1) + 1) ≤ 2147483647 ∧ 0 ≤ x8 ∧ x8 ≤ 2147483647) (g4 : 0 ≤ x8 ∧ x8 ≤ 2147483647) (g5 : 0 ≤ (x8 / 11) ∧ (x8 / 11) ≤ 2147483647) (g6 : 0 ≤ x7 ∧ x7 ≤ 2147483647) (g7 : 0 ≤ (x7 / 11) ∧ (x7 / 11) ≤ 2147483647) (g8 : -2147483648 ≤ x10 ∧ x10 ≤ 2147483647) : XR sc d 107 1109 [o0, o1, o2, o3, o4, some (.ref a5), o6, some (xw x7), some (xw x8), o9, some (xw x10), o11, o12, o13, o14, o15, o16, o17, o18, o19, o20, o21] [] (T, z, xv V, J, R) = if x10 = 0 then XR sc d 107 1158 [o0, o1, o2, o3, o4, some (.ref a5), o6, some (xw x7), some (xw x8), o9, some (xw x10), o11, o12, some (xw (x8 % ((V a5 1) + 1))), some (xw ((x8 / 11) % 14)), some (xw ((x7 / 11) % 52)), o16, o17, o18, o19, o20, o21] [] (T, z, xv V, J, R) else XR sc d 107 1145 [o0, o1, o2, o3, o4, some (.ref a5), o6, some (xw x7), some (xw x8), o9, some (xw x10), o11, o12, some (xw (x8 % ((V a5 1) + 1))), some (xw ((x8 / 11) % 14)), some (xw ((x7 / 11) % 52)), o16, o17, o18, o19, o20, o21] [] (T, z, xv V, J, R) :=
  (sw_iload f_107_1109 rfl).trans ((st_aload f_107_1111 rfl).trans ((sw_iconst f_107_1113).trans ((sw_iaload f_107_1114 g1 g2).trans ((sw_iconst f_107_1115).trans ((sw_iadd f_107_1116).trans ((sw_irem f_107_1117 g3).trans ((sw_istore (L' := [o0, o1, o2, o3, o4, some (.ref a5), o6, some (xw x7), some (xw x8), o9, some (xw x10), o11, o12, some (xw (x8 % ((V a5 1) + 1))), o14, o15, o16, o17, o18, o19, o20, o21]) f_107_1118 (Nat.le_of_ble_eq_true rfl) rfl).trans ((sw_iload f_107_1120 rfl).trans ((sw_bipush f_107_1122 c8_11).trans ((sw_idiv f_107_1124 ⟨by decide, by decide, g4⟩).trans ((sw_bipush f_107_1125 c8_14).trans ((sw_irem f_107_1127 ⟨by decide, by decide, g5⟩).trans ((sw_istore (L' := [o0, o1, o2, o3, o4, some (.ref a5), o6, some (xw x7), some (xw x8), o9, some (xw x10), o11, o12, some (xw (x8 % ((V a5 1) + 1))), some (xw ((x8 / 11) % 14)), o15, o16, o17, o18, o19, o20, o21]) f_107_1128 (Nat.le_of_ble_eq_true rfl) rfl).trans ((sw_iload f_107_1130 rfl).trans ((sw_bipush f_107_1132 c8_11).trans ((sw_idiv f_107_1134 ⟨by decide, by decide, g6⟩).trans ((sw_bipush f_107_1135 c8_52).trans ((sw_irem f_107_1137 ⟨by decide, by decide, g7⟩).trans ((sw_istore (L' := [o0, o1, o2, o3, o4, some (.ref a5), o6, some (xw x7), some (xw x8), o9, some (xw x10), o11, o12, some (xw (x8 % ((V a5 1) + 1))), some (xw ((x8 / 11) % 14)), some (xw ((x7 / 11) % 52)), o16, o17, o18, o19, o20, o21]) f_107_1138 (Nat.le_of_ble_eq_true rfl) rfl).trans ((sw_iload f_107_1140 rfl).trans (sw_if_eq (t := 1158) f_107_1142 ⟨by decide, rfl⟩ g8)))))))))))))))))))))
theorem bL_isPart_1145 {o0 o1 o2 o3 o4 o6 o7 o8 o9 o10 o11 o12 o14 o15 o16 o17 o18 o19 o20 o21 : Option Value} {x13 : Int} {a5 : Nat} (g1 : T a5 = (32, (T a5).2)) (g2 : (0 : Int) ≤ 1 ∧ 1 < ((T a5).2 : Int) ∧ (T a5).2 ≤ 3584) (g3 : -2147483648 ≤ x13 ∧ x13 ≤ 2147483647) (g4 : -2147483648 ≤ (V a5 1) ∧ (V a5 1) ≤ 2147483647) : XR sc d 107 1145 [o0, o1, o2, o3, o4, some (.ref a5), o6, o7, o8, o9, o10, o11, o12, some (xw x13), o14, o15, o16, o17, o18, o19, o20, o21] [] (T, z, xv V, J, R) = if (V a5 1) ≤ x13 then XR sc d 107 1158 [o0, o1, o2, o3, o4, some (.ref a5), o6, o7, o8, o9, o10, o11, o12, some (xw x13), o14, o15, o16, o17, o18, o19, o20, o21] [] (T, z, xv V, J, R) else XR sc d 107 1154 [o0, o1, o2, o3, o4, some (.ref a5), o6, o7, o8, o9, o10, o11, o12, some (xw x13), o14, o15, o16, o17, o18, o19, o20, o21] [] (T, z, xv V, J, R) :=
  (sw_iload f_107_1145 rfl).trans ((st_aload f_107_1147 rfl).trans ((sw_iconst f_107_1149).trans ((sw_iaload f_107_1150 g1 g2).trans (sw_icmp_ge (t := 1158) f_107_1151 ⟨by decide, rfl⟩ g3 g4))))
theorem bL_isPart_1154 {o0 o1 o2 o3 o4 o5 o6 o7 o8 o9 o10 o11 o12 o13 o14 o15 o16 o17 o18 o19 o20 o21 : Option Value} : XR sc d 107 1154 [o0, o1, o2, o3, o4, o5, o6, o7, o8, o9, o10, o11, o12, o13, o14, o15, o16, o17, o18, o19, o20, o21] [] (T, z, xv V, J, R) = XR sc d 107 1159 [o0, o1, o2, o3, o4, o5, o6, o7, o8, o9, o10, o11, o12, o13, o14, o15, o16, o17, o18, o19, o20, o21] [xw 1] (T, z, xv V, J, R) :=
  (sw_iconst f_107_1154).trans (st_goto (t := 1159) f_107_1155 ⟨by decide, rfl⟩)
theorem bL_isPart_1158 {o0 o1 o2 o3 o4 o5 o6 o7 o8 o9 o10 o11 o12 o13 o14 o15 o16 o17 o18 o19 o20 o21 : Option Value} : XR sc d 107 1158 [o0, o1, o2, o3, o4, o5, o6, o7, o8, o9, o10, o11, o12, o13, o14, o15, o16, o17, o18, o19, o20, o21] [] (T, z, xv V, J, R) = XR sc d 107 1159 [o0, o1, o2, o3, o4, o5, o6, o7, o8, o9, o10, o11, o12, o13, o14, o15, o16, o17, o18, o19, o20, o21] [xw 0] (T, z, xv V, J, R) :=
  sw_iconst f_107_1158
theorem bL_isPart_1159 {o0 o1 o2 o3 o4 o5 o6 o7 o8 o10 o11 o12 o14 o15 o16 o17 o18 o19 o20 o21 : Option Value} {y0 x9 x13 : Int} (g1 : -2147483648 ≤ x9 ∧ x9 ≤ 2147483647) (g2 : -2147483648 ≤ x13 ∧ x13 ≤ 2147483647) : XR sc d 107 1159 [o0, o1, o2, o3, o4, o5, o6, o7, o8, some (xw x9), o10, o11, o12, some (xw x13), o14, o15, o16, o17, o18, o19, o20, o21] [xw y0] (T, z, xv V, J, R) = if x9 = x13 then XR sc d 107 1196 [o0, o1, o2, o3, o4, o5, o6, o7, o8, some (xw x9), o10, o11, o12, some (xw x13), o14, o15, some (xw y0), o17, o18, o19, o20, o21] [] (T, z, xv V, J, R) else XR sc d 107 1168 [o0, o1, o2, o3, o4, o5, o6, o7, o8, some (xw x9), o10, o11, o12, some (xw x13), o14, o15, some (xw y0), o17, o18, o19, o20, o21] [] (T, z, xv V, J, R) :=
  (sw_istore (L' := [o0, o1, o2, o3, o4, o5, o6, o7, o8, some (xw x9), o10, o11, o12, some (xw x13), o14, o15, some (xw y0), o17, o18, o19, o20, o21]) f_107_1159 (Nat.le_of_ble_eq_true rfl) rfl).trans ((sw_iload f_107_1161 rfl).trans ((sw_iload f_107_1163 rfl).trans (sw_icmp_eq (t := 1196) f_107_1165 ⟨by decide, rfl⟩ g1 g2)))
theorem bL_isPart_1168 {o0 o1 o2 o3 o4 o5 o6 o7 o8 o9 o10 o11 o12 o13 o15 o16 o17 o18 o19 o20 o21 : Option Value} {x14 : Int} (g1 : -2147483648 ≤ x14 ∧ x14 ≤ 2147483647) : XR sc d 107 1168 [o0, o1, o2, o3, o4, o5, o6, o7, o8, o9, o10, o11, o12, o13, some (xw x14), o15, o16, o17, o18, o19, o20, o21] [] (T, z, xv V, J, R) = if x14 ≤ 0 then XR sc d 107 1196 [o0, o1, o2, o3, o4, o5, o6, o7, o8, o9, o10, o11, o12, o13, some (xw x14), o15, o16, o17, o18, o19, o20, o21] [] (T, z, xv V, J, R) else XR sc d 107 1173 [o0, o1, o2, o3, o4, o5, o6, o7, o8, o9, o10, o11, o12, o13, some (xw x14), o15, o16, o17, o18, o19, o20, o21] [] (T, z, xv V, J, R) :=
  (sw_iload f_107_1168 rfl).trans (sw_if_le (t := 1196) f_107_1170 ⟨by decide, rfl⟩ g1)
theorem bL_isPart_1173 {o0 o1 o2 o3 o4 o5 o6 o7 o8 o9 o10 o11 o12 o13 o15 o16 o17 o18 o19 o20 o21 : Option Value} {x14 : Int} (g1 : -2147483648 ≤ x14 ∧ x14 ≤ 2147483647) : XR sc d 107 1173 [o0, o1, o2, o3, o4, o5, o6, o7, o8, o9, o10, o11, o12, o13, some (xw x14), o15, o16, o17, o18, o19, o20, o21] [] (T, z, xv V, J, R) = if 13 ≤ x14 then XR sc d 107 1196 [o0, o1, o2, o3, o4, o5, o6, o7, o8, o9, o10, o11, o12, o13, some (xw x14), o15, o16, o17, o18, o19, o20, o21] [] (T, z, xv V, J, R) else XR sc d 107 1180 [o0, o1, o2, o3, o4, o5, o6, o7, o8, o9, o10, o11, o12, o13, some (xw x14), o15, o16, o17, o18, o19, o20, o21] [] (T, z, xv V, J, R) :=
  (sw_iload f_107_1173 rfl).trans ((sw_bipush f_107_1175 c8_13).trans (sw_icmp_ge (t := 1196) f_107_1177 ⟨by decide, rfl⟩ g1 ⟨by decide, by decide⟩))
theorem bL_isPart_1180 {o0 o1 o2 o3 o4 o5 o6 o7 o8 o9 o10 o11 o12 o13 o14 o16 o17 o18 o19 o20 o21 : Option Value} {x15 : Int} (g1 : -2147483648 ≤ x15 ∧ x15 ≤ 2147483647) : XR sc d 107 1180 [o0, o1, o2, o3, o4, o5, o6, o7, o8, o9, o10, o11, o12, o13, o14, some (xw x15), o16, o17, o18, o19, o20, o21] [] (T, z, xv V, J, R) = if x15 ≤ 0 then XR sc d 107 1196 [o0, o1, o2, o3, o4, o5, o6, o7, o8, o9, o10, o11, o12, o13, o14, some (xw x15), o16, o17, o18, o19, o20, o21] [] (T, z, xv V, J, R) else XR sc d 107 1185 [o0, o1, o2, o3, o4, o5, o6, o7, o8, o9, o10, o11, o12, o13, o14, some (xw x15), o16, o17, o18, o19, o20, o21] [] (T, z, xv V, J, R) :=
  (sw_iload f_107_1180 rfl).trans (sw_if_le (t := 1196) f_107_1182 ⟨by decide, rfl⟩ g1)
theorem bL_isPart_1185 {o0 o1 o2 o3 o4 o5 o6 o7 o8 o9 o10 o11 o12 o13 o14 o16 o17 o18 o19 o20 o21 : Option Value} {x15 : Int} (g1 : -2147483648 ≤ x15 ∧ x15 ≤ 2147483647) : XR sc d 107 1185 [o0, o1, o2, o3, o4, o5, o6, o7, o8, o9, o10, o11, o12, o13, o14, some (xw x15), o16, o17, o18, o19, o20, o21] [] (T, z, xv V, J, R) = if 51 ≤ x15 then XR sc d 107 1196 [o0, o1, o2, o3, o4, o5, o6, o7, o8, o9, o10, o11, o12, o13, o14, some (xw x15), o16, o17, o18, o19, o20, o21] [] (T, z, xv V, J, R) else XR sc d 107 1192 [o0, o1, o2, o3, o4, o5, o6, o7, o8, o9, o10, o11, o12, o13, o14, some (xw x15), o16, o17, o18, o19, o20, o21] [] (T, z, xv V, J, R) :=
  (sw_iload f_107_1185 rfl).trans ((sw_bipush f_107_1187 c8_51).trans (sw_icmp_ge (t := 1196) f_107_1189 ⟨by decide, rfl⟩ g1 ⟨by decide, by decide⟩))
theorem bL_isPart_1192 {o0 o1 o2 o3 o4 o5 o6 o7 o8 o9 o10 o11 o12 o13 o14 o15 o16 o17 o18 o19 o20 o21 : Option Value} : XR sc d 107 1192 [o0, o1, o2, o3, o4, o5, o6, o7, o8, o9, o10, o11, o12, o13, o14, o15, o16, o17, o18, o19, o20, o21] [] (T, z, xv V, J, R) = XR sc d 107 1197 [o0, o1, o2, o3, o4, o5, o6, o7, o8, o9, o10, o11, o12, o13, o14, o15, o16, o17, o18, o19, o20, o21] [xw 1] (T, z, xv V, J, R) :=
  (sw_iconst f_107_1192).trans (st_goto (t := 1197) f_107_1193 ⟨by decide, rfl⟩)
theorem bL_isPart_1196 {o0 o1 o2 o3 o4 o5 o6 o7 o8 o9 o10 o11 o12 o13 o14 o15 o16 o17 o18 o19 o20 o21 : Option Value} : XR sc d 107 1196 [o0, o1, o2, o3, o4, o5, o6, o7, o8, o9, o10, o11, o12, o13, o14, o15, o16, o17, o18, o19, o20, o21] [] (T, z, xv V, J, R) = XR sc d 107 1197 [o0, o1, o2, o3, o4, o5, o6, o7, o8, o9, o10, o11, o12, o13, o14, o15, o16, o17, o18, o19, o20, o21] [xw 0] (T, z, xv V, J, R) :=
  sw_iconst f_107_1196
theorem bL_isPart_1197 {o0 o1 o2 o3 o4 o5 o6 o7 o8 o9 o10 o11 o12 o13 o14 o15 o17 o18 o19 o20 o21 : Option Value} {y0 x16 : Int} (g1 : -2147483648 ≤ x16 ∧ x16 ≤ 2147483647) : XR sc d 107 1197 [o0, o1, o2, o3, o4, o5, o6, o7, o8, o9, o10, o11, o12, o13, o14, o15, some (xw x16), o17, o18, o19, o20, o21] [xw y0] (T, z, xv V, J, R) = if x16 = 0 then XR sc d 107 1261 [o0, o1, o2, o3, o4, o5, o6, o7, o8, o9, o10, o11, o12, o13, o14, o15, some (xw x16), some (xw y0), o18, o19, o20, o21] [] (T, z, xv V, J, R) else XR sc d 107 1204 [o0, o1, o2, o3, o4, o5, o6, o7, o8, o9, o10, o11, o12, o13, o14, o15, some (xw x16), some (xw y0), o18, o19, o20, o21] [] (T, z, xv V, J, R) :=
  (sw_istore (L' := [o0, o1, o2, o3, o4, o5, o6, o7, o8, o9, o10, o11, o12, o13, o14, o15, some (xw x16), some (xw y0), o18, o19, o20, o21]) f_107_1197 (Nat.le_of_ble_eq_true rfl) rfl).trans ((sw_iload f_107_1199 rfl).trans (sw_if_eq (t := 1261) f_107_1201 ⟨by decide, rfl⟩ g1))
theorem bL_isPart_1204 {o0 o1 o2 o3 o4 o5 o6 o7 o8 o9 o10 o11 o12 o13 o14 o15 o16 o18 o19 o20 o21 : Option Value} {x17 : Int} (g1 : -2147483648 ≤ x17 ∧ x17 ≤ 2147483647) : XR sc d 107 1204 [o0, o1, o2, o3, o4, o5, o6, o7, o8, o9, o10, o11, o12, o13, o14, o15, o16, some (xw x17), o18, o19, o20, o21] [] (T, z, xv V, J, R) = if x17 = 0 then XR sc d 107 1261 [o0, o1, o2, o3, o4, o5, o6, o7, o8, o9, o10, o11, o12, o13, o14, o15, o16, some (xw x17), o18, o19, o20, o21] [] (T, z, xv V, J, R) else XR sc d 107 1209 [o0, o1, o2, o3, o4, o5, o6, o7, o8, o9, o10, o11, o12, o13, o14, o15, o16, some (xw x17), o18, o19, o20, o21] [] (T, z, xv V, J, R) :=
  (sw_iload f_107_1204 rfl).trans (sw_if_eq (t := 1261) f_107_1206 ⟨by decide, rfl⟩ g1)
theorem bL_isPart_1209 {o0 o1 o2 o3 o4 o5 o6 o7 o8 o9 o10 o11 o13 o14 o15 o16 o17 o18 o19 o20 o21 : Option Value} {x12 : Int} (g1 : -2147483648 ≤ x12 ∧ x12 ≤ 2147483647) : XR sc d 107 1209 [o0, o1, o2, o3, o4, o5, o6, o7, o8, o9, o10, o11, some (xw x12), o13, o14, o15, o16, o17, o18, o19, o20, o21] [] (T, z, xv V, J, R) = if x12 = 0 then XR sc d 107 1261 [o0, o1, o2, o3, o4, o5, o6, o7, o8, o9, o10, o11, some (xw x12), o13, o14, o15, o16, o17, o18, o19, o20, o21] [] (T, z, xv V, J, R) else XR sc d 107 1214 [o0, o1, o2, o3, o4, o5, o6, o7, o8, o9, o10, o11, some (xw x12), o13, o14, o15, o16, o17, o18, o19, o20, o21] [] (T, z, xv V, J, R) :=
  (sw_iload f_107_1209 rfl).trans (sw_if_eq (t := 1261) f_107_1211 ⟨by decide, rfl⟩ g1)
theorem bL_isPart_1214 {o0 o1 o2 o3 o5 o6 o7 o8 o9 o10 o11 o12 o14 o15 o16 o17 o18 o19 o20 o21 : Option Value} {x13 : Int} {a4 : Nat} (g1 : T a4 = (32, (T a4).2)) (g2 : (0 : Int) ≤ x13 ∧ x13 < ((T a4).2 : Int) ∧ (T a4).2 ≤ 3584) (g3 : -2147483648 ≤ (V a4 x13.toNat) ∧ (V a4 x13.toNat) ≤ 2147483647) : XR sc d 107 1214 [o0, o1, o2, o3, some (.ref a4), o5, o6, o7, o8, o9, o10, o11, o12, some (xw x13), o14, o15, o16, o17, o18, o19, o20, o21] [] (T, z, xv V, J, R) = if (V a4 x13.toNat) = 0 then XR sc d 107 1222 [o0, o1, o2, o3, some (.ref a4), o5, o6, o7, o8, o9, o10, o11, o12, some (xw x13), o14, o15, o16, o17, o18, o19, o20, o21] [] (T, z, xv V, J, R) else XR sc d 107 1261 [o0, o1, o2, o3, some (.ref a4), o5, o6, o7, o8, o9, o10, o11, o12, some (xw x13), o14, o15, o16, o17, o18, o19, o20, o21] [] (T, z, xv V, J, R) :=
  (st_aload f_107_1214 rfl).trans ((sw_iload f_107_1216 rfl).trans ((sw_iaload f_107_1218 g1 g2).trans (sw_if_ne (t := 1261) f_107_1219 ⟨by decide, rfl⟩ g3)))
theorem bL_isPart_1222 {o0 o2 o3 o4 o5 o6 o7 o8 o9 o10 o11 o12 o14 o15 o16 o17 o18 o19 o20 o21 : Option Value} {x13 : Int} {a1 : Nat} (g1 : T a1 = (32, (T a1).2)) (g2 : (0 : Int) ≤ x13 ∧ x13 < ((T a1).2 : Int) ∧ (T a1).2 ≤ 3584) (g3 : -2147483648 ≤ (V a1 x13.toNat) ∧ (V a1 x13.toNat) ≤ 2147483647) : XR sc d 107 1222 [o0, some (.ref a1), o2, o3, o4, o5, o6, o7, o8, o9, o10, o11, o12, some (xw x13), o14, o15, o16, o17, o18, o19, o20, o21] [] (T, z, xv V, J, R) = if 524288 ≤ (V a1 x13.toNat) then XR sc d 107 1261 [o0, some (.ref a1), o2, o3, o4, o5, o6, o7, o8, o9, o10, o11, o12, some (xw x13), o14, o15, o16, o17, o18, o19, o20, o21] [] (T, z, xv V, J, R) else XR sc d 107 1231 [o0, some (.ref a1), o2, o3, o4, o5, o6, o7, o8, o9, o10, o11, o12, some (xw x13), o14, o15, o16, o17, o18, o19, o20, o21] [] (T, z, xv V, J, R) :=
  (st_aload_n f_107_1222 rfl).trans ((sw_iload f_107_1223 rfl).trans ((sw_iaload f_107_1225 g1 g2).trans ((sw_ldc 524288 f_107_1226 k_107_111 rfl).trans (sw_icmp_ge (t := 1261) f_107_1228 ⟨by decide, rfl⟩ g3 ⟨by decide, by decide⟩))))
theorem bL_isPart_1231 {o0 o1 o2 o3 o4 o5 o6 o7 o8 o9 o10 o12 o13 o14 o15 o16 o17 o18 o19 o20 o21 : Option Value} {x11 : Int} (g1 : 0 ≤ x11 ∧ x11 ≤ 2147483647) (g2 : 0 ≤ (x11 / 65536) ∧ (x11 / 65536) ≤ 2147483647) (g3 : -2147483648 ≤ ((x11 / 65536) % 8) ∧ ((x11 / 65536) % 8) ≤ 2147483647) : XR sc d 107 1231 [o0, o1, o2, o3, o4, o5, o6, o7, o8, o9, o10, some (xw x11), o12, o13, o14, o15, o16, o17, o18, o19, o20, o21] [] (T, z, xv V, J, R) = if 4 ≤ ((x11 / 65536) % 8) then XR sc d 107 1261 [o0, o1, o2, o3, o4, o5, o6, o7, o8, o9, o10, some (xw x11), o12, o13, o14, o15, o16, o17, o18, o19, o20, o21] [] (T, z, xv V, J, R) else XR sc d 107 1243 [o0, o1, o2, o3, o4, o5, o6, o7, o8, o9, o10, some (xw x11), o12, o13, o14, o15, o16, o17, o18, o19, o20, o21] [] (T, z, xv V, J, R) :=
  (sw_iload f_107_1231 rfl).trans ((sw_ldc 65536 f_107_1233 k_107_123 rfl).trans ((sw_idiv f_107_1235 ⟨by decide, by decide, g1⟩).trans ((sw_bipush f_107_1236 c8_8).trans ((sw_irem f_107_1238 ⟨by decide, by decide, g2⟩).trans ((sw_iconst f_107_1239).trans (sw_icmp_ge (t := 1261) f_107_1240 ⟨by decide, rfl⟩ g3 ⟨by decide, by decide⟩))))))
theorem bL_isPart_1243 {o0 o2 o3 o4 o5 o6 o7 o8 o9 o10 o11 o12 o14 o15 o16 o17 o18 o19 o20 o21 : Option Value} {x13 : Int} {a1 : Nat} (g1 : T a1 = (32, (T a1).2)) (g2 : (0 : Int) ≤ x13 ∧ x13 < ((T a1).2 : Int) ∧ (T a1).2 ≤ 3584) (g3 : 0 ≤ (V a1 x13.toNat) ∧ (V a1 x13.toNat) ≤ 2147483647) (g4 : 0 ≤ ((V a1 x13.toNat) / 65536) ∧ ((V a1 x13.toNat) / 65536) ≤ 2147483647) (g5 : -2147483648 ≤ (((V a1 x13.toNat) / 65536) % 8) ∧ (((V a1 x13.toNat) / 65536) % 8) ≤ 2147483647) : XR sc d 107 1243 [o0, some (.ref a1), o2, o3, o4, o5, o6, o7, o8, o9, o10, o11, o12, some (xw x13), o14, o15, o16, o17, o18, o19, o20, o21] [] (T, z, xv V, J, R) = if 4 ≤ (((V a1 x13.toNat) / 65536) % 8) then XR sc d 107 1261 [o0, some (.ref a1), o2, o3, o4, o5, o6, o7, o8, o9, o10, o11, o12, some (xw x13), o14, o15, o16, o17, o18, o19, o20, o21] [] (T, z, xv V, J, R) else XR sc d 107 1257 [o0, some (.ref a1), o2, o3, o4, o5, o6, o7, o8, o9, o10, o11, o12, some (xw x13), o14, o15, o16, o17, o18, o19, o20, o21] [] (T, z, xv V, J, R) :=
  (st_aload_n f_107_1243 rfl).trans ((sw_iload f_107_1244 rfl).trans ((sw_iaload f_107_1246 g1 g2).trans ((sw_ldc 65536 f_107_1247 k_107_123 rfl).trans ((sw_idiv f_107_1249 ⟨by decide, by decide, g3⟩).trans ((sw_bipush f_107_1250 c8_8).trans ((sw_irem f_107_1252 ⟨by decide, by decide, g4⟩).trans ((sw_iconst f_107_1253).trans (sw_icmp_ge (t := 1261) f_107_1254 ⟨by decide, rfl⟩ g5 ⟨by decide, by decide⟩))))))))
theorem bL_isPart_1257 {o0 o1 o2 o3 o4 o5 o6 o7 o8 o9 o10 o11 o12 o13 o14 o15 o16 o17 o18 o19 o20 o21 : Option Value} : XR sc d 107 1257 [o0, o1, o2, o3, o4, o5, o6, o7, o8, o9, o10, o11, o12, o13, o14, o15, o16, o17, o18, o19, o20, o21] [] (T, z, xv V, J, R) = XR sc d 107 1262 [o0, o1, o2, o3, o4, o5, o6, o7, o8, o9, o10, o11, o12, o13, o14, o15, o16, o17, o18, o19, o20, o21] [xw 1] (T, z, xv V, J, R) :=
  (sw_iconst f_107_1257).trans (st_goto (t := 1262) f_107_1258 ⟨by decide, rfl⟩)
theorem bL_isPart_1261 {o0 o1 o2 o3 o4 o5 o6 o7 o8 o9 o10 o11 o12 o13 o14 o15 o16 o17 o18 o19 o20 o21 : Option Value} : XR sc d 107 1261 [o0, o1, o2, o3, o4, o5, o6, o7, o8, o9, o10, o11, o12, o13, o14, o15, o16, o17, o18, o19, o20, o21] [] (T, z, xv V, J, R) = XR sc d 107 1262 [o0, o1, o2, o3, o4, o5, o6, o7, o8, o9, o10, o11, o12, o13, o14, o15, o16, o17, o18, o19, o20, o21] [xw 0] (T, z, xv V, J, R) :=
  sw_iconst f_107_1261
theorem bL_isPart_1262 {o0 o1 o2 o3 o4 o5 o6 o7 o8 o9 o10 o11 o12 o13 o14 o15 o16 o17 o18 o19 o20 o21 : Option Value} {y0 : Int} (g1 : -2147483648 ≤ y0 ∧ y0 ≤ 2147483647) : XR sc d 107 1262 [o0, o1, o2, o3, o4, o5, o6, o7, o8, o9, o10, o11, o12, o13, o14, o15, o16, o17, o18, o19, o20, o21] [xw y0] (T, z, xv V, J, R) = if y0 = 0 then XR sc d 107 1407 [o0, o1, o2, o3, o4, o5, o6, o7, o8, o9, o10, o11, o12, o13, o14, o15, o16, o17, some (xw y0), some (xw 0), o20, o21] [] (T, z, xv V, J, R) else XR sc d 107 1272 [o0, o1, o2, o3, o4, o5, o6, o7, o8, o9, o10, o11, o12, o13, o14, o15, o16, o17, some (xw y0), some (xw 0), o20, o21] [] (T, z, xv V, J, R) :=
  (sw_istore (L' := [o0, o1, o2, o3, o4, o5, o6, o7, o8, o9, o10, o11, o12, o13, o14, o15, o16, o17, some (xw y0), o19, o20, o21]) f_107_1262 (Nat.le_of_ble_eq_true rfl) rfl).trans ((sw_iconst f_107_1264).trans ((sw_istore (L' := [o0, o1, o2, o3, o4, o5, o6, o7, o8, o9, o10, o11, o12, o13, o14, o15, o16, o17, some (xw y0), some (xw 0), o20, o21]) f_107_1265 (Nat.le_of_ble_eq_true rfl) rfl).trans ((sw_iload f_107_1267 rfl).trans (sw_if_eq (t := 1407) f_107_1269 ⟨by decide, rfl⟩ g1))))
theorem bL_isPart_1272 {o0 o2 o3 o4 o5 o6 o7 o8 o9 o10 o12 o14 o15 o16 o17 o18 o19 o20 o21 : Option Value} {x11 x13 : Int} {a1 : Nat} (g1 : 0 ≤ x11 ∧ x11 ≤ 2147483647) (g2 : T a1 = (32, (T a1).2)) (g3 : (0 : Int) ≤ x13 ∧ x13 < ((T a1).2 : Int) ∧ (T a1).2 ≤ 3584) (g4 : 0 ≤ (V a1 x13.toNat) ∧ (V a1 x13.toNat) ≤ 2147483647) (g5 : -2147483648 ≤ (x11 % 16) ∧ (x11 % 16) ≤ 2147483647) (g6 : -2147483648 ≤ ((V a1 x13.toNat) % 16) ∧ ((V a1 x13.toNat) % 16) ≤ 2147483647) : XR sc d 107 1272 [o0, some (.ref a1), o2, o3, o4, o5, o6, o7, o8, o9, o10, some (xw x11), o12, some (xw x13), o14, o15, o16, o17, o18, o19, o20, o21] [] (T, z, xv V, J, R) = if ((V a1 x13.toNat) % 16) ≤ (x11 % 16) then XR sc d 107 1295 [o0, some (.ref a1), o2, o3, o4, o5, o6, o7, o8, o9, o10, some (xw x11), o12, some (xw x13), o14, o15, o16, o17, o18, o19, o20, o21] [] (T, z, xv V, J, R) else XR sc d 107 1287 [o0, some (.ref a1), o2, o3, o4, o5, o6, o7, o8, o9, o10, some (xw x11), o12, some (xw x13), o14, o15, o16, o17, o18, o19, o20, o21] [] (T, z, xv V, J, R) :=
  (sw_iload f_107_1272 rfl).trans ((sw_bipush f_107_1274 c8_16).trans ((sw_irem f_107_1276 ⟨by decide, by decide, g1⟩).trans ((st_aload_n f_107_1277 rfl).trans ((sw_iload f_107_1278 rfl).trans ((sw_iaload f_107_1280 g2 g3).trans ((sw_bipush f_107_1281 c8_16).trans ((sw_irem f_107_1283 ⟨by decide, by decide, g4⟩).trans (sw_icmp_ge (t := 1295) f_107_1284 ⟨by decide, rfl⟩ g5 g6))))))))
theorem bL_isPart_1287 {o0 o1 o2 o3 o4 o5 o6 o7 o8 o9 o10 o12 o13 o14 o15 o16 o17 o18 o19 o20 o21 : Option Value} {x11 : Int} (g1 : 0 ≤ x11 ∧ x11 ≤ 2147483647) : XR sc d 107 1287 [o0, o1, o2, o3, o4, o5, o6, o7, o8, o9, o10, some (xw x11), o12, o13, o14, o15, o16, o17, o18, o19, o20, o21] [] (T, z, xv V, J, R) = XR sc d 107 1302 [o0, o1, o2, o3, o4, o5, o6, o7, o8, o9, o10, some (xw x11), o12, o13, o14, o15, o16, o17, o18, o19, o20, o21] [xw (x11 % 16)] (T, z, xv V, J, R) :=
  (sw_iload f_107_1287 rfl).trans ((sw_bipush f_107_1289 c8_16).trans ((sw_irem f_107_1291 ⟨by decide, by decide, g1⟩).trans (st_goto (t := 1302) f_107_1292 ⟨by decide, rfl⟩)))
theorem bL_isPart_1295 {o0 o2 o3 o4 o5 o6 o7 o8 o9 o10 o11 o12 o14 o15 o16 o17 o18 o19 o20 o21 : Option Value} {x13 : Int} {a1 : Nat} (g1 : T a1 = (32, (T a1).2)) (g2 : (0 : Int) ≤ x13 ∧ x13 < ((T a1).2 : Int) ∧ (T a1).2 ≤ 3584) (g3 : 0 ≤ (V a1 x13.toNat) ∧ (V a1 x13.toNat) ≤ 2147483647) : XR sc d 107 1295 [o0, some (.ref a1), o2, o3, o4, o5, o6, o7, o8, o9, o10, o11, o12, some (xw x13), o14, o15, o16, o17, o18, o19, o20, o21] [] (T, z, xv V, J, R) = XR sc d 107 1302 [o0, some (.ref a1), o2, o3, o4, o5, o6, o7, o8, o9, o10, o11, o12, some (xw x13), o14, o15, o16, o17, o18, o19, o20, o21] [xw ((V a1 x13.toNat) % 16)] (T, z, xv V, J, R) :=
  (st_aload_n f_107_1295 rfl).trans ((sw_iload f_107_1296 rfl).trans ((sw_iaload f_107_1298 g1 g2).trans ((sw_bipush f_107_1299 c8_16).trans (sw_irem f_107_1301 ⟨by decide, by decide, g3⟩))))
theorem bL_isPart_1302 {o0 o2 o3 o4 o5 o6 o7 o8 o9 o10 o12 o14 o15 o16 o17 o18 o19 o20 o21 : Option Value} {y0 x11 x13 : Int} {a1 : Nat} (g1 : 0 ≤ x11 ∧ x11 ≤ 2147483647) (g2 : 0 ≤ (x11 / 256) ∧ (x11 / 256) ≤ 2147483647) (g3 : T a1 = (32, (T a1).2)) (g4 : (0 : Int) ≤ x13 ∧ x13 < ((T a1).2 : Int) ∧ (T a1).2 ≤ 3584) (g5 : 0 ≤ (V a1 x13.toNat) ∧ (V a1 x13.toNat) ≤ 2147483647) (g6 : 0 ≤ ((V a1 x13.toNat) / 256) ∧ ((V a1 x13.toNat) / 256) ≤ 2147483647) (g7 : -2147483648 ≤ ((x11 / 256) % 16) ∧ ((x11 / 256) % 16) ≤ 2147483647) (g8 : -2147483648 ≤ (((V a1 x13.toNat) / 256) % 16) ∧ (((V a1 x13.toNat) / 256) % 16) ≤ 2147483647) : XR sc d 107 1302 [o0, some (.ref a1), o2, o3, o4, o5, o6, o7, o8, o9, o10, some (xw x11), o12, some (xw x13), o14, o15, o16, o17, o18, o19, o20, o21] [xw y0] (T, z, xv V, J, R) = if (((V a1 x13.toNat) / 256) % 16) ≤ ((x11 / 256) % 16) then XR sc d 107 1339 [o0, some (.ref a1), o2, o3, o4, o5, o6, o7, o8, o9, o10, some (xw x11), o12, some (xw x13), o14, o15, o16, o17, o18, o19, some (xw y0), o21] [] (T, z, xv V, J, R) else XR sc d 107 1327 [o0, some (.ref a1), o2, o3, o4, o5, o6, o7, o8, o9, o10, some (xw x11), o12, some (xw x13), o14, o15, o16, o17, o18, o19, some (xw y0), o21] [] (T, z, xv V, J, R) :=
  (sw_istore (L' := [o0, some (.ref a1), o2, o3, o4, o5, o6, o7, o8, o9, o10, some (xw x11), o12, some (xw x13), o14, o15, o16, o17, o18, o19, some (xw y0), o21]) f_107_1302 (Nat.le_of_ble_eq_true rfl) rfl).trans ((sw_iload f_107_1304 rfl).trans ((sw_sipush f_107_1306 c16_256).trans ((sw_idiv f_107_1309 ⟨by decide, by decide, g1⟩).trans ((sw_bipush f_107_1310 c8_16).trans ((sw_irem f_107_1312 ⟨by decide, by decide, g2⟩).trans ((st_aload_n f_107_1313 rfl).trans ((sw_iload f_107_1314 rfl).trans ((sw_iaload f_107_1316 g3 g4).trans ((sw_sipush f_107_1317 c16_256).trans ((sw_idiv f_107_1320 ⟨by decide, by decide, g5⟩).trans ((sw_bipush f_107_1321 c8_16).trans ((sw_irem f_107_1323 ⟨by decide, by decide, g6⟩).trans (sw_icmp_ge (t := 1339) f_107_1324 ⟨by decide, rfl⟩ g7 g8)))))))))))))
theorem bL_isPart_1327 {o0 o1 o2 o3 o4 o5 o6 o7 o8 o9 o10 o12 o13 o14 o15 o16 o17 o18 o19 o20 o21 : Option Value} {x11 : Int} (g1 : 0 ≤ x11 ∧ x11 ≤ 2147483647) (g2 : 0 ≤ (x11 / 256) ∧ (x11 / 256) ≤ 2147483647) : XR sc d 107 1327 [o0, o1, o2, o3, o4, o5, o6, o7, o8, o9, o10, some (xw x11), o12, o13, o14, o15, o16, o17, o18, o19, o20, o21] [] (T, z, xv V, J, R) = XR sc d 107 1350 [o0, o1, o2, o3, o4, o5, o6, o7, o8, o9, o10, some (xw x11), o12, o13, o14, o15, o16, o17, o18, o19, o20, o21] [xw ((x11 / 256) % 16)] (T, z, xv V, J, R) :=
  (sw_iload f_107_1327 rfl).trans ((sw_sipush f_107_1329 c16_256).trans ((sw_idiv f_107_1332 ⟨by decide, by decide, g1⟩).trans ((sw_bipush f_107_1333 c8_16).trans ((sw_irem f_107_1335 ⟨by decide, by decide, g2⟩).trans (st_goto (t := 1350) f_107_1336 ⟨by decide, rfl⟩)))))
theorem bL_isPart_1339 {o0 o2 o3 o4 o5 o6 o7 o8 o9 o10 o11 o12 o14 o15 o16 o17 o18 o19 o20 o21 : Option Value} {x13 : Int} {a1 : Nat} (g1 : T a1 = (32, (T a1).2)) (g2 : (0 : Int) ≤ x13 ∧ x13 < ((T a1).2 : Int) ∧ (T a1).2 ≤ 3584) (g3 : 0 ≤ (V a1 x13.toNat) ∧ (V a1 x13.toNat) ≤ 2147483647) (g4 : 0 ≤ ((V a1 x13.toNat) / 256) ∧ ((V a1 x13.toNat) / 256) ≤ 2147483647) : XR sc d 107 1339 [o0, some (.ref a1), o2, o3, o4, o5, o6, o7, o8, o9, o10, o11, o12, some (xw x13), o14, o15, o16, o17, o18, o19, o20, o21] [] (T, z, xv V, J, R) = XR sc d 107 1350 [o0, some (.ref a1), o2, o3, o4, o5, o6, o7, o8, o9, o10, o11, o12, some (xw x13), o14, o15, o16, o17, o18, o19, o20, o21] [xw (((V a1 x13.toNat) / 256) % 16)] (T, z, xv V, J, R) :=
  (st_aload_n f_107_1339 rfl).trans ((sw_iload f_107_1340 rfl).trans ((sw_iaload f_107_1342 g1 g2).trans ((sw_sipush f_107_1343 c16_256).trans ((sw_idiv f_107_1346 ⟨by decide, by decide, g3⟩).trans ((sw_bipush f_107_1347 c8_16).trans (sw_irem f_107_1349 ⟨by decide, by decide, g4⟩))))))
theorem bL_isPart_1350 {o0 o1 o2 o3 o4 o5 o6 o7 o8 o9 o10 o11 o12 o13 o16 o17 o18 o19 o21 : Option Value} {y0 x20 x14 x15 : Int} (g1 : -2147483648 ≤ (x14 * x15) ∧ (x14 * x15) ≤ 2147483647) (g2 : -2147483648 ≤ (y0 * (20 - x14)) ∧ (y0 * (20 - x14)) ≤ 2147483647) : XR sc d 107 1350 [o0, o1, o2, o3, o4, o5, o6, o7, o8, o9, o10, o11, o12, o13, some (xw x14), some (xw x15), o16, o17, o18, o19, some (xw x20), o21] [xw y0] (T, z, xv V, J, R) = if (y0 * (20 - x14)) ≤ (x14 * x15) then XR sc d 107 1378 [o0, o1, o2, o3, o4, o5, o6, o7, o8, o9, o10, o11, o12, o13, some (xw x14), some (xw x15), o16, o17, o18, o19, some (xw x20), some (xw y0)] [xw x20] (T, z, xv V, J, R) else XR sc d 107 1370 [o0, o1, o2, o3, o4, o5, o6, o7, o8, o9, o10, o11, o12, o13, some (xw x14), some (xw x15), o16, o17, o18, o19, some (xw x20), some (xw y0)] [xw x20] (T, z, xv V, J, R) :=
  (sw_istore (L' := [o0, o1, o2, o3, o4, o5, o6, o7, o8, o9, o10, o11, o12, o13, some (xw x14), some (xw x15), o16, o17, o18, o19, some (xw x20), some (xw y0)]) f_107_1350 (Nat.le_of_ble_eq_true rfl) rfl).trans ((sw_iload f_107_1352 rfl).trans ((sw_iload f_107_1354 rfl).trans ((sw_iload f_107_1356 rfl).trans ((sw_imul f_107_1358).trans ((sw_iload f_107_1359 rfl).trans ((sw_bipush f_107_1361 c8_20).trans ((sw_iload f_107_1363 rfl).trans ((sw_isub f_107_1365).trans ((sw_imul f_107_1366).trans (sw_icmp_ge (t := 1378) f_107_1367 ⟨by decide, rfl⟩ g1 g2))))))))))
theorem bL_isPart_1370 {o0 o1 o2 o3 o4 o5 o6 o7 o8 o9 o10 o11 o12 o13 o16 o17 o18 o19 o20 o21 : Option Value} {s0 : Value} {x14 x15 : Int} : XR sc d 107 1370 [o0, o1, o2, o3, o4, o5, o6, o7, o8, o9, o10, o11, o12, o13, some (xw x14), some (xw x15), o16, o17, o18, o19, o20, o21] [s0] (T, z, xv V, J, R) = XR sc d 107 1386 [o0, o1, o2, o3, o4, o5, o6, o7, o8, o9, o10, o11, o12, o13, some (xw x14), some (xw x15), o16, o17, o18, o19, o20, o21] [xw (x14 * x15), s0] (T, z, xv V, J, R) :=
  (sw_iload f_107_1370 rfl).trans ((sw_iload f_107_1372 rfl).trans ((sw_imul f_107_1374).trans (st_goto (t := 1386) f_107_1375 ⟨by decide, rfl⟩)))
theorem bL_isPart_1378 {o0 o1 o2 o3 o4 o5 o6 o7 o8 o9 o10 o11 o12 o13 o15 o16 o17 o18 o19 o20 : Option Value} {s0 : Value} {x21 x14 : Int} : XR sc d 107 1378 [o0, o1, o2, o3, o4, o5, o6, o7, o8, o9, o10, o11, o12, o13, some (xw x14), o15, o16, o17, o18, o19, o20, some (xw x21)] [s0] (T, z, xv V, J, R) = XR sc d 107 1386 [o0, o1, o2, o3, o4, o5, o6, o7, o8, o9, o10, o11, o12, o13, some (xw x14), o15, o16, o17, o18, o19, o20, some (xw x21)] [xw (x21 * (20 - x14)), s0] (T, z, xv V, J, R) :=
  (sw_iload f_107_1378 rfl).trans ((sw_bipush f_107_1380 c8_20).trans ((sw_iload f_107_1382 rfl).trans ((sw_isub f_107_1384).trans (sw_imul f_107_1385))))
theorem bL_isPart_1386 {o0 o2 o3 o4 o5 o6 o7 o8 o10 o11 o12 o14 o15 o16 o17 o18 o19 o20 o21 : Option Value} {y0 y1 x9 x13 : Int} {a1 : Nat} (g1 : T a1 = (32, (T a1).2)) (g2 : (0 : Int) ≤ x9 ∧ x9 < ((T a1).2 : Int) ∧ (T a1).2 ≤ 3584) (g3 : (0 : Int) ≤ x13 ∧ x13 < ((T a1).2 : Int) ∧ (T a1).2 ≤ 3584) : XR sc d 107 1386 [o0, some (.ref a1), o2, o3, o4, o5, o6, o7, o8, some (xw x9), o10, o11, o12, some (xw x13), o14, o15, o16, o17, o18, o19, o20, o21] [xw y0, xw y1] (T, z, xv V, J, R) = XR sc d 107 1407 [o0, some (.ref a1), o2, o3, o4, o5, o6, o7, o8, some (xw x9), o10, o11, o12, some (xw x13), o14, o15, o16, o17, o18, some (xw (y1 * y0)), o20, o21] [] (T, z, xv (xup2 (xup2 V a1 x9.toNat ((V a1 x9.toNat) + 65536)) a1 x13.toNat (((xup2 V a1 x9.toNat ((V a1 x9.toNat) + 65536)) a1 x13.toNat) + 65536)), J, R) :=
  (sw_imul f_107_1386).trans ((sw_istore (L' := [o0, some (.ref a1), o2, o3, o4, o5, o6, o7, o8, some (xw x9), o10, o11, o12, some (xw x13), o14, o15, o16, o17, o18, some (xw (y1 * y0)), o20, o21]) f_107_1387 (Nat.le_of_ble_eq_true rfl) rfl).trans ((st_aload_n f_107_1389 rfl).trans ((sw_iload f_107_1390 rfl).trans ((st_dup2 f_107_1392 rfl rfl).trans ((sw_iaload f_107_1393 g1 g2).trans ((sw_ldc 65536 f_107_1394 k_107_123 rfl).trans ((sw_iadd f_107_1396).trans ((sw_iastore f_107_1397 g1 g2).trans ((st_aload_n f_107_1398 rfl).trans ((sw_iload f_107_1399 rfl).trans ((st_dup2 f_107_1401 rfl rfl).trans ((sw_iaload f_107_1402 g1 g3).trans ((sw_ldc 65536 f_107_1403 k_107_123 rfl).trans ((sw_iadd f_107_1405).trans (sw_iastore f_107_1406 g1 g3)))))))))))))))
theorem bL_isPart_1407 {o1 o2 o3 o4 o5 o6 o7 o8 o10 o11 o12 o16 o17 o18 o19 o20 o21 : Option Value} {x9 x13 x14 x15 : Int} {a0 : Nat} : XR sc d 107 1407 [some (.ref a0), o1, o2, o3, o4, o5, o6, o7, o8, some (xw x9), o10, o11, o12, some (xw x13), some (xw x14), some (xw x15), o16, o17, o18, o19, o20, o21] [] (T, z, xv V, J, R) = xret 107 (XR sc d 107) 1420 1423 [some (.ref a0), o1, o2, o3, o4, o5, o6, o7, o8, some (xw x9), o10, o11, o12, some (xw x13), some (xw x14), some (xw x15), o16, o17, o18, o19, o20, o21] [] (X sc d 92 [.ref a0, xw 11, xw x9, xw x13, xw x14, xw x15, xw 0, xw 0] (T, z, xv V, J, R)) :=
  (st_aload_n f_107_1407 rfl).trans ((sw_bipush f_107_1408 c8_11).trans ((sw_iload f_107_1410 rfl).trans ((sw_iload f_107_1412 rfl).trans ((sw_iload f_107_1414 rfl).trans ((sw_iload f_107_1416 rfl).trans ((sw_iconst f_107_1418).trans ((sw_iconst f_107_1419).trans (st_callS' f_107_1420 h_107_124 mn_92 rfl rfl rfl rfl))))))))
theorem bL_isPart_1423 {o0 o1 o2 o3 o4 o5 o6 o7 o8 o9 o10 o11 o12 o13 o14 o15 o17 o18 o19 o20 o21 : Option Value} {s0 : Value} {x16 : Int} (g1 : -2147483648 ≤ x16 ∧ x16 ≤ 2147483647) : XR sc d 107 1423 [o0, o1, o2, o3, o4, o5, o6, o7, o8, o9, o10, o11, o12, o13, o14, o15, some (xw x16), o17, o18, o19, o20, o21] [s0] (T, z, xv V, J, R) = if x16 = 0 then XR sc d 107 1428 [o0, o1, o2, o3, o4, o5, o6, o7, o8, o9, o10, o11, o12, o13, o14, o15, some (xw x16), o17, o18, o19, o20, o21] [s0] (T, z, xv V, J, R) else XR sc d 107 1433 [o0, o1, o2, o3, o4, o5, o6, o7, o8, o9, o10, o11, o12, o13, o14, o15, some (xw x16), o17, o18, o19, o20, o21] [s0] (T, z, xv V, J, R) :=
  (sw_iload f_107_1423 rfl).trans (sw_if_ne (t := 1433) f_107_1425 ⟨by decide, rfl⟩ g1)
theorem bL_isPart_1428 {o0 o1 o2 o3 o4 o5 o6 o7 o8 o9 o10 o11 o12 o13 o14 o15 o16 o17 o18 o19 o20 o21 : Option Value} {s0 : Value} : XR sc d 107 1428 [o0, o1, o2, o3, o4, o5, o6, o7, o8, o9, o10, o11, o12, o13, o14, o15, o16, o17, o18, o19, o20, o21] [s0] (T, z, xv V, J, R) = XR sc d 107 1455 [o0, o1, o2, o3, o4, o5, o6, o7, o8, o9, o10, o11, o12, o13, o14, o15, o16, o17, o18, o19, o20, o21] [xw (-3000000), s0] (T, z, xv V, J, R) :=
  (sw_ldc (-3000000) f_107_1428 k_107_79 rfl).trans (st_goto (t := 1455) f_107_1430 ⟨by decide, rfl⟩)
theorem bL_isPart_1433 {o0 o1 o2 o3 o4 o5 o6 o7 o8 o9 o10 o11 o12 o13 o14 o15 o16 o18 o19 o20 o21 : Option Value} {s0 : Value} {x17 : Int} (g1 : -2147483648 ≤ x17 ∧ x17 ≤ 2147483647) : XR sc d 107 1433 [o0, o1, o2, o3, o4, o5, o6, o7, o8, o9, o10, o11, o12, o13, o14, o15, o16, some (xw x17), o18, o19, o20, o21] [s0] (T, z, xv V, J, R) = if x17 = 0 then XR sc d 107 1438 [o0, o1, o2, o3, o4, o5, o6, o7, o8, o9, o10, o11, o12, o13, o14, o15, o16, some (xw x17), o18, o19, o20, o21] [s0] (T, z, xv V, J, R) else XR sc d 107 1443 [o0, o1, o2, o3, o4, o5, o6, o7, o8, o9, o10, o11, o12, o13, o14, o15, o16, some (xw x17), o18, o19, o20, o21] [s0] (T, z, xv V, J, R) :=
  (sw_iload f_107_1433 rfl).trans (sw_if_ne (t := 1443) f_107_1435 ⟨by decide, rfl⟩ g1)
theorem bL_isPart_1438 {o0 o1 o2 o3 o4 o5 o6 o7 o8 o9 o10 o11 o12 o13 o14 o15 o16 o17 o18 o19 o20 o21 : Option Value} {s0 : Value} : XR sc d 107 1438 [o0, o1, o2, o3, o4, o5, o6, o7, o8, o9, o10, o11, o12, o13, o14, o15, o16, o17, o18, o19, o20, o21] [s0] (T, z, xv V, J, R) = XR sc d 107 1455 [o0, o1, o2, o3, o4, o5, o6, o7, o8, o9, o10, o11, o12, o13, o14, o15, o16, o17, o18, o19, o20, o21] [xw (-2000000), s0] (T, z, xv V, J, R) :=
  (sw_ldc (-2000000) f_107_1438 k_107_82 rfl).trans (st_goto (t := 1455) f_107_1440 ⟨by decide, rfl⟩)
theorem bL_isPart_1443 {o0 o1 o2 o3 o4 o5 o6 o7 o8 o9 o10 o11 o12 o13 o14 o15 o16 o17 o19 o20 o21 : Option Value} {s0 : Value} {x18 : Int} (g1 : -2147483648 ≤ x18 ∧ x18 ≤ 2147483647) : XR sc d 107 1443 [o0, o1, o2, o3, o4, o5, o6, o7, o8, o9, o10, o11, o12, o13, o14, o15, o16, o17, some (xw x18), o19, o20, o21] [s0] (T, z, xv V, J, R) = if x18 = 0 then XR sc d 107 1453 [o0, o1, o2, o3, o4, o5, o6, o7, o8, o9, o10, o11, o12, o13, o14, o15, o16, o17, some (xw x18), o19, o20, o21] [s0] (T, z, xv V, J, R) else XR sc d 107 1448 [o0, o1, o2, o3, o4, o5, o6, o7, o8, o9, o10, o11, o12, o13, o14, o15, o16, o17, some (xw x18), o19, o20, o21] [s0] (T, z, xv V, J, R) :=
  (sw_iload f_107_1443 rfl).trans (sw_if_eq (t := 1453) f_107_1445 ⟨by decide, rfl⟩ g1)
theorem bL_isPart_1448 {o0 o1 o2 o3 o4 o5 o6 o7 o8 o9 o10 o11 o12 o13 o14 o15 o16 o17 o18 o20 o21 : Option Value} {s0 : Value} {x19 : Int} : XR sc d 107 1448 [o0, o1, o2, o3, o4, o5, o6, o7, o8, o9, o10, o11, o12, o13, o14, o15, o16, o17, o18, some (xw x19), o20, o21] [s0] (T, z, xv V, J, R) = XR sc d 107 1455 [o0, o1, o2, o3, o4, o5, o6, o7, o8, o9, o10, o11, o12, o13, o14, o15, o16, o17, o18, some (xw x19), o20, o21] [xw x19, s0] (T, z, xv V, J, R) :=
  (sw_iload f_107_1448 rfl).trans (st_goto (t := 1455) f_107_1450 ⟨by decide, rfl⟩)
theorem bL_isPart_1453 {o0 o1 o2 o3 o4 o5 o6 o7 o8 o9 o10 o11 o12 o13 o14 o15 o16 o17 o18 o19 o20 o21 : Option Value} {s0 : Value} : XR sc d 107 1453 [o0, o1, o2, o3, o4, o5, o6, o7, o8, o9, o10, o11, o12, o13, o14, o15, o16, o17, o18, o19, o20, o21] [s0] (T, z, xv V, J, R) = XR sc d 107 1455 [o0, o1, o2, o3, o4, o5, o6, o7, o8, o9, o10, o11, o12, o13, o14, o15, o16, o17, o18, o19, o20, o21] [xw (-1000000), s0] (T, z, xv V, J, R) :=
  sw_ldc (-1000000) f_107_1453 k_107_85 rfl
theorem bL_isPart_1455 {o0 o1 o2 o3 o4 o5 o6 o7 o8 o9 o10 o11 o12 o13 o14 o15 o16 o17 o18 o19 o20 o21 : Option Value} {y0 y1 : Int} (g1 : -2147483648 ≤ y1 ∧ y1 ≤ 2147483647) (g2 : -2147483648 ≤ y0 ∧ y0 ≤ 2147483647) : XR sc d 107 1455 [o0, o1, o2, o3, o4, o5, o6, o7, o8, o9, o10, o11, o12, o13, o14, o15, o16, o17, o18, o19, o20, o21] [xw y0, xw y1] (T, z, xv V, J, R) = if y1 = y0 then XR sc d 107 1458 [o0, o1, o2, o3, o4, o5, o6, o7, o8, o9, o10, o11, o12, o13, o14, o15, o16, o17, o18, o19, o20, o21] [] (T, z, xv V, J, R) else XR sc d 107 1462 [o0, o1, o2, o3, o4, o5, o6, o7, o8, o9, o10, o11, o12, o13, o14, o15, o16, o17, o18, o19, o20, o21] [] (T, z, xv V, J, R) :=
  sw_icmp_ne (t := 1462) f_107_1455 ⟨by decide, rfl⟩ g1 g2
theorem bL_isPart_1458 {o0 o1 o2 o3 o4 o5 o6 o7 o8 o9 o10 o11 o12 o13 o14 o15 o16 o17 o18 o19 o20 o21 : Option Value} : XR sc d 107 1458 [o0, o1, o2, o3, o4, o5, o6, o7, o8, o9, o10, o11, o12, o13, o14, o15, o16, o17, o18, o19, o20, o21] [] (T, z, xv V, J, R) = XR sc d 107 1463 [o0, o1, o2, o3, o4, o5, o6, o7, o8, o9, o10, o11, o12, o13, o14, o15, o16, o17, o18, o19, o20, o21] [xw 1] (T, z, xv V, J, R) :=
  (sw_iconst f_107_1458).trans (st_goto (t := 1463) f_107_1459 ⟨by decide, rfl⟩)
theorem bL_isPart_1462 {o0 o1 o2 o3 o4 o5 o6 o7 o8 o9 o10 o11 o12 o13 o14 o15 o16 o17 o18 o19 o20 o21 : Option Value} : XR sc d 107 1462 [o0, o1, o2, o3, o4, o5, o6, o7, o8, o9, o10, o11, o12, o13, o14, o15, o16, o17, o18, o19, o20, o21] [] (T, z, xv V, J, R) = XR sc d 107 1463 [o0, o1, o2, o3, o4, o5, o6, o7, o8, o9, o10, o11, o12, o13, o14, o15, o16, o17, o18, o19, o20, o21] [xw 0] (T, z, xv V, J, R) :=
  sw_iconst f_107_1462
theorem bL_isPart_1463 {o0 o1 o2 o3 o4 o5 o6 o7 o8 o9 o10 o11 o12 o13 o14 o15 o16 o17 o18 o19 o20 o21 : Option Value} {y0 : Int} (g1 : y0 = 0 ∨ y0 = 1) : XR sc d 107 1463 [o0, o1, o2, o3, o4, o5, o6, o7, o8, o9, o10, o11, o12, o13, o14, o15, o16, o17, o18, o19, o20, o21] [xw y0] (T, z, xv V, J, R) = some (.inl (some (xw y0)), (T, z, xv V, J, R)) :=
  sw_zreturn f_107_1463 mr_107 g1
end BLK
