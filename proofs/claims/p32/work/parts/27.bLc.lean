/-! instructions, by program (gen2.py) -/
set_option maxRecDepth 100000 in
theorem f_104_0 : xft 104 0 = some (.aload_n 0) := by decide +kernel
set_option maxRecDepth 100000 in
theorem f_104_1 : xft 104 1 = some (.invokevirtual 112) := by decide +kernel
set_option maxRecDepth 100000 in
theorem f_104_4 : xft 104 4 = some (.aload 7) := by decide +kernel
set_option maxRecDepth 100000 in
theorem f_104_6 : xft 104 6 = some (.iconst 2) := by decide +kernel
set_option maxRecDepth 100000 in
theorem f_104_7 : xft 104 7 = some (.iaload) := by decide +kernel
set_option maxRecDepth 100000 in
theorem f_104_8 : xft 104 8 = some (.if_icmp .ne 7) := by decide +kernel
set_option maxRecDepth 100000 in
theorem f_104_11 : xft 104 11 = some (.iconst 1) := by decide +kernel
set_option maxRecDepth 100000 in
theorem f_104_12 : xft 104 12 = some (.goto 4) := by decide +kernel
set_option maxRecDepth 100000 in
theorem f_104_15 : xft 104 15 = some (.iconst 0) := by decide +kernel
set_option maxRecDepth 100000 in
theorem f_104_16 : xft 104 16 = some (.istore 10) := by decide +kernel
set_option maxRecDepth 100000 in
theorem f_104_18 : xft 104 18 = some (.iconst 0) := by decide +kernel
set_option maxRecDepth 100000 in
theorem f_104_19 : xft 104 19 = some (.istore 11) := by decide +kernel
set_option maxRecDepth 100000 in
theorem f_104_21 : xft 104 21 = some (.iload 11) := by decide +kernel
set_option maxRecDepth 100000 in
theorem f_104_23 : xft 104 23 = some (.aload 7) := by decide +kernel
set_option maxRecDepth 100000 in
theorem f_104_25 : xft 104 25 = some (.iconst 1) := by decide +kernel
set_option maxRecDepth 100000 in
theorem f_104_26 : xft 104 26 = some (.iaload) := by decide +kernel
set_option maxRecDepth 100000 in
theorem f_104_27 : xft 104 27 = some (.if_icmp .ge 356) := by decide +kernel
set_option maxRecDepth 100000 in
theorem f_104_30 : xft 104 30 = some (.iload 10) := by decide +kernel
set_option maxRecDepth 100000 in
theorem f_104_32 : xft 104 32 = some (.ifCond .eq 351) := by decide +kernel
set_option maxRecDepth 100000 in
theorem f_104_35 : xft 104 35 = some (.aload 4) := by decide +kernel
set_option maxRecDepth 100000 in
theorem f_104_37 : xft 104 37 = some (.iload 11) := by decide +kernel
set_option maxRecDepth 100000 in
theorem f_104_39 : xft 104 39 = some (.iaload) := by decide +kernel
set_option maxRecDepth 100000 in
theorem f_104_40 : xft 104 40 = some (.ifCond .ne 7) := by decide +kernel
set_option maxRecDepth 100000 in
theorem f_104_43 : xft 104 43 = some (.iconst (-1)) := by decide +kernel
set_option maxRecDepth 100000 in
theorem f_104_44 : xft 104 44 = some (.goto 13) := by decide +kernel
set_option maxRecDepth 100000 in
theorem f_104_47 : xft 104 47 = some (.aload 4) := by decide +kernel
set_option maxRecDepth 100000 in
theorem f_104_49 : xft 104 49 = some (.iload 11) := by decide +kernel
set_option maxRecDepth 100000 in
theorem f_104_51 : xft 104 51 = some (.iaload) := by decide +kernel
set_option maxRecDepth 100000 in
theorem f_104_52 : xft 104 52 = some (.iconst 1) := by decide +kernel
set_option maxRecDepth 100000 in
theorem f_104_53 : xft 104 53 = some (.isub) := by decide +kernel
set_option maxRecDepth 100000 in
theorem f_104_54 : xft 104 54 = some (.bipush 8) := by decide +kernel
set_option maxRecDepth 100000 in
theorem f_104_56 : xft 104 56 = some (.irem) := by decide +kernel
set_option maxRecDepth 100000 in
theorem f_104_57 : xft 104 57 = some (.istore 12) := by decide +kernel
set_option maxRecDepth 100000 in
theorem f_104_59 : xft 104 59 = some (.aload 4) := by decide +kernel
set_option maxRecDepth 100000 in
theorem f_104_61 : xft 104 61 = some (.iload 11) := by decide +kernel
set_option maxRecDepth 100000 in
theorem f_104_63 : xft 104 63 = some (.iaload) := by decide +kernel
set_option maxRecDepth 100000 in
theorem f_104_64 : xft 104 64 = some (.ifCond .ne 7) := by decide +kernel
set_option maxRecDepth 100000 in
theorem f_104_67 : xft 104 67 = some (.iconst (-1)) := by decide +kernel
set_option maxRecDepth 100000 in
theorem f_104_68 : xft 104 68 = some (.goto 16) := by decide +kernel
set_option maxRecDepth 100000 in
theorem f_104_71 : xft 104 71 = some (.aload 4) := by decide +kernel
set_option maxRecDepth 100000 in
theorem f_104_73 : xft 104 73 = some (.iload 11) := by decide +kernel
set_option maxRecDepth 100000 in
theorem f_104_75 : xft 104 75 = some (.iaload) := by decide +kernel
set_option maxRecDepth 100000 in
theorem f_104_76 : xft 104 76 = some (.iconst 1) := by decide +kernel
set_option maxRecDepth 100000 in
theorem f_104_77 : xft 104 77 = some (.isub) := by decide +kernel
set_option maxRecDepth 100000 in
theorem f_104_78 : xft 104 78 = some (.bipush 8) := by decide +kernel
set_option maxRecDepth 100000 in
theorem f_104_80 : xft 104 80 = some (.idiv) := by decide +kernel
set_option maxRecDepth 100000 in
theorem f_104_81 : xft 104 81 = some (.bipush 8) := by decide +kernel
set_option maxRecDepth 100000 in
theorem f_104_83 : xft 104 83 = some (.irem) := by decide +kernel
set_option maxRecDepth 100000 in
theorem f_104_84 : xft 104 84 = some (.istore 13) := by decide +kernel
set_option maxRecDepth 100000 in
theorem f_104_86 : xft 104 86 = some (.aload_n 0) := by decide +kernel
set_option maxRecDepth 100000 in
theorem f_104_87 : xft 104 87 = some (.iload 11) := by decide +kernel
set_option maxRecDepth 100000 in
theorem f_104_89 : xft 104 89 = some (.iconst 0) := by decide +kernel
set_option maxRecDepth 100000 in
theorem f_104_90 : xft 104 90 = some (.invokevirtual 33) := by decide +kernel
set_option maxRecDepth 100000 in
theorem f_104_93 : xft 104 93 = some (.aload_n 1) := by decide +kernel
set_option maxRecDepth 100000 in
theorem f_104_94 : xft 104 94 = some (.iload 11) := by decide +kernel
set_option maxRecDepth 100000 in
theorem f_104_96 : xft 104 96 = some (.iaload) := by decide +kernel
set_option maxRecDepth 100000 in
theorem f_104_97 : xft 104 97 = some (.bipush 16) := by decide +kernel
set_option maxRecDepth 100000 in
theorem f_104_99 : xft 104 99 = some (.irem) := by decide +kernel
set_option maxRecDepth 100000 in
theorem f_104_100 : xft 104 100 = some (.if_icmp .ne 220) := by decide +kernel
set_option maxRecDepth 100000 in
theorem f_104_103 : xft 104 103 = some (.aload_n 0) := by decide +kernel
set_option maxRecDepth 100000 in
theorem f_104_104 : xft 104 104 = some (.iload 11) := by decide +kernel
set_option maxRecDepth 100000 in
theorem f_104_106 : xft 104 106 = some (.iconst 1) := by decide +kernel
set_option maxRecDepth 100000 in
theorem f_104_107 : xft 104 107 = some (.invokevirtual 33) := by decide +kernel
set_option maxRecDepth 100000 in
theorem f_104_110 : xft 104 110 = some (.aload_n 1) := by decide +kernel
set_option maxRecDepth 100000 in
theorem f_104_111 : xft 104 111 = some (.iload 11) := by decide +kernel
set_option maxRecDepth 100000 in
theorem f_104_113 : xft 104 113 = some (.iaload) := by decide +kernel
set_option maxRecDepth 100000 in
theorem f_104_114 : xft 104 114 = some (.bipush 16) := by decide +kernel
set_option maxRecDepth 100000 in
theorem f_104_116 : xft 104 116 = some (.idiv) := by decide +kernel
set_option maxRecDepth 100000 in
theorem f_104_117 : xft 104 117 = some (.bipush 16) := by decide +kernel
set_option maxRecDepth 100000 in
theorem f_104_119 : xft 104 119 = some (.irem) := by decide +kernel
set_option maxRecDepth 100000 in
theorem f_104_120 : xft 104 120 = some (.if_icmp .ne 200) := by decide +kernel
set_option maxRecDepth 100000 in
theorem f_104_123 : xft 104 123 = some (.aload_n 0) := by decide +kernel
set_option maxRecDepth 100000 in
theorem f_104_124 : xft 104 124 = some (.iload 11) := by decide +kernel
set_option maxRecDepth 100000 in
theorem f_104_126 : xft 104 126 = some (.iconst 2) := by decide +kernel
set_option maxRecDepth 100000 in
theorem f_104_127 : xft 104 127 = some (.invokevirtual 33) := by decide +kernel
set_option maxRecDepth 100000 in
theorem f_104_130 : xft 104 130 = some (.aload_n 1) := by decide +kernel
set_option maxRecDepth 100000 in
theorem f_104_131 : xft 104 131 = some (.iload 11) := by decide +kernel
set_option maxRecDepth 100000 in
theorem f_104_133 : xft 104 133 = some (.iaload) := by decide +kernel
set_option maxRecDepth 100000 in
theorem f_104_134 : xft 104 134 = some (.sipush 256) := by decide +kernel
set_option maxRecDepth 100000 in
theorem f_104_137 : xft 104 137 = some (.idiv) := by decide +kernel
set_option maxRecDepth 100000 in
theorem f_104_138 : xft 104 138 = some (.bipush 16) := by decide +kernel
set_option maxRecDepth 100000 in
theorem f_104_140 : xft 104 140 = some (.irem) := by decide +kernel
set_option maxRecDepth 100000 in
theorem f_104_141 : xft 104 141 = some (.if_icmp .ne 179) := by decide +kernel
set_option maxRecDepth 100000 in
theorem f_104_144 : xft 104 144 = some (.aload_n 0) := by decide +kernel
set_option maxRecDepth 100000 in
theorem f_104_145 : xft 104 145 = some (.iload 11) := by decide +kernel
set_option maxRecDepth 100000 in
theorem f_104_147 : xft 104 147 = some (.iconst 3) := by decide +kernel
set_option maxRecDepth 100000 in
theorem f_104_148 : xft 104 148 = some (.invokevirtual 33) := by decide +kernel
set_option maxRecDepth 100000 in
theorem f_104_151 : xft 104 151 = some (.aload_n 1) := by decide +kernel
set_option maxRecDepth 100000 in
theorem f_104_152 : xft 104 152 = some (.iload 11) := by decide +kernel
set_option maxRecDepth 100000 in
theorem f_104_154 : xft 104 154 = some (.iaload) := by decide +kernel
set_option maxRecDepth 100000 in
theorem f_104_155 : xft 104 155 = some (.sipush 4096) := by decide +kernel
set_option maxRecDepth 100000 in
theorem f_104_158 : xft 104 158 = some (.idiv) := by decide +kernel
set_option maxRecDepth 100000 in
theorem f_104_159 : xft 104 159 = some (.bipush 8) := by decide +kernel
set_option maxRecDepth 100000 in
theorem f_104_161 : xft 104 161 = some (.irem) := by decide +kernel
set_option maxRecDepth 100000 in
theorem f_104_162 : xft 104 162 = some (.if_icmp .ne 158) := by decide +kernel
set_option maxRecDepth 100000 in
theorem f_104_165 : xft 104 165 = some (.aload_n 0) := by decide +kernel
set_option maxRecDepth 100000 in
theorem f_104_166 : xft 104 166 = some (.iload 11) := by decide +kernel
set_option maxRecDepth 100000 in
theorem f_104_168 : xft 104 168 = some (.iconst 4) := by decide +kernel
set_option maxRecDepth 100000 in
theorem f_104_169 : xft 104 169 = some (.invokevirtual 33) := by decide +kernel
set_option maxRecDepth 100000 in
theorem f_104_172 : xft 104 172 = some (.aload_n 3) := by decide +kernel
set_option maxRecDepth 100000 in
theorem f_104_173 : xft 104 173 = some (.iload 11) := by decide +kernel
set_option maxRecDepth 100000 in
theorem f_104_175 : xft 104 175 = some (.iaload) := by decide +kernel
set_option maxRecDepth 100000 in
theorem f_104_176 : xft 104 176 = some (.invokestatic 116) := by decide +kernel
set_option maxRecDepth 100000 in
theorem f_104_179 : xft 104 179 = some (.if_icmp .ne 141) := by decide +kernel
set_option maxRecDepth 100000 in
theorem f_104_182 : xft 104 182 = some (.aload_n 0) := by decide +kernel
set_option maxRecDepth 100000 in
theorem f_104_183 : xft 104 183 = some (.iload 11) := by decide +kernel
set_option maxRecDepth 100000 in
theorem f_104_185 : xft 104 185 = some (.iconst 5) := by decide +kernel
set_option maxRecDepth 100000 in
theorem f_104_186 : xft 104 186 = some (.invokevirtual 33) := by decide +kernel
set_option maxRecDepth 100000 in
theorem f_104_189 : xft 104 189 = some (.aload_n 2) := by decide +kernel
set_option maxRecDepth 100000 in
theorem f_104_190 : xft 104 190 = some (.iload 11) := by decide +kernel
set_option maxRecDepth 100000 in
theorem f_104_192 : xft 104 192 = some (.iaload) := by decide +kernel
set_option maxRecDepth 100000 in
theorem f_104_193 : xft 104 193 = some (.if_icmp .ne 127) := by decide +kernel
set_option maxRecDepth 100000 in
theorem f_104_196 : xft 104 196 = some (.aload_n 0) := by decide +kernel
set_option maxRecDepth 100000 in
theorem f_104_197 : xft 104 197 = some (.iload 11) := by decide +kernel
set_option maxRecDepth 100000 in
theorem f_104_199 : xft 104 199 = some (.bipush 6) := by decide +kernel
set_option maxRecDepth 100000 in
theorem f_104_201 : xft 104 201 = some (.invokevirtual 33) := by decide +kernel
set_option maxRecDepth 100000 in
theorem f_104_204 : xft 104 204 = some (.aload_n 1) := by decide +kernel
set_option maxRecDepth 100000 in
theorem f_104_205 : xft 104 205 = some (.aload_n 2) := by decide +kernel
set_option maxRecDepth 100000 in
theorem f_104_206 : xft 104 206 = some (.aload_n 3) := by decide +kernel
set_option maxRecDepth 100000 in
theorem f_104_207 : xft 104 207 = some (.iload 11) := by decide +kernel
set_option maxRecDepth 100000 in
theorem f_104_209 : xft 104 209 = some (.invokestatic 99) := by decide +kernel
set_option maxRecDepth 100000 in
theorem f_104_212 : xft 104 212 = some (.if_icmp .ne 108) := by decide +kernel
set_option maxRecDepth 100000 in
theorem f_104_215 : xft 104 215 = some (.aload_n 0) := by decide +kernel
set_option maxRecDepth 100000 in
theorem f_104_216 : xft 104 216 = some (.iload 11) := by decide +kernel
set_option maxRecDepth 100000 in
theorem f_104_218 : xft 104 218 = some (.bipush 7) := by decide +kernel
set_option maxRecDepth 100000 in
theorem f_104_220 : xft 104 220 = some (.invokevirtual 33) := by decide +kernel
set_option maxRecDepth 100000 in
theorem f_104_223 : xft 104 223 = some (.iload 12) := by decide +kernel
set_option maxRecDepth 100000 in
theorem f_104_225 : xft 104 225 = some (.iload 13) := by decide +kernel
set_option maxRecDepth 100000 in
theorem f_104_227 : xft 104 227 = some (.if_icmp .ge 8) := by decide +kernel
set_option maxRecDepth 100000 in
theorem f_104_230 : xft 104 230 = some (.iload 12) := by decide +kernel
set_option maxRecDepth 100000 in
theorem f_104_232 : xft 104 232 = some (.goto 5) := by decide +kernel
set_option maxRecDepth 100000 in
theorem f_104_235 : xft 104 235 = some (.iload 13) := by decide +kernel
set_option maxRecDepth 100000 in
theorem f_104_237 : xft 104 237 = some (.if_icmp .ne 83) := by decide +kernel
set_option maxRecDepth 100000 in
theorem f_104_240 : xft 104 240 = some (.aload_n 0) := by decide +kernel
set_option maxRecDepth 100000 in
theorem f_104_241 : xft 104 241 = some (.iload 11) := by decide +kernel
set_option maxRecDepth 100000 in
theorem f_104_243 : xft 104 243 = some (.bipush 8) := by decide +kernel
set_option maxRecDepth 100000 in
theorem f_104_245 : xft 104 245 = some (.invokevirtual 33) := by decide +kernel
set_option maxRecDepth 100000 in
theorem f_104_248 : xft 104 248 = some (.iload 12) := by decide +kernel
set_option maxRecDepth 100000 in
theorem f_104_250 : xft 104 250 = some (.iload 13) := by decide +kernel
set_option maxRecDepth 100000 in
theorem f_104_252 : xft 104 252 = some (.if_icmp .ge 8) := by decide +kernel
set_option maxRecDepth 100000 in
theorem f_104_255 : xft 104 255 = some (.iload 13) := by decide +kernel
set_option maxRecDepth 100000 in
theorem f_104_257 : xft 104 257 = some (.goto 5) := by decide +kernel
set_option maxRecDepth 100000 in
theorem f_104_260 : xft 104 260 = some (.iload 12) := by decide +kernel
set_option maxRecDepth 100000 in
theorem f_104_262 : xft 104 262 = some (.if_icmp .ne 58) := by decide +kernel
set_option maxRecDepth 100000 in
theorem f_104_265 : xft 104 265 = some (.aload_n 0) := by decide +kernel
set_option maxRecDepth 100000 in
theorem f_104_266 : xft 104 266 = some (.iload 11) := by decide +kernel
set_option maxRecDepth 100000 in
theorem f_104_268 : xft 104 268 = some (.bipush 9) := by decide +kernel
set_option maxRecDepth 100000 in
theorem f_104_270 : xft 104 270 = some (.invokevirtual 33) := by decide +kernel
set_option maxRecDepth 100000 in
theorem f_104_273 : xft 104 273 = some (.aload 4) := by decide +kernel
set_option maxRecDepth 100000 in
theorem f_104_275 : xft 104 275 = some (.iload 11) := by decide +kernel
set_option maxRecDepth 100000 in
theorem f_104_277 : xft 104 277 = some (.iaload) := by decide +kernel
set_option maxRecDepth 100000 in
theorem f_104_278 : xft 104 278 = some (.ifCond .ne 7) := by decide +kernel
set_option maxRecDepth 100000 in
theorem f_104_281 : xft 104 281 = some (.iconst (-1)) := by decide +kernel
set_option maxRecDepth 100000 in
theorem f_104_282 : xft 104 282 = some (.goto 13) := by decide +kernel
set_option maxRecDepth 100000 in
theorem f_104_285 : xft 104 285 = some (.aload 4) := by decide +kernel
set_option maxRecDepth 100000 in
theorem f_104_287 : xft 104 287 = some (.iload 11) := by decide +kernel
set_option maxRecDepth 100000 in
theorem f_104_289 : xft 104 289 = some (.iaload) := by decide +kernel
set_option maxRecDepth 100000 in
theorem f_104_290 : xft 104 290 = some (.iconst 1) := by decide +kernel
set_option maxRecDepth 100000 in
theorem f_104_291 : xft 104 291 = some (.isub) := by decide +kernel
set_option maxRecDepth 100000 in
theorem f_104_292 : xft 104 292 = some (.bipush 64) := by decide +kernel
set_option maxRecDepth 100000 in
theorem f_104_294 : xft 104 294 = some (.idiv) := by decide +kernel
set_option maxRecDepth 100000 in
theorem f_104_295 : xft 104 295 = some (.if_icmp .ne 25) := by decide +kernel
set_option maxRecDepth 100000 in
theorem f_104_298 : xft 104 298 = some (.aload_n 0) := by decide +kernel
set_option maxRecDepth 100000 in
theorem f_104_299 : xft 104 299 = some (.iload 11) := by decide +kernel
set_option maxRecDepth 100000 in
theorem f_104_301 : xft 104 301 = some (.bipush 10) := by decide +kernel
set_option maxRecDepth 100000 in
theorem f_104_303 : xft 104 303 = some (.invokevirtual 33) := by decide +kernel
set_option maxRecDepth 100000 in
theorem f_104_306 : xft 104 306 = some (.aload_n 1) := by decide +kernel
set_option maxRecDepth 100000 in
theorem f_104_307 : xft 104 307 = some (.iload 11) := by decide +kernel
set_option maxRecDepth 100000 in
theorem f_104_309 : xft 104 309 = some (.iaload) := by decide +kernel
set_option maxRecDepth 100000 in
theorem f_104_310 : xft 104 310 = some (.ldc 111) := by decide +kernel
set_option maxRecDepth 100000 in
theorem f_104_312 : xft 104 312 = some (.idiv) := by decide +kernel
set_option maxRecDepth 100000 in
theorem f_104_313 : xft 104 313 = some (.if_icmp .ne 7) := by decide +kernel
set_option maxRecDepth 100000 in
theorem f_104_316 : xft 104 316 = some (.iconst 1) := by decide +kernel
set_option maxRecDepth 100000 in
theorem f_104_317 : xft 104 317 = some (.goto 4) := by decide +kernel
set_option maxRecDepth 100000 in
theorem f_104_320 : xft 104 320 = some (.iconst 0) := by decide +kernel
set_option maxRecDepth 100000 in
theorem f_104_321 : xft 104 321 = some (.istore 10) := by decide +kernel
set_option maxRecDepth 100000 in
theorem f_104_323 : xft 104 323 = some (.iload 8) := by decide +kernel
set_option maxRecDepth 100000 in
theorem f_104_325 : xft 104 325 = some (.aload 7) := by decide +kernel
set_option maxRecDepth 100000 in
theorem f_104_327 : xft 104 327 = some (.iconst 1) := by decide +kernel
set_option maxRecDepth 100000 in
theorem f_104_328 : xft 104 328 = some (.iaload) := by decide +kernel
set_option maxRecDepth 100000 in
theorem f_104_329 : xft 104 329 = some (.irem) := by decide +kernel
set_option maxRecDepth 100000 in
theorem f_104_330 : xft 104 330 = some (.istore 14) := by decide +kernel
set_option maxRecDepth 100000 in
theorem f_104_332 : xft 104 332 = some (.iload 10) := by decide +kernel
set_option maxRecDepth 100000 in
theorem f_104_334 : xft 104 334 = some (.ifCond .eq 40) := by decide +kernel
set_option maxRecDepth 100000 in
theorem f_104_337 : xft 104 337 = some (.aload_n 0) := by decide +kernel
set_option maxRecDepth 100000 in
theorem f_104_338 : xft 104 338 = some (.iload 11) := by decide +kernel
set_option maxRecDepth 100000 in
theorem f_104_340 : xft 104 340 = some (.iload 14) := by decide +kernel
set_option maxRecDepth 100000 in
theorem f_104_342 : xft 104 342 = some (.invokevirtual 119) := by decide +kernel
set_option maxRecDepth 100000 in
theorem f_104_345 : xft 104 345 = some (.aload_n 1) := by decide +kernel
set_option maxRecDepth 100000 in
theorem f_104_346 : xft 104 346 = some (.iload 11) := by decide +kernel
set_option maxRecDepth 100000 in
theorem f_104_348 : xft 104 348 = some (.iaload) := by decide +kernel
set_option maxRecDepth 100000 in
theorem f_104_349 : xft 104 349 = some (.ldc 123) := by decide +kernel
set_option maxRecDepth 100000 in
theorem f_104_351 : xft 104 351 = some (.irem) := by decide +kernel
set_option maxRecDepth 100000 in
theorem f_104_352 : xft 104 352 = some (.aload_n 1) := by decide +kernel
set_option maxRecDepth 100000 in
theorem f_104_353 : xft 104 353 = some (.iload 14) := by decide +kernel
set_option maxRecDepth 100000 in
theorem f_104_355 : xft 104 355 = some (.iaload) := by decide +kernel
set_option maxRecDepth 100000 in
theorem f_104_356 : xft 104 356 = some (.ldc 123) := by decide +kernel
set_option maxRecDepth 100000 in
theorem f_104_358 : xft 104 358 = some (.irem) := by decide +kernel
set_option maxRecDepth 100000 in
theorem f_104_359 : xft 104 359 = some (.if_icmp .ne 7) := by decide +kernel
set_option maxRecDepth 100000 in
theorem f_104_362 : xft 104 362 = some (.iconst 1) := by decide +kernel
set_option maxRecDepth 100000 in
theorem f_104_363 : xft 104 363 = some (.goto 4) := by decide +kernel
set_option maxRecDepth 100000 in
theorem f_104_366 : xft 104 366 = some (.iconst 0) := by decide +kernel
set_option maxRecDepth 100000 in
theorem f_104_367 : xft 104 367 = some (.if_icmp .ne 7) := by decide +kernel
set_option maxRecDepth 100000 in
theorem f_104_370 : xft 104 370 = some (.iconst 1) := by decide +kernel
set_option maxRecDepth 100000 in
theorem f_104_371 : xft 104 371 = some (.goto 4) := by decide +kernel
set_option maxRecDepth 100000 in
theorem f_104_374 : xft 104 374 = some (.iconst 0) := by decide +kernel
set_option maxRecDepth 100000 in
theorem f_104_375 : xft 104 375 = some (.istore 10) := by decide +kernel
set_option maxRecDepth 100000 in
theorem f_104_377 : xft 104 377 = some (.iinc 11 1) := by decide +kernel
set_option maxRecDepth 100000 in
theorem f_104_380 : xft 104 380 = some (.goto (-359)) := by decide +kernel
set_option maxRecDepth 100000 in
theorem f_104_383 : xft 104 383 = some (.iload 8) := by decide +kernel
set_option maxRecDepth 100000 in
theorem f_104_385 : xft 104 385 = some (.iconst 4) := by decide +kernel
set_option maxRecDepth 100000 in
theorem f_104_386 : xft 104 386 = some (.irem) := by decide +kernel
set_option maxRecDepth 100000 in
theorem f_104_387 : xft 104 387 = some (.istore 11) := by decide +kernel
set_option maxRecDepth 100000 in
theorem f_104_389 : xft 104 389 = some (.iload 11) := by decide +kernel
set_option maxRecDepth 100000 in
theorem f_104_391 : xft 104 391 = some (.iconst 1) := by decide +kernel
set_option maxRecDepth 100000 in
theorem f_104_392 : xft 104 392 = some (.iadd) := by decide +kernel
set_option maxRecDepth 100000 in
theorem f_104_393 : xft 104 393 = some (.iload 9) := by decide +kernel
set_option maxRecDepth 100000 in
theorem f_104_395 : xft 104 395 = some (.iconst 3) := by decide +kernel
set_option maxRecDepth 100000 in
theorem f_104_396 : xft 104 396 = some (.irem) := by decide +kernel
set_option maxRecDepth 100000 in
theorem f_104_397 : xft 104 397 = some (.iadd) := by decide +kernel
set_option maxRecDepth 100000 in
theorem f_104_398 : xft 104 398 = some (.iconst 4) := by decide +kernel
set_option maxRecDepth 100000 in
theorem f_104_399 : xft 104 399 = some (.irem) := by decide +kernel
set_option maxRecDepth 100000 in
theorem f_104_400 : xft 104 400 = some (.istore 12) := by decide +kernel
set_option maxRecDepth 100000 in
theorem f_104_402 : xft 104 402 = some (.iconst 1) := by decide +kernel
set_option maxRecDepth 100000 in
theorem f_104_403 : xft 104 403 = some (.iload 9) := by decide +kernel
set_option maxRecDepth 100000 in
theorem f_104_405 : xft 104 405 = some (.sipush 400) := by decide +kernel
set_option maxRecDepth 100000 in
theorem f_104_408 : xft 104 408 = some (.irem) := by decide +kernel
set_option maxRecDepth 100000 in
theorem f_104_409 : xft 104 409 = some (.iadd) := by decide +kernel
set_option maxRecDepth 100000 in
theorem f_104_410 : xft 104 410 = some (.istore 13) := by decide +kernel
set_option maxRecDepth 100000 in
theorem f_104_412 : xft 104 412 = some (.bipush 9) := by decide +kernel
set_option maxRecDepth 100000 in
theorem f_104_414 : xft 104 414 = some (.newarray .int) := by decide +kernel
set_option maxRecDepth 100000 in
theorem f_104_416 : xft 104 416 = some (.astore 14) := by decide +kernel
set_option maxRecDepth 100000 in
theorem f_104_418 : xft 104 418 = some (.aload 4) := by decide +kernel
set_option maxRecDepth 100000 in
theorem f_104_420 : xft 104 420 = some (.aload 7) := by decide +kernel
set_option maxRecDepth 100000 in
theorem f_104_422 : xft 104 422 = some (.iload 11) := by decide +kernel
set_option maxRecDepth 100000 in
theorem f_104_424 : xft 104 424 = some (.iload 12) := by decide +kernel
set_option maxRecDepth 100000 in
theorem f_104_426 : xft 104 426 = some (.aload 14) := by decide +kernel
set_option maxRecDepth 100000 in
theorem f_104_428 : xft 104 428 = some (.invokestatic 103) := by decide +kernel
set_option maxRecDepth 100000 in
theorem f_104_431 : xft 104 431 = some (.istore 15) := by decide +kernel
set_option maxRecDepth 100000 in
theorem f_104_433 : xft 104 433 = some (.iload 15) := by decide +kernel
set_option maxRecDepth 100000 in
theorem f_104_435 : xft 104 435 = some (.ifCond .eq 9) := by decide +kernel
set_option maxRecDepth 100000 in
theorem f_104_438 : xft 104 438 = some (.sipush 9999) := by decide +kernel
set_option maxRecDepth 100000 in
theorem f_104_441 : xft 104 441 = some (.goto 4) := by decide +kernel
set_option maxRecDepth 100000 in
theorem f_104_444 : xft 104 444 = some (.iconst (-1)) := by decide +kernel
set_option maxRecDepth 100000 in
theorem f_104_445 : xft 104 445 = some (.istore 16) := by decide +kernel
set_option maxRecDepth 100000 in
theorem f_104_447 : xft 104 447 = some (.iconst 0) := by decide +kernel
set_option maxRecDepth 100000 in
theorem f_104_448 : xft 104 448 = some (.istore 17) := by decide +kernel
set_option maxRecDepth 100000 in
theorem f_104_450 : xft 104 450 = some (.iload 17) := by decide +kernel
set_option maxRecDepth 100000 in
theorem f_104_452 : xft 104 452 = some (.aload 7) := by decide +kernel
set_option maxRecDepth 100000 in
theorem f_104_454 : xft 104 454 = some (.iconst 1) := by decide +kernel
set_option maxRecDepth 100000 in
theorem f_104_455 : xft 104 455 = some (.iaload) := by decide +kernel
set_option maxRecDepth 100000 in
theorem f_104_456 : xft 104 456 = some (.if_icmp .ge 135) := by decide +kernel
set_option maxRecDepth 100000 in
theorem f_104_459 : xft 104 459 = some (.iload 10) := by decide +kernel
set_option maxRecDepth 100000 in
theorem f_104_461 : xft 104 461 = some (.ifCond .eq 130) := by decide +kernel
set_option maxRecDepth 100000 in
theorem f_104_464 : xft 104 464 = some (.iload 15) := by decide +kernel
set_option maxRecDepth 100000 in
theorem f_104_466 : xft 104 466 = some (.ifCond .eq 19) := by decide +kernel
set_option maxRecDepth 100000 in
theorem f_104_469 : xft 104 469 = some (.aload 4) := by decide +kernel
set_option maxRecDepth 100000 in
theorem f_104_471 : xft 104 471 = some (.aload 7) := by decide +kernel
set_option maxRecDepth 100000 in
theorem f_104_473 : xft 104 473 = some (.aload 14) := by decide +kernel
set_option maxRecDepth 100000 in
theorem f_104_475 : xft 104 475 = some (.iload 17) := by decide +kernel
set_option maxRecDepth 100000 in
theorem f_104_477 : xft 104 477 = some (.iload 13) := by decide +kernel
set_option maxRecDepth 100000 in
theorem f_104_479 : xft 104 479 = some (.invokestatic 96) := by decide +kernel
set_option maxRecDepth 100000 in
theorem f_104_482 : xft 104 482 = some (.goto 4) := by decide +kernel
set_option maxRecDepth 100000 in
theorem f_104_485 : xft 104 485 = some (.iconst 0) := by decide +kernel
set_option maxRecDepth 100000 in
theorem f_104_486 : xft 104 486 = some (.istore 18) := by decide +kernel
set_option maxRecDepth 100000 in
theorem f_104_488 : xft 104 488 = some (.aload_n 0) := by decide +kernel
set_option maxRecDepth 100000 in
theorem f_104_489 : xft 104 489 = some (.bipush 17) := by decide +kernel
set_option maxRecDepth 100000 in
theorem f_104_491 : xft 104 491 = some (.iload 17) := by decide +kernel
set_option maxRecDepth 100000 in
theorem f_104_493 : xft 104 493 = some (.iload 11) := by decide +kernel
set_option maxRecDepth 100000 in
theorem f_104_495 : xft 104 495 = some (.iload 12) := by decide +kernel
set_option maxRecDepth 100000 in
theorem f_104_497 : xft 104 497 = some (.iload 13) := by decide +kernel
set_option maxRecDepth 100000 in
theorem f_104_499 : xft 104 499 = some (.iconst 0) := by decide +kernel
set_option maxRecDepth 100000 in
theorem f_104_500 : xft 104 500 = some (.iconst 0) := by decide +kernel
set_option maxRecDepth 100000 in
theorem f_104_501 : xft 104 501 = some (.invokestatic 124) := by decide +kernel
set_option maxRecDepth 100000 in
theorem f_104_504 : xft 104 504 = some (.iload 18) := by decide +kernel
set_option maxRecDepth 100000 in
theorem f_104_506 : xft 104 506 = some (.if_icmp .ne 7) := by decide +kernel
set_option maxRecDepth 100000 in
theorem f_104_509 : xft 104 509 = some (.iconst 1) := by decide +kernel
set_option maxRecDepth 100000 in
theorem f_104_510 : xft 104 510 = some (.goto 4) := by decide +kernel
set_option maxRecDepth 100000 in
theorem f_104_513 : xft 104 513 = some (.iconst 0) := by decide +kernel
set_option maxRecDepth 100000 in
theorem f_104_514 : xft 104 514 = some (.istore 10) := by decide +kernel
set_option maxRecDepth 100000 in
theorem f_104_516 : xft 104 516 = some (.iload 15) := by decide +kernel
set_option maxRecDepth 100000 in
theorem f_104_518 : xft 104 518 = some (.ifCond .eq 20) := by decide +kernel
set_option maxRecDepth 100000 in
theorem f_104_521 : xft 104 521 = some (.aload 4) := by decide +kernel
set_option maxRecDepth 100000 in
theorem f_104_523 : xft 104 523 = some (.aload 7) := by decide +kernel
set_option maxRecDepth 100000 in
theorem f_104_525 : xft 104 525 = some (.aload 14) := by decide +kernel
set_option maxRecDepth 100000 in
theorem f_104_527 : xft 104 527 = some (.iload 17) := by decide +kernel
set_option maxRecDepth 100000 in
theorem f_104_529 : xft 104 529 = some (.sipush 5040) := by decide +kernel
set_option maxRecDepth 100000 in
theorem f_104_532 : xft 104 532 = some (.invokestatic 96) := by decide +kernel
set_option maxRecDepth 100000 in
theorem f_104_535 : xft 104 535 = some (.goto 4) := by decide +kernel
set_option maxRecDepth 100000 in
theorem f_104_538 : xft 104 538 = some (.iconst 0) := by decide +kernel
set_option maxRecDepth 100000 in
theorem f_104_539 : xft 104 539 = some (.istore 19) := by decide +kernel
set_option maxRecDepth 100000 in
theorem f_104_541 : xft 104 541 = some (.iload 19) := by decide +kernel
set_option maxRecDepth 100000 in
theorem f_104_543 : xft 104 543 = some (.ifCond .ne 9) := by decide +kernel
set_option maxRecDepth 100000 in
theorem f_104_546 : xft 104 546 = some (.sipush 9999) := by decide +kernel
set_option maxRecDepth 100000 in
theorem f_104_549 : xft 104 549 = some (.goto 18) := by decide +kernel
set_option maxRecDepth 100000 in
theorem f_104_552 : xft 104 552 = some (.sipush 5040) := by decide +kernel
set_option maxRecDepth 100000 in
theorem f_104_555 : xft 104 555 = some (.iload 19) := by decide +kernel
set_option maxRecDepth 100000 in
theorem f_104_557 : xft 104 557 = some (.idiv) := by decide +kernel
set_option maxRecDepth 100000 in
theorem f_104_558 : xft 104 558 = some (.aload_n 1) := by decide +kernel
set_option maxRecDepth 100000 in
theorem f_104_559 : xft 104 559 = some (.aload_n 2) := by decide +kernel
set_option maxRecDepth 100000 in
theorem f_104_560 : xft 104 560 = some (.aload_n 3) := by decide +kernel
set_option maxRecDepth 100000 in
theorem f_104_561 : xft 104 561 = some (.iload 17) := by decide +kernel
set_option maxRecDepth 100000 in
theorem f_104_563 : xft 104 563 = some (.invokestatic 99) := by decide +kernel
set_option maxRecDepth 100000 in
theorem f_104_566 : xft 104 566 = some (.imul) := by decide +kernel
set_option maxRecDepth 100000 in
theorem f_104_567 : xft 104 567 = some (.istore 20) := by decide +kernel
set_option maxRecDepth 100000 in
theorem f_104_569 : xft 104 569 = some (.iload 20) := by decide +kernel
set_option maxRecDepth 100000 in
theorem f_104_571 : xft 104 571 = some (.iload 16) := by decide +kernel
set_option maxRecDepth 100000 in
theorem f_104_573 : xft 104 573 = some (.if_icmp .ge 8) := by decide +kernel
set_option maxRecDepth 100000 in
theorem f_104_576 : xft 104 576 = some (.iload 20) := by decide +kernel
set_option maxRecDepth 100000 in
theorem f_104_578 : xft 104 578 = some (.goto 5) := by decide +kernel
set_option maxRecDepth 100000 in
theorem f_104_581 : xft 104 581 = some (.iload 16) := by decide +kernel
set_option maxRecDepth 100000 in
theorem f_104_583 : xft 104 583 = some (.istore 16) := by decide +kernel
set_option maxRecDepth 100000 in
theorem f_104_585 : xft 104 585 = some (.iinc 17 1) := by decide +kernel
set_option maxRecDepth 100000 in
theorem f_104_588 : xft 104 588 = some (.goto (-138)) := by decide +kernel
set_option maxRecDepth 100000 in
theorem f_104_591 : xft 104 591 = some (.iload 10) := by decide +kernel
set_option maxRecDepth 100000 in
theorem f_104_593 : xft 104 593 = some (.ifCond .eq 57) := by decide +kernel
set_option maxRecDepth 100000 in
theorem f_104_596 : xft 104 596 = some (.aload_n 0) := by decide +kernel
set_option maxRecDepth 100000 in
theorem f_104_597 : xft 104 597 = some (.bipush 18) := by decide +kernel
set_option maxRecDepth 100000 in
theorem f_104_599 : xft 104 599 = some (.iload 11) := by decide +kernel
set_option maxRecDepth 100000 in
theorem f_104_601 : xft 104 601 = some (.iload 12) := by decide +kernel
set_option maxRecDepth 100000 in
theorem f_104_603 : xft 104 603 = some (.iconst 0) := by decide +kernel
set_option maxRecDepth 100000 in
theorem f_104_604 : xft 104 604 = some (.iconst 0) := by decide +kernel
set_option maxRecDepth 100000 in
theorem f_104_605 : xft 104 605 = some (.iconst 0) := by decide +kernel
set_option maxRecDepth 100000 in
theorem f_104_606 : xft 104 606 = some (.iconst 0) := by decide +kernel
set_option maxRecDepth 100000 in
theorem f_104_607 : xft 104 607 = some (.invokestatic 124) := by decide +kernel
set_option maxRecDepth 100000 in
theorem f_104_610 : xft 104 610 = some (.iload 16) := by decide +kernel
set_option maxRecDepth 100000 in
theorem f_104_612 : xft 104 612 = some (.if_icmp .ne 38) := by decide +kernel
set_option maxRecDepth 100000 in
theorem f_104_615 : xft 104 615 = some (.aload_n 0) := by decide +kernel
set_option maxRecDepth 100000 in
theorem f_104_616 : xft 104 616 = some (.bipush 19) := by decide +kernel
set_option maxRecDepth 100000 in
theorem f_104_618 : xft 104 618 = some (.iload 11) := by decide +kernel
set_option maxRecDepth 100000 in
theorem f_104_620 : xft 104 620 = some (.iload 12) := by decide +kernel
set_option maxRecDepth 100000 in
theorem f_104_622 : xft 104 622 = some (.iload 9) := by decide +kernel
set_option maxRecDepth 100000 in
theorem f_104_624 : xft 104 624 = some (.iconst 3) := by decide +kernel
set_option maxRecDepth 100000 in
theorem f_104_625 : xft 104 625 = some (.idiv) := by decide +kernel
set_option maxRecDepth 100000 in
theorem f_104_626 : xft 104 626 = some (.iconst 5) := by decide +kernel
set_option maxRecDepth 100000 in
theorem f_104_627 : xft 104 627 = some (.irem) := by decide +kernel
set_option maxRecDepth 100000 in
theorem f_104_628 : xft 104 628 = some (.iconst 0) := by decide +kernel
set_option maxRecDepth 100000 in
theorem f_104_629 : xft 104 629 = some (.iconst 0) := by decide +kernel
set_option maxRecDepth 100000 in
theorem f_104_630 : xft 104 630 = some (.iconst 0) := by decide +kernel
set_option maxRecDepth 100000 in
theorem f_104_631 : xft 104 631 = some (.invokestatic 124) := by decide +kernel
set_option maxRecDepth 100000 in
theorem f_104_634 : xft 104 634 = some (.aload 14) := by decide +kernel
set_option maxRecDepth 100000 in
theorem f_104_636 : xft 104 636 = some (.iload 9) := by decide +kernel
set_option maxRecDepth 100000 in
theorem f_104_638 : xft 104 638 = some (.iconst 3) := by decide +kernel
set_option maxRecDepth 100000 in
theorem f_104_639 : xft 104 639 = some (.idiv) := by decide +kernel
set_option maxRecDepth 100000 in
theorem f_104_640 : xft 104 640 = some (.iconst 5) := by decide +kernel
set_option maxRecDepth 100000 in
theorem f_104_641 : xft 104 641 = some (.irem) := by decide +kernel
set_option maxRecDepth 100000 in
theorem f_104_642 : xft 104 642 = some (.iaload) := by decide +kernel
set_option maxRecDepth 100000 in
theorem f_104_643 : xft 104 643 = some (.if_icmp .ne 7) := by decide +kernel
set_option maxRecDepth 100000 in
theorem f_104_646 : xft 104 646 = some (.iconst 1) := by decide +kernel
set_option maxRecDepth 100000 in
theorem f_104_647 : xft 104 647 = some (.goto 4) := by decide +kernel
set_option maxRecDepth 100000 in
theorem f_104_650 : xft 104 650 = some (.iconst 0) := by decide +kernel
set_option maxRecDepth 100000 in
theorem f_104_651 : xft 104 651 = some (.istore 10) := by decide +kernel
set_option maxRecDepth 100000 in
theorem f_104_653 : xft 104 653 = some (.iload 8) := by decide +kernel
set_option maxRecDepth 100000 in
theorem f_104_655 : xft 104 655 = some (.iconst 4) := by decide +kernel
set_option maxRecDepth 100000 in
theorem f_104_656 : xft 104 656 = some (.idiv) := by decide +kernel
set_option maxRecDepth 100000 in
theorem f_104_657 : xft 104 657 = some (.iconst 2) := by decide +kernel
set_option maxRecDepth 100000 in
theorem f_104_658 : xft 104 658 = some (.irem) := by decide +kernel
set_option maxRecDepth 100000 in
theorem f_104_659 : xft 104 659 = some (.istore 17) := by decide +kernel
set_option maxRecDepth 100000 in
theorem f_104_661 : xft 104 661 = some (.iload 9) := by decide +kernel
set_option maxRecDepth 100000 in
theorem f_104_663 : xft 104 663 = some (.bipush 15) := by decide +kernel
set_option maxRecDepth 100000 in
theorem f_104_665 : xft 104 665 = some (.idiv) := by decide +kernel
set_option maxRecDepth 100000 in
theorem f_104_666 : xft 104 666 = some (.iconst 2) := by decide +kernel
set_option maxRecDepth 100000 in
theorem f_104_667 : xft 104 667 = some (.irem) := by decide +kernel
set_option maxRecDepth 100000 in
theorem f_104_668 : xft 104 668 = some (.istore 18) := by decide +kernel
set_option maxRecDepth 100000 in
theorem f_104_670 : xft 104 670 = some (.iconst 1) := by decide +kernel
set_option maxRecDepth 100000 in
theorem f_104_671 : xft 104 671 = some (.iload 8) := by decide +kernel
set_option maxRecDepth 100000 in
theorem f_104_673 : xft 104 673 = some (.sipush 3000) := by decide +kernel
set_option maxRecDepth 100000 in
theorem f_104_676 : xft 104 676 = some (.irem) := by decide +kernel
set_option maxRecDepth 100000 in
theorem f_104_677 : xft 104 677 = some (.iadd) := by decide +kernel
set_option maxRecDepth 100000 in
theorem f_104_678 : xft 104 678 = some (.istore 19) := by decide +kernel
set_option maxRecDepth 100000 in
theorem f_104_680 : xft 104 680 = some (.aload 5) := by decide +kernel
set_option maxRecDepth 100000 in
theorem f_104_682 : xft 104 682 = some (.iload 17) := by decide +kernel
set_option maxRecDepth 100000 in
theorem f_104_684 : xft 104 684 = some (.iload 18) := by decide +kernel
set_option maxRecDepth 100000 in
theorem f_104_686 : xft 104 686 = some (.iload 19) := by decide +kernel
set_option maxRecDepth 100000 in
theorem f_104_688 : xft 104 688 = some (.invokestatic 128) := by decide +kernel
set_option maxRecDepth 100000 in
theorem f_104_691 : xft 104 691 = some (.istore 20) := by decide +kernel
set_option maxRecDepth 100000 in
theorem f_104_693 : xft 104 693 = some (.iconst 0) := by decide +kernel
set_option maxRecDepth 100000 in
theorem f_104_694 : xft 104 694 = some (.istore 21) := by decide +kernel
set_option maxRecDepth 100000 in
theorem f_104_696 : xft 104 696 = some (.iconst 0) := by decide +kernel
set_option maxRecDepth 100000 in
theorem f_104_697 : xft 104 697 = some (.istore 22) := by decide +kernel
set_option maxRecDepth 100000 in
theorem f_104_699 : xft 104 699 = some (.iconst 0) := by decide +kernel
set_option maxRecDepth 100000 in
theorem f_104_700 : xft 104 700 = some (.istore 23) := by decide +kernel
set_option maxRecDepth 100000 in
theorem f_104_702 : xft 104 702 = some (.iload 23) := by decide +kernel
set_option maxRecDepth 100000 in
theorem f_104_704 : xft 104 704 = some (.bipush 7) := by decide +kernel
set_option maxRecDepth 100000 in
theorem f_104_706 : xft 104 706 = some (.if_icmp .ge 312) := by decide +kernel
set_option maxRecDepth 100000 in
theorem f_104_709 : xft 104 709 = some (.iload 10) := by decide +kernel
set_option maxRecDepth 100000 in
theorem f_104_711 : xft 104 711 = some (.ifCond .eq 307) := by decide +kernel
set_option maxRecDepth 100000 in
theorem f_104_714 : xft 104 714 = some (.aload 5) := by decide +kernel
set_option maxRecDepth 100000 in
theorem f_104_716 : xft 104 716 = some (.iload 17) := by decide +kernel
set_option maxRecDepth 100000 in
theorem f_104_718 : xft 104 718 = some (.iload 18) := by decide +kernel
set_option maxRecDepth 100000 in
theorem f_104_720 : xft 104 720 = some (.iload 20) := by decide +kernel
set_option maxRecDepth 100000 in
theorem f_104_722 : xft 104 722 = some (.iload 23) := by decide +kernel
set_option maxRecDepth 100000 in
theorem f_104_724 : xft 104 724 = some (.invokestatic 132) := by decide +kernel
set_option maxRecDepth 100000 in
theorem f_104_727 : xft 104 727 = some (.istore 24) := by decide +kernel
set_option maxRecDepth 100000 in
theorem f_104_729 : xft 104 729 = some (.iload 21) := by decide +kernel
set_option maxRecDepth 100000 in
theorem f_104_731 : xft 104 731 = some (.iload 24) := by decide +kernel
set_option maxRecDepth 100000 in
theorem f_104_733 : xft 104 733 = some (.ifCond .le 10) := by decide +kernel
set_option maxRecDepth 100000 in
theorem f_104_736 : xft 104 736 = some (.iconst 1) := by decide +kernel
set_option maxRecDepth 100000 in
theorem f_104_737 : xft 104 737 = some (.iload 23) := by decide +kernel
set_option maxRecDepth 100000 in
theorem f_104_739 : xft 104 739 = some (.ishl) := by decide +kernel
set_option maxRecDepth 100000 in
theorem f_104_740 : xft 104 740 = some (.goto 4) := by decide +kernel
set_option maxRecDepth 100000 in
theorem f_104_743 : xft 104 743 = some (.iconst 0) := by decide +kernel
set_option maxRecDepth 100000 in
theorem f_104_744 : xft 104 744 = some (.ior) := by decide +kernel
set_option maxRecDepth 100000 in
theorem f_104_745 : xft 104 745 = some (.istore 21) := by decide +kernel
set_option maxRecDepth 100000 in
theorem f_104_747 : xft 104 747 = some (.aload_n 0) := by decide +kernel
set_option maxRecDepth 100000 in
theorem f_104_748 : xft 104 748 = some (.iload 17) := by decide +kernel
set_option maxRecDepth 100000 in
theorem f_104_750 : xft 104 750 = some (.iload 18) := by decide +kernel
set_option maxRecDepth 100000 in
theorem f_104_752 : xft 104 752 = some (.iload 19) := by decide +kernel
set_option maxRecDepth 100000 in
theorem f_104_754 : xft 104 754 = some (.iload 23) := by decide +kernel
set_option maxRecDepth 100000 in
theorem f_104_756 : xft 104 756 = some (.invokevirtual 136) := by decide +kernel
set_option maxRecDepth 100000 in
theorem f_104_759 : xft 104 759 = some (.iload 24) := by decide +kernel
set_option maxRecDepth 100000 in
theorem f_104_761 : xft 104 761 = some (.if_icmp .ne 148) := by decide +kernel
set_option maxRecDepth 100000 in
theorem f_104_764 : xft 104 764 = some (.aload_n 0) := by decide +kernel
set_option maxRecDepth 100000 in
theorem f_104_765 : xft 104 765 = some (.iload 17) := by decide +kernel
set_option maxRecDepth 100000 in
theorem f_104_767 : xft 104 767 = some (.iload 23) := by decide +kernel
set_option maxRecDepth 100000 in
theorem f_104_769 : xft 104 769 = some (.iconst 0) := by decide +kernel
set_option maxRecDepth 100000 in
theorem f_104_770 : xft 104 770 = some (.invokevirtual 138) := by decide +kernel
set_option maxRecDepth 100000 in
theorem f_104_773 : xft 104 773 = some (.aload 5) := by decide +kernel
set_option maxRecDepth 100000 in
theorem f_104_775 : xft 104 775 = some (.bipush 42) := by decide +kernel
set_option maxRecDepth 100000 in
theorem f_104_777 : xft 104 777 = some (.bipush 7) := by decide +kernel
set_option maxRecDepth 100000 in
theorem f_104_779 : xft 104 779 = some (.iload 17) := by decide +kernel
set_option maxRecDepth 100000 in
theorem f_104_781 : xft 104 781 = some (.imul) := by decide +kernel
set_option maxRecDepth 100000 in
theorem f_104_782 : xft 104 782 = some (.iadd) := by decide +kernel
set_option maxRecDepth 100000 in
theorem f_104_783 : xft 104 783 = some (.iload 23) := by decide +kernel
set_option maxRecDepth 100000 in
theorem f_104_785 : xft 104 785 = some (.iadd) := by decide +kernel
set_option maxRecDepth 100000 in
theorem f_104_786 : xft 104 786 = some (.iaload) := by decide +kernel
set_option maxRecDepth 100000 in
theorem f_104_787 : xft 104 787 = some (.if_icmp .ne 122) := by decide +kernel
set_option maxRecDepth 100000 in
theorem f_104_790 : xft 104 790 = some (.aload_n 0) := by decide +kernel
set_option maxRecDepth 100000 in
theorem f_104_791 : xft 104 791 = some (.iload 17) := by decide +kernel
set_option maxRecDepth 100000 in
theorem f_104_793 : xft 104 793 = some (.iload 23) := by decide +kernel
set_option maxRecDepth 100000 in
theorem f_104_795 : xft 104 795 = some (.iconst 1) := by decide +kernel
set_option maxRecDepth 100000 in
theorem f_104_796 : xft 104 796 = some (.invokevirtual 138) := by decide +kernel
set_option maxRecDepth 100000 in
theorem f_104_799 : xft 104 799 = some (.aload 5) := by decide +kernel
set_option maxRecDepth 100000 in
theorem f_104_801 : xft 104 801 = some (.bipush 7) := by decide +kernel
set_option maxRecDepth 100000 in
theorem f_104_803 : xft 104 803 = some (.iload 17) := by decide +kernel
set_option maxRecDepth 100000 in
theorem f_104_805 : xft 104 805 = some (.imul) := by decide +kernel
set_option maxRecDepth 100000 in
theorem f_104_806 : xft 104 806 = some (.iload 23) := by decide +kernel
set_option maxRecDepth 100000 in
theorem f_104_808 : xft 104 808 = some (.iadd) := by decide +kernel
set_option maxRecDepth 100000 in
theorem f_104_809 : xft 104 809 = some (.iaload) := by decide +kernel
set_option maxRecDepth 100000 in
theorem f_104_810 : xft 104 810 = some (.if_icmp .ne 99) := by decide +kernel
set_option maxRecDepth 100000 in
theorem f_104_813 : xft 104 813 = some (.aload_n 0) := by decide +kernel
set_option maxRecDepth 100000 in
theorem f_104_814 : xft 104 814 = some (.iload 17) := by decide +kernel
set_option maxRecDepth 100000 in
theorem f_104_816 : xft 104 816 = some (.iload 23) := by decide +kernel
set_option maxRecDepth 100000 in
theorem f_104_818 : xft 104 818 = some (.iconst 2) := by decide +kernel
set_option maxRecDepth 100000 in
theorem f_104_819 : xft 104 819 = some (.invokevirtual 138) := by decide +kernel
set_option maxRecDepth 100000 in
theorem f_104_822 : xft 104 822 = some (.aload 5) := by decide +kernel
set_option maxRecDepth 100000 in
theorem f_104_824 : xft 104 824 = some (.iload 17) := by decide +kernel
set_option maxRecDepth 100000 in
theorem f_104_826 : xft 104 826 = some (.invokestatic 141) := by decide +kernel
set_option maxRecDepth 100000 in
theorem f_104_829 : xft 104 829 = some (.ifCond .eq 7) := by decide +kernel
set_option maxRecDepth 100000 in
theorem f_104_832 : xft 104 832 = some (.iconst 1) := by decide +kernel
set_option maxRecDepth 100000 in
theorem f_104_833 : xft 104 833 = some (.goto 4) := by decide +kernel
set_option maxRecDepth 100000 in
theorem f_104_836 : xft 104 836 = some (.iconst 0) := by decide +kernel
set_option maxRecDepth 100000 in
theorem f_104_837 : xft 104 837 = some (.if_icmp .ne 72) := by decide +kernel
set_option maxRecDepth 100000 in
theorem f_104_840 : xft 104 840 = some (.aload_n 0) := by decide +kernel
set_option maxRecDepth 100000 in
theorem f_104_841 : xft 104 841 = some (.iload 17) := by decide +kernel
set_option maxRecDepth 100000 in
theorem f_104_843 : xft 104 843 = some (.iload 23) := by decide +kernel
set_option maxRecDepth 100000 in
theorem f_104_845 : xft 104 845 = some (.iconst 0) := by decide +kernel
set_option maxRecDepth 100000 in
theorem f_104_846 : xft 104 846 = some (.iload 18) := by decide +kernel
set_option maxRecDepth 100000 in
theorem f_104_848 : xft 104 848 = some (.invokevirtual 145) := by decide +kernel
set_option maxRecDepth 100000 in
theorem f_104_851 : xft 104 851 = some (.aload 6) := by decide +kernel
set_option maxRecDepth 100000 in
theorem f_104_853 : xft 104 853 = some (.bipush 14) := by decide +kernel
set_option maxRecDepth 100000 in
theorem f_104_855 : xft 104 855 = some (.iload 17) := by decide +kernel
set_option maxRecDepth 100000 in
theorem f_104_857 : xft 104 857 = some (.imul) := by decide +kernel
set_option maxRecDepth 100000 in
theorem f_104_858 : xft 104 858 = some (.iconst 2) := by decide +kernel
set_option maxRecDepth 100000 in
theorem f_104_859 : xft 104 859 = some (.iload 23) := by decide +kernel
set_option maxRecDepth 100000 in
theorem f_104_861 : xft 104 861 = some (.imul) := by decide +kernel
set_option maxRecDepth 100000 in
theorem f_104_862 : xft 104 862 = some (.iadd) := by decide +kernel
set_option maxRecDepth 100000 in
theorem f_104_863 : xft 104 863 = some (.iload 18) := by decide +kernel
set_option maxRecDepth 100000 in
theorem f_104_865 : xft 104 865 = some (.iadd) := by decide +kernel
set_option maxRecDepth 100000 in
theorem f_104_866 : xft 104 866 = some (.iaload) := by decide +kernel
set_option maxRecDepth 100000 in
theorem f_104_867 : xft 104 867 = some (.if_icmp .ne 42) := by decide +kernel
set_option maxRecDepth 100000 in
theorem f_104_870 : xft 104 870 = some (.aload_n 0) := by decide +kernel
set_option maxRecDepth 100000 in
theorem f_104_871 : xft 104 871 = some (.iload 17) := by decide +kernel
set_option maxRecDepth 100000 in
theorem f_104_873 : xft 104 873 = some (.iload 23) := by decide +kernel
set_option maxRecDepth 100000 in
theorem f_104_875 : xft 104 875 = some (.iconst 2) := by decide +kernel
set_option maxRecDepth 100000 in
theorem f_104_876 : xft 104 876 = some (.iconst 1) := by decide +kernel
set_option maxRecDepth 100000 in
theorem f_104_877 : xft 104 877 = some (.iload 18) := by decide +kernel
set_option maxRecDepth 100000 in
theorem f_104_879 : xft 104 879 = some (.iadd) := by decide +kernel
set_option maxRecDepth 100000 in
theorem f_104_880 : xft 104 880 = some (.invokevirtual 145) := by decide +kernel
set_option maxRecDepth 100000 in
theorem f_104_883 : xft 104 883 = some (.aload 6) := by decide +kernel
set_option maxRecDepth 100000 in
theorem f_104_885 : xft 104 885 = some (.bipush 28) := by decide +kernel
set_option maxRecDepth 100000 in
theorem f_104_887 : xft 104 887 = some (.bipush 14) := by decide +kernel
set_option maxRecDepth 100000 in
theorem f_104_889 : xft 104 889 = some (.iload 17) := by decide +kernel
set_option maxRecDepth 100000 in
theorem f_104_891 : xft 104 891 = some (.imul) := by decide +kernel
set_option maxRecDepth 100000 in
theorem f_104_892 : xft 104 892 = some (.iadd) := by decide +kernel
set_option maxRecDepth 100000 in
theorem f_104_893 : xft 104 893 = some (.iconst 2) := by decide +kernel
set_option maxRecDepth 100000 in
theorem f_104_894 : xft 104 894 = some (.iload 23) := by decide +kernel
set_option maxRecDepth 100000 in
theorem f_104_896 : xft 104 896 = some (.imul) := by decide +kernel
set_option maxRecDepth 100000 in
theorem f_104_897 : xft 104 897 = some (.iadd) := by decide +kernel
set_option maxRecDepth 100000 in
theorem f_104_898 : xft 104 898 = some (.iload 18) := by decide +kernel
set_option maxRecDepth 100000 in
theorem f_104_900 : xft 104 900 = some (.iadd) := by decide +kernel
set_option maxRecDepth 100000 in
theorem f_104_901 : xft 104 901 = some (.iaload) := by decide +kernel
set_option maxRecDepth 100000 in
theorem f_104_902 : xft 104 902 = some (.if_icmp .ne 7) := by decide +kernel
set_option maxRecDepth 100000 in
theorem f_104_905 : xft 104 905 = some (.iconst 1) := by decide +kernel
set_option maxRecDepth 100000 in
theorem f_104_906 : xft 104 906 = some (.goto 4) := by decide +kernel
set_option maxRecDepth 100000 in
theorem f_104_909 : xft 104 909 = some (.iconst 0) := by decide +kernel
set_option maxRecDepth 100000 in
theorem f_104_910 : xft 104 910 = some (.istore 10) := by decide +kernel
set_option maxRecDepth 100000 in
theorem f_104_912 : xft 104 912 = some (.aload 6) := by decide +kernel
set_option maxRecDepth 100000 in
theorem f_104_914 : xft 104 914 = some (.bipush 14) := by decide +kernel
set_option maxRecDepth 100000 in
theorem f_104_916 : xft 104 916 = some (.iload 17) := by decide +kernel
set_option maxRecDepth 100000 in
theorem f_104_918 : xft 104 918 = some (.imul) := by decide +kernel
set_option maxRecDepth 100000 in
theorem f_104_919 : xft 104 919 = some (.iconst 2) := by decide +kernel
set_option maxRecDepth 100000 in
theorem f_104_920 : xft 104 920 = some (.iload 23) := by decide +kernel
set_option maxRecDepth 100000 in
theorem f_104_922 : xft 104 922 = some (.imul) := by decide +kernel
set_option maxRecDepth 100000 in
theorem f_104_923 : xft 104 923 = some (.iadd) := by decide +kernel
set_option maxRecDepth 100000 in
theorem f_104_924 : xft 104 924 = some (.iaload) := by decide +kernel
set_option maxRecDepth 100000 in
theorem f_104_925 : xft 104 925 = some (.istore 25) := by decide +kernel
set_option maxRecDepth 100000 in
theorem f_104_927 : xft 104 927 = some (.aload 6) := by decide +kernel
set_option maxRecDepth 100000 in
theorem f_104_929 : xft 104 929 = some (.bipush 14) := by decide +kernel
set_option maxRecDepth 100000 in
theorem f_104_931 : xft 104 931 = some (.iload 17) := by decide +kernel
set_option maxRecDepth 100000 in
theorem f_104_933 : xft 104 933 = some (.imul) := by decide +kernel
set_option maxRecDepth 100000 in
theorem f_104_934 : xft 104 934 = some (.iconst 2) := by decide +kernel
set_option maxRecDepth 100000 in
theorem f_104_935 : xft 104 935 = some (.iload 23) := by decide +kernel
set_option maxRecDepth 100000 in
theorem f_104_937 : xft 104 937 = some (.imul) := by decide +kernel
set_option maxRecDepth 100000 in
theorem f_104_938 : xft 104 938 = some (.iadd) := by decide +kernel
set_option maxRecDepth 100000 in
theorem f_104_939 : xft 104 939 = some (.iconst 1) := by decide +kernel
set_option maxRecDepth 100000 in
theorem f_104_940 : xft 104 940 = some (.iadd) := by decide +kernel
set_option maxRecDepth 100000 in
theorem f_104_941 : xft 104 941 = some (.iaload) := by decide +kernel
set_option maxRecDepth 100000 in
theorem f_104_942 : xft 104 942 = some (.istore 26) := by decide +kernel
set_option maxRecDepth 100000 in
theorem f_104_944 : xft 104 944 = some (.iload 10) := by decide +kernel
set_option maxRecDepth 100000 in
theorem f_104_946 : xft 104 946 = some (.ifCond .eq 63) := by decide +kernel
set_option maxRecDepth 100000 in
theorem f_104_949 : xft 104 949 = some (.aload_n 0) := by decide +kernel
set_option maxRecDepth 100000 in
theorem f_104_950 : xft 104 950 = some (.iload 17) := by decide +kernel
set_option maxRecDepth 100000 in
theorem f_104_952 : xft 104 952 = some (.iload 23) := by decide +kernel
set_option maxRecDepth 100000 in
theorem f_104_954 : xft 104 954 = some (.iconst 0) := by decide +kernel
set_option maxRecDepth 100000 in
theorem f_104_955 : xft 104 955 = some (.invokevirtual 148) := by decide +kernel
set_option maxRecDepth 100000 in
theorem f_104_958 : xft 104 958 = some (.iload 25) := by decide +kernel
set_option maxRecDepth 100000 in
theorem f_104_960 : xft 104 960 = some (.ifCond .ne 12) := by decide +kernel
set_option maxRecDepth 100000 in
theorem f_104_963 : xft 104 963 = some (.iload 26) := by decide +kernel
set_option maxRecDepth 100000 in
theorem f_104_965 : xft 104 965 = some (.ifCond .ne 7) := by decide +kernel
set_option maxRecDepth 100000 in
theorem f_104_968 : xft 104 968 = some (.iconst (-1)) := by decide +kernel
set_option maxRecDepth 100000 in
theorem f_104_969 : xft 104 969 = some (.goto 15) := by decide +kernel
set_option maxRecDepth 100000 in
theorem f_104_972 : xft 104 972 = some (.iload 25) := by decide +kernel
set_option maxRecDepth 100000 in
theorem f_104_974 : xft 104 974 = some (.iload 26) := by decide +kernel
set_option maxRecDepth 100000 in
theorem f_104_976 : xft 104 976 = some (.if_icmp .lt 7) := by decide +kernel
set_option maxRecDepth 100000 in
theorem f_104_979 : xft 104 979 = some (.iconst 0) := by decide +kernel
set_option maxRecDepth 100000 in
theorem f_104_980 : xft 104 980 = some (.goto 4) := by decide +kernel
set_option maxRecDepth 100000 in
theorem f_104_983 : xft 104 983 = some (.iconst 1) := by decide +kernel
set_option maxRecDepth 100000 in
theorem f_104_984 : xft 104 984 = some (.if_icmp .ne 25) := by decide +kernel
set_option maxRecDepth 100000 in
theorem f_104_987 : xft 104 987 = some (.aload_n 0) := by decide +kernel
set_option maxRecDepth 100000 in
theorem f_104_988 : xft 104 988 = some (.iload 17) := by decide +kernel
set_option maxRecDepth 100000 in
theorem f_104_990 : xft 104 990 = some (.iload 23) := by decide +kernel
set_option maxRecDepth 100000 in
theorem f_104_992 : xft 104 992 = some (.iconst 1) := by decide +kernel
set_option maxRecDepth 100000 in
theorem f_104_993 : xft 104 993 = some (.iconst 2) := by decide +kernel
set_option maxRecDepth 100000 in
theorem f_104_994 : xft 104 994 = some (.invokevirtual 145) := by decide +kernel
set_option maxRecDepth 100000 in
theorem f_104_997 : xft 104 997 = some (.iload 25) := by decide +kernel
set_option maxRecDepth 100000 in
theorem f_104_999 : xft 104 999 = some (.iload 26) := by decide +kernel
set_option maxRecDepth 100000 in
theorem f_104_1001 : xft 104 1001 = some (.iadd) := by decide +kernel
set_option maxRecDepth 100000 in
theorem f_104_1002 : xft 104 1002 = some (.if_icmp .ne 7) := by decide +kernel
set_option maxRecDepth 100000 in
theorem f_104_1005 : xft 104 1005 = some (.iconst 1) := by decide +kernel
set_option maxRecDepth 100000 in
theorem f_104_1006 : xft 104 1006 = some (.goto 4) := by decide +kernel
set_option maxRecDepth 100000 in
theorem f_104_1009 : xft 104 1009 = some (.iconst 0) := by decide +kernel
set_option maxRecDepth 100000 in
theorem f_104_1010 : xft 104 1010 = some (.istore 10) := by decide +kernel
set_option maxRecDepth 100000 in
theorem f_104_1012 : xft 104 1012 = some (.iinc 23 1) := by decide +kernel
set_option maxRecDepth 100000 in
theorem f_104_1015 : xft 104 1015 = some (.goto (-313)) := by decide +kernel
set_option maxRecDepth 100000 in
theorem f_104_1018 : xft 104 1018 = some (.iconst 1) := by decide +kernel
set_option maxRecDepth 100000 in
theorem f_104_1019 : xft 104 1019 = some (.istore 23) := by decide +kernel
set_option maxRecDepth 100000 in
theorem f_104_1021 : xft 104 1021 = some (.iload 23) := by decide +kernel
set_option maxRecDepth 100000 in
theorem f_104_1023 : xft 104 1023 = some (.bipush 6) := by decide +kernel
set_option maxRecDepth 100000 in
theorem f_104_1025 : xft 104 1025 = some (.if_icmp .ge 76) := by decide +kernel
set_option maxRecDepth 100000 in
theorem f_104_1028 : xft 104 1028 = some (.iload 21) := by decide +kernel
set_option maxRecDepth 100000 in
theorem f_104_1030 : xft 104 1030 = some (.iconst 1) := by decide +kernel
set_option maxRecDepth 100000 in
theorem f_104_1031 : xft 104 1031 = some (.iload 23) := by decide +kernel
set_option maxRecDepth 100000 in
theorem f_104_1033 : xft 104 1033 = some (.ishl) := by decide +kernel
set_option maxRecDepth 100000 in
theorem f_104_1034 : xft 104 1034 = some (.irem) := by decide +kernel
set_option maxRecDepth 100000 in
theorem f_104_1035 : xft 104 1035 = some (.ifCond .le 7) := by decide +kernel
set_option maxRecDepth 100000 in
theorem f_104_1038 : xft 104 1038 = some (.iconst 1) := by decide +kernel
set_option maxRecDepth 100000 in
theorem f_104_1039 : xft 104 1039 = some (.goto 4) := by decide +kernel
set_option maxRecDepth 100000 in
theorem f_104_1042 : xft 104 1042 = some (.iconst 0) := by decide +kernel
set_option maxRecDepth 100000 in
theorem f_104_1043 : xft 104 1043 = some (.istore 24) := by decide +kernel
set_option maxRecDepth 100000 in
theorem f_104_1045 : xft 104 1045 = some (.iload 21) := by decide +kernel
set_option maxRecDepth 100000 in
theorem f_104_1047 : xft 104 1047 = some (.iload 23) := by decide +kernel
set_option maxRecDepth 100000 in
theorem f_104_1049 : xft 104 1049 = some (.iconst 1) := by decide +kernel
set_option maxRecDepth 100000 in
theorem f_104_1050 : xft 104 1050 = some (.iadd) := by decide +kernel
set_option maxRecDepth 100000 in
theorem f_104_1051 : xft 104 1051 = some (.ishr) := by decide +kernel
set_option maxRecDepth 100000 in
theorem f_104_1052 : xft 104 1052 = some (.ifCond .le 7) := by decide +kernel
set_option maxRecDepth 100000 in
theorem f_104_1055 : xft 104 1055 = some (.iconst 1) := by decide +kernel
set_option maxRecDepth 100000 in
theorem f_104_1056 : xft 104 1056 = some (.goto 4) := by decide +kernel
set_option maxRecDepth 100000 in
theorem f_104_1059 : xft 104 1059 = some (.iconst 0) := by decide +kernel
set_option maxRecDepth 100000 in
theorem f_104_1060 : xft 104 1060 = some (.istore 25) := by decide +kernel
set_option maxRecDepth 100000 in
theorem f_104_1062 : xft 104 1062 = some (.iload 22) := by decide +kernel
set_option maxRecDepth 100000 in
theorem f_104_1064 : xft 104 1064 = some (.iload 21) := by decide +kernel
set_option maxRecDepth 100000 in
theorem f_104_1066 : xft 104 1066 = some (.iload 23) := by decide +kernel
set_option maxRecDepth 100000 in
theorem f_104_1068 : xft 104 1068 = some (.ishr) := by decide +kernel
set_option maxRecDepth 100000 in
theorem f_104_1069 : xft 104 1069 = some (.iconst 1) := by decide +kernel
set_option maxRecDepth 100000 in
theorem f_104_1070 : xft 104 1070 = some (.iand) := by decide +kernel
set_option maxRecDepth 100000 in
theorem f_104_1071 : xft 104 1071 = some (.ifCond .ne 20) := by decide +kernel
set_option maxRecDepth 100000 in
theorem f_104_1074 : xft 104 1074 = some (.iload 24) := by decide +kernel
set_option maxRecDepth 100000 in
theorem f_104_1076 : xft 104 1076 = some (.ifCond .eq 15) := by decide +kernel
set_option maxRecDepth 100000 in
theorem f_104_1079 : xft 104 1079 = some (.iload 25) := by decide +kernel
set_option maxRecDepth 100000 in
theorem f_104_1081 : xft 104 1081 = some (.ifCond .eq 10) := by decide +kernel
set_option maxRecDepth 100000 in
theorem f_104_1084 : xft 104 1084 = some (.iconst 1) := by decide +kernel
set_option maxRecDepth 100000 in
theorem f_104_1085 : xft 104 1085 = some (.iload 23) := by decide +kernel
set_option maxRecDepth 100000 in
theorem f_104_1087 : xft 104 1087 = some (.ishl) := by decide +kernel
set_option maxRecDepth 100000 in
theorem f_104_1088 : xft 104 1088 = some (.goto 4) := by decide +kernel
set_option maxRecDepth 100000 in
theorem f_104_1091 : xft 104 1091 = some (.iconst 0) := by decide +kernel
set_option maxRecDepth 100000 in
theorem f_104_1092 : xft 104 1092 = some (.ior) := by decide +kernel
set_option maxRecDepth 100000 in
theorem f_104_1093 : xft 104 1093 = some (.istore 22) := by decide +kernel
set_option maxRecDepth 100000 in
theorem f_104_1095 : xft 104 1095 = some (.iinc 23 1) := by decide +kernel
set_option maxRecDepth 100000 in
theorem f_104_1098 : xft 104 1098 = some (.goto (-77)) := by decide +kernel
set_option maxRecDepth 100000 in
theorem f_104_1101 : xft 104 1101 = some (.iload 10) := by decide +kernel
set_option maxRecDepth 100000 in
theorem f_104_1103 : xft 104 1103 = some (.ifCond .eq 72) := by decide +kernel
set_option maxRecDepth 100000 in
theorem f_104_1106 : xft 104 1106 = some (.aload_n 0) := by decide +kernel
set_option maxRecDepth 100000 in
theorem f_104_1107 : xft 104 1107 = some (.iload 17) := by decide +kernel
set_option maxRecDepth 100000 in
theorem f_104_1109 : xft 104 1109 = some (.iload 18) := by decide +kernel
set_option maxRecDepth 100000 in
theorem f_104_1111 : xft 104 1111 = some (.iload 19) := by decide +kernel
set_option maxRecDepth 100000 in
theorem f_104_1113 : xft 104 1113 = some (.invokevirtual 151) := by decide +kernel
set_option maxRecDepth 100000 in
theorem f_104_1116 : xft 104 1116 = some (.iload 20) := by decide +kernel
set_option maxRecDepth 100000 in
theorem f_104_1118 : xft 104 1118 = some (.if_icmp .ne 57) := by decide +kernel
set_option maxRecDepth 100000 in
theorem f_104_1121 : xft 104 1121 = some (.aload_n 0) := by decide +kernel
set_option maxRecDepth 100000 in
theorem f_104_1122 : xft 104 1122 = some (.iload 17) := by decide +kernel
set_option maxRecDepth 100000 in
theorem f_104_1124 : xft 104 1124 = some (.iload 18) := by decide +kernel
set_option maxRecDepth 100000 in
theorem f_104_1126 : xft 104 1126 = some (.iload 19) := by decide +kernel
set_option maxRecDepth 100000 in
theorem f_104_1128 : xft 104 1128 = some (.invokevirtual 154) := by decide +kernel
set_option maxRecDepth 100000 in
theorem f_104_1131 : xft 104 1131 = some (.iload 20) := by decide +kernel
set_option maxRecDepth 100000 in
theorem f_104_1133 : xft 104 1133 = some (.if_icmp .ne 42) := by decide +kernel
set_option maxRecDepth 100000 in
theorem f_104_1136 : xft 104 1136 = some (.aload_n 0) := by decide +kernel
set_option maxRecDepth 100000 in
theorem f_104_1137 : xft 104 1137 = some (.iload 17) := by decide +kernel
set_option maxRecDepth 100000 in
theorem f_104_1139 : xft 104 1139 = some (.iload 18) := by decide +kernel
set_option maxRecDepth 100000 in
theorem f_104_1141 : xft 104 1141 = some (.iload 19) := by decide +kernel
set_option maxRecDepth 100000 in
theorem f_104_1143 : xft 104 1143 = some (.invokevirtual 157) := by decide +kernel
set_option maxRecDepth 100000 in
theorem f_104_1146 : xft 104 1146 = some (.iload 22) := by decide +kernel
set_option maxRecDepth 100000 in
theorem f_104_1148 : xft 104 1148 = some (.if_icmp .ne 27) := by decide +kernel
set_option maxRecDepth 100000 in
theorem f_104_1151 : xft 104 1151 = some (.aload_n 0) := by decide +kernel
set_option maxRecDepth 100000 in
theorem f_104_1152 : xft 104 1152 = some (.bipush 6) := by decide +kernel
set_option maxRecDepth 100000 in
theorem f_104_1154 : xft 104 1154 = some (.aload 7) := by decide +kernel
set_option maxRecDepth 100000 in
theorem f_104_1156 : xft 104 1156 = some (.iconst 1) := by decide +kernel
set_option maxRecDepth 100000 in
theorem f_104_1157 : xft 104 1157 = some (.iaload) := by decide +kernel
set_option maxRecDepth 100000 in
theorem f_104_1158 : xft 104 1158 = some (.iconst 0) := by decide +kernel
set_option maxRecDepth 100000 in
theorem f_104_1159 : xft 104 1159 = some (.iconst 0) := by decide +kernel
set_option maxRecDepth 100000 in
theorem f_104_1160 : xft 104 1160 = some (.iconst 0) := by decide +kernel
set_option maxRecDepth 100000 in
theorem f_104_1161 : xft 104 1161 = some (.iconst 0) := by decide +kernel
set_option maxRecDepth 100000 in
theorem f_104_1162 : xft 104 1162 = some (.iconst 0) := by decide +kernel
set_option maxRecDepth 100000 in
theorem f_104_1163 : xft 104 1163 = some (.invokestatic 124) := by decide +kernel
set_option maxRecDepth 100000 in
theorem f_104_1166 : xft 104 1166 = some (.ldc 79) := by decide +kernel
set_option maxRecDepth 100000 in
theorem f_104_1168 : xft 104 1168 = some (.if_icmp .ne 7) := by decide +kernel
set_option maxRecDepth 100000 in
theorem f_104_1171 : xft 104 1171 = some (.iconst 1) := by decide +kernel
set_option maxRecDepth 100000 in
theorem f_104_1172 : xft 104 1172 = some (.goto 4) := by decide +kernel
set_option maxRecDepth 100000 in
theorem f_104_1175 : xft 104 1175 = some (.iconst 0) := by decide +kernel
set_option maxRecDepth 100000 in
theorem f_104_1176 : xft 104 1176 = some (.ireturn) := by decide +kernel
/-! blocks, by program (gen2.py) -/
section BLK
variable {sc : xS} {d : Nat} {T : Nat → Nat × Nat} {z : Nat × Nat} {V : Nat → Nat → Int} {J : Nat → Nat → Int64} {R : Nat → Nat → Option Nat}
theorem eL_isSo {x8 x9 : Int} {a0 a1 a2 a3 a4 a5 a6 a7 : Nat} : X sc (d + 1) 104 [.ref a0, .ref a1, .ref a2, .ref a3, .ref a4, .ref a5, .ref a6, .ref a7, xw x8, xw x9] (T, z, xv V, J, R) = XR sc d 104 0 [some (.ref a0), some (.ref a1), some (.ref a2), some (.ref a3), some (.ref a4), some (.ref a5), some (.ref a6), some (.ref a7), some (xw x8), some (xw x9), none, none, none, none, none, none, none, none, none, none, none, none, none, none, none, none, none] [] (T, z, xv V, J, R) :=
  (X_eq ⟨jl_104, by rw [mn_104]; rfl, rfl, by rw [lm_104]; exact Nat.le_of_ble_eq_true rfl⟩).trans (by unfold xent; rw [lm_104]; rfl)
theorem bL_isSo_0 {o1 o2 o3 o4 o5 o6 o7 o8 o9 o10 o11 o12 o13 o14 o15 o16 o17 o18 o19 o20 o21 o22 o23 o24 o25 o26 : Option Value} {a0 : Nat} (g1 : T a0 = (7, 0)) : XR sc d 104 0 [some (.ref a0), o1, o2, o3, o4, o5, o6, o7, o8, o9, o10, o11, o12, o13, o14, o15, o16, o17, o18, o19, o20, o21, o22, o23, o24, o25, o26] [] (T, z, xv V, J, R) = xret 104 (XR sc d 104) 1 4 [some (.ref a0), o1, o2, o3, o4, o5, o6, o7, o8, o9, o10, o11, o12, o13, o14, o15, o16, o17, o18, o19, o20, o21, o22, o23, o24, o25, o26] [] (X sc d 78 [.ref a0] (T, z, xv V, J, R)) :=
  (st_aload_n f_104_0 rfl).trans (st_callV' f_104_1 h_104_112 mn_78 rfl rfl rfl rfl mo_78 g1 rfl)
theorem bL_isSo_4 {o0 o1 o2 o3 o4 o5 o6 o8 o9 o10 o11 o12 o13 o14 o15 o16 o17 o18 o19 o20 o21 o22 o23 o24 o25 o26 : Option Value} {y0 : Int} {a7 : Nat} (g1 : T a7 = (32, (T a7).2)) (g2 : (0 : Int) ≤ 2 ∧ 2 < ((T a7).2 : Int) ∧ (T a7).2 ≤ 3584) (g3 : -2147483648 ≤ y0 ∧ y0 ≤ 2147483647) (g4 : -2147483648 ≤ (V a7 2) ∧ (V a7 2) ≤ 2147483647) : XR sc d 104 4 [o0, o1, o2, o3, o4, o5, o6, some (.ref a7), o8, o9, o10, o11, o12, o13, o14, o15, o16, o17, o18, o19, o20, o21, o22, o23, o24, o25, o26] [xw y0] (T, z, xv V, J, R) = if y0 = (V a7 2) then XR sc d 104 11 [o0, o1, o2, o3, o4, o5, o6, some (.ref a7), o8, o9, o10, o11, o12, o13, o14, o15, o16, o17, o18, o19, o20, o21, o22, o23, o24, o25, o26] [] (T, z, xv V, J, R) else XR sc d 104 15 [o0, o1, o2, o3, o4, o5, o6, some (.ref a7), o8, o9, o10, o11, o12, o13, o14, o15, o16, o17, o18, o19, o20, o21, o22, o23, o24, o25, o26] [] (T, z, xv V, J, R) :=
  (st_aload f_104_4 rfl).trans ((sw_iconst f_104_6).trans ((sw_iaload f_104_7 g1 g2).trans (sw_icmp_ne (t := 15) f_104_8 ⟨by decide, rfl⟩ g3 g4)))
theorem bL_isSo_11 {o0 o1 o2 o3 o4 o5 o6 o7 o8 o9 o10 o11 o12 o13 o14 o15 o16 o17 o18 o19 o20 o21 o22 o23 o24 o25 o26 : Option Value} : XR sc d 104 11 [o0, o1, o2, o3, o4, o5, o6, o7, o8, o9, o10, o11, o12, o13, o14, o15, o16, o17, o18, o19, o20, o21, o22, o23, o24, o25, o26] [] (T, z, xv V, J, R) = XR sc d 104 16 [o0, o1, o2, o3, o4, o5, o6, o7, o8, o9, o10, o11, o12, o13, o14, o15, o16, o17, o18, o19, o20, o21, o22, o23, o24, o25, o26] [xw 1] (T, z, xv V, J, R) :=
  (sw_iconst f_104_11).trans (st_goto (t := 16) f_104_12 ⟨by decide, rfl⟩)
theorem bL_isSo_15 {o0 o1 o2 o3 o4 o5 o6 o7 o8 o9 o10 o11 o12 o13 o14 o15 o16 o17 o18 o19 o20 o21 o22 o23 o24 o25 o26 : Option Value} : XR sc d 104 15 [o0, o1, o2, o3, o4, o5, o6, o7, o8, o9, o10, o11, o12, o13, o14, o15, o16, o17, o18, o19, o20, o21, o22, o23, o24, o25, o26] [] (T, z, xv V, J, R) = XR sc d 104 16 [o0, o1, o2, o3, o4, o5, o6, o7, o8, o9, o10, o11, o12, o13, o14, o15, o16, o17, o18, o19, o20, o21, o22, o23, o24, o25, o26] [xw 0] (T, z, xv V, J, R) :=
  sw_iconst f_104_15
theorem bL_isSo_16 {o0 o1 o2 o3 o4 o5 o6 o7 o8 o9 o10 o11 o12 o13 o14 o15 o16 o17 o18 o19 o20 o21 o22 o23 o24 o25 o26 : Option Value} {y0 : Int} : XR sc d 104 16 [o0, o1, o2, o3, o4, o5, o6, o7, o8, o9, o10, o11, o12, o13, o14, o15, o16, o17, o18, o19, o20, o21, o22, o23, o24, o25, o26] [xw y0] (T, z, xv V, J, R) = XR sc d 104 21 [o0, o1, o2, o3, o4, o5, o6, o7, o8, o9, some (xw y0), some (xw 0), o12, o13, o14, o15, o16, o17, o18, o19, o20, o21, o22, o23, o24, o25, o26] [] (T, z, xv V, J, R) :=
  (sw_istore (L' := [o0, o1, o2, o3, o4, o5, o6, o7, o8, o9, some (xw y0), o11, o12, o13, o14, o15, o16, o17, o18, o19, o20, o21, o22, o23, o24, o25, o26]) f_104_16 (Nat.le_of_ble_eq_true rfl) rfl).trans ((sw_iconst f_104_18).trans (sw_istore (L' := [o0, o1, o2, o3, o4, o5, o6, o7, o8, o9, some (xw y0), some (xw 0), o12, o13, o14, o15, o16, o17, o18, o19, o20, o21, o22, o23, o24, o25, o26]) f_104_19 (Nat.le_of_ble_eq_true rfl) rfl))
theorem bL_isSo_21 {o0 o1 o2 o3 o4 o5 o6 o8 o9 o10 o12 o13 o14 o15 o16 o17 o18 o19 o20 o21 o22 o23 o24 o25 o26 : Option Value} {x11 : Int} {a7 : Nat} (g1 : T a7 = (32, (T a7).2)) (g2 : (0 : Int) ≤ 1 ∧ 1 < ((T a7).2 : Int) ∧ (T a7).2 ≤ 3584) (g3 : -2147483648 ≤ x11 ∧ x11 ≤ 2147483647) (g4 : -2147483648 ≤ (V a7 1) ∧ (V a7 1) ≤ 2147483647) : XR sc d 104 21 [o0, o1, o2, o3, o4, o5, o6, some (.ref a7), o8, o9, o10, some (xw x11), o12, o13, o14, o15, o16, o17, o18, o19, o20, o21, o22, o23, o24, o25, o26] [] (T, z, xv V, J, R) = if (V a7 1) ≤ x11 then XR sc d 104 383 [o0, o1, o2, o3, o4, o5, o6, some (.ref a7), o8, o9, o10, some (xw x11), o12, o13, o14, o15, o16, o17, o18, o19, o20, o21, o22, o23, o24, o25, o26] [] (T, z, xv V, J, R) else XR sc d 104 30 [o0, o1, o2, o3, o4, o5, o6, some (.ref a7), o8, o9, o10, some (xw x11), o12, o13, o14, o15, o16, o17, o18, o19, o20, o21, o22, o23, o24, o25, o26] [] (T, z, xv V, J, R) :=
  (sw_iload f_104_21 rfl).trans ((st_aload f_104_23 rfl).trans ((sw_iconst f_104_25).trans ((sw_iaload f_104_26 g1 g2).trans (sw_icmp_ge (t := 383) f_104_27 ⟨by decide, rfl⟩ g3 g4))))
theorem bL_isSo_30 {o0 o1 o2 o3 o4 o5 o6 o7 o8 o9 o11 o12 o13 o14 o15 o16 o17 o18 o19 o20 o21 o22 o23 o24 o25 o26 : Option Value} {x10 : Int} (g1 : -2147483648 ≤ x10 ∧ x10 ≤ 2147483647) : XR sc d 104 30 [o0, o1, o2, o3, o4, o5, o6, o7, o8, o9, some (xw x10), o11, o12, o13, o14, o15, o16, o17, o18, o19, o20, o21, o22, o23, o24, o25, o26] [] (T, z, xv V, J, R) = if x10 = 0 then XR sc d 104 383 [o0, o1, o2, o3, o4, o5, o6, o7, o8, o9, some (xw x10), o11, o12, o13, o14, o15, o16, o17, o18, o19, o20, o21, o22, o23, o24, o25, o26] [] (T, z, xv V, J, R) else XR sc d 104 35 [o0, o1, o2, o3, o4, o5, o6, o7, o8, o9, some (xw x10), o11, o12, o13, o14, o15, o16, o17, o18, o19, o20, o21, o22, o23, o24, o25, o26] [] (T, z, xv V, J, R) :=
  (sw_iload f_104_30 rfl).trans (sw_if_eq (t := 383) f_104_32 ⟨by decide, rfl⟩ g1)
theorem bL_isSo_35 {o0 o1 o2 o3 o5 o6 o7 o8 o9 o10 o12 o13 o14 o15 o16 o17 o18 o19 o20 o21 o22 o23 o24 o25 o26 : Option Value} {x11 : Int} {a4 : Nat} (g1 : T a4 = (32, (T a4).2)) (g2 : (0 : Int) ≤ x11 ∧ x11 < ((T a4).2 : Int) ∧ (T a4).2 ≤ 3584) (g3 : -2147483648 ≤ (V a4 x11.toNat) ∧ (V a4 x11.toNat) ≤ 2147483647) : XR sc d 104 35 [o0, o1, o2, o3, some (.ref a4), o5, o6, o7, o8, o9, o10, some (xw x11), o12, o13, o14, o15, o16, o17, o18, o19, o20, o21, o22, o23, o24, o25, o26] [] (T, z, xv V, J, R) = if (V a4 x11.toNat) = 0 then XR sc d 104 43 [o0, o1, o2, o3, some (.ref a4), o5, o6, o7, o8, o9, o10, some (xw x11), o12, o13, o14, o15, o16, o17, o18, o19, o20, o21, o22, o23, o24, o25, o26] [] (T, z, xv V, J, R) else XR sc d 104 47 [o0, o1, o2, o3, some (.ref a4), o5, o6, o7, o8, o9, o10, some (xw x11), o12, o13, o14, o15, o16, o17, o18, o19, o20, o21, o22, o23, o24, o25, o26] [] (T, z, xv V, J, R) :=
  (st_aload f_104_35 rfl).trans ((sw_iload f_104_37 rfl).trans ((sw_iaload f_104_39 g1 g2).trans (sw_if_ne (t := 47) f_104_40 ⟨by decide, rfl⟩ g3)))
theorem bL_isSo_43 {o0 o1 o2 o3 o4 o5 o6 o7 o8 o9 o10 o11 o12 o13 o14 o15 o16 o17 o18 o19 o20 o21 o22 o23 o24 o25 o26 : Option Value} : XR sc d 104 43 [o0, o1, o2, o3, o4, o5, o6, o7, o8, o9, o10, o11, o12, o13, o14, o15, o16, o17, o18, o19, o20, o21, o22, o23, o24, o25, o26] [] (T, z, xv V, J, R) = XR sc d 104 57 [o0, o1, o2, o3, o4, o5, o6, o7, o8, o9, o10, o11, o12, o13, o14, o15, o16, o17, o18, o19, o20, o21, o22, o23, o24, o25, o26] [xw (-1)] (T, z, xv V, J, R) :=
  (sw_iconst f_104_43).trans (st_goto (t := 57) f_104_44 ⟨by decide, rfl⟩)
theorem bL_isSo_47 {o0 o1 o2 o3 o5 o6 o7 o8 o9 o10 o12 o13 o14 o15 o16 o17 o18 o19 o20 o21 o22 o23 o24 o25 o26 : Option Value} {x11 : Int} {a4 : Nat} (g1 : T a4 = (32, (T a4).2)) (g2 : (0 : Int) ≤ x11 ∧ x11 < ((T a4).2 : Int) ∧ (T a4).2 ≤ 3584) (g3 : 0 ≤ ((V a4 x11.toNat) - 1) ∧ ((V a4 x11.toNat) - 1) ≤ 2147483647) : XR sc d 104 47 [o0, o1, o2, o3, some (.ref a4), o5, o6, o7, o8, o9, o10, some (xw x11), o12, o13, o14, o15, o16, o17, o18, o19, o20, o21, o22, o23, o24, o25, o26] [] (T, z, xv V, J, R) = XR sc d 104 57 [o0, o1, o2, o3, some (.ref a4), o5, o6, o7, o8, o9, o10, some (xw x11), o12, o13, o14, o15, o16, o17, o18, o19, o20, o21, o22, o23, o24, o25, o26] [xw (((V a4 x11.toNat) - 1) % 8)] (T, z, xv V, J, R) :=
  (st_aload f_104_47 rfl).trans ((sw_iload f_104_49 rfl).trans ((sw_iaload f_104_51 g1 g2).trans ((sw_iconst f_104_52).trans ((sw_isub f_104_53).trans ((sw_bipush f_104_54 c8_8).trans (sw_irem f_104_56 ⟨by decide, by decide, g3⟩))))))
theorem bL_isSo_57 {o0 o1 o2 o3 o5 o6 o7 o8 o9 o10 o12 o13 o14 o15 o16 o17 o18 o19 o20 o21 o22 o23 o24 o25 o26 : Option Value} {y0 x11 : Int} {a4 : Nat} (g1 : T a4 = (32, (T a4).2)) (g2 : (0 : Int) ≤ x11 ∧ x11 < ((T a4).2 : Int) ∧ (T a4).2 ≤ 3584) (g3 : -2147483648 ≤ (V a4 x11.toNat) ∧ (V a4 x11.toNat) ≤ 2147483647) : XR sc d 104 57 [o0, o1, o2, o3, some (.ref a4), o5, o6, o7, o8, o9, o10, some (xw x11), o12, o13, o14, o15, o16, o17, o18, o19, o20, o21, o22, o23, o24, o25, o26] [xw y0] (T, z, xv V, J, R) = if (V a4 x11.toNat) = 0 then XR sc d 104 67 [o0, o1, o2, o3, some (.ref a4), o5, o6, o7, o8, o9, o10, some (xw x11), some (xw y0), o13, o14, o15, o16, o17, o18, o19, o20, o21, o22, o23, o24, o25, o26] [] (T, z, xv V, J, R) else XR sc d 104 71 [o0, o1, o2, o3, some (.ref a4), o5, o6, o7, o8, o9, o10, some (xw x11), some (xw y0), o13, o14, o15, o16, o17, o18, o19, o20, o21, o22, o23, o24, o25, o26] [] (T, z, xv V, J, R) :=
  (sw_istore (L' := [o0, o1, o2, o3, some (.ref a4), o5, o6, o7, o8, o9, o10, some (xw x11), some (xw y0), o13, o14, o15, o16, o17, o18, o19, o20, o21, o22, o23, o24, o25, o26]) f_104_57 (Nat.le_of_ble_eq_true rfl) rfl).trans ((st_aload f_104_59 rfl).trans ((sw_iload f_104_61 rfl).trans ((sw_iaload f_104_63 g1 g2).trans (sw_if_ne (t := 71) f_104_64 ⟨by decide, rfl⟩ g3))))
theorem bL_isSo_67 {o0 o1 o2 o3 o4 o5 o6 o7 o8 o9 o10 o11 o12 o13 o14 o15 o16 o17 o18 o19 o20 o21 o22 o23 o24 o25 o26 : Option Value} : XR sc d 104 67 [o0, o1, o2, o3, o4, o5, o6, o7, o8, o9, o10, o11, o12, o13, o14, o15, o16, o17, o18, o19, o20, o21, o22, o23, o24, o25, o26] [] (T, z, xv V, J, R) = XR sc d 104 84 [o0, o1, o2, o3, o4, o5, o6, o7, o8, o9, o10, o11, o12, o13, o14, o15, o16, o17, o18, o19, o20, o21, o22, o23, o24, o25, o26] [xw (-1)] (T, z, xv V, J, R) :=
  (sw_iconst f_104_67).trans (st_goto (t := 84) f_104_68 ⟨by decide, rfl⟩)
theorem bL_isSo_71 {o0 o1 o2 o3 o5 o6 o7 o8 o9 o10 o12 o13 o14 o15 o16 o17 o18 o19 o20 o21 o22 o23 o24 o25 o26 : Option Value} {x11 : Int} {a4 : Nat} (g1 : T a4 = (32, (T a4).2)) (g2 : (0 : Int) ≤ x11 ∧ x11 < ((T a4).2 : Int) ∧ (T a4).2 ≤ 3584) (g3 : 0 ≤ ((V a4 x11.toNat) - 1) ∧ ((V a4 x11.toNat) - 1) ≤ 2147483647) (g4 : 0 ≤ (((V a4 x11.toNat) - 1) / 8) ∧ (((V a4 x11.toNat) - 1) / 8) ≤ 2147483647) : XR sc d 104 71 [o0, o1, o2, o3, some (.ref a4), o5, o6, o7, o8, o9, o10, some (xw x11), o12, o13, o14, o15, o16, o17, o18, o19, o20, o21, o22, o23, o24, o25, o26] [] (T, z, xv V, J, R) = XR sc d 104 84 [o0, o1, o2, o3, some (.ref a4), o5, o6, o7, o8, o9, o10, some (xw x11), o12, o13, o14, o15, o16, o17, o18, o19, o20, o21, o22, o23, o24, o25, o26] [xw ((((V a4 x11.toNat) - 1) / 8) % 8)] (T, z, xv V, J, R) :=
  (st_aload f_104_71 rfl).trans ((sw_iload f_104_73 rfl).trans ((sw_iaload f_104_75 g1 g2).trans ((sw_iconst f_104_76).trans ((sw_isub f_104_77).trans ((sw_bipush f_104_78 c8_8).trans ((sw_idiv f_104_80 ⟨by decide, by decide, g3⟩).trans ((sw_bipush f_104_81 c8_8).trans (sw_irem f_104_83 ⟨by decide, by decide, g4⟩))))))))
theorem bL_isSo_84 {o1 o2 o3 o4 o5 o6 o7 o8 o9 o10 o12 o13 o14 o15 o16 o17 o18 o19 o20 o21 o22 o23 o24 o25 o26 : Option Value} {y0 x11 : Int} {a0 : Nat} (g1 : T a0 = (7, 0)) : XR sc d 104 84 [some (.ref a0), o1, o2, o3, o4, o5, o6, o7, o8, o9, o10, some (xw x11), o12, o13, o14, o15, o16, o17, o18, o19, o20, o21, o22, o23, o24, o25, o26] [xw y0] (T, z, xv V, J, R) = xret 104 (XR sc d 104) 90 93 [some (.ref a0), o1, o2, o3, o4, o5, o6, o7, o8, o9, o10, some (xw x11), o12, some (xw y0), o14, o15, o16, o17, o18, o19, o20, o21, o22, o23, o24, o25, o26] [] (X sc d 57 [.ref a0, xw x11, xw 0] (T, z, xv V, J, R)) :=
  (sw_istore (L' := [some (.ref a0), o1, o2, o3, o4, o5, o6, o7, o8, o9, o10, some (xw x11), o12, some (xw y0), o14, o15, o16, o17, o18, o19, o20, o21, o22, o23, o24, o25, o26]) f_104_84 (Nat.le_of_ble_eq_true rfl) rfl).trans ((st_aload_n f_104_86 rfl).trans ((sw_iload f_104_87 rfl).trans ((sw_iconst f_104_89).trans (st_callV' f_104_90 h_104_33 mn_57 rfl rfl rfl rfl mo_57 g1 rfl))))
theorem bL_isSo_93 {o0 o2 o3 o4 o5 o6 o7 o8 o9 o10 o12 o13 o14 o15 o16 o17 o18 o19 o20 o21 o22 o23 o24 o25 o26 : Option Value} {x11 y0 : Int} {a1 : Nat} (g1 : T a1 = (32, (T a1).2)) (g2 : (0 : Int) ≤ x11 ∧ x11 < ((T a1).2 : Int) ∧ (T a1).2 ≤ 3584) (g3 : 0 ≤ (V a1 x11.toNat) ∧ (V a1 x11.toNat) ≤ 2147483647) (g4 : -2147483648 ≤ y0 ∧ y0 ≤ 2147483647) (g5 : -2147483648 ≤ ((V a1 x11.toNat) % 16) ∧ ((V a1 x11.toNat) % 16) ≤ 2147483647) : XR sc d 104 93 [o0, some (.ref a1), o2, o3, o4, o5, o6, o7, o8, o9, o10, some (xw x11), o12, o13, o14, o15, o16, o17, o18, o19, o20, o21, o22, o23, o24, o25, o26] [xw y0] (T, z, xv V, J, R) = if y0 = ((V a1 x11.toNat) % 16) then XR sc d 104 103 [o0, some (.ref a1), o2, o3, o4, o5, o6, o7, o8, o9, o10, some (xw x11), o12, o13, o14, o15, o16, o17, o18, o19, o20, o21, o22, o23, o24, o25, o26] [] (T, z, xv V, J, R) else XR sc d 104 320 [o0, some (.ref a1), o2, o3, o4, o5, o6, o7, o8, o9, o10, some (xw x11), o12, o13, o14, o15, o16, o17, o18, o19, o20, o21, o22, o23, o24, o25, o26] [] (T, z, xv V, J, R) :=
  (st_aload_n f_104_93 rfl).trans ((sw_iload f_104_94 rfl).trans ((sw_iaload f_104_96 g1 g2).trans ((sw_bipush f_104_97 c8_16).trans ((sw_irem f_104_99 ⟨by decide, by decide, g3⟩).trans (sw_icmp_ne (t := 320) f_104_100 ⟨by decide, rfl⟩ g4 g5)))))
theorem bL_isSo_103 {o1 o2 o3 o4 o5 o6 o7 o8 o9 o10 o12 o13 o14 o15 o16 o17 o18 o19 o20 o21 o22 o23 o24 o25 o26 : Option Value} {x11 : Int} {a0 : Nat} (g1 : T a0 = (7, 0)) : XR sc d 104 103 [some (.ref a0), o1, o2, o3, o4, o5, o6, o7, o8, o9, o10, some (xw x11), o12, o13, o14, o15, o16, o17, o18, o19, o20, o21, o22, o23, o24, o25, o26] [] (T, z, xv V, J, R) = xret 104 (XR sc d 104) 107 110 [some (.ref a0), o1, o2, o3, o4, o5, o6, o7, o8, o9, o10, some (xw x11), o12, o13, o14, o15, o16, o17, o18, o19, o20, o21, o22, o23, o24, o25, o26] [] (X sc d 57 [.ref a0, xw x11, xw 1] (T, z, xv V, J, R)) :=
  (st_aload_n f_104_103 rfl).trans ((sw_iload f_104_104 rfl).trans ((sw_iconst f_104_106).trans (st_callV' f_104_107 h_104_33 mn_57 rfl rfl rfl rfl mo_57 g1 rfl)))
theorem bL_isSo_110 {o0 o2 o3 o4 o5 o6 o7 o8 o9 o10 o12 o13 o14 o15 o16 o17 o18 o19 o20 o21 o22 o23 o24 o25 o26 : Option Value} {x11 y0 : Int} {a1 : Nat} (g1 : T a1 = (32, (T a1).2)) (g2 : (0 : Int) ≤ x11 ∧ x11 < ((T a1).2 : Int) ∧ (T a1).2 ≤ 3584) (g3 : 0 ≤ (V a1 x11.toNat) ∧ (V a1 x11.toNat) ≤ 2147483647) (g4 : 0 ≤ ((V a1 x11.toNat) / 16) ∧ ((V a1 x11.toNat) / 16) ≤ 2147483647) (g5 : -2147483648 ≤ y0 ∧ y0 ≤ 2147483647) (g6 : -2147483648 ≤ (((V a1 x11.toNat) / 16) % 16) ∧ (((V a1 x11.toNat) / 16) % 16) ≤ 2147483647) : XR sc d 104 110 [o0, some (.ref a1), o2, o3, o4, o5, o6, o7, o8, o9, o10, some (xw x11), o12, o13, o14, o15, o16, o17, o18, o19, o20, o21, o22, o23, o24, o25, o26] [xw y0] (T, z, xv V, J, R) = if y0 = (((V a1 x11.toNat) / 16) % 16) then XR sc d 104 123 [o0, some (.ref a1), o2, o3, o4, o5, o6, o7, o8, o9, o10, some (xw x11), o12, o13, o14, o15, o16, o17, o18, o19, o20, o21, o22, o23, o24, o25, o26] [] (T, z, xv V, J, R) else XR sc d 104 320 [o0, some (.ref a1), o2, o3, o4, o5, o6, o7, o8, o9, o10, some (xw x11), o12, o13, o14, o15, o16, o17, o18, o19, o20, o21, o22, o23, o24, o25, o26] [] (T, z, xv V, J, R) :=
  (st_aload_n f_104_110 rfl).trans ((sw_iload f_104_111 rfl).trans ((sw_iaload f_104_113 g1 g2).trans ((sw_bipush f_104_114 c8_16).trans ((sw_idiv f_104_116 ⟨by decide, by decide, g3⟩).trans ((sw_bipush f_104_117 c8_16).trans ((sw_irem f_104_119 ⟨by decide, by decide, g4⟩).trans (sw_icmp_ne (t := 320) f_104_120 ⟨by decide, rfl⟩ g5 g6)))))))
theorem bL_isSo_123 {o1 o2 o3 o4 o5 o6 o7 o8 o9 o10 o12 o13 o14 o15 o16 o17 o18 o19 o20 o21 o22 o23 o24 o25 o26 : Option Value} {x11 : Int} {a0 : Nat} (g1 : T a0 = (7, 0)) : XR sc d 104 123 [some (.ref a0), o1, o2, o3, o4, o5, o6, o7, o8, o9, o10, some (xw x11), o12, o13, o14, o15, o16, o17, o18, o19, o20, o21, o22, o23, o24, o25, o26] [] (T, z, xv V, J, R) = xret 104 (XR sc d 104) 127 130 [some (.ref a0), o1, o2, o3, o4, o5, o6, o7, o8, o9, o10, some (xw x11), o12, o13, o14, o15, o16, o17, o18, o19, o20, o21, o22, o23, o24, o25, o26] [] (X sc d 57 [.ref a0, xw x11, xw 2] (T, z, xv V, J, R)) :=
  (st_aload_n f_104_123 rfl).trans ((sw_iload f_104_124 rfl).trans ((sw_iconst f_104_126).trans (st_callV' f_104_127 h_104_33 mn_57 rfl rfl rfl rfl mo_57 g1 rfl)))
theorem bL_isSo_130 {o0 o2 o3 o4 o5 o6 o7 o8 o9 o10 o12 o13 o14 o15 o16 o17 o18 o19 o20 o21 o22 o23 o24 o25 o26 : Option Value} {x11 y0 : Int} {a1 : Nat} (g1 : T a1 = (32, (T a1).2)) (g2 : (0 : Int) ≤ x11 ∧ x11 < ((T a1).2 : Int) ∧ (T a1).2 ≤ 3584) (g3 : 0 ≤ (V a1 x11.toNat) ∧ (V a1 x11.toNat) ≤ 2147483647) (g4 : 0 ≤ ((V a1 x11.toNat) / 256) ∧ ((V a1 x11.toNat) / 256) ≤ 2147483647) (g5 : -2147483648 ≤ y0 ∧ y0 ≤ 2147483647) (g6 : -2147483648 ≤ (((V a1 x11.toNat) / 256) % 16) ∧ (((V a1 x11.toNat) / 256) % 16) ≤ 2147483647) : XR sc d 104 130 [o0, some (.ref a1), o2, o3, o4, o5, o6, o7, o8, o9, o10, some (xw x11), o12, o13, o14, o15, o16, o17, o18, o19, o20, o21, o22, o23, o24, o25, o26] [xw y0] (T, z, xv V, J, R) = if y0 = (((V a1 x11.toNat) / 256) % 16) then XR sc d 104 144 [o0, some (.ref a1), o2, o3, o4, o5, o6, o7, o8, o9, o10, some (xw x11), o12, o13, o14, o15, o16, o17, o18, o19, o20, o21, o22, o23, o24, o25, o26] [] (T, z, xv V, J, R) else XR sc d 104 320 [o0, some (.ref a1), o2, o3, o4, o5, o6, o7, o8, o9, o10, some (xw x11), o12, o13, o14, o15, o16, o17, o18, o19, o20, o21, o22, o23, o24, o25, o26] [] (T, z, xv V, J, R) :=
  (st_aload_n f_104_130 rfl).trans ((sw_iload f_104_131 rfl).trans ((sw_iaload f_104_133 g1 g2).trans ((sw_sipush f_104_134 c16_256).trans ((sw_idiv f_104_137 ⟨by decide, by decide, g3⟩).trans ((sw_bipush f_104_138 c8_16).trans ((sw_irem f_104_140 ⟨by decide, by decide, g4⟩).trans (sw_icmp_ne (t := 320) f_104_141 ⟨by decide, rfl⟩ g5 g6)))))))
theorem bL_isSo_144 {o1 o2 o3 o4 o5 o6 o7 o8 o9 o10 o12 o13 o14 o15 o16 o17 o18 o19 o20 o21 o22 o23 o24 o25 o26 : Option Value} {x11 : Int} {a0 : Nat} (g1 : T a0 = (7, 0)) : XR sc d 104 144 [some (.ref a0), o1, o2, o3, o4, o5, o6, o7, o8, o9, o10, some (xw x11), o12, o13, o14, o15, o16, o17, o18, o19, o20, o21, o22, o23, o24, o25, o26] [] (T, z, xv V, J, R) = xret 104 (XR sc d 104) 148 151 [some (.ref a0), o1, o2, o3, o4, o5, o6, o7, o8, o9, o10, some (xw x11), o12, o13, o14, o15, o16, o17, o18, o19, o20, o21, o22, o23, o24, o25, o26] [] (X sc d 57 [.ref a0, xw x11, xw 3] (T, z, xv V, J, R)) :=
  (st_aload_n f_104_144 rfl).trans ((sw_iload f_104_145 rfl).trans ((sw_iconst f_104_147).trans (st_callV' f_104_148 h_104_33 mn_57 rfl rfl rfl rfl mo_57 g1 rfl)))
theorem bL_isSo_151 {o0 o2 o3 o4 o5 o6 o7 o8 o9 o10 o12 o13 o14 o15 o16 o17 o18 o19 o20 o21 o22 o23 o24 o25 o26 : Option Value} {x11 y0 : Int} {a1 : Nat} (g1 : T a1 = (32, (T a1).2)) (g2 : (0 : Int) ≤ x11 ∧ x11 < ((T a1).2 : Int) ∧ (T a1).2 ≤ 3584) (g3 : 0 ≤ (V a1 x11.toNat) ∧ (V a1 x11.toNat) ≤ 2147483647) (g4 : 0 ≤ ((V a1 x11.toNat) / 4096) ∧ ((V a1 x11.toNat) / 4096) ≤ 2147483647) (g5 : -2147483648 ≤ y0 ∧ y0 ≤ 2147483647) (g6 : -2147483648 ≤ (((V a1 x11.toNat) / 4096) % 8) ∧ (((V a1 x11.toNat) / 4096) % 8) ≤ 2147483647) : XR sc d 104 151 [o0, some (.ref a1), o2, o3, o4, o5, o6, o7, o8, o9, o10, some (xw x11), o12, o13, o14, o15, o16, o17, o18, o19, o20, o21, o22, o23, o24, o25, o26] [xw y0] (T, z, xv V, J, R) = if y0 = (((V a1 x11.toNat) / 4096) % 8) then XR sc d 104 165 [o0, some (.ref a1), o2, o3, o4, o5, o6, o7, o8, o9, o10, some (xw x11), o12, o13, o14, o15, o16, o17, o18, o19, o20, o21, o22, o23, o24, o25, o26] [] (T, z, xv V, J, R) else XR sc d 104 320 [o0, some (.ref a1), o2, o3, o4, o5, o6, o7, o8, o9, o10, some (xw x11), o12, o13, o14, o15, o16, o17, o18, o19, o20, o21, o22, o23, o24, o25, o26] [] (T, z, xv V, J, R) :=
  (st_aload_n f_104_151 rfl).trans ((sw_iload f_104_152 rfl).trans ((sw_iaload f_104_154 g1 g2).trans ((sw_sipush f_104_155 c16_4096).trans ((sw_idiv f_104_158 ⟨by decide, by decide, g3⟩).trans ((sw_bipush f_104_159 c8_8).trans ((sw_irem f_104_161 ⟨by decide, by decide, g4⟩).trans (sw_icmp_ne (t := 320) f_104_162 ⟨by decide, rfl⟩ g5 g6)))))))
theorem bL_isSo_165 {o1 o2 o3 o4 o5 o6 o7 o8 o9 o10 o12 o13 o14 o15 o16 o17 o18 o19 o20 o21 o22 o23 o24 o25 o26 : Option Value} {x11 : Int} {a0 : Nat} (g1 : T a0 = (7, 0)) : XR sc d 104 165 [some (.ref a0), o1, o2, o3, o4, o5, o6, o7, o8, o9, o10, some (xw x11), o12, o13, o14, o15, o16, o17, o18, o19, o20, o21, o22, o23, o24, o25, o26] [] (T, z, xv V, J, R) = xret 104 (XR sc d 104) 169 172 [some (.ref a0), o1, o2, o3, o4, o5, o6, o7, o8, o9, o10, some (xw x11), o12, o13, o14, o15, o16, o17, o18, o19, o20, o21, o22, o23, o24, o25, o26] [] (X sc d 57 [.ref a0, xw x11, xw 4] (T, z, xv V, J, R)) :=
  (st_aload_n f_104_165 rfl).trans ((sw_iload f_104_166 rfl).trans ((sw_iconst f_104_168).trans (st_callV' f_104_169 h_104_33 mn_57 rfl rfl rfl rfl mo_57 g1 rfl)))
theorem bL_isSo_172 {o0 o1 o2 o4 o5 o6 o7 o8 o9 o10 o12 o13 o14 o15 o16 o17 o18 o19 o20 o21 o22 o23 o24 o25 o26 : Option Value} {s0 : Value} {x11 : Int} {a3 : Nat} (g1 : T a3 = (32, (T a3).2)) (g2 : (0 : Int) ≤ x11 ∧ x11 < ((T a3).2 : Int) ∧ (T a3).2 ≤ 3584) : XR sc d 104 172 [o0, o1, o2, some (.ref a3), o4, o5, o6, o7, o8, o9, o10, some (xw x11), o12, o13, o14, o15, o16, o17, o18, o19, o20, o21, o22, o23, o24, o25, o26] [s0] (T, z, xv V, J, R) = xret 104 (XR sc d 104) 176 179 [o0, o1, o2, some (.ref a3), o4, o5, o6, o7, o8, o9, o10, some (xw x11), o12, o13, o14, o15, o16, o17, o18, o19, o20, o21, o22, o23, o24, o25, o26] [s0] (X sc d 103 [xw (V a3 x11.toNat)] (T, z, xv V, J, R)) :=
  (st_aload_n f_104_172 rfl).trans ((sw_iload f_104_173 rfl).trans ((sw_iaload f_104_175 g1 g2).trans (st_callS' f_104_176 h_104_116 mn_103 rfl rfl rfl rfl)))
theorem bL_isSo_179 {o0 o1 o2 o3 o4 o5 o6 o7 o8 o9 o10 o11 o12 o13 o14 o15 o16 o17 o18 o19 o20 o21 o22 o23 o24 o25 o26 : Option Value} {y0 y1 : Int} (g1 : -2147483648 ≤ y1 ∧ y1 ≤ 2147483647) (g2 : -2147483648 ≤ y0 ∧ y0 ≤ 2147483647) : XR sc d 104 179 [o0, o1, o2, o3, o4, o5, o6, o7, o8, o9, o10, o11, o12, o13, o14, o15, o16, o17, o18, o19, o20, o21, o22, o23, o24, o25, o26] [xw y0, xw y1] (T, z, xv V, J, R) = if y1 = y0 then XR sc d 104 182 [o0, o1, o2, o3, o4, o5, o6, o7, o8, o9, o10, o11, o12, o13, o14, o15, o16, o17, o18, o19, o20, o21, o22, o23, o24, o25, o26] [] (T, z, xv V, J, R) else XR sc d 104 320 [o0, o1, o2, o3, o4, o5, o6, o7, o8, o9, o10, o11, o12, o13, o14, o15, o16, o17, o18, o19, o20, o21, o22, o23, o24, o25, o26] [] (T, z, xv V, J, R) :=
  sw_icmp_ne (t := 320) f_104_179 ⟨by decide, rfl⟩ g1 g2
theorem bL_isSo_182 {o1 o2 o3 o4 o5 o6 o7 o8 o9 o10 o12 o13 o14 o15 o16 o17 o18 o19 o20 o21 o22 o23 o24 o25 o26 : Option Value} {x11 : Int} {a0 : Nat} (g1 : T a0 = (7, 0)) : XR sc d 104 182 [some (.ref a0), o1, o2, o3, o4, o5, o6, o7, o8, o9, o10, some (xw x11), o12, o13, o14, o15, o16, o17, o18, o19, o20, o21, o22, o23, o24, o25, o26] [] (T, z, xv V, J, R) = xret 104 (XR sc d 104) 186 189 [some (.ref a0), o1, o2, o3, o4, o5, o6, o7, o8, o9, o10, some (xw x11), o12, o13, o14, o15, o16, o17, o18, o19, o20, o21, o22, o23, o24, o25, o26] [] (X sc d 57 [.ref a0, xw x11, xw 5] (T, z, xv V, J, R)) :=
  (st_aload_n f_104_182 rfl).trans ((sw_iload f_104_183 rfl).trans ((sw_iconst f_104_185).trans (st_callV' f_104_186 h_104_33 mn_57 rfl rfl rfl rfl mo_57 g1 rfl)))
theorem bL_isSo_189 {o0 o1 o3 o4 o5 o6 o7 o8 o9 o10 o12 o13 o14 o15 o16 o17 o18 o19 o20 o21 o22 o23 o24 o25 o26 : Option Value} {x11 y0 : Int} {a2 : Nat} (g1 : T a2 = (32, (T a2).2)) (g2 : (0 : Int) ≤ x11 ∧ x11 < ((T a2).2 : Int) ∧ (T a2).2 ≤ 3584) (g3 : -2147483648 ≤ y0 ∧ y0 ≤ 2147483647) (g4 : -2147483648 ≤ (V a2 x11.toNat) ∧ (V a2 x11.toNat) ≤ 2147483647) : XR sc d 104 189 [o0, o1, some (.ref a2), o3, o4, o5, o6, o7, o8, o9, o10, some (xw x11), o12, o13, o14, o15, o16, o17, o18, o19, o20, o21, o22, o23, o24, o25, o26] [xw y0] (T, z, xv V, J, R) = if y0 = (V a2 x11.toNat) then XR sc d 104 196 [o0, o1, some (.ref a2), o3, o4, o5, o6, o7, o8, o9, o10, some (xw x11), o12, o13, o14, o15, o16, o17, o18, o19, o20, o21, o22, o23, o24, o25, o26] [] (T, z, xv V, J, R) else XR sc d 104 320 [o0, o1, some (.ref a2), o3, o4, o5, o6, o7, o8, o9, o10, some (xw x11), o12, o13, o14, o15, o16, o17, o18, o19, o20, o21, o22, o23, o24, o25, o26] [] (T, z, xv V, J, R) :=
  (st_aload_n f_104_189 rfl).trans ((sw_iload f_104_190 rfl).trans ((sw_iaload f_104_192 g1 g2).trans (sw_icmp_ne (t := 320) f_104_193 ⟨by decide, rfl⟩ g3 g4)))
theorem bL_isSo_196 {o1 o2 o3 o4 o5 o6 o7 o8 o9 o10 o12 o13 o14 o15 o16 o17 o18 o19 o20 o21 o22 o23 o24 o25 o26 : Option Value} {x11 : Int} {a0 : Nat} (g1 : T a0 = (7, 0)) : XR sc d 104 196 [some (.ref a0), o1, o2, o3, o4, o5, o6, o7, o8, o9, o10, some (xw x11), o12, o13, o14, o15, o16, o17, o18, o19, o20, o21, o22, o23, o24, o25, o26] [] (T, z, xv V, J, R) = xret 104 (XR sc d 104) 201 204 [some (.ref a0), o1, o2, o3, o4, o5, o6, o7, o8, o9, o10, some (xw x11), o12, o13, o14, o15, o16, o17, o18, o19, o20, o21, o22, o23, o24, o25, o26] [] (X sc d 57 [.ref a0, xw x11, xw 6] (T, z, xv V, J, R)) :=
  (st_aload_n f_104_196 rfl).trans ((sw_iload f_104_197 rfl).trans ((sw_bipush f_104_199 c8_6).trans (st_callV' f_104_201 h_104_33 mn_57 rfl rfl rfl rfl mo_57 g1 rfl)))
theorem bL_isSo_204 {o0 o4 o5 o6 o7 o8 o9 o10 o12 o13 o14 o15 o16 o17 o18 o19 o20 o21 o22 o23 o24 o25 o26 : Option Value} {s0 : Value} {x11 : Int} {a1 a2 a3 : Nat} : XR sc d 104 204 [o0, some (.ref a1), some (.ref a2), some (.ref a3), o4, o5, o6, o7, o8, o9, o10, some (xw x11), o12, o13, o14, o15, o16, o17, o18, o19, o20, o21, o22, o23, o24, o25, o26] [s0] (T, z, xv V, J, R) = xret 104 (XR sc d 104) 209 212 [o0, some (.ref a1), some (.ref a2), some (.ref a3), o4, o5, o6, o7, o8, o9, o10, some (xw x11), o12, o13, o14, o15, o16, o17, o18, o19, o20, o21, o22, o23, o24, o25, o26] [s0] (X sc d 93 [.ref a1, .ref a2, .ref a3, xw x11] (T, z, xv V, J, R)) :=
  (st_aload_n f_104_204 rfl).trans ((st_aload_n f_104_205 rfl).trans ((st_aload_n f_104_206 rfl).trans ((sw_iload f_104_207 rfl).trans (st_callS' f_104_209 h_104_99 mn_93 rfl rfl rfl rfl))))
theorem bL_isSo_212 {o0 o1 o2 o3 o4 o5 o6 o7 o8 o9 o10 o11 o12 o13 o14 o15 o16 o17 o18 o19 o20 o21 o22 o23 o24 o25 o26 : Option Value} {y0 y1 : Int} (g1 : -2147483648 ≤ y1 ∧ y1 ≤ 2147483647) (g2 : -2147483648 ≤ y0 ∧ y0 ≤ 2147483647) : XR sc d 104 212 [o0, o1, o2, o3, o4, o5, o6, o7, o8, o9, o10, o11, o12, o13, o14, o15, o16, o17, o18, o19, o20, o21, o22, o23, o24, o25, o26] [xw y0, xw y1] (T, z, xv V, J, R) = if y1 = y0 then XR sc d 104 215 [o0, o1, o2, o3, o4, o5, o6, o7, o8, o9, o10, o11, o12, o13, o14, o15, o16, o17, o18, o19, o20, o21, o22, o23, o24, o25, o26] [] (T, z, xv V, J, R) else XR sc d 104 320 [o0, o1, o2, o3, o4, o5, o6, o7, o8, o9, o10, o11, o12, o13, o14, o15, o16, o17, o18, o19, o20, o21, o22, o23, o24, o25, o26] [] (T, z, xv V, J, R) :=
  sw_icmp_ne (t := 320) f_104_212 ⟨by decide, rfl⟩ g1 g2
theorem bL_isSo_215 {o1 o2 o3 o4 o5 o6 o7 o8 o9 o10 o12 o13 o14 o15 o16 o17 o18 o19 o20 o21 o22 o23 o24 o25 o26 : Option Value} {x11 : Int} {a0 : Nat} (g1 : T a0 = (7, 0)) : XR sc d 104 215 [some (.ref a0), o1, o2, o3, o4, o5, o6, o7, o8, o9, o10, some (xw x11), o12, o13, o14, o15, o16, o17, o18, o19, o20, o21, o22, o23, o24, o25, o26] [] (T, z, xv V, J, R) = xret 104 (XR sc d 104) 220 223 [some (.ref a0), o1, o2, o3, o4, o5, o6, o7, o8, o9, o10, some (xw x11), o12, o13, o14, o15, o16, o17, o18, o19, o20, o21, o22, o23, o24, o25, o26] [] (X sc d 57 [.ref a0, xw x11, xw 7] (T, z, xv V, J, R)) :=
  (st_aload_n f_104_215 rfl).trans ((sw_iload f_104_216 rfl).trans ((sw_bipush f_104_218 c8_7).trans (st_callV' f_104_220 h_104_33 mn_57 rfl rfl rfl rfl mo_57 g1 rfl)))
theorem bL_isSo_223 {o0 o1 o2 o3 o4 o5 o6 o7 o8 o9 o10 o11 o14 o15 o16 o17 o18 o19 o20 o21 o22 o23 o24 o25 o26 : Option Value} {s0 : Value} {x12 x13 : Int} (g1 : -2147483648 ≤ x12 ∧ x12 ≤ 2147483647) (g2 : -2147483648 ≤ x13 ∧ x13 ≤ 2147483647) : XR sc d 104 223 [o0, o1, o2, o3, o4, o5, o6, o7, o8, o9, o10, o11, some (xw x12), some (xw x13), o14, o15, o16, o17, o18, o19, o20, o21, o22, o23, o24, o25, o26] [s0] (T, z, xv V, J, R) = if x13 ≤ x12 then XR sc d 104 235 [o0, o1, o2, o3, o4, o5, o6, o7, o8, o9, o10, o11, some (xw x12), some (xw x13), o14, o15, o16, o17, o18, o19, o20, o21, o22, o23, o24, o25, o26] [s0] (T, z, xv V, J, R) else XR sc d 104 230 [o0, o1, o2, o3, o4, o5, o6, o7, o8, o9, o10, o11, some (xw x12), some (xw x13), o14, o15, o16, o17, o18, o19, o20, o21, o22, o23, o24, o25, o26] [s0] (T, z, xv V, J, R) :=
  (sw_iload f_104_223 rfl).trans ((sw_iload f_104_225 rfl).trans (sw_icmp_ge (t := 235) f_104_227 ⟨by decide, rfl⟩ g1 g2))
theorem bL_isSo_230 {o0 o1 o2 o3 o4 o5 o6 o7 o8 o9 o10 o11 o13 o14 o15 o16 o17 o18 o19 o20 o21 o22 o23 o24 o25 o26 : Option Value} {s0 : Value} {x12 : Int} : XR sc d 104 230 [o0, o1, o2, o3, o4, o5, o6, o7, o8, o9, o10, o11, some (xw x12), o13, o14, o15, o16, o17, o18, o19, o20, o21, o22, o23, o24, o25, o26] [s0] (T, z, xv V, J, R) = XR sc d 104 237 [o0, o1, o2, o3, o4, o5, o6, o7, o8, o9, o10, o11, some (xw x12), o13, o14, o15, o16, o17, o18, o19, o20, o21, o22, o23, o24, o25, o26] [xw x12, s0] (T, z, xv V, J, R) :=
  (sw_iload f_104_230 rfl).trans (st_goto (t := 237) f_104_232 ⟨by decide, rfl⟩)
theorem bL_isSo_235 {o0 o1 o2 o3 o4 o5 o6 o7 o8 o9 o10 o11 o12 o14 o15 o16 o17 o18 o19 o20 o21 o22 o23 o24 o25 o26 : Option Value} {s0 : Value} {x13 : Int} : XR sc d 104 235 [o0, o1, o2, o3, o4, o5, o6, o7, o8, o9, o10, o11, o12, some (xw x13), o14, o15, o16, o17, o18, o19, o20, o21, o22, o23, o24, o25, o26] [s0] (T, z, xv V, J, R) = XR sc d 104 237 [o0, o1, o2, o3, o4, o5, o6, o7, o8, o9, o10, o11, o12, some (xw x13), o14, o15, o16, o17, o18, o19, o20, o21, o22, o23, o24, o25, o26] [xw x13, s0] (T, z, xv V, J, R) :=
  sw_iload f_104_235 rfl
theorem bL_isSo_237 {o0 o1 o2 o3 o4 o5 o6 o7 o8 o9 o10 o11 o12 o13 o14 o15 o16 o17 o18 o19 o20 o21 o22 o23 o24 o25 o26 : Option Value} {y0 y1 : Int} (g1 : -2147483648 ≤ y1 ∧ y1 ≤ 2147483647) (g2 : -2147483648 ≤ y0 ∧ y0 ≤ 2147483647) : XR sc d 104 237 [o0, o1, o2, o3, o4, o5, o6, o7, o8, o9, o10, o11, o12, o13, o14, o15, o16, o17, o18, o19, o20, o21, o22, o23, o24, o25, o26] [xw y0, xw y1] (T, z, xv V, J, R) = if y1 = y0 then XR sc d 104 240 [o0, o1, o2, o3, o4, o5, o6, o7, o8, o9, o10, o11, o12, o13, o14, o15, o16, o17, o18, o19, o20, o21, o22, o23, o24, o25, o26] [] (T, z, xv V, J, R) else XR sc d 104 320 [o0, o1, o2, o3, o4, o5, o6, o7, o8, o9, o10, o11, o12, o13, o14, o15, o16, o17, o18, o19, o20, o21, o22, o23, o24, o25, o26] [] (T, z, xv V, J, R) :=
  sw_icmp_ne (t := 320) f_104_237 ⟨by decide, rfl⟩ g1 g2
theorem bL_isSo_240 {o1 o2 o3 o4 o5 o6 o7 o8 o9 o10 o12 o13 o14 o15 o16 o17 o18 o19 o20 o21 o22 o23 o24 o25 o26 : Option Value} {x11 : Int} {a0 : Nat} (g1 : T a0 = (7, 0)) : XR sc d 104 240 [some (.ref a0), o1, o2, o3, o4, o5, o6, o7, o8, o9, o10, some (xw x11), o12, o13, o14, o15, o16, o17, o18, o19, o20, o21, o22, o23, o24, o25, o26] [] (T, z, xv V, J, R) = xret 104 (XR sc d 104) 245 248 [some (.ref a0), o1, o2, o3, o4, o5, o6, o7, o8, o9, o10, some (xw x11), o12, o13, o14, o15, o16, o17, o18, o19, o20, o21, o22, o23, o24, o25, o26] [] (X sc d 57 [.ref a0, xw x11, xw 8] (T, z, xv V, J, R)) :=
  (st_aload_n f_104_240 rfl).trans ((sw_iload f_104_241 rfl).trans ((sw_bipush f_104_243 c8_8).trans (st_callV' f_104_245 h_104_33 mn_57 rfl rfl rfl rfl mo_57 g1 rfl)))
theorem bL_isSo_248 {o0 o1 o2 o3 o4 o5 o6 o7 o8 o9 o10 o11 o14 o15 o16 o17 o18 o19 o20 o21 o22 o23 o24 o25 o26 : Option Value} {s0 : Value} {x12 x13 : Int} (g1 : -2147483648 ≤ x12 ∧ x12 ≤ 2147483647) (g2 : -2147483648 ≤ x13 ∧ x13 ≤ 2147483647) : XR sc d 104 248 [o0, o1, o2, o3, o4, o5, o6, o7, o8, o9, o10, o11, some (xw x12), some (xw x13), o14, o15, o16, o17, o18, o19, o20, o21, o22, o23, o24, o25, o26] [s0] (T, z, xv V, J, R) = if x13 ≤ x12 then XR sc d 104 260 [o0, o1, o2, o3, o4, o5, o6, o7, o8, o9, o10, o11, some (xw x12), some (xw x13), o14, o15, o16, o17, o18, o19, o20, o21, o22, o23, o24, o25, o26] [s0] (T, z, xv V, J, R) else XR sc d 104 255 [o0, o1, o2, o3, o4, o5, o6, o7, o8, o9, o10, o11, some (xw x12), some (xw x13), o14, o15, o16, o17, o18, o19, o20, o21, o22, o23, o24, o25, o26] [s0] (T, z, xv V, J, R) :=
  (sw_iload f_104_248 rfl).trans ((sw_iload f_104_250 rfl).trans (sw_icmp_ge (t := 260) f_104_252 ⟨by decide, rfl⟩ g1 g2))
theorem bL_isSo_255 {o0 o1 o2 o3 o4 o5 o6 o7 o8 o9 o10 o11 o12 o14 o15 o16 o17 o18 o19 o20 o21 o22 o23 o24 o25 o26 : Option Value} {s0 : Value} {x13 : Int} : XR sc d 104 255 [o0, o1, o2, o3, o4, o5, o6, o7, o8, o9, o10, o11, o12, some (xw x13), o14, o15, o16, o17, o18, o19, o20, o21, o22, o23, o24, o25, o26] [s0] (T, z, xv V, J, R) = XR sc d 104 262 [o0, o1, o2, o3, o4, o5, o6, o7, o8, o9, o10, o11, o12, some (xw x13), o14, o15, o16, o17, o18, o19, o20, o21, o22, o23, o24, o25, o26] [xw x13, s0] (T, z, xv V, J, R) :=
  (sw_iload f_104_255 rfl).trans (st_goto (t := 262) f_104_257 ⟨by decide, rfl⟩)
theorem bL_isSo_260 {o0 o1 o2 o3 o4 o5 o6 o7 o8 o9 o10 o11 o13 o14 o15 o16 o17 o18 o19 o20 o21 o22 o23 o24 o25 o26 : Option Value} {s0 : Value} {x12 : Int} : XR sc d 104 260 [o0, o1, o2, o3, o4, o5, o6, o7, o8, o9, o10, o11, some (xw x12), o13, o14, o15, o16, o17, o18, o19, o20, o21, o22, o23, o24, o25, o26] [s0] (T, z, xv V, J, R) = XR sc d 104 262 [o0, o1, o2, o3, o4, o5, o6, o7, o8, o9, o10, o11, some (xw x12), o13, o14, o15, o16, o17, o18, o19, o20, o21, o22, o23, o24, o25, o26] [xw x12, s0] (T, z, xv V, J, R) :=
  sw_iload f_104_260 rfl
theorem bL_isSo_262 {o0 o1 o2 o3 o4 o5 o6 o7 o8 o9 o10 o11 o12 o13 o14 o15 o16 o17 o18 o19 o20 o21 o22 o23 o24 o25 o26 : Option Value} {y0 y1 : Int} (g1 : -2147483648 ≤ y1 ∧ y1 ≤ 2147483647) (g2 : -2147483648 ≤ y0 ∧ y0 ≤ 2147483647) : XR sc d 104 262 [o0, o1, o2, o3, o4, o5, o6, o7, o8, o9, o10, o11, o12, o13, o14, o15, o16, o17, o18, o19, o20, o21, o22, o23, o24, o25, o26] [xw y0, xw y1] (T, z, xv V, J, R) = if y1 = y0 then XR sc d 104 265 [o0, o1, o2, o3, o4, o5, o6, o7, o8, o9, o10, o11, o12, o13, o14, o15, o16, o17, o18, o19, o20, o21, o22, o23, o24, o25, o26] [] (T, z, xv V, J, R) else XR sc d 104 320 [o0, o1, o2, o3, o4, o5, o6, o7, o8, o9, o10, o11, o12, o13, o14, o15, o16, o17, o18, o19, o20, o21, o22, o23, o24, o25, o26] [] (T, z, xv V, J, R) :=
  sw_icmp_ne (t := 320) f_104_262 ⟨by decide, rfl⟩ g1 g2
theorem bL_isSo_265 {o1 o2 o3 o4 o5 o6 o7 o8 o9 o10 o12 o13 o14 o15 o16 o17 o18 o19 o20 o21 o22 o23 o24 o25 o26 : Option Value} {x11 : Int} {a0 : Nat} (g1 : T a0 = (7, 0)) : XR sc d 104 265 [some (.ref a0), o1, o2, o3, o4, o5, o6, o7, o8, o9, o10, some (xw x11), o12, o13, o14, o15, o16, o17, o18, o19, o20, o21, o22, o23, o24, o25, o26] [] (T, z, xv V, J, R) = xret 104 (XR sc d 104) 270 273 [some (.ref a0), o1, o2, o3, o4, o5, o6, o7, o8, o9, o10, some (xw x11), o12, o13, o14, o15, o16, o17, o18, o19, o20, o21, o22, o23, o24, o25, o26] [] (X sc d 57 [.ref a0, xw x11, xw 9] (T, z, xv V, J, R)) :=
  (st_aload_n f_104_265 rfl).trans ((sw_iload f_104_266 rfl).trans ((sw_bipush f_104_268 c8_9).trans (st_callV' f_104_270 h_104_33 mn_57 rfl rfl rfl rfl mo_57 g1 rfl)))
theorem bL_isSo_273 {o0 o1 o2 o3 o5 o6 o7 o8 o9 o10 o12 o13 o14 o15 o16 o17 o18 o19 o20 o21 o22 o23 o24 o25 o26 : Option Value} {s0 : Value} {x11 : Int} {a4 : Nat} (g1 : T a4 = (32, (T a4).2)) (g2 : (0 : Int) ≤ x11 ∧ x11 < ((T a4).2 : Int) ∧ (T a4).2 ≤ 3584) (g3 : -2147483648 ≤ (V a4 x11.toNat) ∧ (V a4 x11.toNat) ≤ 2147483647) : XR sc d 104 273 [o0, o1, o2, o3, some (.ref a4), o5, o6, o7, o8, o9, o10, some (xw x11), o12, o13, o14, o15, o16, o17, o18, o19, o20, o21, o22, o23, o24, o25, o26] [s0] (T, z, xv V, J, R) = if (V a4 x11.toNat) = 0 then XR sc d 104 281 [o0, o1, o2, o3, some (.ref a4), o5, o6, o7, o8, o9, o10, some (xw x11), o12, o13, o14, o15, o16, o17, o18, o19, o20, o21, o22, o23, o24, o25, o26] [s0] (T, z, xv V, J, R) else XR sc d 104 285 [o0, o1, o2, o3, some (.ref a4), o5, o6, o7, o8, o9, o10, some (xw x11), o12, o13, o14, o15, o16, o17, o18, o19, o20, o21, o22, o23, o24, o25, o26] [s0] (T, z, xv V, J, R) :=
  (st_aload f_104_273 rfl).trans ((sw_iload f_104_275 rfl).trans ((sw_iaload f_104_277 g1 g2).trans (sw_if_ne (t := 285) f_104_278 ⟨by decide, rfl⟩ g3)))
theorem bL_isSo_281 {o0 o1 o2 o3 o4 o5 o6 o7 o8 o9 o10 o11 o12 o13 o14 o15 o16 o17 o18 o19 o20 o21 o22 o23 o24 o25 o26 : Option Value} {s0 : Value} : XR sc d 104 281 [o0, o1, o2, o3, o4, o5, o6, o7, o8, o9, o10, o11, o12, o13, o14, o15, o16, o17, o18, o19, o20, o21, o22, o23, o24, o25, o26] [s0] (T, z, xv V, J, R) = XR sc d 104 295 [o0, o1, o2, o3, o4, o5, o6, o7, o8, o9, o10, o11, o12, o13, o14, o15, o16, o17, o18, o19, o20, o21, o22, o23, o24, o25, o26] [xw (-1), s0] (T, z, xv V, J, R) :=
  (sw_iconst f_104_281).trans (st_goto (t := 295) f_104_282 ⟨by decide, rfl⟩)
theorem bL_isSo_285 {o0 o1 o2 o3 o5 o6 o7 o8 o9 o10 o12 o13 o14 o15 o16 o17 o18 o19 o20 o21 o22 o23 o24 o25 o26 : Option Value} {s0 : Value} {x11 : Int} {a4 : Nat} (g1 : T a4 = (32, (T a4).2)) (g2 : (0 : Int) ≤ x11 ∧ x11 < ((T a4).2 : Int) ∧ (T a4).2 ≤ 3584) (g3 : 0 ≤ ((V a4 x11.toNat) - 1) ∧ ((V a4 x11.toNat) - 1) ≤ 2147483647) : XR sc d 104 285 [o0, o1, o2, o3, some (.ref a4), o5, o6, o7, o8, o9, o10, some (xw x11), o12, o13, o14, o15, o16, o17, o18, o19, o20, o21, o22, o23, o24, o25, o26] [s0] (T, z, xv V, J, R) = XR sc d 104 295 [o0, o1, o2, o3, some (.ref a4), o5, o6, o7, o8, o9, o10, some (xw x11), o12, o13, o14, o15, o16, o17, o18, o19, o20, o21, o22, o23, o24, o25, o26] [xw (((V a4 x11.toNat) - 1) / 64), s0] (T, z, xv V, J, R) :=
  (st_aload f_104_285 rfl).trans ((sw_iload f_104_287 rfl).trans ((sw_iaload f_104_289 g1 g2).trans ((sw_iconst f_104_290).trans ((sw_isub f_104_291).trans ((sw_bipush f_104_292 c8_64).trans (sw_idiv f_104_294 ⟨by decide, by decide, g3⟩))))))
theorem bL_isSo_295 {o0 o1 o2 o3 o4 o5 o6 o7 o8 o9 o10 o11 o12 o13 o14 o15 o16 o17 o18 o19 o20 o21 o22 o23 o24 o25 o26 : Option Value} {y0 y1 : Int} (g1 : -2147483648 ≤ y1 ∧ y1 ≤ 2147483647) (g2 : -2147483648 ≤ y0 ∧ y0 ≤ 2147483647) : XR sc d 104 295 [o0, o1, o2, o3, o4, o5, o6, o7, o8, o9, o10, o11, o12, o13, o14, o15, o16, o17, o18, o19, o20, o21, o22, o23, o24, o25, o26] [xw y0, xw y1] (T, z, xv V, J, R) = if y1 = y0 then XR sc d 104 298 [o0, o1, o2, o3, o4, o5, o6, o7, o8, o9, o10, o11, o12, o13, o14, o15, o16, o17, o18, o19, o20, o21, o22, o23, o24, o25, o26] [] (T, z, xv V, J, R) else XR sc d 104 320 [o0, o1, o2, o3, o4, o5, o6, o7, o8, o9, o10, o11, o12, o13, o14, o15, o16, o17, o18, o19, o20, o21, o22, o23, o24, o25, o26] [] (T, z, xv V, J, R) :=
  sw_icmp_ne (t := 320) f_104_295 ⟨by decide, rfl⟩ g1 g2
theorem bL_isSo_298 {o1 o2 o3 o4 o5 o6 o7 o8 o9 o10 o12 o13 o14 o15 o16 o17 o18 o19 o20 o21 o22 o23 o24 o25 o26 : Option Value} {x11 : Int} {a0 : Nat} (g1 : T a0 = (7, 0)) : XR sc d 104 298 [some (.ref a0), o1, o2, o3, o4, o5, o6, o7, o8, o9, o10, some (xw x11), o12, o13, o14, o15, o16, o17, o18, o19, o20, o21, o22, o23, o24, o25, o26] [] (T, z, xv V, J, R) = xret 104 (XR sc d 104) 303 306 [some (.ref a0), o1, o2, o3, o4, o5, o6, o7, o8, o9, o10, some (xw x11), o12, o13, o14, o15, o16, o17, o18, o19, o20, o21, o22, o23, o24, o25, o26] [] (X sc d 57 [.ref a0, xw x11, xw 10] (T, z, xv V, J, R)) :=
  (st_aload_n f_104_298 rfl).trans ((sw_iload f_104_299 rfl).trans ((sw_bipush f_104_301 c8_10).trans (st_callV' f_104_303 h_104_33 mn_57 rfl rfl rfl rfl mo_57 g1 rfl)))
theorem bL_isSo_306 {o0 o2 o3 o4 o5 o6 o7 o8 o9 o10 o12 o13 o14 o15 o16 o17 o18 o19 o20 o21 o22 o23 o24 o25 o26 : Option Value} {x11 y0 : Int} {a1 : Nat} (g1 : T a1 = (32, (T a1).2)) (g2 : (0 : Int) ≤ x11 ∧ x11 < ((T a1).2 : Int) ∧ (T a1).2 ≤ 3584) (g3 : 0 ≤ (V a1 x11.toNat) ∧ (V a1 x11.toNat) ≤ 2147483647) (g4 : -2147483648 ≤ y0 ∧ y0 ≤ 2147483647) (g5 : -2147483648 ≤ ((V a1 x11.toNat) / 524288) ∧ ((V a1 x11.toNat) / 524288) ≤ 2147483647) : XR sc d 104 306 [o0, some (.ref a1), o2, o3, o4, o5, o6, o7, o8, o9, o10, some (xw x11), o12, o13, o14, o15, o16, o17, o18, o19, o20, o21, o22, o23, o24, o25, o26] [xw y0] (T, z, xv V, J, R) = if y0 = ((V a1 x11.toNat) / 524288) then XR sc d 104 316 [o0, some (.ref a1), o2, o3, o4, o5, o6, o7, o8, o9, o10, some (xw x11), o12, o13, o14, o15, o16, o17, o18, o19, o20, o21, o22, o23, o24, o25, o26] [] (T, z, xv V, J, R) else XR sc d 104 320 [o0, some (.ref a1), o2, o3, o4, o5, o6, o7, o8, o9, o10, some (xw x11), o12, o13, o14, o15, o16, o17, o18, o19, o20, o21, o22, o23, o24, o25, o26] [] (T, z, xv V, J, R) :=
  (st_aload_n f_104_306 rfl).trans ((sw_iload f_104_307 rfl).trans ((sw_iaload f_104_309 g1 g2).trans ((sw_ldc 524288 f_104_310 k_104_111 rfl).trans ((sw_idiv f_104_312 ⟨by decide, by decide, g3⟩).trans (sw_icmp_ne (t := 320) f_104_313 ⟨by decide, rfl⟩ g4 g5)))))
theorem bL_isSo_316 {o0 o1 o2 o3 o4 o5 o6 o7 o8 o9 o10 o11 o12 o13 o14 o15 o16 o17 o18 o19 o20 o21 o22 o23 o24 o25 o26 : Option Value} : XR sc d 104 316 [o0, o1, o2, o3, o4, o5, o6, o7, o8, o9, o10, o11, o12, o13, o14, o15, o16, o17, o18, o19, o20, o21, o22, o23, o24, o25, o26] [] (T, z, xv V, J, R) = XR sc d 104 321 [o0, o1, o2, o3, o4, o5, o6, o7, o8, o9, o10, o11, o12, o13, o14, o15, o16, o17, o18, o19, o20, o21, o22, o23, o24, o25, o26] [xw 1] (T, z, xv V, J, R) :=
  (sw_iconst f_104_316).trans (st_goto (t := 321) f_104_317 ⟨by decide, rfl⟩)
theorem bL_isSo_320 {o0 o1 o2 o3 o4 o5 o6 o7 o8 o9 o10 o11 o12 o13 o14 o15 o16 o17 o18 o19 o20 o21 o22 o23 o24 o25 o26 : Option Value} : XR sc d 104 320 [o0, o1, o2, o3, o4, o5, o6, o7, o8, o9, o10, o11, o12, o13, o14, o15, o16, o17, o18, o19, o20, o21, o22, o23, o24, o25, o26] [] (T, z, xv V, J, R) = XR sc d 104 321 [o0, o1, o2, o3, o4, o5, o6, o7, o8, o9, o10, o11, o12, o13, o14, o15, o16, o17, o18, o19, o20, o21, o22, o23, o24, o25, o26] [xw 0] (T, z, xv V, J, R) :=
  sw_iconst f_104_320
theorem bL_isSo_321 {o0 o1 o2 o3 o4 o5 o6 o9 o10 o11 o12 o13 o14 o15 o16 o17 o18 o19 o20 o21 o22 o23 o24 o25 o26 : Option Value} {y0 x8 : Int} {a7 : Nat} (g1 : T a7 = (32, (T a7).2)) (g2 : (0 : Int) ≤ 1 ∧ 1 < ((T a7).2 : Int) ∧ (T a7).2 ≤ 3584) (g3 : 0 < (V a7 1) ∧ (V a7 1) ≤ 2147483647 ∧ 0 ≤ x8 ∧ x8 ≤ 2147483647) (g4 : -2147483648 ≤ y0 ∧ y0 ≤ 2147483647) : XR sc d 104 321 [o0, o1, o2, o3, o4, o5, o6, some (.ref a7), some (xw x8), o9, o10, o11, o12, o13, o14, o15, o16, o17, o18, o19, o20, o21, o22, o23, o24, o25, o26] [xw y0] (T, z, xv V, J, R) = if y0 = 0 then XR sc d 104 374 [o0, o1, o2, o3, o4, o5, o6, some (.ref a7), some (xw x8), o9, some (xw y0), o11, o12, o13, some (xw (x8 % (V a7 1))), o15, o16, o17, o18, o19, o20, o21, o22, o23, o24, o25, o26] [] (T, z, xv V, J, R) else XR sc d 104 337 [o0, o1, o2, o3, o4, o5, o6, some (.ref a7), some (xw x8), o9, some (xw y0), o11, o12, o13, some (xw (x8 % (V a7 1))), o15, o16, o17, o18, o19, o20, o21, o22, o23, o24, o25, o26] [] (T, z, xv V, J, R) :=
  (sw_istore (L' := [o0, o1, o2, o3, o4, o5, o6, some (.ref a7), some (xw x8), o9, some (xw y0), o11, o12, o13, o14, o15, o16, o17, o18, o19, o20, o21, o22, o23, o24, o25, o26]) f_104_321 (Nat.le_of_ble_eq_true rfl) rfl).trans ((sw_iload f_104_323 rfl).trans ((st_aload f_104_325 rfl).trans ((sw_iconst f_104_327).trans ((sw_iaload f_104_328 g1 g2).trans ((sw_irem f_104_329 g3).trans ((sw_istore (L' := [o0, o1, o2, o3, o4, o5, o6, some (.ref a7), some (xw x8), o9, some (xw y0), o11, o12, o13, some (xw (x8 % (V a7 1))), o15, o16, o17, o18, o19, o20, o21, o22, o23, o24, o25, o26]) f_104_330 (Nat.le_of_ble_eq_true rfl) rfl).trans ((sw_iload f_104_332 rfl).trans (sw_if_eq (t := 374) f_104_334 ⟨by decide, rfl⟩ g4))))))))
theorem bL_isSo_337 {o1 o2 o3 o4 o5 o6 o7 o8 o9 o10 o12 o13 o15 o16 o17 o18 o19 o20 o21 o22 o23 o24 o25 o26 : Option Value} {x11 x14 : Int} {a0 : Nat} (g1 : T a0 = (7, 0)) : XR sc d 104 337 [some (.ref a0), o1, o2, o3, o4, o5, o6, o7, o8, o9, o10, some (xw x11), o12, o13, some (xw x14), o15, o16, o17, o18, o19, o20, o21, o22, o23, o24, o25, o26] [] (T, z, xv V, J, R) = xret 104 (XR sc d 104) 342 345 [some (.ref a0), o1, o2, o3, o4, o5, o6, o7, o8, o9, o10, some (xw x11), o12, o13, some (xw x14), o15, o16, o17, o18, o19, o20, o21, o22, o23, o24, o25, o26] [] (X sc d 56 [.ref a0, xw x11, xw x14] (T, z, xv V, J, R)) :=
  (st_aload_n f_104_337 rfl).trans ((sw_iload f_104_338 rfl).trans ((sw_iload f_104_340 rfl).trans (st_callV' f_104_342 h_104_119 mn_56 rfl rfl rfl rfl mo_56 g1 rfl)))
theorem bL_isSo_345 {o0 o2 o3 o4 o5 o6 o7 o8 o9 o10 o12 o13 o15 o16 o17 o18 o19 o20 o21 o22 o23 o24 o25 o26 : Option Value} {s0 : Value} {x11 x14 : Int} {a1 : Nat} (g1 : T a1 = (32, (T a1).2)) (g2 : (0 : Int) ≤ x11 ∧ x11 < ((T a1).2 : Int) ∧ (T a1).2 ≤ 3584) (g3 : 0 ≤ (V a1 x11.toNat) ∧ (V a1 x11.toNat) ≤ 2147483647) (g4 : (0 : Int) ≤ x14 ∧ x14 < ((T a1).2 : Int) ∧ (T a1).2 ≤ 3584) (g5 : 0 ≤ (V a1 x14.toNat) ∧ (V a1 x14.toNat) ≤ 2147483647) (g6 : -2147483648 ≤ ((V a1 x11.toNat) % 65536) ∧ ((V a1 x11.toNat) % 65536) ≤ 2147483647) (g7 : -2147483648 ≤ ((V a1 x14.toNat) % 65536) ∧ ((V a1 x14.toNat) % 65536) ≤ 2147483647) : XR sc d 104 345 [o0, some (.ref a1), o2, o3, o4, o5, o6, o7, o8, o9, o10, some (xw x11), o12, o13, some (xw x14), o15, o16, o17, o18, o19, o20, o21, o22, o23, o24, o25, o26] [s0] (T, z, xv V, J, R) = if ((V a1 x11.toNat) % 65536) = ((V a1 x14.toNat) % 65536) then XR sc d 104 362 [o0, some (.ref a1), o2, o3, o4, o5, o6, o7, o8, o9, o10, some (xw x11), o12, o13, some (xw x14), o15, o16, o17, o18, o19, o20, o21, o22, o23, o24, o25, o26] [s0] (T, z, xv V, J, R) else XR sc d 104 366 [o0, some (.ref a1), o2, o3, o4, o5, o6, o7, o8, o9, o10, some (xw x11), o12, o13, some (xw x14), o15, o16, o17, o18, o19, o20, o21, o22, o23, o24, o25, o26] [s0] (T, z, xv V, J, R) :=
  (st_aload_n f_104_345 rfl).trans ((sw_iload f_104_346 rfl).trans ((sw_iaload f_104_348 g1 g2).trans ((sw_ldc 65536 f_104_349 k_104_123 rfl).trans ((sw_irem f_104_351 ⟨by decide, by decide, g3⟩).trans ((st_aload_n f_104_352 rfl).trans ((sw_iload f_104_353 rfl).trans ((sw_iaload f_104_355 g1 g4).trans ((sw_ldc 65536 f_104_356 k_104_123 rfl).trans ((sw_irem f_104_358 ⟨by decide, by decide, g5⟩).trans (sw_icmp_ne (t := 366) f_104_359 ⟨by decide, rfl⟩ g6 g7))))))))))
theorem bL_isSo_362 {o0 o1 o2 o3 o4 o5 o6 o7 o8 o9 o10 o11 o12 o13 o14 o15 o16 o17 o18 o19 o20 o21 o22 o23 o24 o25 o26 : Option Value} {s0 : Value} : XR sc d 104 362 [o0, o1, o2, o3, o4, o5, o6, o7, o8, o9, o10, o11, o12, o13, o14, o15, o16, o17, o18, o19, o20, o21, o22, o23, o24, o25, o26] [s0] (T, z, xv V, J, R) = XR sc d 104 367 [o0, o1, o2, o3, o4, o5, o6, o7, o8, o9, o10, o11, o12, o13, o14, o15, o16, o17, o18, o19, o20, o21, o22, o23, o24, o25, o26] [xw 1, s0] (T, z, xv V, J, R) :=
  (sw_iconst f_104_362).trans (st_goto (t := 367) f_104_363 ⟨by decide, rfl⟩)
theorem bL_isSo_366 {o0 o1 o2 o3 o4 o5 o6 o7 o8 o9 o10 o11 o12 o13 o14 o15 o16 o17 o18 o19 o20 o21 o22 o23 o24 o25 o26 : Option Value} {s0 : Value} : XR sc d 104 366 [o0, o1, o2, o3, o4, o5, o6, o7, o8, o9, o10, o11, o12, o13, o14, o15, o16, o17, o18, o19, o20, o21, o22, o23, o24, o25, o26] [s0] (T, z, xv V, J, R) = XR sc d 104 367 [o0, o1, o2, o3, o4, o5, o6, o7, o8, o9, o10, o11, o12, o13, o14, o15, o16, o17, o18, o19, o20, o21, o22, o23, o24, o25, o26] [xw 0, s0] (T, z, xv V, J, R) :=
  sw_iconst f_104_366
theorem bL_isSo_367 {o0 o1 o2 o3 o4 o5 o6 o7 o8 o9 o10 o11 o12 o13 o14 o15 o16 o17 o18 o19 o20 o21 o22 o23 o24 o25 o26 : Option Value} {y0 y1 : Int} (g1 : -2147483648 ≤ y1 ∧ y1 ≤ 2147483647) (g2 : -2147483648 ≤ y0 ∧ y0 ≤ 2147483647) : XR sc d 104 367 [o0, o1, o2, o3, o4, o5, o6, o7, o8, o9, o10, o11, o12, o13, o14, o15, o16, o17, o18, o19, o20, o21, o22, o23, o24, o25, o26] [xw y0, xw y1] (T, z, xv V, J, R) = if y1 = y0 then XR sc d 104 370 [o0, o1, o2, o3, o4, o5, o6, o7, o8, o9, o10, o11, o12, o13, o14, o15, o16, o17, o18, o19, o20, o21, o22, o23, o24, o25, o26] [] (T, z, xv V, J, R) else XR sc d 104 374 [o0, o1, o2, o3, o4, o5, o6, o7, o8, o9, o10, o11, o12, o13, o14, o15, o16, o17, o18, o19, o20, o21, o22, o23, o24, o25, o26] [] (T, z, xv V, J, R) :=
  sw_icmp_ne (t := 374) f_104_367 ⟨by decide, rfl⟩ g1 g2
theorem bL_isSo_370 {o0 o1 o2 o3 o4 o5 o6 o7 o8 o9 o10 o11 o12 o13 o14 o15 o16 o17 o18 o19 o20 o21 o22 o23 o24 o25 o26 : Option Value} : XR sc d 104 370 [o0, o1, o2, o3, o4, o5, o6, o7, o8, o9, o10, o11, o12, o13, o14, o15, o16, o17, o18, o19, o20, o21, o22, o23, o24, o25, o26] [] (T, z, xv V, J, R) = XR sc d 104 375 [o0, o1, o2, o3, o4, o5, o6, o7, o8, o9, o10, o11, o12, o13, o14, o15, o16, o17, o18, o19, o20, o21, o22, o23, o24, o25, o26] [xw 1] (T, z, xv V, J, R) :=
  (sw_iconst f_104_370).trans (st_goto (t := 375) f_104_371 ⟨by decide, rfl⟩)
theorem bL_isSo_374 {o0 o1 o2 o3 o4 o5 o6 o7 o8 o9 o10 o11 o12 o13 o14 o15 o16 o17 o18 o19 o20 o21 o22 o23 o24 o25 o26 : Option Value} : XR sc d 104 374 [o0, o1, o2, o3, o4, o5, o6, o7, o8, o9, o10, o11, o12, o13, o14, o15, o16, o17, o18, o19, o20, o21, o22, o23, o24, o25, o26] [] (T, z, xv V, J, R) = XR sc d 104 375 [o0, o1, o2, o3, o4, o5, o6, o7, o8, o9, o10, o11, o12, o13, o14, o15, o16, o17, o18, o19, o20, o21, o22, o23, o24, o25, o26] [xw 0] (T, z, xv V, J, R) :=
  sw_iconst f_104_374
theorem bL_isSo_375 {o0 o1 o2 o3 o4 o5 o6 o7 o8 o9 o10 o12 o13 o14 o15 o16 o17 o18 o19 o20 o21 o22 o23 o24 o25 o26 : Option Value} {y0 x11 : Int} : XR sc d 104 375 [o0, o1, o2, o3, o4, o5, o6, o7, o8, o9, o10, some (xw x11), o12, o13, o14, o15, o16, o17, o18, o19, o20, o21, o22, o23, o24, o25, o26] [xw y0] (T, z, xv V, J, R) = XR sc d 104 21 [o0, o1, o2, o3, o4, o5, o6, o7, o8, o9, some (xw y0), some (xw (x11 + 1)), o12, o13, o14, o15, o16, o17, o18, o19, o20, o21, o22, o23, o24, o25, o26] [] (T, z, xv V, J, R) :=
  (sw_istore (L' := [o0, o1, o2, o3, o4, o5, o6, o7, o8, o9, some (xw y0), some (xw x11), o12, o13, o14, o15, o16, o17, o18, o19, o20, o21, o22, o23, o24, o25, o26]) f_104_375 (Nat.le_of_ble_eq_true rfl) rfl).trans ((sw_iinc (L' := [o0, o1, o2, o3, o4, o5, o6, o7, o8, o9, some (xw y0), some (xw (x11 + 1)), o12, o13, o14, o15, o16, o17, o18, o19, o20, o21, o22, o23, o24, o25, o26]) f_104_377 rfl (Nat.le_of_ble_eq_true rfl) rfl).trans (st_goto (t := 21) f_104_380 ⟨by decide, rfl⟩))
theorem bL_isSo_383 {o0 o1 o2 o3 o5 o6 o10 o11 o12 o13 o14 o15 o16 o17 o18 o19 o20 o21 o22 o23 o24 o25 o26 : Option Value} {x8 x9 : Int} {a4 a7 : Nat} (g1 : 0 ≤ x8 ∧ x8 ≤ 2147483647) (g2 : 0 ≤ x9 ∧ x9 ≤ 2147483647) (g3 : 0 ≤ (((x8 % 4) + 1) + (x9 % 3)) ∧ (((x8 % 4) + 1) + (x9 % 3)) ≤ 2147483647) : XR sc d 104 383 [o0, o1, o2, o3, some (.ref a4), o5, o6, some (.ref a7), some (xw x8), some (xw x9), o10, o11, o12, o13, o14, o15, o16, o17, o18, o19, o20, o21, o22, o23, o24, o25, o26] [] (T, z, xv V, J, R) = xret 104 (XR sc d 104) 428 431 [o0, o1, o2, o3, some (.ref a4), o5, o6, some (.ref a7), some (xw x8), some (xw x9), o10, some (xw (x8 % 4)), some (xw ((((x8 % 4) + 1) + (x9 % 3)) % 4)), some (xw (1 + (x9 % 400))), some (.ref z.1), o15, o16, o17, o18, o19, o20, o21, o22, o23, o24, o25, o26] [] (X sc d 95 [.ref a4, .ref a7, xw (x8 % 4), xw ((((x8 % 4) + 1) + (x9 % 3)) % 4), .ref z.1] ((va_up T z.1 (32, 9)), (z.1 + 1, z.2 + 9), xv (va_up V z.1 (fun _ => 0)), (va_up J z.1 (fun _ => 0)), (va_up R z.1 (fun _ => none)))) :=
  (sw_iload f_104_383 rfl).trans ((sw_iconst f_104_385).trans ((sw_irem f_104_386 ⟨by decide, by decide, g1⟩).trans ((sw_istore (L' := [o0, o1, o2, o3, some (.ref a4), o5, o6, some (.ref a7), some (xw x8), some (xw x9), o10, some (xw (x8 % 4)), o12, o13, o14, o15, o16, o17, o18, o19, o20, o21, o22, o23, o24, o25, o26]) f_104_387 (Nat.le_of_ble_eq_true rfl) rfl).trans ((sw_iload f_104_389 rfl).trans ((sw_iconst f_104_391).trans ((sw_iadd f_104_392).trans ((sw_iload f_104_393 rfl).trans ((sw_iconst f_104_395).trans ((sw_irem f_104_396 ⟨by decide, by decide, g2⟩).trans ((sw_iadd f_104_397).trans ((sw_iconst f_104_398).trans ((sw_irem f_104_399 ⟨by decide, by decide, g3⟩).trans ((sw_istore (L' := [o0, o1, o2, o3, some (.ref a4), o5, o6, some (.ref a7), some (xw x8), some (xw x9), o10, some (xw (x8 % 4)), some (xw ((((x8 % 4) + 1) + (x9 % 3)) % 4)), o13, o14, o15, o16, o17, o18, o19, o20, o21, o22, o23, o24, o25, o26]) f_104_400 (Nat.le_of_ble_eq_true rfl) rfl).trans ((sw_iconst f_104_402).trans ((sw_iload f_104_403 rfl).trans ((sw_sipush f_104_405 c16_400).trans ((sw_irem f_104_408 ⟨by decide, by decide, g2⟩).trans ((sw_iadd f_104_409).trans ((sw_istore (L' := [o0, o1, o2, o3, some (.ref a4), o5, o6, some (.ref a7), some (xw x8), some (xw x9), o10, some (xw (x8 % 4)), some (xw ((((x8 % 4) + 1) + (x9 % 3)) % 4)), some (xw (1 + (x9 % 400))), o14, o15, o16, o17, o18, o19, o20, o21, o22, o23, o24, o25, o26]) f_104_410 (Nat.le_of_ble_eq_true rfl) rfl).trans ((sw_bipush f_104_412 c8_9).trans ((sw_newI 9 f_104_414 ⟨rfl, by decide⟩).trans ((st_astore (L' := [o0, o1, o2, o3, some (.ref a4), o5, o6, some (.ref a7), some (xw x8), some (xw x9), o10, some (xw (x8 % 4)), some (xw ((((x8 % 4) + 1) + (x9 % 3)) % 4)), some (xw (1 + (x9 % 400))), some (.ref z.1), o15, o16, o17, o18, o19, o20, o21, o22, o23, o24, o25, o26]) f_104_416 (Nat.le_of_ble_eq_true rfl) rfl).trans ((st_aload f_104_418 rfl).trans ((st_aload f_104_420 rfl).trans ((sw_iload f_104_422 rfl).trans ((sw_iload f_104_424 rfl).trans ((st_aload f_104_426 rfl).trans (st_callS' f_104_428 h_104_103 mn_95 rfl rfl rfl rfl))))))))))))))))))))))))))))
theorem bL_isSo_431 {o0 o1 o2 o3 o4 o5 o6 o7 o8 o9 o10 o11 o12 o13 o14 o15 o16 o17 o18 o19 o20 o21 o22 o23 o24 o25 o26 : Option Value} {y0 : Int} (g1 : -2147483648 ≤ y0 ∧ y0 ≤ 2147483647) : XR sc d 104 431 [o0, o1, o2, o3, o4, o5, o6, o7, o8, o9, o10, o11, o12, o13, o14, o15, o16, o17, o18, o19, o20, o21, o22, o23, o24, o25, o26] [xw y0] (T, z, xv V, J, R) = if y0 = 0 then XR sc d 104 444 [o0, o1, o2, o3, o4, o5, o6, o7, o8, o9, o10, o11, o12, o13, o14, some (xw y0), o16, o17, o18, o19, o20, o21, o22, o23, o24, o25, o26] [] (T, z, xv V, J, R) else XR sc d 104 438 [o0, o1, o2, o3, o4, o5, o6, o7, o8, o9, o10, o11, o12, o13, o14, some (xw y0), o16, o17, o18, o19, o20, o21, o22, o23, o24, o25, o26] [] (T, z, xv V, J, R) :=
  (sw_istore (L' := [o0, o1, o2, o3, o4, o5, o6, o7, o8, o9, o10, o11, o12, o13, o14, some (xw y0), o16, o17, o18, o19, o20, o21, o22, o23, o24, o25, o26]) f_104_431 (Nat.le_of_ble_eq_true rfl) rfl).trans ((sw_iload f_104_433 rfl).trans (sw_if_eq (t := 444) f_104_435 ⟨by decide, rfl⟩ g1))
theorem bL_isSo_438 {o0 o1 o2 o3 o4 o5 o6 o7 o8 o9 o10 o11 o12 o13 o14 o15 o16 o17 o18 o19 o20 o21 o22 o23 o24 o25 o26 : Option Value} : XR sc d 104 438 [o0, o1, o2, o3, o4, o5, o6, o7, o8, o9, o10, o11, o12, o13, o14, o15, o16, o17, o18, o19, o20, o21, o22, o23, o24, o25, o26] [] (T, z, xv V, J, R) = XR sc d 104 445 [o0, o1, o2, o3, o4, o5, o6, o7, o8, o9, o10, o11, o12, o13, o14, o15, o16, o17, o18, o19, o20, o21, o22, o23, o24, o25, o26] [xw 9999] (T, z, xv V, J, R) :=
  (sw_sipush f_104_438 c16_9999).trans (st_goto (t := 445) f_104_441 ⟨by decide, rfl⟩)
theorem bL_isSo_444 {o0 o1 o2 o3 o4 o5 o6 o7 o8 o9 o10 o11 o12 o13 o14 o15 o16 o17 o18 o19 o20 o21 o22 o23 o24 o25 o26 : Option Value} : XR sc d 104 444 [o0, o1, o2, o3, o4, o5, o6, o7, o8, o9, o10, o11, o12, o13, o14, o15, o16, o17, o18, o19, o20, o21, o22, o23, o24, o25, o26] [] (T, z, xv V, J, R) = XR sc d 104 445 [o0, o1, o2, o3, o4, o5, o6, o7, o8, o9, o10, o11, o12, o13, o14, o15, o16, o17, o18, o19, o20, o21, o22, o23, o24, o25, o26] [xw (-1)] (T, z, xv V, J, R) :=
  sw_iconst f_104_444
theorem bL_isSo_445 {o0 o1 o2 o3 o4 o5 o6 o7 o8 o9 o10 o11 o12 o13 o14 o15 o16 o17 o18 o19 o20 o21 o22 o23 o24 o25 o26 : Option Value} {y0 : Int} : XR sc d 104 445 [o0, o1, o2, o3, o4, o5, o6, o7, o8, o9, o10, o11, o12, o13, o14, o15, o16, o17, o18, o19, o20, o21, o22, o23, o24, o25, o26] [xw y0] (T, z, xv V, J, R) = XR sc d 104 450 [o0, o1, o2, o3, o4, o5, o6, o7, o8, o9, o10, o11, o12, o13, o14, o15, some (xw y0), some (xw 0), o18, o19, o20, o21, o22, o23, o24, o25, o26] [] (T, z, xv V, J, R) :=
  (sw_istore (L' := [o0, o1, o2, o3, o4, o5, o6, o7, o8, o9, o10, o11, o12, o13, o14, o15, some (xw y0), o17, o18, o19, o20, o21, o22, o23, o24, o25, o26]) f_104_445 (Nat.le_of_ble_eq_true rfl) rfl).trans ((sw_iconst f_104_447).trans (sw_istore (L' := [o0, o1, o2, o3, o4, o5, o6, o7, o8, o9, o10, o11, o12, o13, o14, o15, some (xw y0), some (xw 0), o18, o19, o20, o21, o22, o23, o24, o25, o26]) f_104_448 (Nat.le_of_ble_eq_true rfl) rfl))
theorem bL_isSo_450 {o0 o1 o2 o3 o4 o5 o6 o8 o9 o10 o11 o12 o13 o14 o15 o16 o18 o19 o20 o21 o22 o23 o24 o25 o26 : Option Value} {x17 : Int} {a7 : Nat} (g1 : T a7 = (32, (T a7).2)) (g2 : (0 : Int) ≤ 1 ∧ 1 < ((T a7).2 : Int) ∧ (T a7).2 ≤ 3584) (g3 : -2147483648 ≤ x17 ∧ x17 ≤ 2147483647) (g4 : -2147483648 ≤ (V a7 1) ∧ (V a7 1) ≤ 2147483647) : XR sc d 104 450 [o0, o1, o2, o3, o4, o5, o6, some (.ref a7), o8, o9, o10, o11, o12, o13, o14, o15, o16, some (xw x17), o18, o19, o20, o21, o22, o23, o24, o25, o26] [] (T, z, xv V, J, R) = if (V a7 1) ≤ x17 then XR sc d 104 591 [o0, o1, o2, o3, o4, o5, o6, some (.ref a7), o8, o9, o10, o11, o12, o13, o14, o15, o16, some (xw x17), o18, o19, o20, o21, o22, o23, o24, o25, o26] [] (T, z, xv V, J, R) else XR sc d 104 459 [o0, o1, o2, o3, o4, o5, o6, some (.ref a7), o8, o9, o10, o11, o12, o13, o14, o15, o16, some (xw x17), o18, o19, o20, o21, o22, o23, o24, o25, o26] [] (T, z, xv V, J, R) :=
  (sw_iload f_104_450 rfl).trans ((st_aload f_104_452 rfl).trans ((sw_iconst f_104_454).trans ((sw_iaload f_104_455 g1 g2).trans (sw_icmp_ge (t := 591) f_104_456 ⟨by decide, rfl⟩ g3 g4))))
theorem bL_isSo_459 {o0 o1 o2 o3 o4 o5 o6 o7 o8 o9 o11 o12 o13 o14 o15 o16 o17 o18 o19 o20 o21 o22 o23 o24 o25 o26 : Option Value} {x10 : Int} (g1 : -2147483648 ≤ x10 ∧ x10 ≤ 2147483647) : XR sc d 104 459 [o0, o1, o2, o3, o4, o5, o6, o7, o8, o9, some (xw x10), o11, o12, o13, o14, o15, o16, o17, o18, o19, o20, o21, o22, o23, o24, o25, o26] [] (T, z, xv V, J, R) = if x10 = 0 then XR sc d 104 591 [o0, o1, o2, o3, o4, o5, o6, o7, o8, o9, some (xw x10), o11, o12, o13, o14, o15, o16, o17, o18, o19, o20, o21, o22, o23, o24, o25, o26] [] (T, z, xv V, J, R) else XR sc d 104 464 [o0, o1, o2, o3, o4, o5, o6, o7, o8, o9, some (xw x10), o11, o12, o13, o14, o15, o16, o17, o18, o19, o20, o21, o22, o23, o24, o25, o26] [] (T, z, xv V, J, R) :=
  (sw_iload f_104_459 rfl).trans (sw_if_eq (t := 591) f_104_461 ⟨by decide, rfl⟩ g1)
theorem bL_isSo_464 {o0 o1 o2 o3 o4 o5 o6 o7 o8 o9 o10 o11 o12 o13 o14 o16 o17 o18 o19 o20 o21 o22 o23 o24 o25 o26 : Option Value} {x15 : Int} (g1 : -2147483648 ≤ x15 ∧ x15 ≤ 2147483647) : XR sc d 104 464 [o0, o1, o2, o3, o4, o5, o6, o7, o8, o9, o10, o11, o12, o13, o14, some (xw x15), o16, o17, o18, o19, o20, o21, o22, o23, o24, o25, o26] [] (T, z, xv V, J, R) = if x15 = 0 then XR sc d 104 485 [o0, o1, o2, o3, o4, o5, o6, o7, o8, o9, o10, o11, o12, o13, o14, some (xw x15), o16, o17, o18, o19, o20, o21, o22, o23, o24, o25, o26] [] (T, z, xv V, J, R) else XR sc d 104 469 [o0, o1, o2, o3, o4, o5, o6, o7, o8, o9, o10, o11, o12, o13, o14, some (xw x15), o16, o17, o18, o19, o20, o21, o22, o23, o24, o25, o26] [] (T, z, xv V, J, R) :=
  (sw_iload f_104_464 rfl).trans (sw_if_eq (t := 485) f_104_466 ⟨by decide, rfl⟩ g1)
theorem bL_isSo_469 {o0 o1 o2 o3 o5 o6 o8 o9 o10 o11 o12 o15 o16 o18 o19 o20 o21 o22 o23 o24 o25 o26 : Option Value} {x17 x13 : Int} {a4 a7 a14 : Nat} : XR sc d 104 469 [o0, o1, o2, o3, some (.ref a4), o5, o6, some (.ref a7), o8, o9, o10, o11, o12, some (xw x13), some (.ref a14), o15, o16, some (xw x17), o18, o19, o20, o21, o22, o23, o24, o25, o26] [] (T, z, xv V, J, R) = xret 104 (XR sc d 104) 479 482 [o0, o1, o2, o3, some (.ref a4), o5, o6, some (.ref a7), o8, o9, o10, o11, o12, some (xw x13), some (.ref a14), o15, o16, some (xw x17), o18, o19, o20, o21, o22, o23, o24, o25, o26] [] (X sc d 97 [.ref a4, .ref a7, .ref a14, xw x17, xw x13] (T, z, xv V, J, R)) :=
  (st_aload f_104_469 rfl).trans ((st_aload f_104_471 rfl).trans ((st_aload f_104_473 rfl).trans ((sw_iload f_104_475 rfl).trans ((sw_iload f_104_477 rfl).trans (st_callS' f_104_479 h_104_96 mn_97 rfl rfl rfl rfl)))))
theorem bL_isSo_482 {o0 o1 o2 o3 o4 o5 o6 o7 o8 o9 o10 o11 o12 o13 o14 o15 o16 o17 o18 o19 o20 o21 o22 o23 o24 o25 o26 : Option Value} {s0 : Value} : XR sc d 104 482 [o0, o1, o2, o3, o4, o5, o6, o7, o8, o9, o10, o11, o12, o13, o14, o15, o16, o17, o18, o19, o20, o21, o22, o23, o24, o25, o26] [s0] (T, z, xv V, J, R) = XR sc d 104 486 [o0, o1, o2, o3, o4, o5, o6, o7, o8, o9, o10, o11, o12, o13, o14, o15, o16, o17, o18, o19, o20, o21, o22, o23, o24, o25, o26] [s0] (T, z, xv V, J, R) :=
  st_goto (t := 486) f_104_482 ⟨by decide, rfl⟩
theorem bL_isSo_485 {o0 o1 o2 o3 o4 o5 o6 o7 o8 o9 o10 o11 o12 o13 o14 o15 o16 o17 o18 o19 o20 o21 o22 o23 o24 o25 o26 : Option Value} : XR sc d 104 485 [o0, o1, o2, o3, o4, o5, o6, o7, o8, o9, o10, o11, o12, o13, o14, o15, o16, o17, o18, o19, o20, o21, o22, o23, o24, o25, o26] [] (T, z, xv V, J, R) = XR sc d 104 486 [o0, o1, o2, o3, o4, o5, o6, o7, o8, o9, o10, o11, o12, o13, o14, o15, o16, o17, o18, o19, o20, o21, o22, o23, o24, o25, o26] [xw 0] (T, z, xv V, J, R) :=
  sw_iconst f_104_485
theorem bL_isSo_486 {o1 o2 o3 o4 o5 o6 o7 o8 o9 o10 o14 o15 o16 o18 o19 o20 o21 o22 o23 o24 o25 o26 : Option Value} {y0 x17 x11 x12 x13 : Int} {a0 : Nat} : XR sc d 104 486 [some (.ref a0), o1, o2, o3, o4, o5, o6, o7, o8, o9, o10, some (xw x11), some (xw x12), some (xw x13), o14, o15, o16, some (xw x17), o18, o19, o20, o21, o22, o23, o24, o25, o26] [xw y0] (T, z, xv V, J, R) = xret 104 (XR sc d 104) 501 504 [some (.ref a0), o1, o2, o3, o4, o5, o6, o7, o8, o9, o10, some (xw x11), some (xw x12), some (xw x13), o14, o15, o16, some (xw x17), some (xw y0), o19, o20, o21, o22, o23, o24, o25, o26] [] (X sc d 92 [.ref a0, xw 17, xw x17, xw x11, xw x12, xw x13, xw 0, xw 0] (T, z, xv V, J, R)) :=
  (sw_istore (L' := [some (.ref a0), o1, o2, o3, o4, o5, o6, o7, o8, o9, o10, some (xw x11), some (xw x12), some (xw x13), o14, o15, o16, some (xw x17), some (xw y0), o19, o20, o21, o22, o23, o24, o25, o26]) f_104_486 (Nat.le_of_ble_eq_true rfl) rfl).trans ((st_aload_n f_104_488 rfl).trans ((sw_bipush f_104_489 c8_17).trans ((sw_iload f_104_491 rfl).trans ((sw_iload f_104_493 rfl).trans ((sw_iload f_104_495 rfl).trans ((sw_iload f_104_497 rfl).trans ((sw_iconst f_104_499).trans ((sw_iconst f_104_500).trans (st_callS' f_104_501 h_104_124 mn_92 rfl rfl rfl rfl)))))))))
theorem bL_isSo_504 {o0 o1 o2 o3 o4 o5 o6 o7 o8 o9 o10 o11 o12 o13 o14 o15 o16 o17 o19 o20 o21 o22 o23 o24 o25 o26 : Option Value} {x18 y0 : Int} (g1 : -2147483648 ≤ y0 ∧ y0 ≤ 2147483647) (g2 : -2147483648 ≤ x18 ∧ x18 ≤ 2147483647) : XR sc d 104 504 [o0, o1, o2, o3, o4, o5, o6, o7, o8, o9, o10, o11, o12, o13, o14, o15, o16, o17, some (xw x18), o19, o20, o21, o22, o23, o24, o25, o26] [xw y0] (T, z, xv V, J, R) = if y0 = x18 then XR sc d 104 509 [o0, o1, o2, o3, o4, o5, o6, o7, o8, o9, o10, o11, o12, o13, o14, o15, o16, o17, some (xw x18), o19, o20, o21, o22, o23, o24, o25, o26] [] (T, z, xv V, J, R) else XR sc d 104 513 [o0, o1, o2, o3, o4, o5, o6, o7, o8, o9, o10, o11, o12, o13, o14, o15, o16, o17, some (xw x18), o19, o20, o21, o22, o23, o24, o25, o26] [] (T, z, xv V, J, R) :=
  (sw_iload f_104_504 rfl).trans (sw_icmp_ne (t := 513) f_104_506 ⟨by decide, rfl⟩ g1 g2)
theorem bL_isSo_509 {o0 o1 o2 o3 o4 o5 o6 o7 o8 o9 o10 o11 o12 o13 o14 o15 o16 o17 o18 o19 o20 o21 o22 o23 o24 o25 o26 : Option Value} : XR sc d 104 509 [o0, o1, o2, o3, o4, o5, o6, o7, o8, o9, o10, o11, o12, o13, o14, o15, o16, o17, o18, o19, o20, o21, o22, o23, o24, o25, o26] [] (T, z, xv V, J, R) = XR sc d 104 514 [o0, o1, o2, o3, o4, o5, o6, o7, o8, o9, o10, o11, o12, o13, o14, o15, o16, o17, o18, o19, o20, o21, o22, o23, o24, o25, o26] [xw 1] (T, z, xv V, J, R) :=
  (sw_iconst f_104_509).trans (st_goto (t := 514) f_104_510 ⟨by decide, rfl⟩)
theorem bL_isSo_513 {o0 o1 o2 o3 o4 o5 o6 o7 o8 o9 o10 o11 o12 o13 o14 o15 o16 o17 o18 o19 o20 o21 o22 o23 o24 o25 o26 : Option Value} : XR sc d 104 513 [o0, o1, o2, o3, o4, o5, o6, o7, o8, o9, o10, o11, o12, o13, o14, o15, o16, o17, o18, o19, o20, o21, o22, o23, o24, o25, o26] [] (T, z, xv V, J, R) = XR sc d 104 514 [o0, o1, o2, o3, o4, o5, o6, o7, o8, o9, o10, o11, o12, o13, o14, o15, o16, o17, o18, o19, o20, o21, o22, o23, o24, o25, o26] [xw 0] (T, z, xv V, J, R) :=
  sw_iconst f_104_513
theorem bL_isSo_514 {o0 o1 o2 o3 o4 o5 o6 o7 o8 o9 o10 o11 o12 o13 o14 o16 o17 o18 o19 o20 o21 o22 o23 o24 o25 o26 : Option Value} {y0 x15 : Int} (g1 : -2147483648 ≤ x15 ∧ x15 ≤ 2147483647) : XR sc d 104 514 [o0, o1, o2, o3, o4, o5, o6, o7, o8, o9, o10, o11, o12, o13, o14, some (xw x15), o16, o17, o18, o19, o20, o21, o22, o23, o24, o25, o26] [xw y0] (T, z, xv V, J, R) = if x15 = 0 then XR sc d 104 538 [o0, o1, o2, o3, o4, o5, o6, o7, o8, o9, some (xw y0), o11, o12, o13, o14, some (xw x15), o16, o17, o18, o19, o20, o21, o22, o23, o24, o25, o26] [] (T, z, xv V, J, R) else XR sc d 104 521 [o0, o1, o2, o3, o4, o5, o6, o7, o8, o9, some (xw y0), o11, o12, o13, o14, some (xw x15), o16, o17, o18, o19, o20, o21, o22, o23, o24, o25, o26] [] (T, z, xv V, J, R) :=
  (sw_istore (L' := [o0, o1, o2, o3, o4, o5, o6, o7, o8, o9, some (xw y0), o11, o12, o13, o14, some (xw x15), o16, o17, o18, o19, o20, o21, o22, o23, o24, o25, o26]) f_104_514 (Nat.le_of_ble_eq_true rfl) rfl).trans ((sw_iload f_104_516 rfl).trans (sw_if_eq (t := 538) f_104_518 ⟨by decide, rfl⟩ g1))
theorem bL_isSo_521 {o0 o1 o2 o3 o5 o6 o8 o9 o10 o11 o12 o13 o15 o16 o18 o19 o20 o21 o22 o23 o24 o25 o26 : Option Value} {x17 : Int} {a4 a7 a14 : Nat} : XR sc d 104 521 [o0, o1, o2, o3, some (.ref a4), o5, o6, some (.ref a7), o8, o9, o10, o11, o12, o13, some (.ref a14), o15, o16, some (xw x17), o18, o19, o20, o21, o22, o23, o24, o25, o26] [] (T, z, xv V, J, R) = xret 104 (XR sc d 104) 532 535 [o0, o1, o2, o3, some (.ref a4), o5, o6, some (.ref a7), o8, o9, o10, o11, o12, o13, some (.ref a14), o15, o16, some (xw x17), o18, o19, o20, o21, o22, o23, o24, o25, o26] [] (X sc d 97 [.ref a4, .ref a7, .ref a14, xw x17, xw 5040] (T, z, xv V, J, R)) :=
  (st_aload f_104_521 rfl).trans ((st_aload f_104_523 rfl).trans ((st_aload f_104_525 rfl).trans ((sw_iload f_104_527 rfl).trans ((sw_sipush f_104_529 c16_5040).trans (st_callS' f_104_532 h_104_96 mn_97 rfl rfl rfl rfl)))))
theorem bL_isSo_535 {o0 o1 o2 o3 o4 o5 o6 o7 o8 o9 o10 o11 o12 o13 o14 o15 o16 o17 o18 o19 o20 o21 o22 o23 o24 o25 o26 : Option Value} {s0 : Value} : XR sc d 104 535 [o0, o1, o2, o3, o4, o5, o6, o7, o8, o9, o10, o11, o12, o13, o14, o15, o16, o17, o18, o19, o20, o21, o22, o23, o24, o25, o26] [s0] (T, z, xv V, J, R) = XR sc d 104 539 [o0, o1, o2, o3, o4, o5, o6, o7, o8, o9, o10, o11, o12, o13, o14, o15, o16, o17, o18, o19, o20, o21, o22, o23, o24, o25, o26] [s0] (T, z, xv V, J, R) :=
  st_goto (t := 539) f_104_535 ⟨by decide, rfl⟩
theorem bL_isSo_538 {o0 o1 o2 o3 o4 o5 o6 o7 o8 o9 o10 o11 o12 o13 o14 o15 o16 o17 o18 o19 o20 o21 o22 o23 o24 o25 o26 : Option Value} : XR sc d 104 538 [o0, o1, o2, o3, o4, o5, o6, o7, o8, o9, o10, o11, o12, o13, o14, o15, o16, o17, o18, o19, o20, o21, o22, o23, o24, o25, o26] [] (T, z, xv V, J, R) = XR sc d 104 539 [o0, o1, o2, o3, o4, o5, o6, o7, o8, o9, o10, o11, o12, o13, o14, o15, o16, o17, o18, o19, o20, o21, o22, o23, o24, o25, o26] [xw 0] (T, z, xv V, J, R) :=
  sw_iconst f_104_538
theorem bL_isSo_539 {o0 o1 o2 o3 o4 o5 o6 o7 o8 o9 o10 o11 o12 o13 o14 o15 o16 o17 o18 o19 o20 o21 o22 o23 o24 o25 o26 : Option Value} {y0 : Int} (g1 : -2147483648 ≤ y0 ∧ y0 ≤ 2147483647) : XR sc d 104 539 [o0, o1, o2, o3, o4, o5, o6, o7, o8, o9, o10, o11, o12, o13, o14, o15, o16, o17, o18, o19, o20, o21, o22, o23, o24, o25, o26] [xw y0] (T, z, xv V, J, R) = if y0 = 0 then XR sc d 104 546 [o0, o1, o2, o3, o4, o5, o6, o7, o8, o9, o10, o11, o12, o13, o14, o15, o16, o17, o18, some (xw y0), o20, o21, o22, o23, o24, o25, o26] [] (T, z, xv V, J, R) else XR sc d 104 552 [o0, o1, o2, o3, o4, o5, o6, o7, o8, o9, o10, o11, o12, o13, o14, o15, o16, o17, o18, some (xw y0), o20, o21, o22, o23, o24, o25, o26] [] (T, z, xv V, J, R) :=
  (sw_istore (L' := [o0, o1, o2, o3, o4, o5, o6, o7, o8, o9, o10, o11, o12, o13, o14, o15, o16, o17, o18, some (xw y0), o20, o21, o22, o23, o24, o25, o26]) f_104_539 (Nat.le_of_ble_eq_true rfl) rfl).trans ((sw_iload f_104_541 rfl).trans (sw_if_ne (t := 552) f_104_543 ⟨by decide, rfl⟩ g1))
theorem bL_isSo_546 {o0 o1 o2 o3 o4 o5 o6 o7 o8 o9 o10 o11 o12 o13 o14 o15 o16 o17 o18 o19 o20 o21 o22 o23 o24 o25 o26 : Option Value} : XR sc d 104 546 [o0, o1, o2, o3, o4, o5, o6, o7, o8, o9, o10, o11, o12, o13, o14, o15, o16, o17, o18, o19, o20, o21, o22, o23, o24, o25, o26] [] (T, z, xv V, J, R) = XR sc d 104 567 [o0, o1, o2, o3, o4, o5, o6, o7, o8, o9, o10, o11, o12, o13, o14, o15, o16, o17, o18, o19, o20, o21, o22, o23, o24, o25, o26] [xw 9999] (T, z, xv V, J, R) :=
  (sw_sipush f_104_546 c16_9999).trans (st_goto (t := 567) f_104_549 ⟨by decide, rfl⟩)
theorem bL_isSo_552 {o0 o4 o5 o6 o7 o8 o9 o10 o11 o12 o13 o14 o15 o16 o18 o20 o21 o22 o23 o24 o25 o26 : Option Value} {x19 x17 : Int} {a1 a2 a3 : Nat} (g1 : 0 < x19 ∧ x19 ≤ 2147483647 ∧ 0 ≤ (5040 : Int) ∧ (5040 : Int) ≤ 2147483647) : XR sc d 104 552 [o0, some (.ref a1), some (.ref a2), some (.ref a3), o4, o5, o6, o7, o8, o9, o10, o11, o12, o13, o14, o15, o16, some (xw x17), o18, some (xw x19), o20, o21, o22, o23, o24, o25, o26] [] (T, z, xv V, J, R) = xret 104 (XR sc d 104) 563 566 [o0, some (.ref a1), some (.ref a2), some (.ref a3), o4, o5, o6, o7, o8, o9, o10, o11, o12, o13, o14, o15, o16, some (xw x17), o18, some (xw x19), o20, o21, o22, o23, o24, o25, o26] [xw (5040 / x19)] (X sc d 93 [.ref a1, .ref a2, .ref a3, xw x17] (T, z, xv V, J, R)) :=
  (sw_sipush f_104_552 c16_5040).trans ((sw_iload f_104_555 rfl).trans ((sw_idiv f_104_557 g1).trans ((st_aload_n f_104_558 rfl).trans ((st_aload_n f_104_559 rfl).trans ((st_aload_n f_104_560 rfl).trans ((sw_iload f_104_561 rfl).trans (st_callS' f_104_563 h_104_99 mn_93 rfl rfl rfl rfl)))))))
theorem bL_isSo_566 {o0 o1 o2 o3 o4 o5 o6 o7 o8 o9 o10 o11 o12 o13 o14 o15 o16 o17 o18 o19 o20 o21 o22 o23 o24 o25 o26 : Option Value} {y0 y1 : Int} : XR sc d 104 566 [o0, o1, o2, o3, o4, o5, o6, o7, o8, o9, o10, o11, o12, o13, o14, o15, o16, o17, o18, o19, o20, o21, o22, o23, o24, o25, o26] [xw y0, xw y1] (T, z, xv V, J, R) = XR sc d 104 567 [o0, o1, o2, o3, o4, o5, o6, o7, o8, o9, o10, o11, o12, o13, o14, o15, o16, o17, o18, o19, o20, o21, o22, o23, o24, o25, o26] [xw (y1 * y0)] (T, z, xv V, J, R) :=
  sw_imul f_104_566
theorem bL_isSo_567 {o0 o1 o2 o3 o4 o5 o6 o7 o8 o9 o10 o11 o12 o13 o14 o15 o17 o18 o19 o20 o21 o22 o23 o24 o25 o26 : Option Value} {y0 x16 : Int} (g1 : -2147483648 ≤ y0 ∧ y0 ≤ 2147483647) (g2 : -2147483648 ≤ x16 ∧ x16 ≤ 2147483647) : XR sc d 104 567 [o0, o1, o2, o3, o4, o5, o6, o7, o8, o9, o10, o11, o12, o13, o14, o15, some (xw x16), o17, o18, o19, o20, o21, o22, o23, o24, o25, o26] [xw y0] (T, z, xv V, J, R) = if x16 ≤ y0 then XR sc d 104 581 [o0, o1, o2, o3, o4, o5, o6, o7, o8, o9, o10, o11, o12, o13, o14, o15, some (xw x16), o17, o18, o19, some (xw y0), o21, o22, o23, o24, o25, o26] [] (T, z, xv V, J, R) else XR sc d 104 576 [o0, o1, o2, o3, o4, o5, o6, o7, o8, o9, o10, o11, o12, o13, o14, o15, some (xw x16), o17, o18, o19, some (xw y0), o21, o22, o23, o24, o25, o26] [] (T, z, xv V, J, R) :=
  (sw_istore (L' := [o0, o1, o2, o3, o4, o5, o6, o7, o8, o9, o10, o11, o12, o13, o14, o15, some (xw x16), o17, o18, o19, some (xw y0), o21, o22, o23, o24, o25, o26]) f_104_567 (Nat.le_of_ble_eq_true rfl) rfl).trans ((sw_iload f_104_569 rfl).trans ((sw_iload f_104_571 rfl).trans (sw_icmp_ge (t := 581) f_104_573 ⟨by decide, rfl⟩ g1 g2)))
theorem bL_isSo_576 {o0 o1 o2 o3 o4 o5 o6 o7 o8 o9 o10 o11 o12 o13 o14 o15 o16 o17 o18 o19 o21 o22 o23 o24 o25 o26 : Option Value} {x20 : Int} : XR sc d 104 576 [o0, o1, o2, o3, o4, o5, o6, o7, o8, o9, o10, o11, o12, o13, o14, o15, o16, o17, o18, o19, some (xw x20), o21, o22, o23, o24, o25, o26] [] (T, z, xv V, J, R) = XR sc d 104 583 [o0, o1, o2, o3, o4, o5, o6, o7, o8, o9, o10, o11, o12, o13, o14, o15, o16, o17, o18, o19, some (xw x20), o21, o22, o23, o24, o25, o26] [xw x20] (T, z, xv V, J, R) :=
  (sw_iload f_104_576 rfl).trans (st_goto (t := 583) f_104_578 ⟨by decide, rfl⟩)
theorem bL_isSo_581 {o0 o1 o2 o3 o4 o5 o6 o7 o8 o9 o10 o11 o12 o13 o14 o15 o17 o18 o19 o20 o21 o22 o23 o24 o25 o26 : Option Value} {x16 : Int} : XR sc d 104 581 [o0, o1, o2, o3, o4, o5, o6, o7, o8, o9, o10, o11, o12, o13, o14, o15, some (xw x16), o17, o18, o19, o20, o21, o22, o23, o24, o25, o26] [] (T, z, xv V, J, R) = XR sc d 104 583 [o0, o1, o2, o3, o4, o5, o6, o7, o8, o9, o10, o11, o12, o13, o14, o15, some (xw x16), o17, o18, o19, o20, o21, o22, o23, o24, o25, o26] [xw x16] (T, z, xv V, J, R) :=
  sw_iload f_104_581 rfl
theorem bL_isSo_583 {o0 o1 o2 o3 o4 o5 o6 o7 o8 o9 o10 o11 o12 o13 o14 o15 o16 o18 o19 o20 o21 o22 o23 o24 o25 o26 : Option Value} {y0 x17 : Int} : XR sc d 104 583 [o0, o1, o2, o3, o4, o5, o6, o7, o8, o9, o10, o11, o12, o13, o14, o15, o16, some (xw x17), o18, o19, o20, o21, o22, o23, o24, o25, o26] [xw y0] (T, z, xv V, J, R) = XR sc d 104 450 [o0, o1, o2, o3, o4, o5, o6, o7, o8, o9, o10, o11, o12, o13, o14, o15, some (xw y0), some (xw (x17 + 1)), o18, o19, o20, o21, o22, o23, o24, o25, o26] [] (T, z, xv V, J, R) :=
  (sw_istore (L' := [o0, o1, o2, o3, o4, o5, o6, o7, o8, o9, o10, o11, o12, o13, o14, o15, some (xw y0), some (xw x17), o18, o19, o20, o21, o22, o23, o24, o25, o26]) f_104_583 (Nat.le_of_ble_eq_true rfl) rfl).trans ((sw_iinc (L' := [o0, o1, o2, o3, o4, o5, o6, o7, o8, o9, o10, o11, o12, o13, o14, o15, some (xw y0), some (xw (x17 + 1)), o18, o19, o20, o21, o22, o23, o24, o25, o26]) f_104_585 rfl (Nat.le_of_ble_eq_true rfl) rfl).trans (st_goto (t := 450) f_104_588 ⟨by decide, rfl⟩))
theorem bL_isSo_591 {o0 o1 o2 o3 o4 o5 o6 o7 o8 o9 o11 o12 o13 o14 o15 o16 o17 o18 o19 o20 o21 o22 o23 o24 o25 o26 : Option Value} {x10 : Int} (g1 : -2147483648 ≤ x10 ∧ x10 ≤ 2147483647) : XR sc d 104 591 [o0, o1, o2, o3, o4, o5, o6, o7, o8, o9, some (xw x10), o11, o12, o13, o14, o15, o16, o17, o18, o19, o20, o21, o22, o23, o24, o25, o26] [] (T, z, xv V, J, R) = if x10 = 0 then XR sc d 104 650 [o0, o1, o2, o3, o4, o5, o6, o7, o8, o9, some (xw x10), o11, o12, o13, o14, o15, o16, o17, o18, o19, o20, o21, o22, o23, o24, o25, o26] [] (T, z, xv V, J, R) else XR sc d 104 596 [o0, o1, o2, o3, o4, o5, o6, o7, o8, o9, some (xw x10), o11, o12, o13, o14, o15, o16, o17, o18, o19, o20, o21, o22, o23, o24, o25, o26] [] (T, z, xv V, J, R) :=
  (sw_iload f_104_591 rfl).trans (sw_if_eq (t := 650) f_104_593 ⟨by decide, rfl⟩ g1)
theorem bL_isSo_596 {o1 o2 o3 o4 o5 o6 o7 o8 o9 o10 o13 o14 o15 o16 o17 o18 o19 o20 o21 o22 o23 o24 o25 o26 : Option Value} {x11 x12 : Int} {a0 : Nat} : XR sc d 104 596 [some (.ref a0), o1, o2, o3, o4, o5, o6, o7, o8, o9, o10, some (xw x11), some (xw x12), o13, o14, o15, o16, o17, o18, o19, o20, o21, o22, o23, o24, o25, o26] [] (T, z, xv V, J, R) = xret 104 (XR sc d 104) 607 610 [some (.ref a0), o1, o2, o3, o4, o5, o6, o7, o8, o9, o10, some (xw x11), some (xw x12), o13, o14, o15, o16, o17, o18, o19, o20, o21, o22, o23, o24, o25, o26] [] (X sc d 92 [.ref a0, xw 18, xw x11, xw x12, xw 0, xw 0, xw 0, xw 0] (T, z, xv V, J, R)) :=
  (st_aload_n f_104_596 rfl).trans ((sw_bipush f_104_597 c8_18).trans ((sw_iload f_104_599 rfl).trans ((sw_iload f_104_601 rfl).trans ((sw_iconst f_104_603).trans ((sw_iconst f_104_604).trans ((sw_iconst f_104_605).trans ((sw_iconst f_104_606).trans (st_callS' f_104_607 h_104_124 mn_92 rfl rfl rfl rfl))))))))
theorem bL_isSo_610 {o0 o1 o2 o3 o4 o5 o6 o7 o8 o9 o10 o11 o12 o13 o14 o15 o17 o18 o19 o20 o21 o22 o23 o24 o25 o26 : Option Value} {x16 y0 : Int} (g1 : -2147483648 ≤ y0 ∧ y0 ≤ 2147483647) (g2 : -2147483648 ≤ x16 ∧ x16 ≤ 2147483647) : XR sc d 104 610 [o0, o1, o2, o3, o4, o5, o6, o7, o8, o9, o10, o11, o12, o13, o14, o15, some (xw x16), o17, o18, o19, o20, o21, o22, o23, o24, o25, o26] [xw y0] (T, z, xv V, J, R) = if y0 = x16 then XR sc d 104 615 [o0, o1, o2, o3, o4, o5, o6, o7, o8, o9, o10, o11, o12, o13, o14, o15, some (xw x16), o17, o18, o19, o20, o21, o22, o23, o24, o25, o26] [] (T, z, xv V, J, R) else XR sc d 104 650 [o0, o1, o2, o3, o4, o5, o6, o7, o8, o9, o10, o11, o12, o13, o14, o15, some (xw x16), o17, o18, o19, o20, o21, o22, o23, o24, o25, o26] [] (T, z, xv V, J, R) :=
  (sw_iload f_104_610 rfl).trans (sw_icmp_ne (t := 650) f_104_612 ⟨by decide, rfl⟩ g1 g2)
theorem bL_isSo_615 {o1 o2 o3 o4 o5 o6 o7 o8 o10 o13 o14 o15 o16 o17 o18 o19 o20 o21 o22 o23 o24 o25 o26 : Option Value} {x11 x12 x9 : Int} {a0 : Nat} (g1 : 0 ≤ x9 ∧ x9 ≤ 2147483647) (g2 : 0 ≤ (x9 / 3) ∧ (x9 / 3) ≤ 2147483647) : XR sc d 104 615 [some (.ref a0), o1, o2, o3, o4, o5, o6, o7, o8, some (xw x9), o10, some (xw x11), some (xw x12), o13, o14, o15, o16, o17, o18, o19, o20, o21, o22, o23, o24, o25, o26] [] (T, z, xv V, J, R) = xret 104 (XR sc d 104) 631 634 [some (.ref a0), o1, o2, o3, o4, o5, o6, o7, o8, some (xw x9), o10, some (xw x11), some (xw x12), o13, o14, o15, o16, o17, o18, o19, o20, o21, o22, o23, o24, o25, o26] [] (X sc d 92 [.ref a0, xw 19, xw x11, xw x12, xw ((x9 / 3) % 5), xw 0, xw 0, xw 0] (T, z, xv V, J, R)) :=
  (st_aload_n f_104_615 rfl).trans ((sw_bipush f_104_616 c8_19).trans ((sw_iload f_104_618 rfl).trans ((sw_iload f_104_620 rfl).trans ((sw_iload f_104_622 rfl).trans ((sw_iconst f_104_624).trans ((sw_idiv f_104_625 ⟨by decide, by decide, g1⟩).trans ((sw_iconst f_104_626).trans ((sw_irem f_104_627 ⟨by decide, by decide, g2⟩).trans ((sw_iconst f_104_628).trans ((sw_iconst f_104_629).trans ((sw_iconst f_104_630).trans (st_callS' f_104_631 h_104_124 mn_92 rfl rfl rfl rfl))))))))))))
theorem bL_isSo_634 {o0 o1 o2 o3 o4 o5 o6 o7 o8 o10 o11 o12 o13 o15 o16 o17 o18 o19 o20 o21 o22 o23 o24 o25 o26 : Option Value} {x9 y0 : Int} {a14 : Nat} (g1 : 0 ≤ x9 ∧ x9 ≤ 2147483647) (g2 : 0 ≤ (x9 / 3) ∧ (x9 / 3) ≤ 2147483647) (g3 : T a14 = (32, (T a14).2)) (g4 : (0 : Int) ≤ ((x9 / 3) % 5) ∧ ((x9 / 3) % 5) < ((T a14).2 : Int) ∧ (T a14).2 ≤ 3584) (g5 : -2147483648 ≤ y0 ∧ y0 ≤ 2147483647) (g6 : -2147483648 ≤ (V a14 ((x9 / 3) % 5).toNat) ∧ (V a14 ((x9 / 3) % 5).toNat) ≤ 2147483647) : XR sc d 104 634 [o0, o1, o2, o3, o4, o5, o6, o7, o8, some (xw x9), o10, o11, o12, o13, some (.ref a14), o15, o16, o17, o18, o19, o20, o21, o22, o23, o24, o25, o26] [xw y0] (T, z, xv V, J, R) = if y0 = (V a14 ((x9 / 3) % 5).toNat) then XR sc d 104 646 [o0, o1, o2, o3, o4, o5, o6, o7, o8, some (xw x9), o10, o11, o12, o13, some (.ref a14), o15, o16, o17, o18, o19, o20, o21, o22, o23, o24, o25, o26] [] (T, z, xv V, J, R) else XR sc d 104 650 [o0, o1, o2, o3, o4, o5, o6, o7, o8, some (xw x9), o10, o11, o12, o13, some (.ref a14), o15, o16, o17, o18, o19, o20, o21, o22, o23, o24, o25, o26] [] (T, z, xv V, J, R) :=
  (st_aload f_104_634 rfl).trans ((sw_iload f_104_636 rfl).trans ((sw_iconst f_104_638).trans ((sw_idiv f_104_639 ⟨by decide, by decide, g1⟩).trans ((sw_iconst f_104_640).trans ((sw_irem f_104_641 ⟨by decide, by decide, g2⟩).trans ((sw_iaload f_104_642 g3 g4).trans (sw_icmp_ne (t := 650) f_104_643 ⟨by decide, rfl⟩ g5 g6)))))))
theorem bL_isSo_646 {o0 o1 o2 o3 o4 o5 o6 o7 o8 o9 o10 o11 o12 o13 o14 o15 o16 o17 o18 o19 o20 o21 o22 o23 o24 o25 o26 : Option Value} : XR sc d 104 646 [o0, o1, o2, o3, o4, o5, o6, o7, o8, o9, o10, o11, o12, o13, o14, o15, o16, o17, o18, o19, o20, o21, o22, o23, o24, o25, o26] [] (T, z, xv V, J, R) = XR sc d 104 651 [o0, o1, o2, o3, o4, o5, o6, o7, o8, o9, o10, o11, o12, o13, o14, o15, o16, o17, o18, o19, o20, o21, o22, o23, o24, o25, o26] [xw 1] (T, z, xv V, J, R) :=
  (sw_iconst f_104_646).trans (st_goto (t := 651) f_104_647 ⟨by decide, rfl⟩)
theorem bL_isSo_650 {o0 o1 o2 o3 o4 o5 o6 o7 o8 o9 o10 o11 o12 o13 o14 o15 o16 o17 o18 o19 o20 o21 o22 o23 o24 o25 o26 : Option Value} : XR sc d 104 650 [o0, o1, o2, o3, o4, o5, o6, o7, o8, o9, o10, o11, o12, o13, o14, o15, o16, o17, o18, o19, o20, o21, o22, o23, o24, o25, o26] [] (T, z, xv V, J, R) = XR sc d 104 651 [o0, o1, o2, o3, o4, o5, o6, o7, o8, o9, o10, o11, o12, o13, o14, o15, o16, o17, o18, o19, o20, o21, o22, o23, o24, o25, o26] [xw 0] (T, z, xv V, J, R) :=
  sw_iconst f_104_650
theorem bL_isSo_651 {o0 o1 o2 o3 o4 o6 o7 o10 o11 o12 o13 o14 o15 o16 o17 o18 o19 o20 o21 o22 o23 o24 o25 o26 : Option Value} {y0 x8 x9 : Int} {a5 : Nat} (g1 : 0 ≤ x8 ∧ x8 ≤ 2147483647) (g2 : 0 ≤ (x8 / 4) ∧ (x8 / 4) ≤ 2147483647) (g3 : 0 ≤ x9 ∧ x9 ≤ 2147483647) (g4 : 0 ≤ (x9 / 15) ∧ (x9 / 15) ≤ 2147483647) : XR sc d 104 651 [o0, o1, o2, o3, o4, some (.ref a5), o6, o7, some (xw x8), some (xw x9), o10, o11, o12, o13, o14, o15, o16, o17, o18, o19, o20, o21, o22, o23, o24, o25, o26] [xw y0] (T, z, xv V, J, R) = xret 104 (XR sc d 104) 688 691 [o0, o1, o2, o3, o4, some (.ref a5), o6, o7, some (xw x8), some (xw x9), some (xw y0), o11, o12, o13, o14, o15, o16, some (xw ((x8 / 4) % 2)), some (xw ((x9 / 15) % 2)), some (xw (1 + (x8 % 3000))), o20, o21, o22, o23, o24, o25, o26] [] (X sc d 100 [.ref a5, xw ((x8 / 4) % 2), xw ((x9 / 15) % 2), xw (1 + (x8 % 3000))] (T, z, xv V, J, R)) :=
  (sw_istore (L' := [o0, o1, o2, o3, o4, some (.ref a5), o6, o7, some (xw x8), some (xw x9), some (xw y0), o11, o12, o13, o14, o15, o16, o17, o18, o19, o20, o21, o22, o23, o24, o25, o26]) f_104_651 (Nat.le_of_ble_eq_true rfl) rfl).trans ((sw_iload f_104_653 rfl).trans ((sw_iconst f_104_655).trans ((sw_idiv f_104_656 ⟨by decide, by decide, g1⟩).trans ((sw_iconst f_104_657).trans ((sw_irem f_104_658 ⟨by decide, by decide, g2⟩).trans ((sw_istore (L' := [o0, o1, o2, o3, o4, some (.ref a5), o6, o7, some (xw x8), some (xw x9), some (xw y0), o11, o12, o13, o14, o15, o16, some (xw ((x8 / 4) % 2)), o18, o19, o20, o21, o22, o23, o24, o25, o26]) f_104_659 (Nat.le_of_ble_eq_true rfl) rfl).trans ((sw_iload f_104_661 rfl).trans ((sw_bipush f_104_663 c8_15).trans ((sw_idiv f_104_665 ⟨by decide, by decide, g3⟩).trans ((sw_iconst f_104_666).trans ((sw_irem f_104_667 ⟨by decide, by decide, g4⟩).trans ((sw_istore (L' := [o0, o1, o2, o3, o4, some (.ref a5), o6, o7, some (xw x8), some (xw x9), some (xw y0), o11, o12, o13, o14, o15, o16, some (xw ((x8 / 4) % 2)), some (xw ((x9 / 15) % 2)), o19, o20, o21, o22, o23, o24, o25, o26]) f_104_668 (Nat.le_of_ble_eq_true rfl) rfl).trans ((sw_iconst f_104_670).trans ((sw_iload f_104_671 rfl).trans ((sw_sipush f_104_673 c16_3000).trans ((sw_irem f_104_676 ⟨by decide, by decide, g1⟩).trans ((sw_iadd f_104_677).trans ((sw_istore (L' := [o0, o1, o2, o3, o4, some (.ref a5), o6, o7, some (xw x8), some (xw x9), some (xw y0), o11, o12, o13, o14, o15, o16, some (xw ((x8 / 4) % 2)), some (xw ((x9 / 15) % 2)), some (xw (1 + (x8 % 3000))), o20, o21, o22, o23, o24, o25, o26]) f_104_678 (Nat.le_of_ble_eq_true rfl) rfl).trans ((st_aload f_104_680 rfl).trans ((sw_iload f_104_682 rfl).trans ((sw_iload f_104_684 rfl).trans ((sw_iload f_104_686 rfl).trans (st_callS' f_104_688 h_104_128 mn_100 rfl rfl rfl rfl)))))))))))))))))))))))
theorem bL_isSo_691 {o0 o1 o2 o3 o4 o5 o6 o7 o8 o9 o10 o11 o12 o13 o14 o15 o16 o17 o18 o19 o20 o21 o22 o23 o24 o25 o26 : Option Value} {y0 : Int} : XR sc d 104 691 [o0, o1, o2, o3, o4, o5, o6, o7, o8, o9, o10, o11, o12, o13, o14, o15, o16, o17, o18, o19, o20, o21, o22, o23, o24, o25, o26] [xw y0] (T, z, xv V, J, R) = XR sc d 104 702 [o0, o1, o2, o3, o4, o5, o6, o7, o8, o9, o10, o11, o12, o13, o14, o15, o16, o17, o18, o19, some (xw y0), some (xw 0), some (xw 0), some (xw 0), o24, o25, o26] [] (T, z, xv V, J, R) :=
  (sw_istore (L' := [o0, o1, o2, o3, o4, o5, o6, o7, o8, o9, o10, o11, o12, o13, o14, o15, o16, o17, o18, o19, some (xw y0), o21, o22, o23, o24, o25, o26]) f_104_691 (Nat.le_of_ble_eq_true rfl) rfl).trans ((sw_iconst f_104_693).trans ((sw_istore (L' := [o0, o1, o2, o3, o4, o5, o6, o7, o8, o9, o10, o11, o12, o13, o14, o15, o16, o17, o18, o19, some (xw y0), some (xw 0), o22, o23, o24, o25, o26]) f_104_694 (Nat.le_of_ble_eq_true rfl) rfl).trans ((sw_iconst f_104_696).trans ((sw_istore (L' := [o0, o1, o2, o3, o4, o5, o6, o7, o8, o9, o10, o11, o12, o13, o14, o15, o16, o17, o18, o19, some (xw y0), some (xw 0), some (xw 0), o23, o24, o25, o26]) f_104_697 (Nat.le_of_ble_eq_true rfl) rfl).trans ((sw_iconst f_104_699).trans (sw_istore (L' := [o0, o1, o2, o3, o4, o5, o6, o7, o8, o9, o10, o11, o12, o13, o14, o15, o16, o17, o18, o19, some (xw y0), some (xw 0), some (xw 0), some (xw 0), o24, o25, o26]) f_104_700 (Nat.le_of_ble_eq_true rfl) rfl))))))
theorem bL_isSo_702 {o0 o1 o2 o3 o4 o5 o6 o7 o8 o9 o10 o11 o12 o13 o14 o15 o16 o17 o18 o19 o20 o21 o22 o24 o25 o26 : Option Value} {x23 : Int} (g1 : -2147483648 ≤ x23 ∧ x23 ≤ 2147483647) : XR sc d 104 702 [o0, o1, o2, o3, o4, o5, o6, o7, o8, o9, o10, o11, o12, o13, o14, o15, o16, o17, o18, o19, o20, o21, o22, some (xw x23), o24, o25, o26] [] (T, z, xv V, J, R) = if 7 ≤ x23 then XR sc d 104 1018 [o0, o1, o2, o3, o4, o5, o6, o7, o8, o9, o10, o11, o12, o13, o14, o15, o16, o17, o18, o19, o20, o21, o22, some (xw x23), o24, o25, o26] [] (T, z, xv V, J, R) else XR sc d 104 709 [o0, o1, o2, o3, o4, o5, o6, o7, o8, o9, o10, o11, o12, o13, o14, o15, o16, o17, o18, o19, o20, o21, o22, some (xw x23), o24, o25, o26] [] (T, z, xv V, J, R) :=
  (sw_iload f_104_702 rfl).trans ((sw_bipush f_104_704 c8_7).trans (sw_icmp_ge (t := 1018) f_104_706 ⟨by decide, rfl⟩ g1 ⟨by decide, by decide⟩))
theorem bL_isSo_709 {o0 o1 o2 o3 o4 o5 o6 o7 o8 o9 o11 o12 o13 o14 o15 o16 o17 o18 o19 o20 o21 o22 o23 o24 o25 o26 : Option Value} {x10 : Int} (g1 : -2147483648 ≤ x10 ∧ x10 ≤ 2147483647) : XR sc d 104 709 [o0, o1, o2, o3, o4, o5, o6, o7, o8, o9, some (xw x10), o11, o12, o13, o14, o15, o16, o17, o18, o19, o20, o21, o22, o23, o24, o25, o26] [] (T, z, xv V, J, R) = if x10 = 0 then XR sc d 104 1018 [o0, o1, o2, o3, o4, o5, o6, o7, o8, o9, some (xw x10), o11, o12, o13, o14, o15, o16, o17, o18, o19, o20, o21, o22, o23, o24, o25, o26] [] (T, z, xv V, J, R) else XR sc d 104 714 [o0, o1, o2, o3, o4, o5, o6, o7, o8, o9, some (xw x10), o11, o12, o13, o14, o15, o16, o17, o18, o19, o20, o21, o22, o23, o24, o25, o26] [] (T, z, xv V, J, R) :=
  (sw_iload f_104_709 rfl).trans (sw_if_eq (t := 1018) f_104_711 ⟨by decide, rfl⟩ g1)
theorem bL_isSo_714 {o0 o1 o2 o3 o4 o6 o7 o8 o9 o10 o11 o12 o13 o14 o15 o16 o19 o21 o22 o24 o25 o26 : Option Value} {x17 x18 x20 x23 : Int} {a5 : Nat} : XR sc d 104 714 [o0, o1, o2, o3, o4, some (.ref a5), o6, o7, o8, o9, o10, o11, o12, o13, o14, o15, o16, some (xw x17), some (xw x18), o19, some (xw x20), o21, o22, some (xw x23), o24, o25, o26] [] (T, z, xv V, J, R) = xret 104 (XR sc d 104) 724 727 [o0, o1, o2, o3, o4, some (.ref a5), o6, o7, o8, o9, o10, o11, o12, o13, o14, o15, o16, some (xw x17), some (xw x18), o19, some (xw x20), o21, o22, some (xw x23), o24, o25, o26] [] (X sc d 101 [.ref a5, xw x17, xw x18, xw x20, xw x23] (T, z, xv V, J, R)) :=
  (st_aload f_104_714 rfl).trans ((sw_iload f_104_716 rfl).trans ((sw_iload f_104_718 rfl).trans ((sw_iload f_104_720 rfl).trans ((sw_iload f_104_722 rfl).trans (st_callS' f_104_724 h_104_132 mn_101 rfl rfl rfl rfl)))))
theorem bL_isSo_727 {o0 o1 o2 o3 o4 o5 o6 o7 o8 o9 o10 o11 o12 o13 o14 o15 o16 o17 o18 o19 o20 o22 o23 o24 o25 o26 : Option Value} {y0 x21 : Int} (g1 : -2147483648 ≤ y0 ∧ y0 ≤ 2147483647) : XR sc d 104 727 [o0, o1, o2, o3, o4, o5, o6, o7, o8, o9, o10, o11, o12, o13, o14, o15, o16, o17, o18, o19, o20, some (xw x21), o22, o23, o24, o25, o26] [xw y0] (T, z, xv V, J, R) = if y0 ≤ 0 then XR sc d 104 743 [o0, o1, o2, o3, o4, o5, o6, o7, o8, o9, o10, o11, o12, o13, o14, o15, o16, o17, o18, o19, o20, some (xw x21), o22, o23, some (xw y0), o25, o26] [xw x21] (T, z, xv V, J, R) else XR sc d 104 736 [o0, o1, o2, o3, o4, o5, o6, o7, o8, o9, o10, o11, o12, o13, o14, o15, o16, o17, o18, o19, o20, some (xw x21), o22, o23, some (xw y0), o25, o26] [xw x21] (T, z, xv V, J, R) :=
  (sw_istore (L' := [o0, o1, o2, o3, o4, o5, o6, o7, o8, o9, o10, o11, o12, o13, o14, o15, o16, o17, o18, o19, o20, some (xw x21), o22, o23, some (xw y0), o25, o26]) f_104_727 (Nat.le_of_ble_eq_true rfl) rfl).trans ((sw_iload f_104_729 rfl).trans ((sw_iload f_104_731 rfl).trans (sw_if_le (t := 743) f_104_733 ⟨by decide, rfl⟩ g1)))
theorem bL_isSo_736 {o0 o1 o2 o3 o4 o5 o6 o7 o8 o9 o10 o11 o12 o13 o14 o15 o16 o17 o18 o19 o20 o21 o22 o24 o25 o26 : Option Value} {s0 : Value} {x23 : Int} : XR sc d 104 736 [o0, o1, o2, o3, o4, o5, o6, o7, o8, o9, o10, o11, o12, o13, o14, o15, o16, o17, o18, o19, o20, o21, o22, some (xw x23), o24, o25, o26] [s0] (T, z, xv V, J, R) = XR sc d 104 744 [o0, o1, o2, o3, o4, o5, o6, o7, o8, o9, o10, o11, o12, o13, o14, o15, o16, o17, o18, o19, o20, o21, o22, some (xw x23), o24, o25, o26] [xw (iShl 1 x23), s0] (T, z, xv V, J, R) :=
  (sw_iconst f_104_736).trans ((sw_iload f_104_737 rfl).trans ((sw_ishl f_104_739).trans (st_goto (t := 744) f_104_740 ⟨by decide, rfl⟩)))
theorem bL_isSo_743 {o0 o1 o2 o3 o4 o5 o6 o7 o8 o9 o10 o11 o12 o13 o14 o15 o16 o17 o18 o19 o20 o21 o22 o23 o24 o25 o26 : Option Value} {s0 : Value} : XR sc d 104 743 [o0, o1, o2, o3, o4, o5, o6, o7, o8, o9, o10, o11, o12, o13, o14, o15, o16, o17, o18, o19, o20, o21, o22, o23, o24, o25, o26] [s0] (T, z, xv V, J, R) = XR sc d 104 744 [o0, o1, o2, o3, o4, o5, o6, o7, o8, o9, o10, o11, o12, o13, o14, o15, o16, o17, o18, o19, o20, o21, o22, o23, o24, o25, o26] [xw 0, s0] (T, z, xv V, J, R) :=
  sw_iconst f_104_743
theorem bL_isSo_744 {o1 o2 o3 o4 o5 o6 o7 o8 o9 o10 o11 o12 o13 o14 o15 o16 o20 o21 o22 o24 o25 o26 : Option Value} {y0 y1 x17 x18 x19 x23 : Int} {a0 : Nat} (g1 : T a0 = (7, 0)) : XR sc d 104 744 [some (.ref a0), o1, o2, o3, o4, o5, o6, o7, o8, o9, o10, o11, o12, o13, o14, o15, o16, some (xw x17), some (xw x18), some (xw x19), o20, o21, o22, some (xw x23), o24, o25, o26] [xw y0, xw y1] (T, z, xv V, J, R) = xret 104 (XR sc d 104) 756 759 [some (.ref a0), o1, o2, o3, o4, o5, o6, o7, o8, o9, o10, o11, o12, o13, o14, o15, o16, some (xw x17), some (xw x18), some (xw x19), o20, some (xw (iOr y1 y0)), o22, some (xw x23), o24, o25, o26] [] (X sc d 71 [.ref a0, xw x17, xw x18, xw x19, xw x23] (T, z, xv V, J, R)) :=
  (sw_ior f_104_744).trans ((sw_istore (L' := [some (.ref a0), o1, o2, o3, o4, o5, o6, o7, o8, o9, o10, o11, o12, o13, o14, o15, o16, some (xw x17), some (xw x18), some (xw x19), o20, some (xw (iOr y1 y0)), o22, some (xw x23), o24, o25, o26]) f_104_745 (Nat.le_of_ble_eq_true rfl) rfl).trans ((st_aload_n f_104_747 rfl).trans ((sw_iload f_104_748 rfl).trans ((sw_iload f_104_750 rfl).trans ((sw_iload f_104_752 rfl).trans ((sw_iload f_104_754 rfl).trans (st_callV' f_104_756 h_104_136 mn_71 rfl rfl rfl rfl mo_71 g1 rfl)))))))
theorem bL_isSo_759 {o0 o1 o2 o3 o4 o5 o6 o7 o8 o9 o10 o11 o12 o13 o14 o15 o16 o17 o18 o19 o20 o21 o22 o23 o25 o26 : Option Value} {x24 y0 : Int} (g1 : -2147483648 ≤ y0 ∧ y0 ≤ 2147483647) (g2 : -2147483648 ≤ x24 ∧ x24 ≤ 2147483647) : XR sc d 104 759 [o0, o1, o2, o3, o4, o5, o6, o7, o8, o9, o10, o11, o12, o13, o14, o15, o16, o17, o18, o19, o20, o21, o22, o23, some (xw x24), o25, o26] [xw y0] (T, z, xv V, J, R) = if y0 = x24 then XR sc d 104 764 [o0, o1, o2, o3, o4, o5, o6, o7, o8, o9, o10, o11, o12, o13, o14, o15, o16, o17, o18, o19, o20, o21, o22, o23, some (xw x24), o25, o26] [] (T, z, xv V, J, R) else XR sc d 104 909 [o0, o1, o2, o3, o4, o5, o6, o7, o8, o9, o10, o11, o12, o13, o14, o15, o16, o17, o18, o19, o20, o21, o22, o23, some (xw x24), o25, o26] [] (T, z, xv V, J, R) :=
  (sw_iload f_104_759 rfl).trans (sw_icmp_ne (t := 909) f_104_761 ⟨by decide, rfl⟩ g1 g2)
theorem bL_isSo_764 {o1 o2 o3 o4 o5 o6 o7 o8 o9 o10 o11 o12 o13 o14 o15 o16 o18 o19 o20 o21 o22 o24 o25 o26 : Option Value} {x17 x23 : Int} {a0 : Nat} (g1 : T a0 = (7, 0)) : XR sc d 104 764 [some (.ref a0), o1, o2, o3, o4, o5, o6, o7, o8, o9, o10, o11, o12, o13, o14, o15, o16, some (xw x17), o18, o19, o20, o21, o22, some (xw x23), o24, o25, o26] [] (T, z, xv V, J, R) = xret 104 (XR sc d 104) 770 773 [some (.ref a0), o1, o2, o3, o4, o5, o6, o7, o8, o9, o10, o11, o12, o13, o14, o15, o16, some (xw x17), o18, o19, o20, o21, o22, some (xw x23), o24, o25, o26] [] (X sc d 75 [.ref a0, xw x17, xw x23, xw 0] (T, z, xv V, J, R)) :=
  (st_aload_n f_104_764 rfl).trans ((sw_iload f_104_765 rfl).trans ((sw_iload f_104_767 rfl).trans ((sw_iconst f_104_769).trans (st_callV' f_104_770 h_104_138 mn_75 rfl rfl rfl rfl mo_75 g1 rfl))))
theorem bL_isSo_773 {o0 o1 o2 o3 o4 o6 o7 o8 o9 o10 o11 o12 o13 o14 o15 o16 o18 o19 o20 o21 o22 o24 o25 o26 : Option Value} {x17 x23 y0 : Int} {a5 : Nat} (g1 : T a5 = (32, (T a5).2)) (g2 : (0 : Int) ≤ ((42 + (7 * x17)) + x23) ∧ ((42 + (7 * x17)) + x23) < ((T a5).2 : Int) ∧ (T a5).2 ≤ 3584) (g3 : -2147483648 ≤ y0 ∧ y0 ≤ 2147483647) (g4 : -2147483648 ≤ (V a5 ((42 + (7 * x17)) + x23).toNat) ∧ (V a5 ((42 + (7 * x17)) + x23).toNat) ≤ 2147483647) : XR sc d 104 773 [o0, o1, o2, o3, o4, some (.ref a5), o6, o7, o8, o9, o10, o11, o12, o13, o14, o15, o16, some (xw x17), o18, o19, o20, o21, o22, some (xw x23), o24, o25, o26] [xw y0] (T, z, xv V, J, R) = if y0 = (V a5 ((42 + (7 * x17)) + x23).toNat) then XR sc d 104 790 [o0, o1, o2, o3, o4, some (.ref a5), o6, o7, o8, o9, o10, o11, o12, o13, o14, o15, o16, some (xw x17), o18, o19, o20, o21, o22, some (xw x23), o24, o25, o26] [] (T, z, xv V, J, R) else XR sc d 104 909 [o0, o1, o2, o3, o4, some (.ref a5), o6, o7, o8, o9, o10, o11, o12, o13, o14, o15, o16, some (xw x17), o18, o19, o20, o21, o22, some (xw x23), o24, o25, o26] [] (T, z, xv V, J, R) :=
  (st_aload f_104_773 rfl).trans ((sw_bipush f_104_775 c8_42).trans ((sw_bipush f_104_777 c8_7).trans ((sw_iload f_104_779 rfl).trans ((sw_imul f_104_781).trans ((sw_iadd f_104_782).trans ((sw_iload f_104_783 rfl).trans ((sw_iadd f_104_785).trans ((sw_iaload f_104_786 g1 g2).trans (sw_icmp_ne (t := 909) f_104_787 ⟨by decide, rfl⟩ g3 g4)))))))))
theorem bL_isSo_790 {o1 o2 o3 o4 o5 o6 o7 o8 o9 o10 o11 o12 o13 o14 o15 o16 o18 o19 o20 o21 o22 o24 o25 o26 : Option Value} {x17 x23 : Int} {a0 : Nat} (g1 : T a0 = (7, 0)) : XR sc d 104 790 [some (.ref a0), o1, o2, o3, o4, o5, o6, o7, o8, o9, o10, o11, o12, o13, o14, o15, o16, some (xw x17), o18, o19, o20, o21, o22, some (xw x23), o24, o25, o26] [] (T, z, xv V, J, R) = xret 104 (XR sc d 104) 796 799 [some (.ref a0), o1, o2, o3, o4, o5, o6, o7, o8, o9, o10, o11, o12, o13, o14, o15, o16, some (xw x17), o18, o19, o20, o21, o22, some (xw x23), o24, o25, o26] [] (X sc d 75 [.ref a0, xw x17, xw x23, xw 1] (T, z, xv V, J, R)) :=
  (st_aload_n f_104_790 rfl).trans ((sw_iload f_104_791 rfl).trans ((sw_iload f_104_793 rfl).trans ((sw_iconst f_104_795).trans (st_callV' f_104_796 h_104_138 mn_75 rfl rfl rfl rfl mo_75 g1 rfl))))
theorem bL_isSo_799 {o0 o1 o2 o3 o4 o6 o7 o8 o9 o10 o11 o12 o13 o14 o15 o16 o18 o19 o20 o21 o22 o24 o25 o26 : Option Value} {x17 x23 y0 : Int} {a5 : Nat} (g1 : T a5 = (32, (T a5).2)) (g2 : (0 : Int) ≤ ((7 * x17) + x23) ∧ ((7 * x17) + x23) < ((T a5).2 : Int) ∧ (T a5).2 ≤ 3584) (g3 : -2147483648 ≤ y0 ∧ y0 ≤ 2147483647) (g4 : -2147483648 ≤ (V a5 ((7 * x17) + x23).toNat) ∧ (V a5 ((7 * x17) + x23).toNat) ≤ 2147483647) : XR sc d 104 799 [o0, o1, o2, o3, o4, some (.ref a5), o6, o7, o8, o9, o10, o11, o12, o13, o14, o15, o16, some (xw x17), o18, o19, o20, o21, o22, some (xw x23), o24, o25, o26] [xw y0] (T, z, xv V, J, R) = if y0 = (V a5 ((7 * x17) + x23).toNat) then XR sc d 104 813 [o0, o1, o2, o3, o4, some (.ref a5), o6, o7, o8, o9, o10, o11, o12, o13, o14, o15, o16, some (xw x17), o18, o19, o20, o21, o22, some (xw x23), o24, o25, o26] [] (T, z, xv V, J, R) else XR sc d 104 909 [o0, o1, o2, o3, o4, some (.ref a5), o6, o7, o8, o9, o10, o11, o12, o13, o14, o15, o16, some (xw x17), o18, o19, o20, o21, o22, some (xw x23), o24, o25, o26] [] (T, z, xv V, J, R) :=
  (st_aload f_104_799 rfl).trans ((sw_bipush f_104_801 c8_7).trans ((sw_iload f_104_803 rfl).trans ((sw_imul f_104_805).trans ((sw_iload f_104_806 rfl).trans ((sw_iadd f_104_808).trans ((sw_iaload f_104_809 g1 g2).trans (sw_icmp_ne (t := 909) f_104_810 ⟨by decide, rfl⟩ g3 g4)))))))
theorem bL_isSo_813 {o1 o2 o3 o4 o5 o6 o7 o8 o9 o10 o11 o12 o13 o14 o15 o16 o18 o19 o20 o21 o22 o24 o25 o26 : Option Value} {x17 x23 : Int} {a0 : Nat} (g1 : T a0 = (7, 0)) : XR sc d 104 813 [some (.ref a0), o1, o2, o3, o4, o5, o6, o7, o8, o9, o10, o11, o12, o13, o14, o15, o16, some (xw x17), o18, o19, o20, o21, o22, some (xw x23), o24, o25, o26] [] (T, z, xv V, J, R) = xret 104 (XR sc d 104) 819 822 [some (.ref a0), o1, o2, o3, o4, o5, o6, o7, o8, o9, o10, o11, o12, o13, o14, o15, o16, some (xw x17), o18, o19, o20, o21, o22, some (xw x23), o24, o25, o26] [] (X sc d 75 [.ref a0, xw x17, xw x23, xw 2] (T, z, xv V, J, R)) :=
  (st_aload_n f_104_813 rfl).trans ((sw_iload f_104_814 rfl).trans ((sw_iload f_104_816 rfl).trans ((sw_iconst f_104_818).trans (st_callV' f_104_819 h_104_138 mn_75 rfl rfl rfl rfl mo_75 g1 rfl))))
theorem bL_isSo_822 {o0 o1 o2 o3 o4 o6 o7 o8 o9 o10 o11 o12 o13 o14 o15 o16 o18 o19 o20 o21 o22 o23 o24 o25 o26 : Option Value} {s0 : Value} {x17 : Int} {a5 : Nat} : XR sc d 104 822 [o0, o1, o2, o3, o4, some (.ref a5), o6, o7, o8, o9, o10, o11, o12, o13, o14, o15, o16, some (xw x17), o18, o19, o20, o21, o22, o23, o24, o25, o26] [s0] (T, z, xv V, J, R) = xret 104 (XR sc d 104) 826 829 [o0, o1, o2, o3, o4, some (.ref a5), o6, o7, o8, o9, o10, o11, o12, o13, o14, o15, o16, some (xw x17), o18, o19, o20, o21, o22, o23, o24, o25, o26] [s0] (X sc d 102 [.ref a5, xw x17] (T, z, xv V, J, R)) :=
  (st_aload f_104_822 rfl).trans ((sw_iload f_104_824 rfl).trans (st_callS' f_104_826 h_104_141 mn_102 rfl rfl rfl rfl))
theorem bL_isSo_829 {o0 o1 o2 o3 o4 o5 o6 o7 o8 o9 o10 o11 o12 o13 o14 o15 o16 o17 o18 o19 o20 o21 o22 o23 o24 o25 o26 : Option Value} {s1 : Value} {y0 : Int} (g1 : -2147483648 ≤ y0 ∧ y0 ≤ 2147483647) : XR sc d 104 829 [o0, o1, o2, o3, o4, o5, o6, o7, o8, o9, o10, o11, o12, o13, o14, o15, o16, o17, o18, o19, o20, o21, o22, o23, o24, o25, o26] [xw y0, s1] (T, z, xv V, J, R) = if y0 = 0 then XR sc d 104 836 [o0, o1, o2, o3, o4, o5, o6, o7, o8, o9, o10, o11, o12, o13, o14, o15, o16, o17, o18, o19, o20, o21, o22, o23, o24, o25, o26] [s1] (T, z, xv V, J, R) else XR sc d 104 832 [o0, o1, o2, o3, o4, o5, o6, o7, o8, o9, o10, o11, o12, o13, o14, o15, o16, o17, o18, o19, o20, o21, o22, o23, o24, o25, o26] [s1] (T, z, xv V, J, R) :=
  sw_if_eq (t := 836) f_104_829 ⟨by decide, rfl⟩ g1
theorem bL_isSo_832 {o0 o1 o2 o3 o4 o5 o6 o7 o8 o9 o10 o11 o12 o13 o14 o15 o16 o17 o18 o19 o20 o21 o22 o23 o24 o25 o26 : Option Value} {s0 : Value} : XR sc d 104 832 [o0, o1, o2, o3, o4, o5, o6, o7, o8, o9, o10, o11, o12, o13, o14, o15, o16, o17, o18, o19, o20, o21, o22, o23, o24, o25, o26] [s0] (T, z, xv V, J, R) = XR sc d 104 837 [o0, o1, o2, o3, o4, o5, o6, o7, o8, o9, o10, o11, o12, o13, o14, o15, o16, o17, o18, o19, o20, o21, o22, o23, o24, o25, o26] [xw 1, s0] (T, z, xv V, J, R) :=
  (sw_iconst f_104_832).trans (st_goto (t := 837) f_104_833 ⟨by decide, rfl⟩)
theorem bL_isSo_836 {o0 o1 o2 o3 o4 o5 o6 o7 o8 o9 o10 o11 o12 o13 o14 o15 o16 o17 o18 o19 o20 o21 o22 o23 o24 o25 o26 : Option Value} {s0 : Value} : XR sc d 104 836 [o0, o1, o2, o3, o4, o5, o6, o7, o8, o9, o10, o11, o12, o13, o14, o15, o16, o17, o18, o19, o20, o21, o22, o23, o24, o25, o26] [s0] (T, z, xv V, J, R) = XR sc d 104 837 [o0, o1, o2, o3, o4, o5, o6, o7, o8, o9, o10, o11, o12, o13, o14, o15, o16, o17, o18, o19, o20, o21, o22, o23, o24, o25, o26] [xw 0, s0] (T, z, xv V, J, R) :=
  sw_iconst f_104_836
theorem bL_isSo_837 {o0 o1 o2 o3 o4 o5 o6 o7 o8 o9 o10 o11 o12 o13 o14 o15 o16 o17 o18 o19 o20 o21 o22 o23 o24 o25 o26 : Option Value} {y0 y1 : Int} (g1 : -2147483648 ≤ y1 ∧ y1 ≤ 2147483647) (g2 : -2147483648 ≤ y0 ∧ y0 ≤ 2147483647) : XR sc d 104 837 [o0, o1, o2, o3, o4, o5, o6, o7, o8, o9, o10, o11, o12, o13, o14, o15, o16, o17, o18, o19, o20, o21, o22, o23, o24, o25, o26] [xw y0, xw y1] (T, z, xv V, J, R) = if y1 = y0 then XR sc d 104 840 [o0, o1, o2, o3, o4, o5, o6, o7, o8, o9, o10, o11, o12, o13, o14, o15, o16, o17, o18, o19, o20, o21, o22, o23, o24, o25, o26] [] (T, z, xv V, J, R) else XR sc d 104 909 [o0, o1, o2, o3, o4, o5, o6, o7, o8, o9, o10, o11, o12, o13, o14, o15, o16, o17, o18, o19, o20, o21, o22, o23, o24, o25, o26] [] (T, z, xv V, J, R) :=
  sw_icmp_ne (t := 909) f_104_837 ⟨by decide, rfl⟩ g1 g2
theorem bL_isSo_840 {o1 o2 o3 o4 o5 o6 o7 o8 o9 o10 o11 o12 o13 o14 o15 o16 o19 o20 o21 o22 o24 o25 o26 : Option Value} {x17 x23 x18 : Int} {a0 : Nat} (g1 : T a0 = (7, 0)) : XR sc d 104 840 [some (.ref a0), o1, o2, o3, o4, o5, o6, o7, o8, o9, o10, o11, o12, o13, o14, o15, o16, some (xw x17), some (xw x18), o19, o20, o21, o22, some (xw x23), o24, o25, o26] [] (T, z, xv V, J, R) = xret 104 (XR sc d 104) 848 851 [some (.ref a0), o1, o2, o3, o4, o5, o6, o7, o8, o9, o10, o11, o12, o13, o14, o15, o16, some (xw x17), some (xw x18), o19, o20, o21, o22, some (xw x23), o24, o25, o26] [] (X sc d 76 [.ref a0, xw x17, xw x23, xw 0, xw x18] (T, z, xv V, J, R)) :=
  (st_aload_n f_104_840 rfl).trans ((sw_iload f_104_841 rfl).trans ((sw_iload f_104_843 rfl).trans ((sw_iconst f_104_845).trans ((sw_iload f_104_846 rfl).trans (st_callV' f_104_848 h_104_145 mn_76 rfl rfl rfl rfl mo_76 g1 rfl)))))
theorem bL_isSo_851 {o0 o1 o2 o3 o4 o5 o7 o8 o9 o10 o11 o12 o13 o14 o15 o16 o19 o20 o21 o22 o24 o25 o26 : Option Value} {x17 x23 x18 y0 : Int} {a6 : Nat} (g1 : T a6 = (32, (T a6).2)) (g2 : (0 : Int) ≤ (((14 * x17) + (2 * x23)) + x18) ∧ (((14 * x17) + (2 * x23)) + x18) < ((T a6).2 : Int) ∧ (T a6).2 ≤ 3584) (g3 : -2147483648 ≤ y0 ∧ y0 ≤ 2147483647) (g4 : -2147483648 ≤ (V a6 (((14 * x17) + (2 * x23)) + x18).toNat) ∧ (V a6 (((14 * x17) + (2 * x23)) + x18).toNat) ≤ 2147483647) : XR sc d 104 851 [o0, o1, o2, o3, o4, o5, some (.ref a6), o7, o8, o9, o10, o11, o12, o13, o14, o15, o16, some (xw x17), some (xw x18), o19, o20, o21, o22, some (xw x23), o24, o25, o26] [xw y0] (T, z, xv V, J, R) = if y0 = (V a6 (((14 * x17) + (2 * x23)) + x18).toNat) then XR sc d 104 870 [o0, o1, o2, o3, o4, o5, some (.ref a6), o7, o8, o9, o10, o11, o12, o13, o14, o15, o16, some (xw x17), some (xw x18), o19, o20, o21, o22, some (xw x23), o24, o25, o26] [] (T, z, xv V, J, R) else XR sc d 104 909 [o0, o1, o2, o3, o4, o5, some (.ref a6), o7, o8, o9, o10, o11, o12, o13, o14, o15, o16, some (xw x17), some (xw x18), o19, o20, o21, o22, some (xw x23), o24, o25, o26] [] (T, z, xv V, J, R) :=
  (st_aload f_104_851 rfl).trans ((sw_bipush f_104_853 c8_14).trans ((sw_iload f_104_855 rfl).trans ((sw_imul f_104_857).trans ((sw_iconst f_104_858).trans ((sw_iload f_104_859 rfl).trans ((sw_imul f_104_861).trans ((sw_iadd f_104_862).trans ((sw_iload f_104_863 rfl).trans ((sw_iadd f_104_865).trans ((sw_iaload f_104_866 g1 g2).trans (sw_icmp_ne (t := 909) f_104_867 ⟨by decide, rfl⟩ g3 g4)))))))))))
theorem bL_isSo_870 {o1 o2 o3 o4 o5 o6 o7 o8 o9 o10 o11 o12 o13 o14 o15 o16 o19 o20 o21 o22 o24 o25 o26 : Option Value} {x17 x23 x18 : Int} {a0 : Nat} (g1 : T a0 = (7, 0)) : XR sc d 104 870 [some (.ref a0), o1, o2, o3, o4, o5, o6, o7, o8, o9, o10, o11, o12, o13, o14, o15, o16, some (xw x17), some (xw x18), o19, o20, o21, o22, some (xw x23), o24, o25, o26] [] (T, z, xv V, J, R) = xret 104 (XR sc d 104) 880 883 [some (.ref a0), o1, o2, o3, o4, o5, o6, o7, o8, o9, o10, o11, o12, o13, o14, o15, o16, some (xw x17), some (xw x18), o19, o20, o21, o22, some (xw x23), o24, o25, o26] [] (X sc d 76 [.ref a0, xw x17, xw x23, xw 2, xw (1 + x18)] (T, z, xv V, J, R)) :=
  (st_aload_n f_104_870 rfl).trans ((sw_iload f_104_871 rfl).trans ((sw_iload f_104_873 rfl).trans ((sw_iconst f_104_875).trans ((sw_iconst f_104_876).trans ((sw_iload f_104_877 rfl).trans ((sw_iadd f_104_879).trans (st_callV' f_104_880 h_104_145 mn_76 rfl rfl rfl rfl mo_76 g1 rfl)))))))
theorem bL_isSo_883 {o0 o1 o2 o3 o4 o5 o7 o8 o9 o10 o11 o12 o13 o14 o15 o16 o19 o20 o21 o22 o24 o25 o26 : Option Value} {x17 x23 x18 y0 : Int} {a6 : Nat} (g1 : T a6 = (32, (T a6).2)) (g2 : (0 : Int) ≤ (((28 + (14 * x17)) + (2 * x23)) + x18) ∧ (((28 + (14 * x17)) + (2 * x23)) + x18) < ((T a6).2 : Int) ∧ (T a6).2 ≤ 3584) (g3 : -2147483648 ≤ y0 ∧ y0 ≤ 2147483647) (g4 : -2147483648 ≤ (V a6 (((28 + (14 * x17)) + (2 * x23)) + x18).toNat) ∧ (V a6 (((28 + (14 * x17)) + (2 * x23)) + x18).toNat) ≤ 2147483647) : XR sc d 104 883 [o0, o1, o2, o3, o4, o5, some (.ref a6), o7, o8, o9, o10, o11, o12, o13, o14, o15, o16, some (xw x17), some (xw x18), o19, o20, o21, o22, some (xw x23), o24, o25, o26] [xw y0] (T, z, xv V, J, R) = if y0 = (V a6 (((28 + (14 * x17)) + (2 * x23)) + x18).toNat) then XR sc d 104 905 [o0, o1, o2, o3, o4, o5, some (.ref a6), o7, o8, o9, o10, o11, o12, o13, o14, o15, o16, some (xw x17), some (xw x18), o19, o20, o21, o22, some (xw x23), o24, o25, o26] [] (T, z, xv V, J, R) else XR sc d 104 909 [o0, o1, o2, o3, o4, o5, some (.ref a6), o7, o8, o9, o10, o11, o12, o13, o14, o15, o16, some (xw x17), some (xw x18), o19, o20, o21, o22, some (xw x23), o24, o25, o26] [] (T, z, xv V, J, R) :=
  (st_aload f_104_883 rfl).trans ((sw_bipush f_104_885 c8_28).trans ((sw_bipush f_104_887 c8_14).trans ((sw_iload f_104_889 rfl).trans ((sw_imul f_104_891).trans ((sw_iadd f_104_892).trans ((sw_iconst f_104_893).trans ((sw_iload f_104_894 rfl).trans ((sw_imul f_104_896).trans ((sw_iadd f_104_897).trans ((sw_iload f_104_898 rfl).trans ((sw_iadd f_104_900).trans ((sw_iaload f_104_901 g1 g2).trans (sw_icmp_ne (t := 909) f_104_902 ⟨by decide, rfl⟩ g3 g4)))))))))))))
theorem bL_isSo_905 {o0 o1 o2 o3 o4 o5 o6 o7 o8 o9 o10 o11 o12 o13 o14 o15 o16 o17 o18 o19 o20 o21 o22 o23 o24 o25 o26 : Option Value} : XR sc d 104 905 [o0, o1, o2, o3, o4, o5, o6, o7, o8, o9, o10, o11, o12, o13, o14, o15, o16, o17, o18, o19, o20, o21, o22, o23, o24, o25, o26] [] (T, z, xv V, J, R) = XR sc d 104 910 [o0, o1, o2, o3, o4, o5, o6, o7, o8, o9, o10, o11, o12, o13, o14, o15, o16, o17, o18, o19, o20, o21, o22, o23, o24, o25, o26] [xw 1] (T, z, xv V, J, R) :=
  (sw_iconst f_104_905).trans (st_goto (t := 910) f_104_906 ⟨by decide, rfl⟩)
theorem bL_isSo_909 {o0 o1 o2 o3 o4 o5 o6 o7 o8 o9 o10 o11 o12 o13 o14 o15 o16 o17 o18 o19 o20 o21 o22 o23 o24 o25 o26 : Option Value} : XR sc d 104 909 [o0, o1, o2, o3, o4, o5, o6, o7, o8, o9, o10, o11, o12, o13, o14, o15, o16, o17, o18, o19, o20, o21, o22, o23, o24, o25, o26] [] (T, z, xv V, J, R) = XR sc d 104 910 [o0, o1, o2, o3, o4, o5, o6, o7, o8, o9, o10, o11, o12, o13, o14, o15, o16, o17, o18, o19, o20, o21, o22, o23, o24, o25, o26] [xw 0] (T, z, xv V, J, R) :=
  sw_iconst f_104_909
theorem bL_isSo_910 {o0 o1 o2 o3 o4 o5 o7 o8 o9 o10 o11 o12 o13 o14 o15 o16 o18 o19 o20 o21 o22 o24 o25 o26 : Option Value} {y0 x17 x23 : Int} {a6 : Nat} (g1 : T a6 = (32, (T a6).2)) (g2 : (0 : Int) ≤ ((14 * x17) + (2 * x23)) ∧ ((14 * x17) + (2 * x23)) < ((T a6).2 : Int) ∧ (T a6).2 ≤ 3584) (g3 : (0 : Int) ≤ (((14 * x17) + (2 * x23)) + 1) ∧ (((14 * x17) + (2 * x23)) + 1) < ((T a6).2 : Int) ∧ (T a6).2 ≤ 3584) (g4 : -2147483648 ≤ y0 ∧ y0 ≤ 2147483647) : XR sc d 104 910 [o0, o1, o2, o3, o4, o5, some (.ref a6), o7, o8, o9, o10, o11, o12, o13, o14, o15, o16, some (xw x17), o18, o19, o20, o21, o22, some (xw x23), o24, o25, o26] [xw y0] (T, z, xv V, J, R) = if y0 = 0 then XR sc d 104 1009 [o0, o1, o2, o3, o4, o5, some (.ref a6), o7, o8, o9, some (xw y0), o11, o12, o13, o14, o15, o16, some (xw x17), o18, o19, o20, o21, o22, some (xw x23), o24, some (xw (V a6 ((14 * x17) + (2 * x23)).toNat)), some (xw (V a6 (((14 * x17) + (2 * x23)) + 1).toNat))] [] (T, z, xv V, J, R) else XR sc d 104 949 [o0, o1, o2, o3, o4, o5, some (.ref a6), o7, o8, o9, some (xw y0), o11, o12, o13, o14, o15, o16, some (xw x17), o18, o19, o20, o21, o22, some (xw x23), o24, some (xw (V a6 ((14 * x17) + (2 * x23)).toNat)), some (xw (V a6 (((14 * x17) + (2 * x23)) + 1).toNat))] [] (T, z, xv V, J, R) :=
  (sw_istore (L' := [o0, o1, o2, o3, o4, o5, some (.ref a6), o7, o8, o9, some (xw y0), o11, o12, o13, o14, o15, o16, some (xw x17), o18, o19, o20, o21, o22, some (xw x23), o24, o25, o26]) f_104_910 (Nat.le_of_ble_eq_true rfl) rfl).trans ((st_aload f_104_912 rfl).trans ((sw_bipush f_104_914 c8_14).trans ((sw_iload f_104_916 rfl).trans ((sw_imul f_104_918).trans ((sw_iconst f_104_919).trans ((sw_iload f_104_920 rfl).trans ((sw_imul f_104_922).trans ((sw_iadd f_104_923).trans ((sw_iaload f_104_924 g1 g2).trans ((sw_istore (L' := [o0, o1, o2, o3, o4, o5, some (.ref a6), o7, o8, o9, some (xw y0), o11, o12, o13, o14, o15, o16, some (xw x17), o18, o19, o20, o21, o22, some (xw x23), o24, some (xw (V a6 ((14 * x17) + (2 * x23)).toNat)), o26]) f_104_925 (Nat.le_of_ble_eq_true rfl) rfl).trans ((st_aload f_104_927 rfl).trans ((sw_bipush f_104_929 c8_14).trans ((sw_iload f_104_931 rfl).trans ((sw_imul f_104_933).trans ((sw_iconst f_104_934).trans ((sw_iload f_104_935 rfl).trans ((sw_imul f_104_937).trans ((sw_iadd f_104_938).trans ((sw_iconst f_104_939).trans ((sw_iadd f_104_940).trans ((sw_iaload f_104_941 g1 g3).trans ((sw_istore (L' := [o0, o1, o2, o3, o4, o5, some (.ref a6), o7, o8, o9, some (xw y0), o11, o12, o13, o14, o15, o16, some (xw x17), o18, o19, o20, o21, o22, some (xw x23), o24, some (xw (V a6 ((14 * x17) + (2 * x23)).toNat)), some (xw (V a6 (((14 * x17) + (2 * x23)) + 1).toNat))]) f_104_942 (Nat.le_of_ble_eq_true rfl) rfl).trans ((sw_iload f_104_944 rfl).trans (sw_if_eq (t := 1009) f_104_946 ⟨by decide, rfl⟩ g4))))))))))))))))))))))))
theorem bL_isSo_949 {o1 o2 o3 o4 o5 o6 o7 o8 o9 o10 o11 o12 o13 o14 o15 o16 o18 o19 o20 o21 o22 o24 o25 o26 : Option Value} {x17 x23 : Int} {a0 : Nat} (g1 : T a0 = (7, 0)) : XR sc d 104 949 [some (.ref a0), o1, o2, o3, o4, o5, o6, o7, o8, o9, o10, o11, o12, o13, o14, o15, o16, some (xw x17), o18, o19, o20, o21, o22, some (xw x23), o24, o25, o26] [] (T, z, xv V, J, R) = xret 104 (XR sc d 104) 955 958 [some (.ref a0), o1, o2, o3, o4, o5, o6, o7, o8, o9, o10, o11, o12, o13, o14, o15, o16, some (xw x17), o18, o19, o20, o21, o22, some (xw x23), o24, o25, o26] [] (X sc d 77 [.ref a0, xw x17, xw x23, xw 0] (T, z, xv V, J, R)) :=
  (st_aload_n f_104_949 rfl).trans ((sw_iload f_104_950 rfl).trans ((sw_iload f_104_952 rfl).trans ((sw_iconst f_104_954).trans (st_callV' f_104_955 h_104_148 mn_77 rfl rfl rfl rfl mo_77 g1 rfl))))
theorem bL_isSo_958 {o0 o1 o2 o3 o4 o5 o6 o7 o8 o9 o10 o11 o12 o13 o14 o15 o16 o17 o18 o19 o20 o21 o22 o23 o24 o26 : Option Value} {s0 : Value} {x25 : Int} (g1 : -2147483648 ≤ x25 ∧ x25 ≤ 2147483647) : XR sc d 104 958 [o0, o1, o2, o3, o4, o5, o6, o7, o8, o9, o10, o11, o12, o13, o14, o15, o16, o17, o18, o19, o20, o21, o22, o23, o24, some (xw x25), o26] [s0] (T, z, xv V, J, R) = if x25 = 0 then XR sc d 104 963 [o0, o1, o2, o3, o4, o5, o6, o7, o8, o9, o10, o11, o12, o13, o14, o15, o16, o17, o18, o19, o20, o21, o22, o23, o24, some (xw x25), o26] [s0] (T, z, xv V, J, R) else XR sc d 104 972 [o0, o1, o2, o3, o4, o5, o6, o7, o8, o9, o10, o11, o12, o13, o14, o15, o16, o17, o18, o19, o20, o21, o22, o23, o24, some (xw x25), o26] [s0] (T, z, xv V, J, R) :=
  (sw_iload f_104_958 rfl).trans (sw_if_ne (t := 972) f_104_960 ⟨by decide, rfl⟩ g1)
theorem bL_isSo_963 {o0 o1 o2 o3 o4 o5 o6 o7 o8 o9 o10 o11 o12 o13 o14 o15 o16 o17 o18 o19 o20 o21 o22 o23 o24 o25 : Option Value} {s0 : Value} {x26 : Int} (g1 : -2147483648 ≤ x26 ∧ x26 ≤ 2147483647) : XR sc d 104 963 [o0, o1, o2, o3, o4, o5, o6, o7, o8, o9, o10, o11, o12, o13, o14, o15, o16, o17, o18, o19, o20, o21, o22, o23, o24, o25, some (xw x26)] [s0] (T, z, xv V, J, R) = if x26 = 0 then XR sc d 104 968 [o0, o1, o2, o3, o4, o5, o6, o7, o8, o9, o10, o11, o12, o13, o14, o15, o16, o17, o18, o19, o20, o21, o22, o23, o24, o25, some (xw x26)] [s0] (T, z, xv V, J, R) else XR sc d 104 972 [o0, o1, o2, o3, o4, o5, o6, o7, o8, o9, o10, o11, o12, o13, o14, o15, o16, o17, o18, o19, o20, o21, o22, o23, o24, o25, some (xw x26)] [s0] (T, z, xv V, J, R) :=
  (sw_iload f_104_963 rfl).trans (sw_if_ne (t := 972) f_104_965 ⟨by decide, rfl⟩ g1)
theorem bL_isSo_968 {o0 o1 o2 o3 o4 o5 o6 o7 o8 o9 o10 o11 o12 o13 o14 o15 o16 o17 o18 o19 o20 o21 o22 o23 o24 o25 o26 : Option Value} {s0 : Value} : XR sc d 104 968 [o0, o1, o2, o3, o4, o5, o6, o7, o8, o9, o10, o11, o12, o13, o14, o15, o16, o17, o18, o19, o20, o21, o22, o23, o24, o25, o26] [s0] (T, z, xv V, J, R) = XR sc d 104 984 [o0, o1, o2, o3, o4, o5, o6, o7, o8, o9, o10, o11, o12, o13, o14, o15, o16, o17, o18, o19, o20, o21, o22, o23, o24, o25, o26] [xw (-1), s0] (T, z, xv V, J, R) :=
  (sw_iconst f_104_968).trans (st_goto (t := 984) f_104_969 ⟨by decide, rfl⟩)
theorem bL_isSo_972 {o0 o1 o2 o3 o4 o5 o6 o7 o8 o9 o10 o11 o12 o13 o14 o15 o16 o17 o18 o19 o20 o21 o22 o23 o24 : Option Value} {s0 : Value} {x25 x26 : Int} (g1 : -2147483648 ≤ x25 ∧ x25 ≤ 2147483647) (g2 : -2147483648 ≤ x26 ∧ x26 ≤ 2147483647) : XR sc d 104 972 [o0, o1, o2, o3, o4, o5, o6, o7, o8, o9, o10, o11, o12, o13, o14, o15, o16, o17, o18, o19, o20, o21, o22, o23, o24, some (xw x25), some (xw x26)] [s0] (T, z, xv V, J, R) = if x25 < x26 then XR sc d 104 983 [o0, o1, o2, o3, o4, o5, o6, o7, o8, o9, o10, o11, o12, o13, o14, o15, o16, o17, o18, o19, o20, o21, o22, o23, o24, some (xw x25), some (xw x26)] [s0] (T, z, xv V, J, R) else XR sc d 104 979 [o0, o1, o2, o3, o4, o5, o6, o7, o8, o9, o10, o11, o12, o13, o14, o15, o16, o17, o18, o19, o20, o21, o22, o23, o24, some (xw x25), some (xw x26)] [s0] (T, z, xv V, J, R) :=
  (sw_iload f_104_972 rfl).trans ((sw_iload f_104_974 rfl).trans (sw_icmp_lt (t := 983) f_104_976 ⟨by decide, rfl⟩ g1 g2))
theorem bL_isSo_979 {o0 o1 o2 o3 o4 o5 o6 o7 o8 o9 o10 o11 o12 o13 o14 o15 o16 o17 o18 o19 o20 o21 o22 o23 o24 o25 o26 : Option Value} {s0 : Value} : XR sc d 104 979 [o0, o1, o2, o3, o4, o5, o6, o7, o8, o9, o10, o11, o12, o13, o14, o15, o16, o17, o18, o19, o20, o21, o22, o23, o24, o25, o26] [s0] (T, z, xv V, J, R) = XR sc d 104 984 [o0, o1, o2, o3, o4, o5, o6, o7, o8, o9, o10, o11, o12, o13, o14, o15, o16, o17, o18, o19, o20, o21, o22, o23, o24, o25, o26] [xw 0, s0] (T, z, xv V, J, R) :=
  (sw_iconst f_104_979).trans (st_goto (t := 984) f_104_980 ⟨by decide, rfl⟩)
theorem bL_isSo_983 {o0 o1 o2 o3 o4 o5 o6 o7 o8 o9 o10 o11 o12 o13 o14 o15 o16 o17 o18 o19 o20 o21 o22 o23 o24 o25 o26 : Option Value} {s0 : Value} : XR sc d 104 983 [o0, o1, o2, o3, o4, o5, o6, o7, o8, o9, o10, o11, o12, o13, o14, o15, o16, o17, o18, o19, o20, o21, o22, o23, o24, o25, o26] [s0] (T, z, xv V, J, R) = XR sc d 104 984 [o0, o1, o2, o3, o4, o5, o6, o7, o8, o9, o10, o11, o12, o13, o14, o15, o16, o17, o18, o19, o20, o21, o22, o23, o24, o25, o26] [xw 1, s0] (T, z, xv V, J, R) :=
  sw_iconst f_104_983
theorem bL_isSo_984 {o0 o1 o2 o3 o4 o5 o6 o7 o8 o9 o10 o11 o12 o13 o14 o15 o16 o17 o18 o19 o20 o21 o22 o23 o24 o25 o26 : Option Value} {y0 y1 : Int} (g1 : -2147483648 ≤ y1 ∧ y1 ≤ 2147483647) (g2 : -2147483648 ≤ y0 ∧ y0 ≤ 2147483647) : XR sc d 104 984 [o0, o1, o2, o3, o4, o5, o6, o7, o8, o9, o10, o11, o12, o13, o14, o15, o16, o17, o18, o19, o20, o21, o22, o23, o24, o25, o26] [xw y0, xw y1] (T, z, xv V, J, R) = if y1 = y0 then XR sc d 104 987 [o0, o1, o2, o3, o4, o5, o6, o7, o8, o9, o10, o11, o12, o13, o14, o15, o16, o17, o18, o19, o20, o21, o22, o23, o24, o25, o26] [] (T, z, xv V, J, R) else XR sc d 104 1009 [o0, o1, o2, o3, o4, o5, o6, o7, o8, o9, o10, o11, o12, o13, o14, o15, o16, o17, o18, o19, o20, o21, o22, o23, o24, o25, o26] [] (T, z, xv V, J, R) :=
  sw_icmp_ne (t := 1009) f_104_984 ⟨by decide, rfl⟩ g1 g2
theorem bL_isSo_987 {o1 o2 o3 o4 o5 o6 o7 o8 o9 o10 o11 o12 o13 o14 o15 o16 o18 o19 o20 o21 o22 o24 o25 o26 : Option Value} {x17 x23 : Int} {a0 : Nat} (g1 : T a0 = (7, 0)) : XR sc d 104 987 [some (.ref a0), o1, o2, o3, o4, o5, o6, o7, o8, o9, o10, o11, o12, o13, o14, o15, o16, some (xw x17), o18, o19, o20, o21, o22, some (xw x23), o24, o25, o26] [] (T, z, xv V, J, R) = xret 104 (XR sc d 104) 994 997 [some (.ref a0), o1, o2, o3, o4, o5, o6, o7, o8, o9, o10, o11, o12, o13, o14, o15, o16, some (xw x17), o18, o19, o20, o21, o22, some (xw x23), o24, o25, o26] [] (X sc d 76 [.ref a0, xw x17, xw x23, xw 1, xw 2] (T, z, xv V, J, R)) :=
  (st_aload_n f_104_987 rfl).trans ((sw_iload f_104_988 rfl).trans ((sw_iload f_104_990 rfl).trans ((sw_iconst f_104_992).trans ((sw_iconst f_104_993).trans (st_callV' f_104_994 h_104_145 mn_76 rfl rfl rfl rfl mo_76 g1 rfl)))))
theorem bL_isSo_997 {o0 o1 o2 o3 o4 o5 o6 o7 o8 o9 o10 o11 o12 o13 o14 o15 o16 o17 o18 o19 o20 o21 o22 o23 o24 : Option Value} {x25 x26 y0 : Int} (g1 : -2147483648 ≤ y0 ∧ y0 ≤ 2147483647) (g2 : -2147483648 ≤ (x25 + x26) ∧ (x25 + x26) ≤ 2147483647) : XR sc d 104 997 [o0, o1, o2, o3, o4, o5, o6, o7, o8, o9, o10, o11, o12, o13, o14, o15, o16, o17, o18, o19, o20, o21, o22, o23, o24, some (xw x25), some (xw x26)] [xw y0] (T, z, xv V, J, R) = if y0 = (x25 + x26) then XR sc d 104 1005 [o0, o1, o2, o3, o4, o5, o6, o7, o8, o9, o10, o11, o12, o13, o14, o15, o16, o17, o18, o19, o20, o21, o22, o23, o24, some (xw x25), some (xw x26)] [] (T, z, xv V, J, R) else XR sc d 104 1009 [o0, o1, o2, o3, o4, o5, o6, o7, o8, o9, o10, o11, o12, o13, o14, o15, o16, o17, o18, o19, o20, o21, o22, o23, o24, some (xw x25), some (xw x26)] [] (T, z, xv V, J, R) :=
  (sw_iload f_104_997 rfl).trans ((sw_iload f_104_999 rfl).trans ((sw_iadd f_104_1001).trans (sw_icmp_ne (t := 1009) f_104_1002 ⟨by decide, rfl⟩ g1 g2)))
theorem bL_isSo_1005 {o0 o1 o2 o3 o4 o5 o6 o7 o8 o9 o10 o11 o12 o13 o14 o15 o16 o17 o18 o19 o20 o21 o22 o23 o24 o25 o26 : Option Value} : XR sc d 104 1005 [o0, o1, o2, o3, o4, o5, o6, o7, o8, o9, o10, o11, o12, o13, o14, o15, o16, o17, o18, o19, o20, o21, o22, o23, o24, o25, o26] [] (T, z, xv V, J, R) = XR sc d 104 1010 [o0, o1, o2, o3, o4, o5, o6, o7, o8, o9, o10, o11, o12, o13, o14, o15, o16, o17, o18, o19, o20, o21, o22, o23, o24, o25, o26] [xw 1] (T, z, xv V, J, R) :=
  (sw_iconst f_104_1005).trans (st_goto (t := 1010) f_104_1006 ⟨by decide, rfl⟩)
theorem bL_isSo_1009 {o0 o1 o2 o3 o4 o5 o6 o7 o8 o9 o10 o11 o12 o13 o14 o15 o16 o17 o18 o19 o20 o21 o22 o23 o24 o25 o26 : Option Value} : XR sc d 104 1009 [o0, o1, o2, o3, o4, o5, o6, o7, o8, o9, o10, o11, o12, o13, o14, o15, o16, o17, o18, o19, o20, o21, o22, o23, o24, o25, o26] [] (T, z, xv V, J, R) = XR sc d 104 1010 [o0, o1, o2, o3, o4, o5, o6, o7, o8, o9, o10, o11, o12, o13, o14, o15, o16, o17, o18, o19, o20, o21, o22, o23, o24, o25, o26] [xw 0] (T, z, xv V, J, R) :=
  sw_iconst f_104_1009
theorem bL_isSo_1010 {o0 o1 o2 o3 o4 o5 o6 o7 o8 o9 o10 o11 o12 o13 o14 o15 o16 o17 o18 o19 o20 o21 o22 o24 o25 o26 : Option Value} {y0 x23 : Int} : XR sc d 104 1010 [o0, o1, o2, o3, o4, o5, o6, o7, o8, o9, o10, o11, o12, o13, o14, o15, o16, o17, o18, o19, o20, o21, o22, some (xw x23), o24, o25, o26] [xw y0] (T, z, xv V, J, R) = XR sc d 104 702 [o0, o1, o2, o3, o4, o5, o6, o7, o8, o9, some (xw y0), o11, o12, o13, o14, o15, o16, o17, o18, o19, o20, o21, o22, some (xw (x23 + 1)), o24, o25, o26] [] (T, z, xv V, J, R) :=
  (sw_istore (L' := [o0, o1, o2, o3, o4, o5, o6, o7, o8, o9, some (xw y0), o11, o12, o13, o14, o15, o16, o17, o18, o19, o20, o21, o22, some (xw x23), o24, o25, o26]) f_104_1010 (Nat.le_of_ble_eq_true rfl) rfl).trans ((sw_iinc (L' := [o0, o1, o2, o3, o4, o5, o6, o7, o8, o9, some (xw y0), o11, o12, o13, o14, o15, o16, o17, o18, o19, o20, o21, o22, some (xw (x23 + 1)), o24, o25, o26]) f_104_1012 rfl (Nat.le_of_ble_eq_true rfl) rfl).trans (st_goto (t := 702) f_104_1015 ⟨by decide, rfl⟩))
theorem bL_isSo_1018 {o0 o1 o2 o3 o4 o5 o6 o7 o8 o9 o10 o11 o12 o13 o14 o15 o16 o17 o18 o19 o20 o21 o22 o23 o24 o25 o26 : Option Value} : XR sc d 104 1018 [o0, o1, o2, o3, o4, o5, o6, o7, o8, o9, o10, o11, o12, o13, o14, o15, o16, o17, o18, o19, o20, o21, o22, o23, o24, o25, o26] [] (T, z, xv V, J, R) = XR sc d 104 1021 [o0, o1, o2, o3, o4, o5, o6, o7, o8, o9, o10, o11, o12, o13, o14, o15, o16, o17, o18, o19, o20, o21, o22, some (xw 1), o24, o25, o26] [] (T, z, xv V, J, R) :=
  (sw_iconst f_104_1018).trans (sw_istore (L' := [o0, o1, o2, o3, o4, o5, o6, o7, o8, o9, o10, o11, o12, o13, o14, o15, o16, o17, o18, o19, o20, o21, o22, some (xw 1), o24, o25, o26]) f_104_1019 (Nat.le_of_ble_eq_true rfl) rfl)
theorem bL_isSo_1021 {o0 o1 o2 o3 o4 o5 o6 o7 o8 o9 o10 o11 o12 o13 o14 o15 o16 o17 o18 o19 o20 o21 o22 o24 o25 o26 : Option Value} {x23 : Int} (g1 : -2147483648 ≤ x23 ∧ x23 ≤ 2147483647) : XR sc d 104 1021 [o0, o1, o2, o3, o4, o5, o6, o7, o8, o9, o10, o11, o12, o13, o14, o15, o16, o17, o18, o19, o20, o21, o22, some (xw x23), o24, o25, o26] [] (T, z, xv V, J, R) = if 6 ≤ x23 then XR sc d 104 1101 [o0, o1, o2, o3, o4, o5, o6, o7, o8, o9, o10, o11, o12, o13, o14, o15, o16, o17, o18, o19, o20, o21, o22, some (xw x23), o24, o25, o26] [] (T, z, xv V, J, R) else XR sc d 104 1028 [o0, o1, o2, o3, o4, o5, o6, o7, o8, o9, o10, o11, o12, o13, o14, o15, o16, o17, o18, o19, o20, o21, o22, some (xw x23), o24, o25, o26] [] (T, z, xv V, J, R) :=
  (sw_iload f_104_1021 rfl).trans ((sw_bipush f_104_1023 c8_6).trans (sw_icmp_ge (t := 1101) f_104_1025 ⟨by decide, rfl⟩ g1 ⟨by decide, by decide⟩))
theorem bL_isSo_1028 {o0 o1 o2 o3 o4 o5 o6 o7 o8 o9 o10 o11 o12 o13 o14 o15 o16 o17 o18 o19 o20 o22 o24 o25 o26 : Option Value} {x21 x23 : Int} (g1 : 0 < (iShl 1 x23) ∧ (iShl 1 x23) ≤ 2147483647 ∧ 0 ≤ x21 ∧ x21 ≤ 2147483647) (g2 : -2147483648 ≤ (x21 % (iShl 1 x23)) ∧ (x21 % (iShl 1 x23)) ≤ 2147483647) : XR sc d 104 1028 [o0, o1, o2, o3, o4, o5, o6, o7, o8, o9, o10, o11, o12, o13, o14, o15, o16, o17, o18, o19, o20, some (xw x21), o22, some (xw x23), o24, o25, o26] [] (T, z, xv V, J, R) = if (x21 % (iShl 1 x23)) ≤ 0 then XR sc d 104 1042 [o0, o1, o2, o3, o4, o5, o6, o7, o8, o9, o10, o11, o12, o13, o14, o15, o16, o17, o18, o19, o20, some (xw x21), o22, some (xw x23), o24, o25, o26] [] (T, z, xv V, J, R) else XR sc d 104 1038 [o0, o1, o2, o3, o4, o5, o6, o7, o8, o9, o10, o11, o12, o13, o14, o15, o16, o17, o18, o19, o20, some (xw x21), o22, some (xw x23), o24, o25, o26] [] (T, z, xv V, J, R) :=
  (sw_iload f_104_1028 rfl).trans ((sw_iconst f_104_1030).trans ((sw_iload f_104_1031 rfl).trans ((sw_ishl f_104_1033).trans ((sw_irem f_104_1034 g1).trans (sw_if_le (t := 1042) f_104_1035 ⟨by decide, rfl⟩ g2)))))
theorem bL_isSo_1038 {o0 o1 o2 o3 o4 o5 o6 o7 o8 o9 o10 o11 o12 o13 o14 o15 o16 o17 o18 o19 o20 o21 o22 o23 o24 o25 o26 : Option Value} : XR sc d 104 1038 [o0, o1, o2, o3, o4, o5, o6, o7, o8, o9, o10, o11, o12, o13, o14, o15, o16, o17, o18, o19, o20, o21, o22, o23, o24, o25, o26] [] (T, z, xv V, J, R) = XR sc d 104 1043 [o0, o1, o2, o3, o4, o5, o6, o7, o8, o9, o10, o11, o12, o13, o14, o15, o16, o17, o18, o19, o20, o21, o22, o23, o24, o25, o26] [xw 1] (T, z, xv V, J, R) :=
  (sw_iconst f_104_1038).trans (st_goto (t := 1043) f_104_1039 ⟨by decide, rfl⟩)
theorem bL_isSo_1042 {o0 o1 o2 o3 o4 o5 o6 o7 o8 o9 o10 o11 o12 o13 o14 o15 o16 o17 o18 o19 o20 o21 o22 o23 o24 o25 o26 : Option Value} : XR sc d 104 1042 [o0, o1, o2, o3, o4, o5, o6, o7, o8, o9, o10, o11, o12, o13, o14, o15, o16, o17, o18, o19, o20, o21, o22, o23, o24, o25, o26] [] (T, z, xv V, J, R) = XR sc d 104 1043 [o0, o1, o2, o3, o4, o5, o6, o7, o8, o9, o10, o11, o12, o13, o14, o15, o16, o17, o18, o19, o20, o21, o22, o23, o24, o25, o26] [xw 0] (T, z, xv V, J, R) :=
  sw_iconst f_104_1042
theorem bL_isSo_1043 {o0 o1 o2 o3 o4 o5 o6 o7 o8 o9 o10 o11 o12 o13 o14 o15 o16 o17 o18 o19 o20 o22 o24 o25 o26 : Option Value} {y0 x21 x23 : Int} (g1 : -2147483648 ≤ (iShr x21 (x23 + 1)) ∧ (iShr x21 (x23 + 1)) ≤ 2147483647) : XR sc d 104 1043 [o0, o1, o2, o3, o4, o5, o6, o7, o8, o9, o10, o11, o12, o13, o14, o15, o16, o17, o18, o19, o20, some (xw x21), o22, some (xw x23), o24, o25, o26] [xw y0] (T, z, xv V, J, R) = if (iShr x21 (x23 + 1)) ≤ 0 then XR sc d 104 1059 [o0, o1, o2, o3, o4, o5, o6, o7, o8, o9, o10, o11, o12, o13, o14, o15, o16, o17, o18, o19, o20, some (xw x21), o22, some (xw x23), some (xw y0), o25, o26] [] (T, z, xv V, J, R) else XR sc d 104 1055 [o0, o1, o2, o3, o4, o5, o6, o7, o8, o9, o10, o11, o12, o13, o14, o15, o16, o17, o18, o19, o20, some (xw x21), o22, some (xw x23), some (xw y0), o25, o26] [] (T, z, xv V, J, R) :=
  (sw_istore (L' := [o0, o1, o2, o3, o4, o5, o6, o7, o8, o9, o10, o11, o12, o13, o14, o15, o16, o17, o18, o19, o20, some (xw x21), o22, some (xw x23), some (xw y0), o25, o26]) f_104_1043 (Nat.le_of_ble_eq_true rfl) rfl).trans ((sw_iload f_104_1045 rfl).trans ((sw_iload f_104_1047 rfl).trans ((sw_iconst f_104_1049).trans ((sw_iadd f_104_1050).trans ((sw_ishr f_104_1051).trans (sw_if_le (t := 1059) f_104_1052 ⟨by decide, rfl⟩ g1))))))
theorem bL_isSo_1055 {o0 o1 o2 o3 o4 o5 o6 o7 o8 o9 o10 o11 o12 o13 o14 o15 o16 o17 o18 o19 o20 o21 o22 o23 o24 o25 o26 : Option Value} : XR sc d 104 1055 [o0, o1, o2, o3, o4, o5, o6, o7, o8, o9, o10, o11, o12, o13, o14, o15, o16, o17, o18, o19, o20, o21, o22, o23, o24, o25, o26] [] (T, z, xv V, J, R) = XR sc d 104 1060 [o0, o1, o2, o3, o4, o5, o6, o7, o8, o9, o10, o11, o12, o13, o14, o15, o16, o17, o18, o19, o20, o21, o22, o23, o24, o25, o26] [xw 1] (T, z, xv V, J, R) :=
  (sw_iconst f_104_1055).trans (st_goto (t := 1060) f_104_1056 ⟨by decide, rfl⟩)
theorem bL_isSo_1059 {o0 o1 o2 o3 o4 o5 o6 o7 o8 o9 o10 o11 o12 o13 o14 o15 o16 o17 o18 o19 o20 o21 o22 o23 o24 o25 o26 : Option Value} : XR sc d 104 1059 [o0, o1, o2, o3, o4, o5, o6, o7, o8, o9, o10, o11, o12, o13, o14, o15, o16, o17, o18, o19, o20, o21, o22, o23, o24, o25, o26] [] (T, z, xv V, J, R) = XR sc d 104 1060 [o0, o1, o2, o3, o4, o5, o6, o7, o8, o9, o10, o11, o12, o13, o14, o15, o16, o17, o18, o19, o20, o21, o22, o23, o24, o25, o26] [xw 0] (T, z, xv V, J, R) :=
  sw_iconst f_104_1059
theorem bL_isSo_1060 {o0 o1 o2 o3 o4 o5 o6 o7 o8 o9 o10 o11 o12 o13 o14 o15 o16 o17 o18 o19 o20 o24 o25 o26 : Option Value} {y0 x22 x21 x23 : Int} (g1 : -2147483648 ≤ (iAnd (iShr x21 x23) 1) ∧ (iAnd (iShr x21 x23) 1) ≤ 2147483647) : XR sc d 104 1060 [o0, o1, o2, o3, o4, o5, o6, o7, o8, o9, o10, o11, o12, o13, o14, o15, o16, o17, o18, o19, o20, some (xw x21), some (xw x22), some (xw x23), o24, o25, o26] [xw y0] (T, z, xv V, J, R) = if (iAnd (iShr x21 x23) 1) = 0 then XR sc d 104 1074 [o0, o1, o2, o3, o4, o5, o6, o7, o8, o9, o10, o11, o12, o13, o14, o15, o16, o17, o18, o19, o20, some (xw x21), some (xw x22), some (xw x23), o24, some (xw y0), o26] [xw x22] (T, z, xv V, J, R) else XR sc d 104 1091 [o0, o1, o2, o3, o4, o5, o6, o7, o8, o9, o10, o11, o12, o13, o14, o15, o16, o17, o18, o19, o20, some (xw x21), some (xw x22), some (xw x23), o24, some (xw y0), o26] [xw x22] (T, z, xv V, J, R) :=
  (sw_istore (L' := [o0, o1, o2, o3, o4, o5, o6, o7, o8, o9, o10, o11, o12, o13, o14, o15, o16, o17, o18, o19, o20, some (xw x21), some (xw x22), some (xw x23), o24, some (xw y0), o26]) f_104_1060 (Nat.le_of_ble_eq_true rfl) rfl).trans ((sw_iload f_104_1062 rfl).trans ((sw_iload f_104_1064 rfl).trans ((sw_iload f_104_1066 rfl).trans ((sw_ishr f_104_1068).trans ((sw_iconst f_104_1069).trans ((sw_iand f_104_1070).trans (sw_if_ne (t := 1091) f_104_1071 ⟨by decide, rfl⟩ g1)))))))
theorem bL_isSo_1074 {o0 o1 o2 o3 o4 o5 o6 o7 o8 o9 o10 o11 o12 o13 o14 o15 o16 o17 o18 o19 o20 o21 o22 o23 o25 o26 : Option Value} {s0 : Value} {x24 : Int} (g1 : -2147483648 ≤ x24 ∧ x24 ≤ 2147483647) : XR sc d 104 1074 [o0, o1, o2, o3, o4, o5, o6, o7, o8, o9, o10, o11, o12, o13, o14, o15, o16, o17, o18, o19, o20, o21, o22, o23, some (xw x24), o25, o26] [s0] (T, z, xv V, J, R) = if x24 = 0 then XR sc d 104 1091 [o0, o1, o2, o3, o4, o5, o6, o7, o8, o9, o10, o11, o12, o13, o14, o15, o16, o17, o18, o19, o20, o21, o22, o23, some (xw x24), o25, o26] [s0] (T, z, xv V, J, R) else XR sc d 104 1079 [o0, o1, o2, o3, o4, o5, o6, o7, o8, o9, o10, o11, o12, o13, o14, o15, o16, o17, o18, o19, o20, o21, o22, o23, some (xw x24), o25, o26] [s0] (T, z, xv V, J, R) :=
  (sw_iload f_104_1074 rfl).trans (sw_if_eq (t := 1091) f_104_1076 ⟨by decide, rfl⟩ g1)
theorem bL_isSo_1079 {o0 o1 o2 o3 o4 o5 o6 o7 o8 o9 o10 o11 o12 o13 o14 o15 o16 o17 o18 o19 o20 o21 o22 o23 o24 o26 : Option Value} {s0 : Value} {x25 : Int} (g1 : -2147483648 ≤ x25 ∧ x25 ≤ 2147483647) : XR sc d 104 1079 [o0, o1, o2, o3, o4, o5, o6, o7, o8, o9, o10, o11, o12, o13, o14, o15, o16, o17, o18, o19, o20, o21, o22, o23, o24, some (xw x25), o26] [s0] (T, z, xv V, J, R) = if x25 = 0 then XR sc d 104 1091 [o0, o1, o2, o3, o4, o5, o6, o7, o8, o9, o10, o11, o12, o13, o14, o15, o16, o17, o18, o19, o20, o21, o22, o23, o24, some (xw x25), o26] [s0] (T, z, xv V, J, R) else XR sc d 104 1084 [o0, o1, o2, o3, o4, o5, o6, o7, o8, o9, o10, o11, o12, o13, o14, o15, o16, o17, o18, o19, o20, o21, o22, o23, o24, some (xw x25), o26] [s0] (T, z, xv V, J, R) :=
  (sw_iload f_104_1079 rfl).trans (sw_if_eq (t := 1091) f_104_1081 ⟨by decide, rfl⟩ g1)
theorem bL_isSo_1084 {o0 o1 o2 o3 o4 o5 o6 o7 o8 o9 o10 o11 o12 o13 o14 o15 o16 o17 o18 o19 o20 o21 o22 o24 o25 o26 : Option Value} {s0 : Value} {x23 : Int} : XR sc d 104 1084 [o0, o1, o2, o3, o4, o5, o6, o7, o8, o9, o10, o11, o12, o13, o14, o15, o16, o17, o18, o19, o20, o21, o22, some (xw x23), o24, o25, o26] [s0] (T, z, xv V, J, R) = XR sc d 104 1092 [o0, o1, o2, o3, o4, o5, o6, o7, o8, o9, o10, o11, o12, o13, o14, o15, o16, o17, o18, o19, o20, o21, o22, some (xw x23), o24, o25, o26] [xw (iShl 1 x23), s0] (T, z, xv V, J, R) :=
  (sw_iconst f_104_1084).trans ((sw_iload f_104_1085 rfl).trans ((sw_ishl f_104_1087).trans (st_goto (t := 1092) f_104_1088 ⟨by decide, rfl⟩)))
theorem bL_isSo_1091 {o0 o1 o2 o3 o4 o5 o6 o7 o8 o9 o10 o11 o12 o13 o14 o15 o16 o17 o18 o19 o20 o21 o22 o23 o24 o25 o26 : Option Value} {s0 : Value} : XR sc d 104 1091 [o0, o1, o2, o3, o4, o5, o6, o7, o8, o9, o10, o11, o12, o13, o14, o15, o16, o17, o18, o19, o20, o21, o22, o23, o24, o25, o26] [s0] (T, z, xv V, J, R) = XR sc d 104 1092 [o0, o1, o2, o3, o4, o5, o6, o7, o8, o9, o10, o11, o12, o13, o14, o15, o16, o17, o18, o19, o20, o21, o22, o23, o24, o25, o26] [xw 0, s0] (T, z, xv V, J, R) :=
  sw_iconst f_104_1091
theorem bL_isSo_1092 {o0 o1 o2 o3 o4 o5 o6 o7 o8 o9 o10 o11 o12 o13 o14 o15 o16 o17 o18 o19 o20 o21 o22 o24 o25 o26 : Option Value} {y0 y1 x23 : Int} : XR sc d 104 1092 [o0, o1, o2, o3, o4, o5, o6, o7, o8, o9, o10, o11, o12, o13, o14, o15, o16, o17, o18, o19, o20, o21, o22, some (xw x23), o24, o25, o26] [xw y0, xw y1] (T, z, xv V, J, R) = XR sc d 104 1021 [o0, o1, o2, o3, o4, o5, o6, o7, o8, o9, o10, o11, o12, o13, o14, o15, o16, o17, o18, o19, o20, o21, some (xw (iOr y1 y0)), some (xw (x23 + 1)), o24, o25, o26] [] (T, z, xv V, J, R) :=
  (sw_ior f_104_1092).trans ((sw_istore (L' := [o0, o1, o2, o3, o4, o5, o6, o7, o8, o9, o10, o11, o12, o13, o14, o15, o16, o17, o18, o19, o20, o21, some (xw (iOr y1 y0)), some (xw x23), o24, o25, o26]) f_104_1093 (Nat.le_of_ble_eq_true rfl) rfl).trans ((sw_iinc (L' := [o0, o1, o2, o3, o4, o5, o6, o7, o8, o9, o10, o11, o12, o13, o14, o15, o16, o17, o18, o19, o20, o21, some (xw (iOr y1 y0)), some (xw (x23 + 1)), o24, o25, o26]) f_104_1095 rfl (Nat.le_of_ble_eq_true rfl) rfl).trans (st_goto (t := 1021) f_104_1098 ⟨by decide, rfl⟩)))
theorem bL_isSo_1101 {o0 o1 o2 o3 o4 o5 o6 o7 o8 o9 o11 o12 o13 o14 o15 o16 o17 o18 o19 o20 o21 o22 o23 o24 o25 o26 : Option Value} {x10 : Int} (g1 : -2147483648 ≤ x10 ∧ x10 ≤ 2147483647) : XR sc d 104 1101 [o0, o1, o2, o3, o4, o5, o6, o7, o8, o9, some (xw x10), o11, o12, o13, o14, o15, o16, o17, o18, o19, o20, o21, o22, o23, o24, o25, o26] [] (T, z, xv V, J, R) = if x10 = 0 then XR sc d 104 1175 [o0, o1, o2, o3, o4, o5, o6, o7, o8, o9, some (xw x10), o11, o12, o13, o14, o15, o16, o17, o18, o19, o20, o21, o22, o23, o24, o25, o26] [] (T, z, xv V, J, R) else XR sc d 104 1106 [o0, o1, o2, o3, o4, o5, o6, o7, o8, o9, some (xw x10), o11, o12, o13, o14, o15, o16, o17, o18, o19, o20, o21, o22, o23, o24, o25, o26] [] (T, z, xv V, J, R) :=
  (sw_iload f_104_1101 rfl).trans (sw_if_eq (t := 1175) f_104_1103 ⟨by decide, rfl⟩ g1)
theorem bL_isSo_1106 {o1 o2 o3 o4 o5 o6 o7 o8 o9 o10 o11 o12 o13 o14 o15 o16 o20 o21 o22 o23 o24 o25 o26 : Option Value} {x17 x18 x19 : Int} {a0 : Nat} (g1 : T a0 = (7, 0)) : XR sc d 104 1106 [some (.ref a0), o1, o2, o3, o4, o5, o6, o7, o8, o9, o10, o11, o12, o13, o14, o15, o16, some (xw x17), some (xw x18), some (xw x19), o20, o21, o22, o23, o24, o25, o26] [] (T, z, xv V, J, R) = xret 104 (XR sc d 104) 1113 1116 [some (.ref a0), o1, o2, o3, o4, o5, o6, o7, o8, o9, o10, o11, o12, o13, o14, o15, o16, some (xw x17), some (xw x18), some (xw x19), o20, o21, o22, o23, o24, o25, o26] [] (X sc d 69 [.ref a0, xw x17, xw x18, xw x19] (T, z, xv V, J, R)) :=
  (st_aload_n f_104_1106 rfl).trans ((sw_iload f_104_1107 rfl).trans ((sw_iload f_104_1109 rfl).trans ((sw_iload f_104_1111 rfl).trans (st_callV' f_104_1113 h_104_151 mn_69 rfl rfl rfl rfl mo_69 g1 rfl))))
theorem bL_isSo_1116 {o0 o1 o2 o3 o4 o5 o6 o7 o8 o9 o10 o11 o12 o13 o14 o15 o16 o17 o18 o19 o21 o22 o23 o24 o25 o26 : Option Value} {x20 y0 : Int} (g1 : -2147483648 ≤ y0 ∧ y0 ≤ 2147483647) (g2 : -2147483648 ≤ x20 ∧ x20 ≤ 2147483647) : XR sc d 104 1116 [o0, o1, o2, o3, o4, o5, o6, o7, o8, o9, o10, o11, o12, o13, o14, o15, o16, o17, o18, o19, some (xw x20), o21, o22, o23, o24, o25, o26] [xw y0] (T, z, xv V, J, R) = if y0 = x20 then XR sc d 104 1121 [o0, o1, o2, o3, o4, o5, o6, o7, o8, o9, o10, o11, o12, o13, o14, o15, o16, o17, o18, o19, some (xw x20), o21, o22, o23, o24, o25, o26] [] (T, z, xv V, J, R) else XR sc d 104 1175 [o0, o1, o2, o3, o4, o5, o6, o7, o8, o9, o10, o11, o12, o13, o14, o15, o16, o17, o18, o19, some (xw x20), o21, o22, o23, o24, o25, o26] [] (T, z, xv V, J, R) :=
  (sw_iload f_104_1116 rfl).trans (sw_icmp_ne (t := 1175) f_104_1118 ⟨by decide, rfl⟩ g1 g2)
theorem bL_isSo_1121 {o1 o2 o3 o4 o5 o6 o7 o8 o9 o10 o11 o12 o13 o14 o15 o16 o20 o21 o22 o23 o24 o25 o26 : Option Value} {x17 x18 x19 : Int} {a0 : Nat} (g1 : T a0 = (7, 0)) : XR sc d 104 1121 [some (.ref a0), o1, o2, o3, o4, o5, o6, o7, o8, o9, o10, o11, o12, o13, o14, o15, o16, some (xw x17), some (xw x18), some (xw x19), o20, o21, o22, o23, o24, o25, o26] [] (T, z, xv V, J, R) = xret 104 (XR sc d 104) 1128 1131 [some (.ref a0), o1, o2, o3, o4, o5, o6, o7, o8, o9, o10, o11, o12, o13, o14, o15, o16, some (xw x17), some (xw x18), some (xw x19), o20, o21, o22, o23, o24, o25, o26] [] (X sc d 70 [.ref a0, xw x17, xw x18, xw x19] (T, z, xv V, J, R)) :=
  (st_aload_n f_104_1121 rfl).trans ((sw_iload f_104_1122 rfl).trans ((sw_iload f_104_1124 rfl).trans ((sw_iload f_104_1126 rfl).trans (st_callV' f_104_1128 h_104_154 mn_70 rfl rfl rfl rfl mo_70 g1 rfl))))
theorem bL_isSo_1131 {o0 o1 o2 o3 o4 o5 o6 o7 o8 o9 o10 o11 o12 o13 o14 o15 o16 o17 o18 o19 o21 o22 o23 o24 o25 o26 : Option Value} {x20 y0 : Int} (g1 : -2147483648 ≤ y0 ∧ y0 ≤ 2147483647) (g2 : -2147483648 ≤ x20 ∧ x20 ≤ 2147483647) : XR sc d 104 1131 [o0, o1, o2, o3, o4, o5, o6, o7, o8, o9, o10, o11, o12, o13, o14, o15, o16, o17, o18, o19, some (xw x20), o21, o22, o23, o24, o25, o26] [xw y0] (T, z, xv V, J, R) = if y0 = x20 then XR sc d 104 1136 [o0, o1, o2, o3, o4, o5, o6, o7, o8, o9, o10, o11, o12, o13, o14, o15, o16, o17, o18, o19, some (xw x20), o21, o22, o23, o24, o25, o26] [] (T, z, xv V, J, R) else XR sc d 104 1175 [o0, o1, o2, o3, o4, o5, o6, o7, o8, o9, o10, o11, o12, o13, o14, o15, o16, o17, o18, o19, some (xw x20), o21, o22, o23, o24, o25, o26] [] (T, z, xv V, J, R) :=
  (sw_iload f_104_1131 rfl).trans (sw_icmp_ne (t := 1175) f_104_1133 ⟨by decide, rfl⟩ g1 g2)
theorem bL_isSo_1136 {o1 o2 o3 o4 o5 o6 o7 o8 o9 o10 o11 o12 o13 o14 o15 o16 o20 o21 o22 o23 o24 o25 o26 : Option Value} {x17 x18 x19 : Int} {a0 : Nat} (g1 : T a0 = (7, 0)) : XR sc d 104 1136 [some (.ref a0), o1, o2, o3, o4, o5, o6, o7, o8, o9, o10, o11, o12, o13, o14, o15, o16, some (xw x17), some (xw x18), some (xw x19), o20, o21, o22, o23, o24, o25, o26] [] (T, z, xv V, J, R) = xret 104 (XR sc d 104) 1143 1146 [some (.ref a0), o1, o2, o3, o4, o5, o6, o7, o8, o9, o10, o11, o12, o13, o14, o15, o16, some (xw x17), some (xw x18), some (xw x19), o20, o21, o22, o23, o24, o25, o26] [] (X sc d 72 [.ref a0, xw x17, xw x18, xw x19] (T, z, xv V, J, R)) :=
  (st_aload_n f_104_1136 rfl).trans ((sw_iload f_104_1137 rfl).trans ((sw_iload f_104_1139 rfl).trans ((sw_iload f_104_1141 rfl).trans (st_callV' f_104_1143 h_104_157 mn_72 rfl rfl rfl rfl mo_72 g1 rfl))))
theorem bL_isSo_1146 {o0 o1 o2 o3 o4 o5 o6 o7 o8 o9 o10 o11 o12 o13 o14 o15 o16 o17 o18 o19 o20 o21 o23 o24 o25 o26 : Option Value} {x22 y0 : Int} (g1 : -2147483648 ≤ y0 ∧ y0 ≤ 2147483647) (g2 : -2147483648 ≤ x22 ∧ x22 ≤ 2147483647) : XR sc d 104 1146 [o0, o1, o2, o3, o4, o5, o6, o7, o8, o9, o10, o11, o12, o13, o14, o15, o16, o17, o18, o19, o20, o21, some (xw x22), o23, o24, o25, o26] [xw y0] (T, z, xv V, J, R) = if y0 = x22 then XR sc d 104 1151 [o0, o1, o2, o3, o4, o5, o6, o7, o8, o9, o10, o11, o12, o13, o14, o15, o16, o17, o18, o19, o20, o21, some (xw x22), o23, o24, o25, o26] [] (T, z, xv V, J, R) else XR sc d 104 1175 [o0, o1, o2, o3, o4, o5, o6, o7, o8, o9, o10, o11, o12, o13, o14, o15, o16, o17, o18, o19, o20, o21, some (xw x22), o23, o24, o25, o26] [] (T, z, xv V, J, R) :=
  (sw_iload f_104_1146 rfl).trans (sw_icmp_ne (t := 1175) f_104_1148 ⟨by decide, rfl⟩ g1 g2)
theorem bL_isSo_1151 {o1 o2 o3 o4 o5 o6 o8 o9 o10 o11 o12 o13 o14 o15 o16 o17 o18 o19 o20 o21 o22 o23 o24 o25 o26 : Option Value} {a0 a7 : Nat} (g1 : T a7 = (32, (T a7).2)) (g2 : (0 : Int) ≤ 1 ∧ 1 < ((T a7).2 : Int) ∧ (T a7).2 ≤ 3584) : XR sc d 104 1151 [some (.ref a0), o1, o2, o3, o4, o5, o6, some (.ref a7), o8, o9, o10, o11, o12, o13, o14, o15, o16, o17, o18, o19, o20, o21, o22, o23, o24, o25, o26] [] (T, z, xv V, J, R) = xret 104 (XR sc d 104) 1163 1166 [some (.ref a0), o1, o2, o3, o4, o5, o6, some (.ref a7), o8, o9, o10, o11, o12, o13, o14, o15, o16, o17, o18, o19, o20, o21, o22, o23, o24, o25, o26] [] (X sc d 92 [.ref a0, xw 6, xw (V a7 1), xw 0, xw 0, xw 0, xw 0, xw 0] (T, z, xv V, J, R)) :=
  (st_aload_n f_104_1151 rfl).trans ((sw_bipush f_104_1152 c8_6).trans ((st_aload f_104_1154 rfl).trans ((sw_iconst f_104_1156).trans ((sw_iaload f_104_1157 g1 g2).trans ((sw_iconst f_104_1158).trans ((sw_iconst f_104_1159).trans ((sw_iconst f_104_1160).trans ((sw_iconst f_104_1161).trans ((sw_iconst f_104_1162).trans (st_callS' f_104_1163 h_104_124 mn_92 rfl rfl rfl rfl))))))))))
theorem bL_isSo_1166 {o0 o1 o2 o3 o4 o5 o6 o7 o8 o9 o10 o11 o12 o13 o14 o15 o16 o17 o18 o19 o20 o21 o22 o23 o24 o25 o26 : Option Value} {y0 : Int} (g1 : -2147483648 ≤ y0 ∧ y0 ≤ 2147483647) : XR sc d 104 1166 [o0, o1, o2, o3, o4, o5, o6, o7, o8, o9, o10, o11, o12, o13, o14, o15, o16, o17, o18, o19, o20, o21, o22, o23, o24, o25, o26] [xw y0] (T, z, xv V, J, R) = if y0 = (-3000000) then XR sc d 104 1171 [o0, o1, o2, o3, o4, o5, o6, o7, o8, o9, o10, o11, o12, o13, o14, o15, o16, o17, o18, o19, o20, o21, o22, o23, o24, o25, o26] [] (T, z, xv V, J, R) else XR sc d 104 1175 [o0, o1, o2, o3, o4, o5, o6, o7, o8, o9, o10, o11, o12, o13, o14, o15, o16, o17, o18, o19, o20, o21, o22, o23, o24, o25, o26] [] (T, z, xv V, J, R) :=
  (sw_ldc (-3000000) f_104_1166 k_104_79 rfl).trans (sw_icmp_ne (t := 1175) f_104_1168 ⟨by decide, rfl⟩ g1 ⟨by decide, by decide⟩)
theorem bL_isSo_1171 {o0 o1 o2 o3 o4 o5 o6 o7 o8 o9 o10 o11 o12 o13 o14 o15 o16 o17 o18 o19 o20 o21 o22 o23 o24 o25 o26 : Option Value} : XR sc d 104 1171 [o0, o1, o2, o3, o4, o5, o6, o7, o8, o9, o10, o11, o12, o13, o14, o15, o16, o17, o18, o19, o20, o21, o22, o23, o24, o25, o26] [] (T, z, xv V, J, R) = XR sc d 104 1176 [o0, o1, o2, o3, o4, o5, o6, o7, o8, o9, o10, o11, o12, o13, o14, o15, o16, o17, o18, o19, o20, o21, o22, o23, o24, o25, o26] [xw 1] (T, z, xv V, J, R) :=
  (sw_iconst f_104_1171).trans (st_goto (t := 1176) f_104_1172 ⟨by decide, rfl⟩)
theorem bL_isSo_1175 {o0 o1 o2 o3 o4 o5 o6 o7 o8 o9 o10 o11 o12 o13 o14 o15 o16 o17 o18 o19 o20 o21 o22 o23 o24 o25 o26 : Option Value} : XR sc d 104 1175 [o0, o1, o2, o3, o4, o5, o6, o7, o8, o9, o10, o11, o12, o13, o14, o15, o16, o17, o18, o19, o20, o21, o22, o23, o24, o25, o26] [] (T, z, xv V, J, R) = XR sc d 104 1176 [o0, o1, o2, o3, o4, o5, o6, o7, o8, o9, o10, o11, o12, o13, o14, o15, o16, o17, o18, o19, o20, o21, o22, o23, o24, o25, o26] [xw 0] (T, z, xv V, J, R) :=
  sw_iconst f_104_1175
theorem bL_isSo_1176 {o0 o1 o2 o3 o4 o5 o6 o7 o8 o9 o10 o11 o12 o13 o14 o15 o16 o17 o18 o19 o20 o21 o22 o23 o24 o25 o26 : Option Value} {y0 : Int} (g1 : y0 = 0 ∨ y0 = 1) : XR sc d 104 1176 [o0, o1, o2, o3, o4, o5, o6, o7, o8, o9, o10, o11, o12, o13, o14, o15, o16, o17, o18, o19, o20, o21, o22, o23, o24, o25, o26] [xw y0] (T, z, xv V, J, R) = some (.inl (some (xw y0)), (T, z, xv V, J, R)) :=
  sw_zreturn f_104_1176 mr_104 g1
end BLK
