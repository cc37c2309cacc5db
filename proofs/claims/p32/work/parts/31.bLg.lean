/-! instructions, by program (gen2.py) -/
set_option maxRecDepth 100000 in
theorem f_109_0 : xft 109 0 = some (.new 9) := by decide +kernel
set_option maxRecDepth 100000 in
theorem f_109_3 : xft 109 3 = some (.dup) := by decide +kernel
set_option maxRecDepth 100000 in
theorem f_109_4 : xft 109 4 = some (.invokespecial 169) := by decide +kernel
set_option maxRecDepth 100000 in
theorem f_109_7 : xft 109 7 = some (.astore_n 1) := by decide +kernel
set_option maxRecDepth 100000 in
theorem f_109_8 : xft 109 8 = some (.bipush 19) := by decide +kernel
set_option maxRecDepth 100000 in
theorem f_109_10 : xft 109 10 = some (.newarray .int) := by decide +kernel
set_option maxRecDepth 100000 in
theorem f_109_12 : xft 109 12 = some (.astore_n 2) := by decide +kernel
set_option maxRecDepth 100000 in
theorem f_109_13 : xft 109 13 = some (.bipush 11) := by decide +kernel
set_option maxRecDepth 100000 in
theorem f_109_15 : xft 109 15 = some (.newarray .int) := by decide +kernel
set_option maxRecDepth 100000 in
theorem f_109_17 : xft 109 17 = some (.astore_n 3) := by decide +kernel
set_option maxRecDepth 100000 in
theorem f_109_18 : xft 109 18 = some (.bipush 11) := by decide +kernel
set_option maxRecDepth 100000 in
theorem f_109_20 : xft 109 20 = some (.newarray .int) := by decide +kernel
set_option maxRecDepth 100000 in
theorem f_109_22 : xft 109 22 = some (.astore 4) := by decide +kernel
set_option maxRecDepth 100000 in
theorem f_109_24 : xft 109 24 = some (.bipush 11) := by decide +kernel
set_option maxRecDepth 100000 in
theorem f_109_26 : xft 109 26 = some (.newarray .int) := by decide +kernel
set_option maxRecDepth 100000 in
theorem f_109_28 : xft 109 28 = some (.astore 5) := by decide +kernel
set_option maxRecDepth 100000 in
theorem f_109_30 : xft 109 30 = some (.bipush 11) := by decide +kernel
set_option maxRecDepth 100000 in
theorem f_109_32 : xft 109 32 = some (.newarray .int) := by decide +kernel
set_option maxRecDepth 100000 in
theorem f_109_34 : xft 109 34 = some (.astore 6) := by decide +kernel
set_option maxRecDepth 100000 in
theorem f_109_36 : xft 109 36 = some (.bipush 57) := by decide +kernel
set_option maxRecDepth 100000 in
theorem f_109_38 : xft 109 38 = some (.newarray .int) := by decide +kernel
set_option maxRecDepth 100000 in
theorem f_109_40 : xft 109 40 = some (.astore 7) := by decide +kernel
set_option maxRecDepth 100000 in
theorem f_109_42 : xft 109 42 = some (.bipush 56) := by decide +kernel
set_option maxRecDepth 100000 in
theorem f_109_44 : xft 109 44 = some (.newarray .int) := by decide +kernel
set_option maxRecDepth 100000 in
theorem f_109_46 : xft 109 46 = some (.astore 8) := by decide +kernel
set_option maxRecDepth 100000 in
theorem f_109_48 : xft 109 48 = some (.iconst 3) := by decide +kernel
set_option maxRecDepth 100000 in
theorem f_109_49 : xft 109 49 = some (.newarray .int) := by decide +kernel
set_option maxRecDepth 100000 in
theorem f_109_51 : xft 109 51 = some (.astore 9) := by decide +kernel
set_option maxRecDepth 100000 in
theorem f_109_53 : xft 109 53 = some (.aload_n 1) := by decide +kernel
set_option maxRecDepth 100000 in
theorem f_109_54 : xft 109 54 = some (.iconst 3) := by decide +kernel
set_option maxRecDepth 100000 in
theorem f_109_55 : xft 109 55 = some (.iconst 0) := by decide +kernel
set_option maxRecDepth 100000 in
theorem f_109_56 : xft 109 56 = some (.iconst 1) := by decide +kernel
set_option maxRecDepth 100000 in
theorem f_109_57 : xft 109 57 = some (.iconst 1) := by decide +kernel
set_option maxRecDepth 100000 in
theorem f_109_58 : xft 109 58 = some (.iconst 0) := by decide +kernel
set_option maxRecDepth 100000 in
theorem f_109_59 : xft 109 59 = some (.iconst 1) := by decide +kernel
set_option maxRecDepth 100000 in
theorem f_109_60 : xft 109 60 = some (.iconst 0) := by decide +kernel
set_option maxRecDepth 100000 in
theorem f_109_61 : xft 109 61 = some (.invokestatic 124) := by decide +kernel
set_option maxRecDepth 100000 in
theorem f_109_64 : xft 109 64 = some (.ldc 79) := by decide +kernel
set_option maxRecDepth 100000 in
theorem f_109_66 : xft 109 66 = some (.if_icmp .ne 103) := by decide +kernel
set_option maxRecDepth 100000 in
theorem f_109_69 : xft 109 69 = some (.aload_n 1) := by decide +kernel
set_option maxRecDepth 100000 in
theorem f_109_70 : xft 109 70 = some (.bipush 9) := by decide +kernel
set_option maxRecDepth 100000 in
theorem f_109_72 : xft 109 72 = some (.iconst 0) := by decide +kernel
set_option maxRecDepth 100000 in
theorem f_109_73 : xft 109 73 = some (.iconst 0) := by decide +kernel
set_option maxRecDepth 100000 in
theorem f_109_74 : xft 109 74 = some (.iconst 5) := by decide +kernel
set_option maxRecDepth 100000 in
theorem f_109_75 : xft 109 75 = some (.iconst 0) := by decide +kernel
set_option maxRecDepth 100000 in
theorem f_109_76 : xft 109 76 = some (.iconst 0) := by decide +kernel
set_option maxRecDepth 100000 in
theorem f_109_77 : xft 109 77 = some (.iconst 0) := by decide +kernel
set_option maxRecDepth 100000 in
theorem f_109_78 : xft 109 78 = some (.invokestatic 124) := by decide +kernel
set_option maxRecDepth 100000 in
theorem f_109_81 : xft 109 81 = some (.ldc 82) := by decide +kernel
set_option maxRecDepth 100000 in
theorem f_109_83 : xft 109 83 = some (.if_icmp .ne 86) := by decide +kernel
set_option maxRecDepth 100000 in
theorem f_109_86 : xft 109 86 = some (.aload_n 1) := by decide +kernel
set_option maxRecDepth 100000 in
theorem f_109_87 : xft 109 87 = some (.bipush 9) := by decide +kernel
set_option maxRecDepth 100000 in
theorem f_109_89 : xft 109 89 = some (.iconst 0) := by decide +kernel
set_option maxRecDepth 100000 in
theorem f_109_90 : xft 109 90 = some (.iconst 1) := by decide +kernel
set_option maxRecDepth 100000 in
theorem f_109_91 : xft 109 91 = some (.iconst 5) := by decide +kernel
set_option maxRecDepth 100000 in
theorem f_109_92 : xft 109 92 = some (.iconst 0) := by decide +kernel
set_option maxRecDepth 100000 in
theorem f_109_93 : xft 109 93 = some (.iconst 0) := by decide +kernel
set_option maxRecDepth 100000 in
theorem f_109_94 : xft 109 94 = some (.iconst 0) := by decide +kernel
set_option maxRecDepth 100000 in
theorem f_109_95 : xft 109 95 = some (.invokestatic 124) := by decide +kernel
set_option maxRecDepth 100000 in
theorem f_109_98 : xft 109 98 = some (.ldc 85) := by decide +kernel
set_option maxRecDepth 100000 in
theorem f_109_100 : xft 109 100 = some (.if_icmp .ne 69) := by decide +kernel
set_option maxRecDepth 100000 in
theorem f_109_103 : xft 109 103 = some (.aload_n 1) := by decide +kernel
set_option maxRecDepth 100000 in
theorem f_109_104 : xft 109 104 = some (.bipush 18) := by decide +kernel
set_option maxRecDepth 100000 in
theorem f_109_106 : xft 109 106 = some (.iconst 0) := by decide +kernel
set_option maxRecDepth 100000 in
theorem f_109_107 : xft 109 107 = some (.bipush 8) := by decide +kernel
set_option maxRecDepth 100000 in
theorem f_109_109 : xft 109 109 = some (.iconst 0) := by decide +kernel
set_option maxRecDepth 100000 in
theorem f_109_110 : xft 109 110 = some (.iconst 0) := by decide +kernel
set_option maxRecDepth 100000 in
theorem f_109_111 : xft 109 111 = some (.iconst 0) := by decide +kernel
set_option maxRecDepth 100000 in
theorem f_109_112 : xft 109 112 = some (.iconst 0) := by decide +kernel
set_option maxRecDepth 100000 in
theorem f_109_113 : xft 109 113 = some (.invokestatic 124) := by decide +kernel
set_option maxRecDepth 100000 in
theorem f_109_116 : xft 109 116 = some (.ldc 79) := by decide +kernel
set_option maxRecDepth 100000 in
theorem f_109_118 : xft 109 118 = some (.if_icmp .ne 51) := by decide +kernel
set_option maxRecDepth 100000 in
theorem f_109_121 : xft 109 121 = some (.aload_n 1) := by decide +kernel
set_option maxRecDepth 100000 in
theorem f_109_122 : xft 109 122 = some (.bipush 19) := by decide +kernel
set_option maxRecDepth 100000 in
theorem f_109_124 : xft 109 124 = some (.iconst 0) := by decide +kernel
set_option maxRecDepth 100000 in
theorem f_109_125 : xft 109 125 = some (.iconst 1) := by decide +kernel
set_option maxRecDepth 100000 in
theorem f_109_126 : xft 109 126 = some (.iconst (-1)) := by decide +kernel
set_option maxRecDepth 100000 in
theorem f_109_127 : xft 109 127 = some (.iconst 0) := by decide +kernel
set_option maxRecDepth 100000 in
theorem f_109_128 : xft 109 128 = some (.iconst 0) := by decide +kernel
set_option maxRecDepth 100000 in
theorem f_109_129 : xft 109 129 = some (.iconst 0) := by decide +kernel
set_option maxRecDepth 100000 in
theorem f_109_130 : xft 109 130 = some (.invokestatic 124) := by decide +kernel
set_option maxRecDepth 100000 in
theorem f_109_133 : xft 109 133 = some (.ldc 79) := by decide +kernel
set_option maxRecDepth 100000 in
theorem f_109_135 : xft 109 135 = some (.if_icmp .ne 34) := by decide +kernel
set_option maxRecDepth 100000 in
theorem f_109_138 : xft 109 138 = some (.aload_n 1) := by decide +kernel
set_option maxRecDepth 100000 in
theorem f_109_139 : xft 109 139 = some (.bipush 16) := by decide +kernel
set_option maxRecDepth 100000 in
theorem f_109_141 : xft 109 141 = some (.iconst 0) := by decide +kernel
set_option maxRecDepth 100000 in
theorem f_109_142 : xft 109 142 = some (.iconst 0) := by decide +kernel
set_option maxRecDepth 100000 in
theorem f_109_143 : xft 109 143 = some (.iconst 0) := by decide +kernel
set_option maxRecDepth 100000 in
theorem f_109_144 : xft 109 144 = some (.iconst 0) := by decide +kernel
set_option maxRecDepth 100000 in
theorem f_109_145 : xft 109 145 = some (.iconst 0) := by decide +kernel
set_option maxRecDepth 100000 in
theorem f_109_146 : xft 109 146 = some (.iconst 0) := by decide +kernel
set_option maxRecDepth 100000 in
theorem f_109_147 : xft 109 147 = some (.invokestatic 124) := by decide +kernel
set_option maxRecDepth 100000 in
theorem f_109_150 : xft 109 150 = some (.ldc 82) := by decide +kernel
set_option maxRecDepth 100000 in
theorem f_109_152 : xft 109 152 = some (.if_icmp .ne 17) := by decide +kernel
set_option maxRecDepth 100000 in
theorem f_109_155 : xft 109 155 = some (.aload_n 1) := by decide +kernel
set_option maxRecDepth 100000 in
theorem f_109_156 : xft 109 156 = some (.iconst 2) := by decide +kernel
set_option maxRecDepth 100000 in
theorem f_109_157 : xft 109 157 = some (.iconst 3) := by decide +kernel
set_option maxRecDepth 100000 in
theorem f_109_158 : xft 109 158 = some (.invokevirtual 71) := by decide +kernel
set_option maxRecDepth 100000 in
theorem f_109_161 : xft 109 161 = some (.iconst (-1)) := by decide +kernel
set_option maxRecDepth 100000 in
theorem f_109_162 : xft 109 162 = some (.if_icmp .ne 7) := by decide +kernel
set_option maxRecDepth 100000 in
theorem f_109_165 : xft 109 165 = some (.iconst 1) := by decide +kernel
set_option maxRecDepth 100000 in
theorem f_109_166 : xft 109 166 = some (.goto 4) := by decide +kernel
set_option maxRecDepth 100000 in
theorem f_109_169 : xft 109 169 = some (.iconst 0) := by decide +kernel
set_option maxRecDepth 100000 in
theorem f_109_170 : xft 109 170 = some (.istore 10) := by decide +kernel
set_option maxRecDepth 100000 in
theorem f_109_172 : xft 109 172 = some (.iconst 0) := by decide +kernel
set_option maxRecDepth 100000 in
theorem f_109_173 : xft 109 173 = some (.istore 11) := by decide +kernel
set_option maxRecDepth 100000 in
theorem f_109_175 : xft 109 175 = some (.iload 11) := by decide +kernel
set_option maxRecDepth 100000 in
theorem f_109_177 : xft 109 177 = some (.bipush 64) := by decide +kernel
set_option maxRecDepth 100000 in
theorem f_109_179 : xft 109 179 = some (.if_icmp .ge 346) := by decide +kernel
set_option maxRecDepth 100000 in
theorem f_109_182 : xft 109 182 = some (.iload 10) := by decide +kernel
set_option maxRecDepth 100000 in
theorem f_109_184 : xft 109 184 = some (.ifCond .eq 341) := by decide +kernel
set_option maxRecDepth 100000 in
theorem f_109_187 : xft 109 187 = some (.iload 11) := by decide +kernel
set_option maxRecDepth 100000 in
theorem f_109_189 : xft 109 189 = some (.iconst 2) := by decide +kernel
set_option maxRecDepth 100000 in
theorem f_109_190 : xft 109 190 = some (.if_icmp .ge 7) := by decide +kernel
set_option maxRecDepth 100000 in
theorem f_109_193 : xft 109 193 = some (.iconst 0) := by decide +kernel
set_option maxRecDepth 100000 in
theorem f_109_194 : xft 109 194 = some (.goto 48) := by decide +kernel
set_option maxRecDepth 100000 in
theorem f_109_197 : xft 109 197 = some (.iload 11) := by decide +kernel
set_option maxRecDepth 100000 in
theorem f_109_199 : xft 109 199 = some (.bipush 8) := by decide +kernel
set_option maxRecDepth 100000 in
theorem f_109_201 : xft 109 201 = some (.if_icmp .ge 7) := by decide +kernel
set_option maxRecDepth 100000 in
theorem f_109_204 : xft 109 204 = some (.iconst 3) := by decide +kernel
set_option maxRecDepth 100000 in
theorem f_109_205 : xft 109 205 = some (.goto 37) := by decide +kernel
set_option maxRecDepth 100000 in
theorem f_109_208 : xft 109 208 = some (.iload 11) := by decide +kernel
set_option maxRecDepth 100000 in
theorem f_109_210 : xft 109 210 = some (.bipush 12) := by decide +kernel
set_option maxRecDepth 100000 in
theorem f_109_212 : xft 109 212 = some (.if_icmp .ge 8) := by decide +kernel
set_option maxRecDepth 100000 in
theorem f_109_215 : xft 109 215 = some (.bipush 16) := by decide +kernel
set_option maxRecDepth 100000 in
theorem f_109_217 : xft 109 217 = some (.goto 25) := by decide +kernel
set_option maxRecDepth 100000 in
theorem f_109_220 : xft 109 220 = some (.iload 11) := by decide +kernel
set_option maxRecDepth 100000 in
theorem f_109_222 : xft 109 222 = some (.bipush 14) := by decide +kernel
set_option maxRecDepth 100000 in
theorem f_109_224 : xft 109 224 = some (.if_icmp .ge 8) := by decide +kernel
set_option maxRecDepth 100000 in
theorem f_109_227 : xft 109 227 = some (.bipush 24) := by decide +kernel
set_option maxRecDepth 100000 in
theorem f_109_229 : xft 109 229 = some (.goto 13) := by decide +kernel
set_option maxRecDepth 100000 in
theorem f_109_232 : xft 109 232 = some (.aload_n 0) := by decide +kernel
set_option maxRecDepth 100000 in
theorem f_109_233 : xft 109 233 = some (.iconst 3) := by decide +kernel
set_option maxRecDepth 100000 in
theorem f_109_234 : xft 109 234 = some (.iload 11) := by decide +kernel
set_option maxRecDepth 100000 in
theorem f_109_236 : xft 109 236 = some (.imul) := by decide +kernel
set_option maxRecDepth 100000 in
theorem f_109_237 : xft 109 237 = some (.bipush 52) := by decide +kernel
set_option maxRecDepth 100000 in
theorem f_109_239 : xft 109 239 = some (.invokestatic 170) := by decide +kernel
set_option maxRecDepth 100000 in
theorem f_109_242 : xft 109 242 = some (.istore 12) := by decide +kernel
set_option maxRecDepth 100000 in
theorem f_109_244 : xft 109 244 = some (.aload_n 0) := by decide +kernel
set_option maxRecDepth 100000 in
theorem f_109_245 : xft 109 245 = some (.iconst 3) := by decide +kernel
set_option maxRecDepth 100000 in
theorem f_109_246 : xft 109 246 = some (.iload 11) := by decide +kernel
set_option maxRecDepth 100000 in
theorem f_109_248 : xft 109 248 = some (.imul) := by decide +kernel
set_option maxRecDepth 100000 in
theorem f_109_249 : xft 109 249 = some (.iconst 1) := by decide +kernel
set_option maxRecDepth 100000 in
theorem f_109_250 : xft 109 250 = some (.iadd) := by decide +kernel
set_option maxRecDepth 100000 in
theorem f_109_251 : xft 109 251 = some (.ldc 173) := by decide +kernel
set_option maxRecDepth 100000 in
theorem f_109_253 : xft 109 253 = some (.invokestatic 170) := by decide +kernel
set_option maxRecDepth 100000 in
theorem f_109_256 : xft 109 256 = some (.istore 13) := by decide +kernel
set_option maxRecDepth 100000 in
theorem f_109_258 : xft 109 258 = some (.aload_n 0) := by decide +kernel
set_option maxRecDepth 100000 in
theorem f_109_259 : xft 109 259 = some (.iconst 3) := by decide +kernel
set_option maxRecDepth 100000 in
theorem f_109_260 : xft 109 260 = some (.iload 11) := by decide +kernel
set_option maxRecDepth 100000 in
theorem f_109_262 : xft 109 262 = some (.imul) := by decide +kernel
set_option maxRecDepth 100000 in
theorem f_109_263 : xft 109 263 = some (.iconst 2) := by decide +kernel
set_option maxRecDepth 100000 in
theorem f_109_264 : xft 109 264 = some (.iadd) := by decide +kernel
set_option maxRecDepth 100000 in
theorem f_109_265 : xft 109 265 = some (.ldc 173) := by decide +kernel
set_option maxRecDepth 100000 in
theorem f_109_267 : xft 109 267 = some (.invokestatic 170) := by decide +kernel
set_option maxRecDepth 100000 in
theorem f_109_270 : xft 109 270 = some (.istore 14) := by decide +kernel
set_option maxRecDepth 100000 in
theorem f_109_272 : xft 109 272 = some (.iload 12) := by decide +kernel
set_option maxRecDepth 100000 in
theorem f_109_274 : xft 109 274 = some (.bipush 12) := by decide +kernel
set_option maxRecDepth 100000 in
theorem f_109_276 : xft 109 276 = some (.if_icmp .ge 49) := by decide +kernel
set_option maxRecDepth 100000 in
theorem f_109_279 : xft 109 279 = some (.aload_n 1) := by decide +kernel
set_option maxRecDepth 100000 in
theorem f_109_280 : xft 109 280 = some (.aload_n 2) := by decide +kernel
set_option maxRecDepth 100000 in
theorem f_109_281 : xft 109 281 = some (.aload_n 3) := by decide +kernel
set_option maxRecDepth 100000 in
theorem f_109_282 : xft 109 282 = some (.aload 4) := by decide +kernel
set_option maxRecDepth 100000 in
theorem f_109_284 : xft 109 284 = some (.aload 5) := by decide +kernel
set_option maxRecDepth 100000 in
theorem f_109_286 : xft 109 286 = some (.aload 6) := by decide +kernel
set_option maxRecDepth 100000 in
theorem f_109_288 : xft 109 288 = some (.aload 9) := by decide +kernel
set_option maxRecDepth 100000 in
theorem f_109_290 : xft 109 290 = some (.iload 12) := by decide +kernel
set_option maxRecDepth 100000 in
theorem f_109_292 : xft 109 292 = some (.iconst 3) := by decide +kernel
set_option maxRecDepth 100000 in
theorem f_109_293 : xft 109 293 = some (.if_icmp .ge 8) := by decide +kernel
set_option maxRecDepth 100000 in
theorem f_109_296 : xft 109 296 = some (.iload 12) := by decide +kernel
set_option maxRecDepth 100000 in
theorem f_109_298 : xft 109 298 = some (.goto 15) := by decide +kernel
set_option maxRecDepth 100000 in
theorem f_109_301 : xft 109 301 = some (.iload 12) := by decide +kernel
set_option maxRecDepth 100000 in
theorem f_109_303 : xft 109 303 = some (.bipush 9) := by decide +kernel
set_option maxRecDepth 100000 in
theorem f_109_305 : xft 109 305 = some (.if_icmp .ge 7) := by decide +kernel
set_option maxRecDepth 100000 in
theorem f_109_308 : xft 109 308 = some (.iconst 2) := by decide +kernel
set_option maxRecDepth 100000 in
theorem f_109_309 : xft 109 309 = some (.goto 4) := by decide +kernel
set_option maxRecDepth 100000 in
theorem f_109_312 : xft 109 312 = some (.iconst 3) := by decide +kernel
set_option maxRecDepth 100000 in
theorem f_109_313 : xft 109 313 = some (.iload 13) := by decide +kernel
set_option maxRecDepth 100000 in
theorem f_109_315 : xft 109 315 = some (.iload 14) := by decide +kernel
set_option maxRecDepth 100000 in
theorem f_109_317 : xft 109 317 = some (.invokestatic 174) := by decide +kernel
set_option maxRecDepth 100000 in
theorem f_109_320 : xft 109 320 = some (.istore 10) := by decide +kernel
set_option maxRecDepth 100000 in
theorem f_109_322 : xft 109 322 = some (.goto 161) := by decide +kernel
set_option maxRecDepth 100000 in
theorem f_109_325 : xft 109 325 = some (.iload 12) := by decide +kernel
set_option maxRecDepth 100000 in
theorem f_109_327 : xft 109 327 = some (.bipush 38) := by decide +kernel
set_option maxRecDepth 100000 in
theorem f_109_329 : xft 109 329 = some (.if_icmp .ge 93) := by decide +kernel
set_option maxRecDepth 100000 in
theorem f_109_332 : xft 109 332 = some (.aload_n 1) := by decide +kernel
set_option maxRecDepth 100000 in
theorem f_109_333 : xft 109 333 = some (.aload_n 3) := by decide +kernel
set_option maxRecDepth 100000 in
theorem f_109_334 : xft 109 334 = some (.aload 4) := by decide +kernel
set_option maxRecDepth 100000 in
theorem f_109_336 : xft 109 336 = some (.aload 5) := by decide +kernel
set_option maxRecDepth 100000 in
theorem f_109_338 : xft 109 338 = some (.aload 6) := by decide +kernel
set_option maxRecDepth 100000 in
theorem f_109_340 : xft 109 340 = some (.aload 9) := by decide +kernel
set_option maxRecDepth 100000 in
theorem f_109_342 : xft 109 342 = some (.iload 12) := by decide +kernel
set_option maxRecDepth 100000 in
theorem f_109_344 : xft 109 344 = some (.bipush 12) := by decide +kernel
set_option maxRecDepth 100000 in
theorem f_109_346 : xft 109 346 = some (.if_icmp .ne 7) := by decide +kernel
set_option maxRecDepth 100000 in
theorem f_109_349 : xft 109 349 = some (.iconst 0) := by decide +kernel
set_option maxRecDepth 100000 in
theorem f_109_350 : xft 109 350 = some (.goto 60) := by decide +kernel
set_option maxRecDepth 100000 in
theorem f_109_353 : xft 109 353 = some (.iload 12) := by decide +kernel
set_option maxRecDepth 100000 in
theorem f_109_355 : xft 109 355 = some (.bipush 19) := by decide +kernel
set_option maxRecDepth 100000 in
theorem f_109_357 : xft 109 357 = some (.if_icmp .ge 7) := by decide +kernel
set_option maxRecDepth 100000 in
theorem f_109_360 : xft 109 360 = some (.iconst 1) := by decide +kernel
set_option maxRecDepth 100000 in
theorem f_109_361 : xft 109 361 = some (.goto 49) := by decide +kernel
set_option maxRecDepth 100000 in
theorem f_109_364 : xft 109 364 = some (.iload 12) := by decide +kernel
set_option maxRecDepth 100000 in
theorem f_109_366 : xft 109 366 = some (.bipush 27) := by decide +kernel
set_option maxRecDepth 100000 in
theorem f_109_368 : xft 109 368 = some (.if_icmp .ge 7) := by decide +kernel
set_option maxRecDepth 100000 in
theorem f_109_371 : xft 109 371 = some (.iconst 2) := by decide +kernel
set_option maxRecDepth 100000 in
theorem f_109_372 : xft 109 372 = some (.goto 38) := by decide +kernel
set_option maxRecDepth 100000 in
theorem f_109_375 : xft 109 375 = some (.iload 12) := by decide +kernel
set_option maxRecDepth 100000 in
theorem f_109_377 : xft 109 377 = some (.bipush 27) := by decide +kernel
set_option maxRecDepth 100000 in
theorem f_109_379 : xft 109 379 = some (.if_icmp .ne 7) := by decide +kernel
set_option maxRecDepth 100000 in
theorem f_109_382 : xft 109 382 = some (.iconst 3) := by decide +kernel
set_option maxRecDepth 100000 in
theorem f_109_383 : xft 109 383 = some (.goto 27) := by decide +kernel
set_option maxRecDepth 100000 in
theorem f_109_386 : xft 109 386 = some (.iload 12) := by decide +kernel
set_option maxRecDepth 100000 in
theorem f_109_388 : xft 109 388 = some (.bipush 35) := by decide +kernel
set_option maxRecDepth 100000 in
theorem f_109_390 : xft 109 390 = some (.if_icmp .ge 7) := by decide +kernel
set_option maxRecDepth 100000 in
theorem f_109_393 : xft 109 393 = some (.iconst 4) := by decide +kernel
set_option maxRecDepth 100000 in
theorem f_109_394 : xft 109 394 = some (.goto 16) := by decide +kernel
set_option maxRecDepth 100000 in
theorem f_109_397 : xft 109 397 = some (.iload 12) := by decide +kernel
set_option maxRecDepth 100000 in
theorem f_109_399 : xft 109 399 = some (.bipush 35) := by decide +kernel
set_option maxRecDepth 100000 in
theorem f_109_401 : xft 109 401 = some (.if_icmp .ne 7) := by decide +kernel
set_option maxRecDepth 100000 in
theorem f_109_404 : xft 109 404 = some (.iconst 5) := by decide +kernel
set_option maxRecDepth 100000 in
theorem f_109_405 : xft 109 405 = some (.goto 5) := by decide +kernel
set_option maxRecDepth 100000 in
theorem f_109_408 : xft 109 408 = some (.bipush 6) := by decide +kernel
set_option maxRecDepth 100000 in
theorem f_109_410 : xft 109 410 = some (.iload 13) := by decide +kernel
set_option maxRecDepth 100000 in
theorem f_109_412 : xft 109 412 = some (.iload 14) := by decide +kernel
set_option maxRecDepth 100000 in
theorem f_109_414 : xft 109 414 = some (.invokestatic 178) := by decide +kernel
set_option maxRecDepth 100000 in
theorem f_109_417 : xft 109 417 = some (.istore 10) := by decide +kernel
set_option maxRecDepth 100000 in
theorem f_109_419 : xft 109 419 = some (.goto 64) := by decide +kernel
set_option maxRecDepth 100000 in
theorem f_109_422 : xft 109 422 = some (.aload_n 1) := by decide +kernel
set_option maxRecDepth 100000 in
theorem f_109_423 : xft 109 423 = some (.aload 7) := by decide +kernel
set_option maxRecDepth 100000 in
theorem f_109_425 : xft 109 425 = some (.aload 8) := by decide +kernel
set_option maxRecDepth 100000 in
theorem f_109_427 : xft 109 427 = some (.aload 9) := by decide +kernel
set_option maxRecDepth 100000 in
theorem f_109_429 : xft 109 429 = some (.iload 12) := by decide +kernel
set_option maxRecDepth 100000 in
theorem f_109_431 : xft 109 431 = some (.bipush 41) := by decide +kernel
set_option maxRecDepth 100000 in
theorem f_109_433 : xft 109 433 = some (.if_icmp .ge 7) := by decide +kernel
set_option maxRecDepth 100000 in
theorem f_109_436 : xft 109 436 = some (.iconst 0) := by decide +kernel
set_option maxRecDepth 100000 in
theorem f_109_437 : xft 109 437 = some (.goto 37) := by decide +kernel
set_option maxRecDepth 100000 in
theorem f_109_440 : xft 109 440 = some (.iload 12) := by decide +kernel
set_option maxRecDepth 100000 in
theorem f_109_442 : xft 109 442 = some (.bipush 44) := by decide +kernel
set_option maxRecDepth 100000 in
theorem f_109_444 : xft 109 444 = some (.if_icmp .ge 7) := by decide +kernel
set_option maxRecDepth 100000 in
theorem f_109_447 : xft 109 447 = some (.iconst 1) := by decide +kernel
set_option maxRecDepth 100000 in
theorem f_109_448 : xft 109 448 = some (.goto 26) := by decide +kernel
set_option maxRecDepth 100000 in
theorem f_109_451 : xft 109 451 = some (.iload 12) := by decide +kernel
set_option maxRecDepth 100000 in
theorem f_109_453 : xft 109 453 = some (.bipush 46) := by decide +kernel
set_option maxRecDepth 100000 in
theorem f_109_455 : xft 109 455 = some (.if_icmp .ge 7) := by decide +kernel
set_option maxRecDepth 100000 in
theorem f_109_458 : xft 109 458 = some (.iconst 2) := by decide +kernel
set_option maxRecDepth 100000 in
theorem f_109_459 : xft 109 459 = some (.goto 15) := by decide +kernel
set_option maxRecDepth 100000 in
theorem f_109_462 : xft 109 462 = some (.iload 12) := by decide +kernel
set_option maxRecDepth 100000 in
theorem f_109_464 : xft 109 464 = some (.bipush 51) := by decide +kernel
set_option maxRecDepth 100000 in
theorem f_109_466 : xft 109 466 = some (.if_icmp .ge 7) := by decide +kernel
set_option maxRecDepth 100000 in
theorem f_109_469 : xft 109 469 = some (.iconst 3) := by decide +kernel
set_option maxRecDepth 100000 in
theorem f_109_470 : xft 109 470 = some (.goto 4) := by decide +kernel
set_option maxRecDepth 100000 in
theorem f_109_473 : xft 109 473 = some (.iconst 4) := by decide +kernel
set_option maxRecDepth 100000 in
theorem f_109_474 : xft 109 474 = some (.iload 13) := by decide +kernel
set_option maxRecDepth 100000 in
theorem f_109_476 : xft 109 476 = some (.iload 14) := by decide +kernel
set_option maxRecDepth 100000 in
theorem f_109_478 : xft 109 478 = some (.invokestatic 182) := by decide +kernel
set_option maxRecDepth 100000 in
theorem f_109_481 : xft 109 481 = some (.istore 10) := by decide +kernel
set_option maxRecDepth 100000 in
theorem f_109_483 : xft 109 483 = some (.iload 10) := by decide +kernel
set_option maxRecDepth 100000 in
theorem f_109_485 : xft 109 485 = some (.ifCond .eq 31) := by decide +kernel
set_option maxRecDepth 100000 in
theorem f_109_488 : xft 109 488 = some (.aload_n 1) := by decide +kernel
set_option maxRecDepth 100000 in
theorem f_109_489 : xft 109 489 = some (.aload_n 3) := by decide +kernel
set_option maxRecDepth 100000 in
theorem f_109_490 : xft 109 490 = some (.aload 4) := by decide +kernel
set_option maxRecDepth 100000 in
theorem f_109_492 : xft 109 492 = some (.aload 5) := by decide +kernel
set_option maxRecDepth 100000 in
theorem f_109_494 : xft 109 494 = some (.aload 6) := by decide +kernel
set_option maxRecDepth 100000 in
theorem f_109_496 : xft 109 496 = some (.aload 7) := by decide +kernel
set_option maxRecDepth 100000 in
theorem f_109_498 : xft 109 498 = some (.aload 8) := by decide +kernel
set_option maxRecDepth 100000 in
theorem f_109_500 : xft 109 500 = some (.aload 9) := by decide +kernel
set_option maxRecDepth 100000 in
theorem f_109_502 : xft 109 502 = some (.iload 13) := by decide +kernel
set_option maxRecDepth 100000 in
theorem f_109_504 : xft 109 504 = some (.iload 14) := by decide +kernel
set_option maxRecDepth 100000 in
theorem f_109_506 : xft 109 506 = some (.invokestatic 186) := by decide +kernel
set_option maxRecDepth 100000 in
theorem f_109_509 : xft 109 509 = some (.ifCond .eq 7) := by decide +kernel
set_option maxRecDepth 100000 in
theorem f_109_512 : xft 109 512 = some (.iconst 1) := by decide +kernel
set_option maxRecDepth 100000 in
theorem f_109_513 : xft 109 513 = some (.goto 4) := by decide +kernel
set_option maxRecDepth 100000 in
theorem f_109_516 : xft 109 516 = some (.iconst 0) := by decide +kernel
set_option maxRecDepth 100000 in
theorem f_109_517 : xft 109 517 = some (.istore 10) := by decide +kernel
set_option maxRecDepth 100000 in
theorem f_109_519 : xft 109 519 = some (.iinc 11 1) := by decide +kernel
set_option maxRecDepth 100000 in
theorem f_109_522 : xft 109 522 = some (.goto (-347)) := by decide +kernel
set_option maxRecDepth 100000 in
theorem f_109_525 : xft 109 525 = some (.iload 10) := by decide +kernel
set_option maxRecDepth 100000 in
theorem f_109_527 : xft 109 527 = some (.ireturn) := by decide +kernel
/-! blocks, by program (gen2.py) -/
section BLK
variable {sc : xS} {d : Nat} {T : Nat → Nat × Nat} {z : Nat × Nat} {V : Nat → Nat → Int} {J : Nat → Nat → Int64} {R : Nat → Nat → Option Nat}
theorem eL_law : X sc (d + 1) 109 [.retAddr 0] (T, z, xv V, J, R) = XR sc d 109 0 [some (.retAddr 0), none, none, none, none, none, none, none, none, none, none, none, none, none, none] [] (T, z, xv V, J, R) :=
  (X_eq ⟨jl_109, by rw [mn_109]; rfl, rfl, by rw [lm_109]; exact Nat.le_of_ble_eq_true rfl⟩).trans (by unfold xent; rw [lm_109]; rfl)
theorem bL_law_0 {o0 o1 o2 o3 o4 o5 o6 o7 o8 o9 o10 o11 o12 o13 o14 : Option Value} (g1 : (va_up T z.1 (7, 0)) z.1 = (7, 0)) : XR sc d 109 0 [o0, o1, o2, o3, o4, o5, o6, o7, o8, o9, o10, o11, o12, o13, o14] [] (T, z, xv V, J, R) = xret 109 (XR sc d 109) 4 7 [o0, o1, o2, o3, o4, o5, o6, o7, o8, o9, o10, o11, o12, o13, o14] [.ref z.1] (X sc d 49 [.ref z.1] ((va_up T z.1 (7, 0)), (z.1 + 1, z.2 + 9), xv (va_up V z.1 (fun _ => 0)), (va_up J z.1 (fun _ => 0)), (va_up R z.1 (fun _ => none)))) :=
  (sw_new f_109_0 q_109_9 (by decide)).trans ((st_dup f_109_3 rfl).trans (st_callI' f_109_4 h_109_169 mn_49 rfl rfl rfl rfl mo_49 g1 rfl))
theorem bL_law_7 {o0 o1 o2 o3 o4 o5 o6 o7 o8 o9 o10 o11 o12 o13 o14 : Option Value} {b0 : Nat} : XR sc d 109 7 [o0, o1, o2, o3, o4, o5, o6, o7, o8, o9, o10, o11, o12, o13, o14] [.ref b0] (T, z, xv V, J, R) = xret 109 (XR sc d 109) 61 64 [o0, some (.ref b0), some (.ref z.1), some (.ref (z.1 + 1)), some (.ref (z.1 + 2)), some (.ref (z.1 + 3)), some (.ref (z.1 + 4)), some (.ref (z.1 + 5)), some (.ref (z.1 + 6)), some (.ref (z.1 + 7)), o10, o11, o12, o13, o14] [] (X sc d 92 [.ref b0, xw 3, xw 0, xw 1, xw 1, xw 0, xw 1, xw 0] ((va_up (va_up (va_up (va_up (va_up (va_up (va_up (va_up T z.1 (32, 19)) (z.1 + 1) (32, 11)) (z.1 + 2) (32, 11)) (z.1 + 3) (32, 11)) (z.1 + 4) (32, 11)) (z.1 + 5) (32, 57)) (z.1 + 6) (32, 56)) (z.1 + 7) (32, 3)), (z.1 + 8, z.2 + 19 + 11 + 11 + 11 + 11 + 57 + 56 + 3), xv (va_up (va_up (va_up (va_up (va_up (va_up (va_up (va_up V z.1 (fun _ => 0)) (z.1 + 1) (fun _ => 0)) (z.1 + 2) (fun _ => 0)) (z.1 + 3) (fun _ => 0)) (z.1 + 4) (fun _ => 0)) (z.1 + 5) (fun _ => 0)) (z.1 + 6) (fun _ => 0)) (z.1 + 7) (fun _ => 0)), (va_up (va_up (va_up (va_up (va_up (va_up (va_up (va_up J z.1 (fun _ => 0)) (z.1 + 1) (fun _ => 0)) (z.1 + 2) (fun _ => 0)) (z.1 + 3) (fun _ => 0)) (z.1 + 4) (fun _ => 0)) (z.1 + 5) (fun _ => 0)) (z.1 + 6) (fun _ => 0)) (z.1 + 7) (fun _ => 0)), (va_up (va_up (va_up (va_up (va_up (va_up (va_up (va_up R z.1 (fun _ => none)) (z.1 + 1) (fun _ => none)) (z.1 + 2) (fun _ => none)) (z.1 + 3) (fun _ => none)) (z.1 + 4) (fun _ => none)) (z.1 + 5) (fun _ => none)) (z.1 + 6) (fun _ => none)) (z.1 + 7) (fun _ => none)))) :=
  (st_astore_n (L' := [o0, some (.ref b0), o2, o3, o4, o5, o6, o7, o8, o9, o10, o11, o12, o13, o14]) f_109_7 (Nat.le_of_ble_eq_true rfl) rfl).trans ((sw_bipush f_109_8 c8_19).trans ((sw_newI 19 f_109_10 ⟨rfl, by decide⟩).trans ((st_astore_n (L' := [o0, some (.ref b0), some (.ref z.1), o3, o4, o5, o6, o7, o8, o9, o10, o11, o12, o13, o14]) f_109_12 (Nat.le_of_ble_eq_true rfl) rfl).trans ((sw_bipush f_109_13 c8_11).trans ((sw_newI 11 f_109_15 ⟨rfl, by decide⟩).trans ((st_astore_n (L' := [o0, some (.ref b0), some (.ref z.1), some (.ref (z.1 + 1)), o4, o5, o6, o7, o8, o9, o10, o11, o12, o13, o14]) f_109_17 (Nat.le_of_ble_eq_true rfl) rfl).trans ((sw_bipush f_109_18 c8_11).trans ((sw_newI 11 f_109_20 ⟨rfl, by decide⟩).trans ((st_astore (L' := [o0, some (.ref b0), some (.ref z.1), some (.ref (z.1 + 1)), some (.ref (z.1 + 2)), o5, o6, o7, o8, o9, o10, o11, o12, o13, o14]) f_109_22 (Nat.le_of_ble_eq_true rfl) rfl).trans ((sw_bipush f_109_24 c8_11).trans ((sw_newI 11 f_109_26 ⟨rfl, by decide⟩).trans ((st_astore (L' := [o0, some (.ref b0), some (.ref z.1), some (.ref (z.1 + 1)), some (.ref (z.1 + 2)), some (.ref (z.1 + 3)), o6, o7, o8, o9, o10, o11, o12, o13, o14]) f_109_28 (Nat.le_of_ble_eq_true rfl) rfl).trans ((sw_bipush f_109_30 c8_11).trans ((sw_newI 11 f_109_32 ⟨rfl, by decide⟩).trans ((st_astore (L' := [o0, some (.ref b0), some (.ref z.1), some (.ref (z.1 + 1)), some (.ref (z.1 + 2)), some (.ref (z.1 + 3)), some (.ref (z.1 + 4)), o7, o8, o9, o10, o11, o12, o13, o14]) f_109_34 (Nat.le_of_ble_eq_true rfl) rfl).trans ((sw_bipush f_109_36 c8_57).trans ((sw_newI 57 f_109_38 ⟨rfl, by decide⟩).trans ((st_astore (L' := [o0, some (.ref b0), some (.ref z.1), some (.ref (z.1 + 1)), some (.ref (z.1 + 2)), some (.ref (z.1 + 3)), some (.ref (z.1 + 4)), some (.ref (z.1 + 5)), o8, o9, o10, o11, o12, o13, o14]) f_109_40 (Nat.le_of_ble_eq_true rfl) rfl).trans ((sw_bipush f_109_42 c8_56).trans ((sw_newI 56 f_109_44 ⟨rfl, by decide⟩).trans ((st_astore (L' := [o0, some (.ref b0), some (.ref z.1), some (.ref (z.1 + 1)), some (.ref (z.1 + 2)), some (.ref (z.1 + 3)), some (.ref (z.1 + 4)), some (.ref (z.1 + 5)), some (.ref (z.1 + 6)), o9, o10, o11, o12, o13, o14]) f_109_46 (Nat.le_of_ble_eq_true rfl) rfl).trans ((sw_iconst f_109_48).trans ((sw_newI 3 f_109_49 ⟨rfl, by decide⟩).trans ((st_astore (L' := [o0, some (.ref b0), some (.ref z.1), some (.ref (z.1 + 1)), some (.ref (z.1 + 2)), some (.ref (z.1 + 3)), some (.ref (z.1 + 4)), some (.ref (z.1 + 5)), some (.ref (z.1 + 6)), some (.ref (z.1 + 7)), o10, o11, o12, o13, o14]) f_109_51 (Nat.le_of_ble_eq_true rfl) rfl).trans ((st_aload_n f_109_53 rfl).trans ((sw_iconst f_109_54).trans ((sw_iconst f_109_55).trans ((sw_iconst f_109_56).trans ((sw_iconst f_109_57).trans ((sw_iconst f_109_58).trans ((sw_iconst f_109_59).trans ((sw_iconst f_109_60).trans (st_callS' f_109_61 h_109_124 mn_92 rfl rfl rfl rfl)))))))))))))))))))))))))))))))))
theorem bL_law_64 {o0 o1 o2 o3 o4 o5 o6 o7 o8 o9 o10 o11 o12 o13 o14 : Option Value} {y0 : Int} (g1 : -2147483648 ≤ y0 ∧ y0 ≤ 2147483647) : XR sc d 109 64 [o0, o1, o2, o3, o4, o5, o6, o7, o8, o9, o10, o11, o12, o13, o14] [xw y0] (T, z, xv V, J, R) = if y0 = (-3000000) then XR sc d 109 69 [o0, o1, o2, o3, o4, o5, o6, o7, o8, o9, o10, o11, o12, o13, o14] [] (T, z, xv V, J, R) else XR sc d 109 169 [o0, o1, o2, o3, o4, o5, o6, o7, o8, o9, o10, o11, o12, o13, o14] [] (T, z, xv V, J, R) :=
  (sw_ldc (-3000000) f_109_64 k_109_79 rfl).trans (sw_icmp_ne (t := 169) f_109_66 ⟨by decide, rfl⟩ g1 ⟨by decide, by decide⟩)
theorem bL_law_69 {o0 o2 o3 o4 o5 o6 o7 o8 o9 o10 o11 o12 o13 o14 : Option Value} {a1 : Nat} : XR sc d 109 69 [o0, some (.ref a1), o2, o3, o4, o5, o6, o7, o8, o9, o10, o11, o12, o13, o14] [] (T, z, xv V, J, R) = xret 109 (XR sc d 109) 78 81 [o0, some (.ref a1), o2, o3, o4, o5, o6, o7, o8, o9, o10, o11, o12, o13, o14] [] (X sc d 92 [.ref a1, xw 9, xw 0, xw 0, xw 5, xw 0, xw 0, xw 0] (T, z, xv V, J, R)) :=
  (st_aload_n f_109_69 rfl).trans ((sw_bipush f_109_70 c8_9).trans ((sw_iconst f_109_72).trans ((sw_iconst f_109_73).trans ((sw_iconst f_109_74).trans ((sw_iconst f_109_75).trans ((sw_iconst f_109_76).trans ((sw_iconst f_109_77).trans (st_callS' f_109_78 h_109_124 mn_92 rfl rfl rfl rfl))))))))
theorem bL_law_81 {o0 o1 o2 o3 o4 o5 o6 o7 o8 o9 o10 o11 o12 o13 o14 : Option Value} {y0 : Int} (g1 : -2147483648 ≤ y0 ∧ y0 ≤ 2147483647) : XR sc d 109 81 [o0, o1, o2, o3, o4, o5, o6, o7, o8, o9, o10, o11, o12, o13, o14] [xw y0] (T, z, xv V, J, R) = if y0 = (-2000000) then XR sc d 109 86 [o0, o1, o2, o3, o4, o5, o6, o7, o8, o9, o10, o11, o12, o13, o14] [] (T, z, xv V, J, R) else XR sc d 109 169 [o0, o1, o2, o3, o4, o5, o6, o7, o8, o9, o10, o11, o12, o13, o14] [] (T, z, xv V, J, R) :=
  (sw_ldc (-2000000) f_109_81 k_109_82 rfl).trans (sw_icmp_ne (t := 169) f_109_83 ⟨by decide, rfl⟩ g1 ⟨by decide, by decide⟩)
theorem bL_law_86 {o0 o2 o3 o4 o5 o6 o7 o8 o9 o10 o11 o12 o13 o14 : Option Value} {a1 : Nat} : XR sc d 109 86 [o0, some (.ref a1), o2, o3, o4, o5, o6, o7, o8, o9, o10, o11, o12, o13, o14] [] (T, z, xv V, J, R) = xret 109 (XR sc d 109) 95 98 [o0, some (.ref a1), o2, o3, o4, o5, o6, o7, o8, o9, o10, o11, o12, o13, o14] [] (X sc d 92 [.ref a1, xw 9, xw 0, xw 1, xw 5, xw 0, xw 0, xw 0] (T, z, xv V, J, R)) :=
  (st_aload_n f_109_86 rfl).trans ((sw_bipush f_109_87 c8_9).trans ((sw_iconst f_109_89).trans ((sw_iconst f_109_90).trans ((sw_iconst f_109_91).trans ((sw_iconst f_109_92).trans ((sw_iconst f_109_93).trans ((sw_iconst f_109_94).trans (st_callS' f_109_95 h_109_124 mn_92 rfl rfl rfl rfl))))))))
theorem bL_law_98 {o0 o1 o2 o3 o4 o5 o6 o7 o8 o9 o10 o11 o12 o13 o14 : Option Value} {y0 : Int} (g1 : -2147483648 ≤ y0 ∧ y0 ≤ 2147483647) : XR sc d 109 98 [o0, o1, o2, o3, o4, o5, o6, o7, o8, o9, o10, o11, o12, o13, o14] [xw y0] (T, z, xv V, J, R) = if y0 = (-1000000) then XR sc d 109 103 [o0, o1, o2, o3, o4, o5, o6, o7, o8, o9, o10, o11, o12, o13, o14] [] (T, z, xv V, J, R) else XR sc d 109 169 [o0, o1, o2, o3, o4, o5, o6, o7, o8, o9, o10, o11, o12, o13, o14] [] (T, z, xv V, J, R) :=
  (sw_ldc (-1000000) f_109_98 k_109_85 rfl).trans (sw_icmp_ne (t := 169) f_109_100 ⟨by decide, rfl⟩ g1 ⟨by decide, by decide⟩)
theorem bL_law_103 {o0 o2 o3 o4 o5 o6 o7 o8 o9 o10 o11 o12 o13 o14 : Option Value} {a1 : Nat} : XR sc d 109 103 [o0, some (.ref a1), o2, o3, o4, o5, o6, o7, o8, o9, o10, o11, o12, o13, o14] [] (T, z, xv V, J, R) = xret 109 (XR sc d 109) 113 116 [o0, some (.ref a1), o2, o3, o4, o5, o6, o7, o8, o9, o10, o11, o12, o13, o14] [] (X sc d 92 [.ref a1, xw 18, xw 0, xw 8, xw 0, xw 0, xw 0, xw 0] (T, z, xv V, J, R)) :=
  (st_aload_n f_109_103 rfl).trans ((sw_bipush f_109_104 c8_18).trans ((sw_iconst f_109_106).trans ((sw_bipush f_109_107 c8_8).trans ((sw_iconst f_109_109).trans ((sw_iconst f_109_110).trans ((sw_iconst f_109_111).trans ((sw_iconst f_109_112).trans (st_callS' f_109_113 h_109_124 mn_92 rfl rfl rfl rfl))))))))
theorem bL_law_116 {o0 o1 o2 o3 o4 o5 o6 o7 o8 o9 o10 o11 o12 o13 o14 : Option Value} {y0 : Int} (g1 : -2147483648 ≤ y0 ∧ y0 ≤ 2147483647) : XR sc d 109 116 [o0, o1, o2, o3, o4, o5, o6, o7, o8, o9, o10, o11, o12, o13, o14] [xw y0] (T, z, xv V, J, R) = if y0 = (-3000000) then XR sc d 109 121 [o0, o1, o2, o3, o4, o5, o6, o7, o8, o9, o10, o11, o12, o13, o14] [] (T, z, xv V, J, R) else XR sc d 109 169 [o0, o1, o2, o3, o4, o5, o6, o7, o8, o9, o10, o11, o12, o13, o14] [] (T, z, xv V, J, R) :=
  (sw_ldc (-3000000) f_109_116 k_109_79 rfl).trans (sw_icmp_ne (t := 169) f_109_118 ⟨by decide, rfl⟩ g1 ⟨by decide, by decide⟩)
theorem bL_law_121 {o0 o2 o3 o4 o5 o6 o7 o8 o9 o10 o11 o12 o13 o14 : Option Value} {a1 : Nat} : XR sc d 109 121 [o0, some (.ref a1), o2, o3, o4, o5, o6, o7, o8, o9, o10, o11, o12, o13, o14] [] (T, z, xv V, J, R) = xret 109 (XR sc d 109) 130 133 [o0, some (.ref a1), o2, o3, o4, o5, o6, o7, o8, o9, o10, o11, o12, o13, o14] [] (X sc d 92 [.ref a1, xw 19, xw 0, xw 1, xw (-1), xw 0, xw 0, xw 0] (T, z, xv V, J, R)) :=
  (st_aload_n f_109_121 rfl).trans ((sw_bipush f_109_122 c8_19).trans ((sw_iconst f_109_124).trans ((sw_iconst f_109_125).trans ((sw_iconst f_109_126).trans ((sw_iconst f_109_127).trans ((sw_iconst f_109_128).trans ((sw_iconst f_109_129).trans (st_callS' f_109_130 h_109_124 mn_92 rfl rfl rfl rfl))))))))
theorem bL_law_133 {o0 o1 o2 o3 o4 o5 o6 o7 o8 o9 o10 o11 o12 o13 o14 : Option Value} {y0 : Int} (g1 : -2147483648 ≤ y0 ∧ y0 ≤ 2147483647) : XR sc d 109 133 [o0, o1, o2, o3, o4, o5, o6, o7, o8, o9, o10, o11, o12, o13, o14] [xw y0] (T, z, xv V, J, R) = if y0 = (-3000000) then XR sc d 109 138 [o0, o1, o2, o3, o4, o5, o6, o7, o8, o9, o10, o11, o12, o13, o14] [] (T, z, xv V, J, R) else XR sc d 109 169 [o0, o1, o2, o3, o4, o5, o6, o7, o8, o9, o10, o11, o12, o13, o14] [] (T, z, xv V, J, R) :=
  (sw_ldc (-3000000) f_109_133 k_109_79 rfl).trans (sw_icmp_ne (t := 169) f_109_135 ⟨by decide, rfl⟩ g1 ⟨by decide, by decide⟩)
theorem bL_law_138 {o0 o2 o3 o4 o5 o6 o7 o8 o9 o10 o11 o12 o13 o14 : Option Value} {a1 : Nat} : XR sc d 109 138 [o0, some (.ref a1), o2, o3, o4, o5, o6, o7, o8, o9, o10, o11, o12, o13, o14] [] (T, z, xv V, J, R) = xret 109 (XR sc d 109) 147 150 [o0, some (.ref a1), o2, o3, o4, o5, o6, o7, o8, o9, o10, o11, o12, o13, o14] [] (X sc d 92 [.ref a1, xw 16, xw 0, xw 0, xw 0, xw 0, xw 0, xw 0] (T, z, xv V, J, R)) :=
  (st_aload_n f_109_138 rfl).trans ((sw_bipush f_109_139 c8_16).trans ((sw_iconst f_109_141).trans ((sw_iconst f_109_142).trans ((sw_iconst f_109_143).trans ((sw_iconst f_109_144).trans ((sw_iconst f_109_145).trans ((sw_iconst f_109_146).trans (st_callS' f_109_147 h_109_124 mn_92 rfl rfl rfl rfl))))))))
theorem bL_law_150 {o0 o1 o2 o3 o4 o5 o6 o7 o8 o9 o10 o11 o12 o13 o14 : Option Value} {y0 : Int} (g1 : -2147483648 ≤ y0 ∧ y0 ≤ 2147483647) : XR sc d 109 150 [o0, o1, o2, o3, o4, o5, o6, o7, o8, o9, o10, o11, o12, o13, o14] [xw y0] (T, z, xv V, J, R) = if y0 = (-2000000) then XR sc d 109 155 [o0, o1, o2, o3, o4, o5, o6, o7, o8, o9, o10, o11, o12, o13, o14] [] (T, z, xv V, J, R) else XR sc d 109 169 [o0, o1, o2, o3, o4, o5, o6, o7, o8, o9, o10, o11, o12, o13, o14] [] (T, z, xv V, J, R) :=
  (sw_ldc (-2000000) f_109_150 k_109_82 rfl).trans (sw_icmp_ne (t := 169) f_109_152 ⟨by decide, rfl⟩ g1 ⟨by decide, by decide⟩)
theorem bL_law_155 {o0 o2 o3 o4 o5 o6 o7 o8 o9 o10 o11 o12 o13 o14 : Option Value} {a1 : Nat} (g1 : T a1 = (7, 0)) : XR sc d 109 155 [o0, some (.ref a1), o2, o3, o4, o5, o6, o7, o8, o9, o10, o11, o12, o13, o14] [] (T, z, xv V, J, R) = xret 109 (XR sc d 109) 158 161 [o0, some (.ref a1), o2, o3, o4, o5, o6, o7, o8, o9, o10, o11, o12, o13, o14] [] (X sc d 63 [.ref a1, xw 2, xw 3] (T, z, xv V, J, R)) :=
  (st_aload_n f_109_155 rfl).trans ((sw_iconst f_109_156).trans ((sw_iconst f_109_157).trans (st_callV' f_109_158 h_109_71 mn_63 rfl rfl rfl rfl mo_63 g1 rfl)))
theorem bL_law_161 {o0 o1 o2 o3 o4 o5 o6 o7 o8 o9 o10 o11 o12 o13 o14 : Option Value} {y0 : Int} (g1 : -2147483648 ≤ y0 ∧ y0 ≤ 2147483647) : XR sc d 109 161 [o0, o1, o2, o3, o4, o5, o6, o7, o8, o9, o10, o11, o12, o13, o14] [xw y0] (T, z, xv V, J, R) = if y0 = (-1) then XR sc d 109 165 [o0, o1, o2, o3, o4, o5, o6, o7, o8, o9, o10, o11, o12, o13, o14] [] (T, z, xv V, J, R) else XR sc d 109 169 [o0, o1, o2, o3, o4, o5, o6, o7, o8, o9, o10, o11, o12, o13, o14] [] (T, z, xv V, J, R) :=
  (sw_iconst f_109_161).trans (sw_icmp_ne (t := 169) f_109_162 ⟨by decide, rfl⟩ g1 ⟨by decide, by decide⟩)
theorem bL_law_165 {o0 o1 o2 o3 o4 o5 o6 o7 o8 o9 o10 o11 o12 o13 o14 : Option Value} : XR sc d 109 165 [o0, o1, o2, o3, o4, o5, o6, o7, o8, o9, o10, o11, o12, o13, o14] [] (T, z, xv V, J, R) = XR sc d 109 170 [o0, o1, o2, o3, o4, o5, o6, o7, o8, o9, o10, o11, o12, o13, o14] [xw 1] (T, z, xv V, J, R) :=
  (sw_iconst f_109_165).trans (st_goto (t := 170) f_109_166 ⟨by decide, rfl⟩)
theorem bL_law_169 {o0 o1 o2 o3 o4 o5 o6 o7 o8 o9 o10 o11 o12 o13 o14 : Option Value} : XR sc d 109 169 [o0, o1, o2, o3, o4, o5, o6, o7, o8, o9, o10, o11, o12, o13, o14] [] (T, z, xv V, J, R) = XR sc d 109 170 [o0, o1, o2, o3, o4, o5, o6, o7, o8, o9, o10, o11, o12, o13, o14] [xw 0] (T, z, xv V, J, R) :=
  sw_iconst f_109_169
theorem bL_law_170 {o0 o1 o2 o3 o4 o5 o6 o7 o8 o9 o10 o11 o12 o13 o14 : Option Value} {y0 : Int} : XR sc d 109 170 [o0, o1, o2, o3, o4, o5, o6, o7, o8, o9, o10, o11, o12, o13, o14] [xw y0] (T, z, xv V, J, R) = XR sc d 109 175 [o0, o1, o2, o3, o4, o5, o6, o7, o8, o9, some (xw y0), some (xw 0), o12, o13, o14] [] (T, z, xv V, J, R) :=
  (sw_istore (L' := [o0, o1, o2, o3, o4, o5, o6, o7, o8, o9, some (xw y0), o11, o12, o13, o14]) f_109_170 (Nat.le_of_ble_eq_true rfl) rfl).trans ((sw_iconst f_109_172).trans (sw_istore (L' := [o0, o1, o2, o3, o4, o5, o6, o7, o8, o9, some (xw y0), some (xw 0), o12, o13, o14]) f_109_173 (Nat.le_of_ble_eq_true rfl) rfl))
theorem bL_law_175 {o0 o1 o2 o3 o4 o5 o6 o7 o8 o9 o10 o12 o13 o14 : Option Value} {x11 : Int} (g1 : -2147483648 ≤ x11 ∧ x11 ≤ 2147483647) : XR sc d 109 175 [o0, o1, o2, o3, o4, o5, o6, o7, o8, o9, o10, some (xw x11), o12, o13, o14] [] (T, z, xv V, J, R) = if 64 ≤ x11 then XR sc d 109 525 [o0, o1, o2, o3, o4, o5, o6, o7, o8, o9, o10, some (xw x11), o12, o13, o14] [] (T, z, xv V, J, R) else XR sc d 109 182 [o0, o1, o2, o3, o4, o5, o6, o7, o8, o9, o10, some (xw x11), o12, o13, o14] [] (T, z, xv V, J, R) :=
  (sw_iload f_109_175 rfl).trans ((sw_bipush f_109_177 c8_64).trans (sw_icmp_ge (t := 525) f_109_179 ⟨by decide, rfl⟩ g1 ⟨by decide, by decide⟩))
theorem bL_law_182 {o0 o1 o2 o3 o4 o5 o6 o7 o8 o9 o11 o12 o13 o14 : Option Value} {x10 : Int} (g1 : -2147483648 ≤ x10 ∧ x10 ≤ 2147483647) : XR sc d 109 182 [o0, o1, o2, o3, o4, o5, o6, o7, o8, o9, some (xw x10), o11, o12, o13, o14] [] (T, z, xv V, J, R) = if x10 = 0 then XR sc d 109 525 [o0, o1, o2, o3, o4, o5, o6, o7, o8, o9, some (xw x10), o11, o12, o13, o14] [] (T, z, xv V, J, R) else XR sc d 109 187 [o0, o1, o2, o3, o4, o5, o6, o7, o8, o9, some (xw x10), o11, o12, o13, o14] [] (T, z, xv V, J, R) :=
  (sw_iload f_109_182 rfl).trans (sw_if_eq (t := 525) f_109_184 ⟨by decide, rfl⟩ g1)
theorem bL_law_187 {o0 o1 o2 o3 o4 o5 o6 o7 o8 o9 o10 o12 o13 o14 : Option Value} {x11 : Int} (g1 : -2147483648 ≤ x11 ∧ x11 ≤ 2147483647) : XR sc d 109 187 [o0, o1, o2, o3, o4, o5, o6, o7, o8, o9, o10, some (xw x11), o12, o13, o14] [] (T, z, xv V, J, R) = if 2 ≤ x11 then XR sc d 109 197 [o0, o1, o2, o3, o4, o5, o6, o7, o8, o9, o10, some (xw x11), o12, o13, o14] [] (T, z, xv V, J, R) else XR sc d 109 193 [o0, o1, o2, o3, o4, o5, o6, o7, o8, o9, o10, some (xw x11), o12, o13, o14] [] (T, z, xv V, J, R) :=
  (sw_iload f_109_187 rfl).trans ((sw_iconst f_109_189).trans (sw_icmp_ge (t := 197) f_109_190 ⟨by decide, rfl⟩ g1 ⟨by decide, by decide⟩))
theorem bL_law_193 {o0 o1 o2 o3 o4 o5 o6 o7 o8 o9 o10 o11 o12 o13 o14 : Option Value} : XR sc d 109 193 [o0, o1, o2, o3, o4, o5, o6, o7, o8, o9, o10, o11, o12, o13, o14] [] (T, z, xv V, J, R) = XR sc d 109 242 [o0, o1, o2, o3, o4, o5, o6, o7, o8, o9, o10, o11, o12, o13, o14] [xw 0] (T, z, xv V, J, R) :=
  (sw_iconst f_109_193).trans (st_goto (t := 242) f_109_194 ⟨by decide, rfl⟩)
theorem bL_law_197 {o0 o1 o2 o3 o4 o5 o6 o7 o8 o9 o10 o12 o13 o14 : Option Value} {x11 : Int} (g1 : -2147483648 ≤ x11 ∧ x11 ≤ 2147483647) : XR sc d 109 197 [o0, o1, o2, o3, o4, o5, o6, o7, o8, o9, o10, some (xw x11), o12, o13, o14] [] (T, z, xv V, J, R) = if 8 ≤ x11 then XR sc d 109 208 [o0, o1, o2, o3, o4, o5, o6, o7, o8, o9, o10, some (xw x11), o12, o13, o14] [] (T, z, xv V, J, R) else XR sc d 109 204 [o0, o1, o2, o3, o4, o5, o6, o7, o8, o9, o10, some (xw x11), o12, o13, o14] [] (T, z, xv V, J, R) :=
  (sw_iload f_109_197 rfl).trans ((sw_bipush f_109_199 c8_8).trans (sw_icmp_ge (t := 208) f_109_201 ⟨by decide, rfl⟩ g1 ⟨by decide, by decide⟩))
theorem bL_law_204 {o0 o1 o2 o3 o4 o5 o6 o7 o8 o9 o10 o11 o12 o13 o14 : Option Value} : XR sc d 109 204 [o0, o1, o2, o3, o4, o5, o6, o7, o8, o9, o10, o11, o12, o13, o14] [] (T, z, xv V, J, R) = XR sc d 109 242 [o0, o1, o2, o3, o4, o5, o6, o7, o8, o9, o10, o11, o12, o13, o14] [xw 3] (T, z, xv V, J, R) :=
  (sw_iconst f_109_204).trans (st_goto (t := 242) f_109_205 ⟨by decide, rfl⟩)
theorem bL_law_208 {o0 o1 o2 o3 o4 o5 o6 o7 o8 o9 o10 o12 o13 o14 : Option Value} {x11 : Int} (g1 : -2147483648 ≤ x11 ∧ x11 ≤ 2147483647) : XR sc d 109 208 [o0, o1, o2, o3, o4, o5, o6, o7, o8, o9, o10, some (xw x11), o12, o13, o14] [] (T, z, xv V, J, R) = if 12 ≤ x11 then XR sc d 109 220 [o0, o1, o2, o3, o4, o5, o6, o7, o8, o9, o10, some (xw x11), o12, o13, o14] [] (T, z, xv V, J, R) else XR sc d 109 215 [o0, o1, o2, o3, o4, o5, o6, o7, o8, o9, o10, some (xw x11), o12, o13, o14] [] (T, z, xv V, J, R) :=
  (sw_iload f_109_208 rfl).trans ((sw_bipush f_109_210 c8_12).trans (sw_icmp_ge (t := 220) f_109_212 ⟨by decide, rfl⟩ g1 ⟨by decide, by decide⟩))
theorem bL_law_215 {o0 o1 o2 o3 o4 o5 o6 o7 o8 o9 o10 o11 o12 o13 o14 : Option Value} : XR sc d 109 215 [o0, o1, o2, o3, o4, o5, o6, o7, o8, o9, o10, o11, o12, o13, o14] [] (T, z, xv V, J, R) = XR sc d 109 242 [o0, o1, o2, o3, o4, o5, o6, o7, o8, o9, o10, o11, o12, o13, o14] [xw 16] (T, z, xv V, J, R) :=
  (sw_bipush f_109_215 c8_16).trans (st_goto (t := 242) f_109_217 ⟨by decide, rfl⟩)
theorem bL_law_220 {o0 o1 o2 o3 o4 o5 o6 o7 o8 o9 o10 o12 o13 o14 : Option Value} {x11 : Int} (g1 : -2147483648 ≤ x11 ∧ x11 ≤ 2147483647) : XR sc d 109 220 [o0, o1, o2, o3, o4, o5, o6, o7, o8, o9, o10, some (xw x11), o12, o13, o14] [] (T, z, xv V, J, R) = if 14 ≤ x11 then XR sc d 109 232 [o0, o1, o2, o3, o4, o5, o6, o7, o8, o9, o10, some (xw x11), o12, o13, o14] [] (T, z, xv V, J, R) else XR sc d 109 227 [o0, o1, o2, o3, o4, o5, o6, o7, o8, o9, o10, some (xw x11), o12, o13, o14] [] (T, z, xv V, J, R) :=
  (sw_iload f_109_220 rfl).trans ((sw_bipush f_109_222 c8_14).trans (sw_icmp_ge (t := 232) f_109_224 ⟨by decide, rfl⟩ g1 ⟨by decide, by decide⟩))
theorem bL_law_227 {o0 o1 o2 o3 o4 o5 o6 o7 o8 o9 o10 o11 o12 o13 o14 : Option Value} : XR sc d 109 227 [o0, o1, o2, o3, o4, o5, o6, o7, o8, o9, o10, o11, o12, o13, o14] [] (T, z, xv V, J, R) = XR sc d 109 242 [o0, o1, o2, o3, o4, o5, o6, o7, o8, o9, o10, o11, o12, o13, o14] [xw 24] (T, z, xv V, J, R) :=
  (sw_bipush f_109_227 c8_24).trans (st_goto (t := 242) f_109_229 ⟨by decide, rfl⟩)
theorem bL_law_232 {o1 o2 o3 o4 o5 o6 o7 o8 o9 o10 o12 o13 o14 : Option Value} {x11 : Int} : XR sc d 109 232 [some (.retAddr 0), o1, o2, o3, o4, o5, o6, o7, o8, o9, o10, some (xw x11), o12, o13, o14] [] (T, z, xv V, J, R) = xret 109 (XR sc d 109) 239 242 [some (.retAddr 0), o1, o2, o3, o4, o5, o6, o7, o8, o9, o10, some (xw x11), o12, o13, o14] [] (X sc d 91 [.retAddr 0, xw (3 * x11), xw 52] (T, z, xv V, J, R)) :=
  (st_aload_nS f_109_232 rfl).trans ((sw_iconst f_109_233).trans ((sw_iload f_109_234 rfl).trans ((sw_imul f_109_236).trans ((sw_bipush f_109_237 c8_52).trans (st_callS' f_109_239 h_109_170 mn_91 rfl rfl rfl rfl)))))
theorem bL_law_242 {o1 o2 o3 o4 o5 o6 o7 o8 o9 o10 o12 o13 o14 : Option Value} {y0 x11 : Int} : XR sc d 109 242 [some (.retAddr 0), o1, o2, o3, o4, o5, o6, o7, o8, o9, o10, some (xw x11), o12, o13, o14] [xw y0] (T, z, xv V, J, R) = xret 109 (XR sc d 109) 253 256 [some (.retAddr 0), o1, o2, o3, o4, o5, o6, o7, o8, o9, o10, some (xw x11), some (xw y0), o13, o14] [] (X sc d 91 [.retAddr 0, xw ((3 * x11) + 1), xw 60000] (T, z, xv V, J, R)) :=
  (sw_istore (L' := [some (.retAddr 0), o1, o2, o3, o4, o5, o6, o7, o8, o9, o10, some (xw x11), some (xw y0), o13, o14]) f_109_242 (Nat.le_of_ble_eq_true rfl) rfl).trans ((st_aload_nS f_109_244 rfl).trans ((sw_iconst f_109_245).trans ((sw_iload f_109_246 rfl).trans ((sw_imul f_109_248).trans ((sw_iconst f_109_249).trans ((sw_iadd f_109_250).trans ((sw_ldc 60000 f_109_251 k_109_173 rfl).trans (st_callS' f_109_253 h_109_170 mn_91 rfl rfl rfl rfl))))))))
theorem bL_law_256 {o1 o2 o3 o4 o5 o6 o7 o8 o9 o10 o12 o13 o14 : Option Value} {y0 x11 : Int} : XR sc d 109 256 [some (.retAddr 0), o1, o2, o3, o4, o5, o6, o7, o8, o9, o10, some (xw x11), o12, o13, o14] [xw y0] (T, z, xv V, J, R) = xret 109 (XR sc d 109) 267 270 [some (.retAddr 0), o1, o2, o3, o4, o5, o6, o7, o8, o9, o10, some (xw x11), o12, some (xw y0), o14] [] (X sc d 91 [.retAddr 0, xw ((3 * x11) + 2), xw 60000] (T, z, xv V, J, R)) :=
  (sw_istore (L' := [some (.retAddr 0), o1, o2, o3, o4, o5, o6, o7, o8, o9, o10, some (xw x11), o12, some (xw y0), o14]) f_109_256 (Nat.le_of_ble_eq_true rfl) rfl).trans ((st_aload_nS f_109_258 rfl).trans ((sw_iconst f_109_259).trans ((sw_iload f_109_260 rfl).trans ((sw_imul f_109_262).trans ((sw_iconst f_109_263).trans ((sw_iadd f_109_264).trans ((sw_ldc 60000 f_109_265 k_109_173 rfl).trans (st_callS' f_109_267 h_109_170 mn_91 rfl rfl rfl rfl))))))))
theorem bL_law_270 {o0 o1 o2 o3 o4 o5 o6 o7 o8 o9 o10 o11 o13 o14 : Option Value} {y0 x12 : Int} (g1 : -2147483648 ≤ x12 ∧ x12 ≤ 2147483647) : XR sc d 109 270 [o0, o1, o2, o3, o4, o5, o6, o7, o8, o9, o10, o11, some (xw x12), o13, o14] [xw y0] (T, z, xv V, J, R) = if 12 ≤ x12 then XR sc d 109 325 [o0, o1, o2, o3, o4, o5, o6, o7, o8, o9, o10, o11, some (xw x12), o13, some (xw y0)] [] (T, z, xv V, J, R) else XR sc d 109 279 [o0, o1, o2, o3, o4, o5, o6, o7, o8, o9, o10, o11, some (xw x12), o13, some (xw y0)] [] (T, z, xv V, J, R) :=
  (sw_istore (L' := [o0, o1, o2, o3, o4, o5, o6, o7, o8, o9, o10, o11, some (xw x12), o13, some (xw y0)]) f_109_270 (Nat.le_of_ble_eq_true rfl) rfl).trans ((sw_iload f_109_272 rfl).trans ((sw_bipush f_109_274 c8_12).trans (sw_icmp_ge (t := 325) f_109_276 ⟨by decide, rfl⟩ g1 ⟨by decide, by decide⟩)))
theorem bL_law_279 {o0 o7 o8 o10 o11 o13 o14 : Option Value} {x12 : Int} {a1 a2 a3 a4 a5 a6 a9 : Nat} (g1 : -2147483648 ≤ x12 ∧ x12 ≤ 2147483647) : XR sc d 109 279 [o0, some (.ref a1), some (.ref a2), some (.ref a3), some (.ref a4), some (.ref a5), some (.ref a6), o7, o8, some (.ref a9), o10, o11, some (xw x12), o13, o14] [] (T, z, xv V, J, R) = if 3 ≤ x12 then XR sc d 109 301 [o0, some (.ref a1), some (.ref a2), some (.ref a3), some (.ref a4), some (.ref a5), some (.ref a6), o7, o8, some (.ref a9), o10, o11, some (xw x12), o13, o14] [.ref a9, .ref a6, .ref a5, .ref a4, .ref a3, .ref a2, .ref a1] (T, z, xv V, J, R) else XR sc d 109 296 [o0, some (.ref a1), some (.ref a2), some (.ref a3), some (.ref a4), some (.ref a5), some (.ref a6), o7, o8, some (.ref a9), o10, o11, some (xw x12), o13, o14] [.ref a9, .ref a6, .ref a5, .ref a4, .ref a3, .ref a2, .ref a1] (T, z, xv V, J, R) :=
  (st_aload_n f_109_279 rfl).trans ((st_aload_n f_109_280 rfl).trans ((st_aload_n f_109_281 rfl).trans ((st_aload f_109_282 rfl).trans ((st_aload f_109_284 rfl).trans ((st_aload f_109_286 rfl).trans ((st_aload f_109_288 rfl).trans ((sw_iload f_109_290 rfl).trans ((sw_iconst f_109_292).trans (sw_icmp_ge (t := 301) f_109_293 ⟨by decide, rfl⟩ g1 ⟨by decide, by decide⟩)))))))))
theorem bL_law_296 {o0 o1 o2 o3 o4 o5 o6 o7 o8 o9 o10 o11 o13 o14 : Option Value} {s0 s1 s2 s3 s4 s5 s6 : Value} {x12 : Int} : XR sc d 109 296 [o0, o1, o2, o3, o4, o5, o6, o7, o8, o9, o10, o11, some (xw x12), o13, o14] [s0, s1, s2, s3, s4, s5, s6] (T, z, xv V, J, R) = XR sc d 109 313 [o0, o1, o2, o3, o4, o5, o6, o7, o8, o9, o10, o11, some (xw x12), o13, o14] [xw x12, s0, s1, s2, s3, s4, s5, s6] (T, z, xv V, J, R) :=
  (sw_iload f_109_296 rfl).trans (st_goto (t := 313) f_109_298 ⟨by decide, rfl⟩)
theorem bL_law_301 {o0 o1 o2 o3 o4 o5 o6 o7 o8 o9 o10 o11 o13 o14 : Option Value} {s0 s1 s2 s3 s4 s5 s6 : Value} {x12 : Int} (g1 : -2147483648 ≤ x12 ∧ x12 ≤ 2147483647) : XR sc d 109 301 [o0, o1, o2, o3, o4, o5, o6, o7, o8, o9, o10, o11, some (xw x12), o13, o14] [s0, s1, s2, s3, s4, s5, s6] (T, z, xv V, J, R) = if 9 ≤ x12 then XR sc d 109 312 [o0, o1, o2, o3, o4, o5, o6, o7, o8, o9, o10, o11, some (xw x12), o13, o14] [s0, s1, s2, s3, s4, s5, s6] (T, z, xv V, J, R) else XR sc d 109 308 [o0, o1, o2, o3, o4, o5, o6, o7, o8, o9, o10, o11, some (xw x12), o13, o14] [s0, s1, s2, s3, s4, s5, s6] (T, z, xv V, J, R) :=
  (sw_iload f_109_301 rfl).trans ((sw_bipush f_109_303 c8_9).trans (sw_icmp_ge (t := 312) f_109_305 ⟨by decide, rfl⟩ g1 ⟨by decide, by decide⟩))
theorem bL_law_308 {o0 o1 o2 o3 o4 o5 o6 o7 o8 o9 o10 o11 o12 o13 o14 : Option Value} {s0 s1 s2 s3 s4 s5 s6 : Value} : XR sc d 109 308 [o0, o1, o2, o3, o4, o5, o6, o7, o8, o9, o10, o11, o12, o13, o14] [s0, s1, s2, s3, s4, s5, s6] (T, z, xv V, J, R) = XR sc d 109 313 [o0, o1, o2, o3, o4, o5, o6, o7, o8, o9, o10, o11, o12, o13, o14] [xw 2, s0, s1, s2, s3, s4, s5, s6] (T, z, xv V, J, R) :=
  (sw_iconst f_109_308).trans (st_goto (t := 313) f_109_309 ⟨by decide, rfl⟩)
theorem bL_law_312 {o0 o1 o2 o3 o4 o5 o6 o7 o8 o9 o10 o11 o12 o13 o14 : Option Value} {s0 s1 s2 s3 s4 s5 s6 : Value} : XR sc d 109 312 [o0, o1, o2, o3, o4, o5, o6, o7, o8, o9, o10, o11, o12, o13, o14] [s0, s1, s2, s3, s4, s5, s6] (T, z, xv V, J, R) = XR sc d 109 313 [o0, o1, o2, o3, o4, o5, o6, o7, o8, o9, o10, o11, o12, o13, o14] [xw 3, s0, s1, s2, s3, s4, s5, s6] (T, z, xv V, J, R) :=
  sw_iconst f_109_312
theorem bL_law_313 {o0 o1 o2 o3 o4 o5 o6 o7 o8 o9 o10 o11 o12 : Option Value} {x13 x14 y0 : Int} {b1 b2 b3 b4 b5 b6 b7 : Nat} : XR sc d 109 313 [o0, o1, o2, o3, o4, o5, o6, o7, o8, o9, o10, o11, o12, some (xw x13), some (xw x14)] [xw y0, .ref b1, .ref b2, .ref b3, .ref b4, .ref b5, .ref b6, .ref b7] (T, z, xv V, J, R) = xret 109 (XR sc d 109) 317 320 [o0, o1, o2, o3, o4, o5, o6, o7, o8, o9, o10, o11, o12, some (xw x13), some (xw x14)] [] (X sc d 106 [.ref b7, .ref b6, .ref b5, .ref b4, .ref b3, .ref b2, .ref b1, xw y0, xw x13, xw x14] (T, z, xv V, J, R)) :=
  (sw_iload f_109_313 rfl).trans ((sw_iload f_109_315 rfl).trans (st_callS' f_109_317 h_109_174 mn_106 rfl rfl rfl rfl))
theorem bL_law_320 {o0 o1 o2 o3 o4 o5 o6 o7 o8 o9 o10 o11 o12 o13 o14 : Option Value} {y0 : Int} : XR sc d 109 320 [o0, o1, o2, o3, o4, o5, o6, o7, o8, o9, o10, o11, o12, o13, o14] [xw y0] (T, z, xv V, J, R) = XR sc d 109 483 [o0, o1, o2, o3, o4, o5, o6, o7, o8, o9, some (xw y0), o11, o12, o13, o14] [] (T, z, xv V, J, R) :=
  (sw_istore (L' := [o0, o1, o2, o3, o4, o5, o6, o7, o8, o9, some (xw y0), o11, o12, o13, o14]) f_109_320 (Nat.le_of_ble_eq_true rfl) rfl).trans (st_goto (t := 483) f_109_322 ⟨by decide, rfl⟩)
theorem bL_law_325 {o0 o1 o2 o3 o4 o5 o6 o7 o8 o9 o10 o11 o13 o14 : Option Value} {x12 : Int} (g1 : -2147483648 ≤ x12 ∧ x12 ≤ 2147483647) : XR sc d 109 325 [o0, o1, o2, o3, o4, o5, o6, o7, o8, o9, o10, o11, some (xw x12), o13, o14] [] (T, z, xv V, J, R) = if 38 ≤ x12 then XR sc d 109 422 [o0, o1, o2, o3, o4, o5, o6, o7, o8, o9, o10, o11, some (xw x12), o13, o14] [] (T, z, xv V, J, R) else XR sc d 109 332 [o0, o1, o2, o3, o4, o5, o6, o7, o8, o9, o10, o11, some (xw x12), o13, o14] [] (T, z, xv V, J, R) :=
  (sw_iload f_109_325 rfl).trans ((sw_bipush f_109_327 c8_38).trans (sw_icmp_ge (t := 422) f_109_329 ⟨by decide, rfl⟩ g1 ⟨by decide, by decide⟩))
theorem bL_law_332 {o0 o2 o7 o8 o10 o11 o13 o14 : Option Value} {x12 : Int} {a1 a3 a4 a5 a6 a9 : Nat} (g1 : -2147483648 ≤ x12 ∧ x12 ≤ 2147483647) : XR sc d 109 332 [o0, some (.ref a1), o2, some (.ref a3), some (.ref a4), some (.ref a5), some (.ref a6), o7, o8, some (.ref a9), o10, o11, some (xw x12), o13, o14] [] (T, z, xv V, J, R) = if x12 = 12 then XR sc d 109 349 [o0, some (.ref a1), o2, some (.ref a3), some (.ref a4), some (.ref a5), some (.ref a6), o7, o8, some (.ref a9), o10, o11, some (xw x12), o13, o14] [.ref a9, .ref a6, .ref a5, .ref a4, .ref a3, .ref a1] (T, z, xv V, J, R) else XR sc d 109 353 [o0, some (.ref a1), o2, some (.ref a3), some (.ref a4), some (.ref a5), some (.ref a6), o7, o8, some (.ref a9), o10, o11, some (xw x12), o13, o14] [.ref a9, .ref a6, .ref a5, .ref a4, .ref a3, .ref a1] (T, z, xv V, J, R) :=
  (st_aload_n f_109_332 rfl).trans ((st_aload_n f_109_333 rfl).trans ((st_aload f_109_334 rfl).trans ((st_aload f_109_336 rfl).trans ((st_aload f_109_338 rfl).trans ((st_aload f_109_340 rfl).trans ((sw_iload f_109_342 rfl).trans ((sw_bipush f_109_344 c8_12).trans (sw_icmp_ne (t := 353) f_109_346 ⟨by decide, rfl⟩ g1 ⟨by decide, by decide⟩))))))))
theorem bL_law_349 {o0 o1 o2 o3 o4 o5 o6 o7 o8 o9 o10 o11 o12 o13 o14 : Option Value} {s0 s1 s2 s3 s4 s5 : Value} : XR sc d 109 349 [o0, o1, o2, o3, o4, o5, o6, o7, o8, o9, o10, o11, o12, o13, o14] [s0, s1, s2, s3, s4, s5] (T, z, xv V, J, R) = XR sc d 109 410 [o0, o1, o2, o3, o4, o5, o6, o7, o8, o9, o10, o11, o12, o13, o14] [xw 0, s0, s1, s2, s3, s4, s5] (T, z, xv V, J, R) :=
  (sw_iconst f_109_349).trans (st_goto (t := 410) f_109_350 ⟨by decide, rfl⟩)
theorem bL_law_353 {o0 o1 o2 o3 o4 o5 o6 o7 o8 o9 o10 o11 o13 o14 : Option Value} {s0 s1 s2 s3 s4 s5 : Value} {x12 : Int} (g1 : -2147483648 ≤ x12 ∧ x12 ≤ 2147483647) : XR sc d 109 353 [o0, o1, o2, o3, o4, o5, o6, o7, o8, o9, o10, o11, some (xw x12), o13, o14] [s0, s1, s2, s3, s4, s5] (T, z, xv V, J, R) = if 19 ≤ x12 then XR sc d 109 364 [o0, o1, o2, o3, o4, o5, o6, o7, o8, o9, o10, o11, some (xw x12), o13, o14] [s0, s1, s2, s3, s4, s5] (T, z, xv V, J, R) else XR sc d 109 360 [o0, o1, o2, o3, o4, o5, o6, o7, o8, o9, o10, o11, some (xw x12), o13, o14] [s0, s1, s2, s3, s4, s5] (T, z, xv V, J, R) :=
  (sw_iload f_109_353 rfl).trans ((sw_bipush f_109_355 c8_19).trans (sw_icmp_ge (t := 364) f_109_357 ⟨by decide, rfl⟩ g1 ⟨by decide, by decide⟩))
theorem bL_law_360 {o0 o1 o2 o3 o4 o5 o6 o7 o8 o9 o10 o11 o12 o13 o14 : Option Value} {s0 s1 s2 s3 s4 s5 : Value} : XR sc d 109 360 [o0, o1, o2, o3, o4, o5, o6, o7, o8, o9, o10, o11, o12, o13, o14] [s0, s1, s2, s3, s4, s5] (T, z, xv V, J, R) = XR sc d 109 410 [o0, o1, o2, o3, o4, o5, o6, o7, o8, o9, o10, o11, o12, o13, o14] [xw 1, s0, s1, s2, s3, s4, s5] (T, z, xv V, J, R) :=
  (sw_iconst f_109_360).trans (st_goto (t := 410) f_109_361 ⟨by decide, rfl⟩)
theorem bL_law_364 {o0 o1 o2 o3 o4 o5 o6 o7 o8 o9 o10 o11 o13 o14 : Option Value} {s0 s1 s2 s3 s4 s5 : Value} {x12 : Int} (g1 : -2147483648 ≤ x12 ∧ x12 ≤ 2147483647) : XR sc d 109 364 [o0, o1, o2, o3, o4, o5, o6, o7, o8, o9, o10, o11, some (xw x12), o13, o14] [s0, s1, s2, s3, s4, s5] (T, z, xv V, J, R) = if 27 ≤ x12 then XR sc d 109 375 [o0, o1, o2, o3, o4, o5, o6, o7, o8, o9, o10, o11, some (xw x12), o13, o14] [s0, s1, s2, s3, s4, s5] (T, z, xv V, J, R) else XR sc d 109 371 [o0, o1, o2, o3, o4, o5, o6, o7, o8, o9, o10, o11, some (xw x12), o13, o14] [s0, s1, s2, s3, s4, s5] (T, z, xv V, J, R) :=
  (sw_iload f_109_364 rfl).trans ((sw_bipush f_109_366 c8_27).trans (sw_icmp_ge (t := 375) f_109_368 ⟨by decide, rfl⟩ g1 ⟨by decide, by decide⟩))
theorem bL_law_371 {o0 o1 o2 o3 o4 o5 o6 o7 o8 o9 o10 o11 o12 o13 o14 : Option Value} {s0 s1 s2 s3 s4 s5 : Value} : XR sc d 109 371 [o0, o1, o2, o3, o4, o5, o6, o7, o8, o9, o10, o11, o12, o13, o14] [s0, s1, s2, s3, s4, s5] (T, z, xv V, J, R) = XR sc d 109 410 [o0, o1, o2, o3, o4, o5, o6, o7, o8, o9, o10, o11, o12, o13, o14] [xw 2, s0, s1, s2, s3, s4, s5] (T, z, xv V, J, R) :=
  (sw_iconst f_109_371).trans (st_goto (t := 410) f_109_372 ⟨by decide, rfl⟩)
theorem bL_law_375 {o0 o1 o2 o3 o4 o5 o6 o7 o8 o9 o10 o11 o13 o14 : Option Value} {s0 s1 s2 s3 s4 s5 : Value} {x12 : Int} (g1 : -2147483648 ≤ x12 ∧ x12 ≤ 2147483647) : XR sc d 109 375 [o0, o1, o2, o3, o4, o5, o6, o7, o8, o9, o10, o11, some (xw x12), o13, o14] [s0, s1, s2, s3, s4, s5] (T, z, xv V, J, R) = if x12 = 27 then XR sc d 109 382 [o0, o1, o2, o3, o4, o5, o6, o7, o8, o9, o10, o11, some (xw x12), o13, o14] [s0, s1, s2, s3, s4, s5] (T, z, xv V, J, R) else XR sc d 109 386 [o0, o1, o2, o3, o4, o5, o6, o7, o8, o9, o10, o11, some (xw x12), o13, o14] [s0, s1, s2, s3, s4, s5] (T, z, xv V, J, R) :=
  (sw_iload f_109_375 rfl).trans ((sw_bipush f_109_377 c8_27).trans (sw_icmp_ne (t := 386) f_109_379 ⟨by decide, rfl⟩ g1 ⟨by decide, by decide⟩))
theorem bL_law_382 {o0 o1 o2 o3 o4 o5 o6 o7 o8 o9 o10 o11 o12 o13 o14 : Option Value} {s0 s1 s2 s3 s4 s5 : Value} : XR sc d 109 382 [o0, o1, o2, o3, o4, o5, o6, o7, o8, o9, o10, o11, o12, o13, o14] [s0, s1, s2, s3, s4, s5] (T, z, xv V, J, R) = XR sc d 109 410 [o0, o1, o2, o3, o4, o5, o6, o7, o8, o9, o10, o11, o12, o13, o14] [xw 3, s0, s1, s2, s3, s4, s5] (T, z, xv V, J, R) :=
  (sw_iconst f_109_382).trans (st_goto (t := 410) f_109_383 ⟨by decide, rfl⟩)
theorem bL_law_386 {o0 o1 o2 o3 o4 o5 o6 o7 o8 o9 o10 o11 o13 o14 : Option Value} {s0 s1 s2 s3 s4 s5 : Value} {x12 : Int} (g1 : -2147483648 ≤ x12 ∧ x12 ≤ 2147483647) : XR sc d 109 386 [o0, o1, o2, o3, o4, o5, o6, o7, o8, o9, o10, o11, some (xw x12), o13, o14] [s0, s1, s2, s3, s4, s5] (T, z, xv V, J, R) = if 35 ≤ x12 then XR sc d 109 397 [o0, o1, o2, o3, o4, o5, o6, o7, o8, o9, o10, o11, some (xw x12), o13, o14] [s0, s1, s2, s3, s4, s5] (T, z, xv V, J, R) else XR sc d 109 393 [o0, o1, o2, o3, o4, o5, o6, o7, o8, o9, o10, o11, some (xw x12), o13, o14] [s0, s1, s2, s3, s4, s5] (T, z, xv V, J, R) :=
  (sw_iload f_109_386 rfl).trans ((sw_bipush f_109_388 c8_35).trans (sw_icmp_ge (t := 397) f_109_390 ⟨by decide, rfl⟩ g1 ⟨by decide, by decide⟩))
theorem bL_law_393 {o0 o1 o2 o3 o4 o5 o6 o7 o8 o9 o10 o11 o12 o13 o14 : Option Value} {s0 s1 s2 s3 s4 s5 : Value} : XR sc d 109 393 [o0, o1, o2, o3, o4, o5, o6, o7, o8, o9, o10, o11, o12, o13, o14] [s0, s1, s2, s3, s4, s5] (T, z, xv V, J, R) = XR sc d 109 410 [o0, o1, o2, o3, o4, o5, o6, o7, o8, o9, o10, o11, o12, o13, o14] [xw 4, s0, s1, s2, s3, s4, s5] (T, z, xv V, J, R) :=
  (sw_iconst f_109_393).trans (st_goto (t := 410) f_109_394 ⟨by decide, rfl⟩)
theorem bL_law_397 {o0 o1 o2 o3 o4 o5 o6 o7 o8 o9 o10 o11 o13 o14 : Option Value} {s0 s1 s2 s3 s4 s5 : Value} {x12 : Int} (g1 : -2147483648 ≤ x12 ∧ x12 ≤ 2147483647) : XR sc d 109 397 [o0, o1, o2, o3, o4, o5, o6, o7, o8, o9, o10, o11, some (xw x12), o13, o14] [s0, s1, s2, s3, s4, s5] (T, z, xv V, J, R) = if x12 = 35 then XR sc d 109 404 [o0, o1, o2, o3, o4, o5, o6, o7, o8, o9, o10, o11, some (xw x12), o13, o14] [s0, s1, s2, s3, s4, s5] (T, z, xv V, J, R) else XR sc d 109 408 [o0, o1, o2, o3, o4, o5, o6, o7, o8, o9, o10, o11, some (xw x12), o13, o14] [s0, s1, s2, s3, s4, s5] (T, z, xv V, J, R) :=
  (sw_iload f_109_397 rfl).trans ((sw_bipush f_109_399 c8_35).trans (sw_icmp_ne (t := 408) f_109_401 ⟨by decide, rfl⟩ g1 ⟨by decide, by decide⟩))
theorem bL_law_404 {o0 o1 o2 o3 o4 o5 o6 o7 o8 o9 o10 o11 o12 o13 o14 : Option Value} {s0 s1 s2 s3 s4 s5 : Value} : XR sc d 109 404 [o0, o1, o2, o3, o4, o5, o6, o7, o8, o9, o10, o11, o12, o13, o14] [s0, s1, s2, s3, s4, s5] (T, z, xv V, J, R) = XR sc d 109 410 [o0, o1, o2, o3, o4, o5, o6, o7, o8, o9, o10, o11, o12, o13, o14] [xw 5, s0, s1, s2, s3, s4, s5] (T, z, xv V, J, R) :=
  (sw_iconst f_109_404).trans (st_goto (t := 410) f_109_405 ⟨by decide, rfl⟩)
theorem bL_law_408 {o0 o1 o2 o3 o4 o5 o6 o7 o8 o9 o10 o11 o12 o13 o14 : Option Value} {s0 s1 s2 s3 s4 s5 : Value} : XR sc d 109 408 [o0, o1, o2, o3, o4, o5, o6, o7, o8, o9, o10, o11, o12, o13, o14] [s0, s1, s2, s3, s4, s5] (T, z, xv V, J, R) = XR sc d 109 410 [o0, o1, o2, o3, o4, o5, o6, o7, o8, o9, o10, o11, o12, o13, o14] [xw 6, s0, s1, s2, s3, s4, s5] (T, z, xv V, J, R) :=
  sw_bipush f_109_408 c8_6
theorem bL_law_410 {o0 o1 o2 o3 o4 o5 o6 o7 o8 o9 o10 o11 o12 : Option Value} {x13 x14 y0 : Int} {b1 b2 b3 b4 b5 b6 : Nat} : XR sc d 109 410 [o0, o1, o2, o3, o4, o5, o6, o7, o8, o9, o10, o11, o12, some (xw x13), some (xw x14)] [xw y0, .ref b1, .ref b2, .ref b3, .ref b4, .ref b5, .ref b6] (T, z, xv V, J, R) = xret 109 (XR sc d 109) 414 417 [o0, o1, o2, o3, o4, o5, o6, o7, o8, o9, o10, o11, o12, some (xw x13), some (xw x14)] [] (X sc d 107 [.ref b6, .ref b5, .ref b4, .ref b3, .ref b2, .ref b1, xw y0, xw x13, xw x14] (T, z, xv V, J, R)) :=
  (sw_iload f_109_410 rfl).trans ((sw_iload f_109_412 rfl).trans (st_callS' f_109_414 h_109_178 mn_107 rfl rfl rfl rfl))
theorem bL_law_417 {o0 o1 o2 o3 o4 o5 o6 o7 o8 o9 o10 o11 o12 o13 o14 : Option Value} {y0 : Int} : XR sc d 109 417 [o0, o1, o2, o3, o4, o5, o6, o7, o8, o9, o10, o11, o12, o13, o14] [xw y0] (T, z, xv V, J, R) = XR sc d 109 483 [o0, o1, o2, o3, o4, o5, o6, o7, o8, o9, some (xw y0), o11, o12, o13, o14] [] (T, z, xv V, J, R) :=
  (sw_istore (L' := [o0, o1, o2, o3, o4, o5, o6, o7, o8, o9, some (xw y0), o11, o12, o13, o14]) f_109_417 (Nat.le_of_ble_eq_true rfl) rfl).trans (st_goto (t := 483) f_109_419 ⟨by decide, rfl⟩)
theorem bL_law_422 {o0 o2 o3 o4 o5 o6 o10 o11 o13 o14 : Option Value} {x12 : Int} {a1 a7 a8 a9 : Nat} (g1 : -2147483648 ≤ x12 ∧ x12 ≤ 2147483647) : XR sc d 109 422 [o0, some (.ref a1), o2, o3, o4, o5, o6, some (.ref a7), some (.ref a8), some (.ref a9), o10, o11, some (xw x12), o13, o14] [] (T, z, xv V, J, R) = if 41 ≤ x12 then XR sc d 109 440 [o0, some (.ref a1), o2, o3, o4, o5, o6, some (.ref a7), some (.ref a8), some (.ref a9), o10, o11, some (xw x12), o13, o14] [.ref a9, .ref a8, .ref a7, .ref a1] (T, z, xv V, J, R) else XR sc d 109 436 [o0, some (.ref a1), o2, o3, o4, o5, o6, some (.ref a7), some (.ref a8), some (.ref a9), o10, o11, some (xw x12), o13, o14] [.ref a9, .ref a8, .ref a7, .ref a1] (T, z, xv V, J, R) :=
  (st_aload_n f_109_422 rfl).trans ((st_aload f_109_423 rfl).trans ((st_aload f_109_425 rfl).trans ((st_aload f_109_427 rfl).trans ((sw_iload f_109_429 rfl).trans ((sw_bipush f_109_431 c8_41).trans (sw_icmp_ge (t := 440) f_109_433 ⟨by decide, rfl⟩ g1 ⟨by decide, by decide⟩))))))
theorem bL_law_436 {o0 o1 o2 o3 o4 o5 o6 o7 o8 o9 o10 o11 o12 o13 o14 : Option Value} {s0 s1 s2 s3 : Value} : XR sc d 109 436 [o0, o1, o2, o3, o4, o5, o6, o7, o8, o9, o10, o11, o12, o13, o14] [s0, s1, s2, s3] (T, z, xv V, J, R) = XR sc d 109 474 [o0, o1, o2, o3, o4, o5, o6, o7, o8, o9, o10, o11, o12, o13, o14] [xw 0, s0, s1, s2, s3] (T, z, xv V, J, R) :=
  (sw_iconst f_109_436).trans (st_goto (t := 474) f_109_437 ⟨by decide, rfl⟩)
theorem bL_law_440 {o0 o1 o2 o3 o4 o5 o6 o7 o8 o9 o10 o11 o13 o14 : Option Value} {s0 s1 s2 s3 : Value} {x12 : Int} (g1 : -2147483648 ≤ x12 ∧ x12 ≤ 2147483647) : XR sc d 109 440 [o0, o1, o2, o3, o4, o5, o6, o7, o8, o9, o10, o11, some (xw x12), o13, o14] [s0, s1, s2, s3] (T, z, xv V, J, R) = if 44 ≤ x12 then XR sc d 109 451 [o0, o1, o2, o3, o4, o5, o6, o7, o8, o9, o10, o11, some (xw x12), o13, o14] [s0, s1, s2, s3] (T, z, xv V, J, R) else XR sc d 109 447 [o0, o1, o2, o3, o4, o5, o6, o7, o8, o9, o10, o11, some (xw x12), o13, o14] [s0, s1, s2, s3] (T, z, xv V, J, R) :=
  (sw_iload f_109_440 rfl).trans ((sw_bipush f_109_442 c8_44).trans (sw_icmp_ge (t := 451) f_109_444 ⟨by decide, rfl⟩ g1 ⟨by decide, by decide⟩))
theorem bL_law_447 {o0 o1 o2 o3 o4 o5 o6 o7 o8 o9 o10 o11 o12 o13 o14 : Option Value} {s0 s1 s2 s3 : Value} : XR sc d 109 447 [o0, o1, o2, o3, o4, o5, o6, o7, o8, o9, o10, o11, o12, o13, o14] [s0, s1, s2, s3] (T, z, xv V, J, R) = XR sc d 109 474 [o0, o1, o2, o3, o4, o5, o6, o7, o8, o9, o10, o11, o12, o13, o14] [xw 1, s0, s1, s2, s3] (T, z, xv V, J, R) :=
  (sw_iconst f_109_447).trans (st_goto (t := 474) f_109_448 ⟨by decide, rfl⟩)
theorem bL_law_451 {o0 o1 o2 o3 o4 o5 o6 o7 o8 o9 o10 o11 o13 o14 : Option Value} {s0 s1 s2 s3 : Value} {x12 : Int} (g1 : -2147483648 ≤ x12 ∧ x12 ≤ 2147483647) : XR sc d 109 451 [o0, o1, o2, o3, o4, o5, o6, o7, o8, o9, o10, o11, some (xw x12), o13, o14] [s0, s1, s2, s3] (T, z, xv V, J, R) = if 46 ≤ x12 then XR sc d 109 462 [o0, o1, o2, o3, o4, o5, o6, o7, o8, o9, o10, o11, some (xw x12), o13, o14] [s0, s1, s2, s3] (T, z, xv V, J, R) else XR sc d 109 458 [o0, o1, o2, o3, o4, o5, o6, o7, o8, o9, o10, o11, some (xw x12), o13, o14] [s0, s1, s2, s3] (T, z, xv V, J, R) :=
  (sw_iload f_109_451 rfl).trans ((sw_bipush f_109_453 c8_46).trans (sw_icmp_ge (t := 462) f_109_455 ⟨by decide, rfl⟩ g1 ⟨by decide, by decide⟩))
theorem bL_law_458 {o0 o1 o2 o3 o4 o5 o6 o7 o8 o9 o10 o11 o12 o13 o14 : Option Value} {s0 s1 s2 s3 : Value} : XR sc d 109 458 [o0, o1, o2, o3, o4, o5, o6, o7, o8, o9, o10, o11, o12, o13, o14] [s0, s1, s2, s3] (T, z, xv V, J, R) = XR sc d 109 474 [o0, o1, o2, o3, o4, o5, o6, o7, o8, o9, o10, o11, o12, o13, o14] [xw 2, s0, s1, s2, s3] (T, z, xv V, J, R) :=
  (sw_iconst f_109_458).trans (st_goto (t := 474) f_109_459 ⟨by decide, rfl⟩)
theorem bL_law_462 {o0 o1 o2 o3 o4 o5 o6 o7 o8 o9 o10 o11 o13 o14 : Option Value} {s0 s1 s2 s3 : Value} {x12 : Int} (g1 : -2147483648 ≤ x12 ∧ x12 ≤ 2147483647) : XR sc d 109 462 [o0, o1, o2, o3, o4, o5, o6, o7, o8, o9, o10, o11, some (xw x12), o13, o14] [s0, s1, s2, s3] (T, z, xv V, J, R) = if 51 ≤ x12 then XR sc d 109 473 [o0, o1, o2, o3, o4, o5, o6, o7, o8, o9, o10, o11, some (xw x12), o13, o14] [s0, s1, s2, s3] (T, z, xv V, J, R) else XR sc d 109 469 [o0, o1, o2, o3, o4, o5, o6, o7, o8, o9, o10, o11, some (xw x12), o13, o14] [s0, s1, s2, s3] (T, z, xv V, J, R) :=
  (sw_iload f_109_462 rfl).trans ((sw_bipush f_109_464 c8_51).trans (sw_icmp_ge (t := 473) f_109_466 ⟨by decide, rfl⟩ g1 ⟨by decide, by decide⟩))
theorem bL_law_469 {o0 o1 o2 o3 o4 o5 o6 o7 o8 o9 o10 o11 o12 o13 o14 : Option Value} {s0 s1 s2 s3 : Value} : XR sc d 109 469 [o0, o1, o2, o3, o4, o5, o6, o7, o8, o9, o10, o11, o12, o13, o14] [s0, s1, s2, s3] (T, z, xv V, J, R) = XR sc d 109 474 [o0, o1, o2, o3, o4, o5, o6, o7, o8, o9, o10, o11, o12, o13, o14] [xw 3, s0, s1, s2, s3] (T, z, xv V, J, R) :=
  (sw_iconst f_109_469).trans (st_goto (t := 474) f_109_470 ⟨by decide, rfl⟩)
theorem bL_law_473 {o0 o1 o2 o3 o4 o5 o6 o7 o8 o9 o10 o11 o12 o13 o14 : Option Value} {s0 s1 s2 s3 : Value} : XR sc d 109 473 [o0, o1, o2, o3, o4, o5, o6, o7, o8, o9, o10, o11, o12, o13, o14] [s0, s1, s2, s3] (T, z, xv V, J, R) = XR sc d 109 474 [o0, o1, o2, o3, o4, o5, o6, o7, o8, o9, o10, o11, o12, o13, o14] [xw 4, s0, s1, s2, s3] (T, z, xv V, J, R) :=
  sw_iconst f_109_473
theorem bL_law_474 {o0 o1 o2 o3 o4 o5 o6 o7 o8 o9 o10 o11 o12 : Option Value} {x13 x14 y0 : Int} {b1 b2 b3 b4 : Nat} : XR sc d 109 474 [o0, o1, o2, o3, o4, o5, o6, o7, o8, o9, o10, o11, o12, some (xw x13), some (xw x14)] [xw y0, .ref b1, .ref b2, .ref b3, .ref b4] (T, z, xv V, J, R) = xret 109 (XR sc d 109) 478 481 [o0, o1, o2, o3, o4, o5, o6, o7, o8, o9, o10, o11, o12, some (xw x13), some (xw x14)] [] (X sc d 108 [.ref b4, .ref b3, .ref b2, .ref b1, xw y0, xw x13, xw x14] (T, z, xv V, J, R)) :=
  (sw_iload f_109_474 rfl).trans ((sw_iload f_109_476 rfl).trans (st_callS' f_109_478 h_109_182 mn_108 rfl rfl rfl rfl))
theorem bL_law_481 {o0 o1 o2 o3 o4 o5 o6 o7 o8 o9 o10 o11 o12 o13 o14 : Option Value} {y0 : Int} : XR sc d 109 481 [o0, o1, o2, o3, o4, o5, o6, o7, o8, o9, o10, o11, o12, o13, o14] [xw y0] (T, z, xv V, J, R) = XR sc d 109 483 [o0, o1, o2, o3, o4, o5, o6, o7, o8, o9, some (xw y0), o11, o12, o13, o14] [] (T, z, xv V, J, R) :=
  sw_istore (L' := [o0, o1, o2, o3, o4, o5, o6, o7, o8, o9, some (xw y0), o11, o12, o13, o14]) f_109_481 (Nat.le_of_ble_eq_true rfl) rfl
theorem bL_law_483 {o0 o1 o2 o3 o4 o5 o6 o7 o8 o9 o11 o12 o13 o14 : Option Value} {x10 : Int} (g1 : -2147483648 ≤ x10 ∧ x10 ≤ 2147483647) : XR sc d 109 483 [o0, o1, o2, o3, o4, o5, o6, o7, o8, o9, some (xw x10), o11, o12, o13, o14] [] (T, z, xv V, J, R) = if x10 = 0 then XR sc d 109 516 [o0, o1, o2, o3, o4, o5, o6, o7, o8, o9, some (xw x10), o11, o12, o13, o14] [] (T, z, xv V, J, R) else XR sc d 109 488 [o0, o1, o2, o3, o4, o5, o6, o7, o8, o9, some (xw x10), o11, o12, o13, o14] [] (T, z, xv V, J, R) :=
  (sw_iload f_109_483 rfl).trans (sw_if_eq (t := 516) f_109_485 ⟨by decide, rfl⟩ g1)
theorem bL_law_488 {o0 o2 o10 o11 o12 : Option Value} {x13 x14 : Int} {a1 a3 a4 a5 a6 a7 a8 a9 : Nat} : XR sc d 109 488 [o0, some (.ref a1), o2, some (.ref a3), some (.ref a4), some (.ref a5), some (.ref a6), some (.ref a7), some (.ref a8), some (.ref a9), o10, o11, o12, some (xw x13), some (xw x14)] [] (T, z, xv V, J, R) = xret 109 (XR sc d 109) 506 509 [o0, some (.ref a1), o2, some (.ref a3), some (.ref a4), some (.ref a5), some (.ref a6), some (.ref a7), some (.ref a8), some (.ref a9), o10, o11, o12, some (xw x13), some (xw x14)] [] (X sc d 104 [.ref a1, .ref a3, .ref a4, .ref a5, .ref a6, .ref a7, .ref a8, .ref a9, xw x13, xw x14] (T, z, xv V, J, R)) :=
  (st_aload_n f_109_488 rfl).trans ((st_aload_n f_109_489 rfl).trans ((st_aload f_109_490 rfl).trans ((st_aload f_109_492 rfl).trans ((st_aload f_109_494 rfl).trans ((st_aload f_109_496 rfl).trans ((st_aload f_109_498 rfl).trans ((st_aload f_109_500 rfl).trans ((sw_iload f_109_502 rfl).trans ((sw_iload f_109_504 rfl).trans (st_callS' f_109_506 h_109_186 mn_104 rfl rfl rfl rfl))))))))))
theorem bL_law_509 {o0 o1 o2 o3 o4 o5 o6 o7 o8 o9 o10 o11 o12 o13 o14 : Option Value} {y0 : Int} (g1 : -2147483648 ≤ y0 ∧ y0 ≤ 2147483647) : XR sc d 109 509 [o0, o1, o2, o3, o4, o5, o6, o7, o8, o9, o10, o11, o12, o13, o14] [xw y0] (T, z, xv V, J, R) = if y0 = 0 then XR sc d 109 516 [o0, o1, o2, o3, o4, o5, o6, o7, o8, o9, o10, o11, o12, o13, o14] [] (T, z, xv V, J, R) else XR sc d 109 512 [o0, o1, o2, o3, o4, o5, o6, o7, o8, o9, o10, o11, o12, o13, o14] [] (T, z, xv V, J, R) :=
  sw_if_eq (t := 516) f_109_509 ⟨by decide, rfl⟩ g1
theorem bL_law_512 {o0 o1 o2 o3 o4 o5 o6 o7 o8 o9 o10 o11 o12 o13 o14 : Option Value} : XR sc d 109 512 [o0, o1, o2, o3, o4, o5, o6, o7, o8, o9, o10, o11, o12, o13, o14] [] (T, z, xv V, J, R) = XR sc d 109 517 [o0, o1, o2, o3, o4, o5, o6, o7, o8, o9, o10, o11, o12, o13, o14] [xw 1] (T, z, xv V, J, R) :=
  (sw_iconst f_109_512).trans (st_goto (t := 517) f_109_513 ⟨by decide, rfl⟩)
theorem bL_law_516 {o0 o1 o2 o3 o4 o5 o6 o7 o8 o9 o10 o11 o12 o13 o14 : Option Value} : XR sc d 109 516 [o0, o1, o2, o3, o4, o5, o6, o7, o8, o9, o10, o11, o12, o13, o14] [] (T, z, xv V, J, R) = XR sc d 109 517 [o0, o1, o2, o3, o4, o5, o6, o7, o8, o9, o10, o11, o12, o13, o14] [xw 0] (T, z, xv V, J, R) :=
  sw_iconst f_109_516
theorem bL_law_517 {o0 o1 o2 o3 o4 o5 o6 o7 o8 o9 o10 o12 o13 o14 : Option Value} {y0 x11 : Int} : XR sc d 109 517 [o0, o1, o2, o3, o4, o5, o6, o7, o8, o9, o10, some (xw x11), o12, o13, o14] [xw y0] (T, z, xv V, J, R) = XR sc d 109 175 [o0, o1, o2, o3, o4, o5, o6, o7, o8, o9, some (xw y0), some (xw (x11 + 1)), o12, o13, o14] [] (T, z, xv V, J, R) :=
  (sw_istore (L' := [o0, o1, o2, o3, o4, o5, o6, o7, o8, o9, some (xw y0), some (xw x11), o12, o13, o14]) f_109_517 (Nat.le_of_ble_eq_true rfl) rfl).trans ((sw_iinc (L' := [o0, o1, o2, o3, o4, o5, o6, o7, o8, o9, some (xw y0), some (xw (x11 + 1)), o12, o13, o14]) f_109_519 rfl (Nat.le_of_ble_eq_true rfl) rfl).trans (st_goto (t := 175) f_109_522 ⟨by decide, rfl⟩))
theorem bL_law_525 {o0 o1 o2 o3 o4 o5 o6 o7 o8 o9 o11 o12 o13 o14 : Option Value} {x10 : Int} (g1 : x10 = 0 ∨ x10 = 1) : XR sc d 109 525 [o0, o1, o2, o3, o4, o5, o6, o7, o8, o9, some (xw x10), o11, o12, o13, o14] [] (T, z, xv V, J, R) = some (.inl (some (xw x10)), (T, z, xv V, J, R)) :=
  (sw_iload f_109_525 rfl).trans (sw_zreturn f_109_527 mr_109 g1)
end BLK
