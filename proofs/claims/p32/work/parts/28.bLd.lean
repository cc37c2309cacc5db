/-! instructions, by program (gen2.py) -/
set_option maxRecDepth 100000 in
theorem f_106_0 : xft 106 0 = some (.iload 7) := by decide +kernel
set_option maxRecDepth 100000 in
theorem f_106_2 : xft 106 2 = some (.ifCond .ne 117) := by decide +kernel
set_option maxRecDepth 100000 in
theorem f_106_5 : xft 106 5 = some (.aload 6) := by decide +kernel
set_option maxRecDepth 100000 in
theorem f_106_7 : xft 106 7 = some (.iconst 0) := by decide +kernel
set_option maxRecDepth 100000 in
theorem f_106_8 : xft 106 8 = some (.iaload) := by decide +kernel
set_option maxRecDepth 100000 in
theorem f_106_9 : xft 106 9 = some (.iconst 2) := by decide +kernel
set_option maxRecDepth 100000 in
theorem f_106_10 : xft 106 10 = some (.if_icmp .ge 109) := by decide +kernel
set_option maxRecDepth 100000 in
theorem f_106_13 : xft 106 13 = some (.iload 8) := by decide +kernel
set_option maxRecDepth 100000 in
theorem f_106_15 : xft 106 15 = some (.bipush 9) := by decide +kernel
set_option maxRecDepth 100000 in
theorem f_106_17 : xft 106 17 = some (.irem) := by decide +kernel
set_option maxRecDepth 100000 in
theorem f_106_18 : xft 106 18 = some (.ifCond .ne 14) := by decide +kernel
set_option maxRecDepth 100000 in
theorem f_106_21 : xft 106 21 = some (.iload 8) := by decide +kernel
set_option maxRecDepth 100000 in
theorem f_106_23 : xft 106 23 = some (.bipush 9) := by decide +kernel
set_option maxRecDepth 100000 in
theorem f_106_25 : xft 106 25 = some (.idiv) := by decide +kernel
set_option maxRecDepth 100000 in
theorem f_106_26 : xft 106 26 = some (.bipush 11) := by decide +kernel
set_option maxRecDepth 100000 in
theorem f_106_28 : xft 106 28 = some (.irem) := by decide +kernel
set_option maxRecDepth 100000 in
theorem f_106_29 : xft 106 29 = some (.goto 10) := by decide +kernel
set_option maxRecDepth 100000 in
theorem f_106_32 : xft 106 32 = some (.iconst 3) := by decide +kernel
set_option maxRecDepth 100000 in
theorem f_106_33 : xft 106 33 = some (.iload 8) := by decide +kernel
set_option maxRecDepth 100000 in
theorem f_106_35 : xft 106 35 = some (.bipush 7) := by decide +kernel
set_option maxRecDepth 100000 in
theorem f_106_37 : xft 106 37 = some (.irem) := by decide +kernel
set_option maxRecDepth 100000 in
theorem f_106_38 : xft 106 38 = some (.iadd) := by decide +kernel
set_option maxRecDepth 100000 in
theorem f_106_39 : xft 106 39 = some (.istore 10) := by decide +kernel
set_option maxRecDepth 100000 in
theorem f_106_41 : xft 106 41 = some (.iload 10) := by decide +kernel
set_option maxRecDepth 100000 in
theorem f_106_43 : xft 106 43 = some (.iconst 1) := by decide +kernel
set_option maxRecDepth 100000 in
theorem f_106_44 : xft 106 44 = some (.if_icmp .le 14) := by decide +kernel
set_option maxRecDepth 100000 in
theorem f_106_47 : xft 106 47 = some (.iload 10) := by decide +kernel
set_option maxRecDepth 100000 in
theorem f_106_49 : xft 106 49 = some (.bipush 10) := by decide +kernel
set_option maxRecDepth 100000 in
theorem f_106_51 : xft 106 51 = some (.if_icmp .ge 7) := by decide +kernel
set_option maxRecDepth 100000 in
theorem f_106_54 : xft 106 54 = some (.iconst 1) := by decide +kernel
set_option maxRecDepth 100000 in
theorem f_106_55 : xft 106 55 = some (.goto 4) := by decide +kernel
set_option maxRecDepth 100000 in
theorem f_106_58 : xft 106 58 = some (.iconst 0) := by decide +kernel
set_option maxRecDepth 100000 in
theorem f_106_59 : xft 106 59 = some (.istore 11) := by decide +kernel
set_option maxRecDepth 100000 in
theorem f_106_61 : xft 106 61 = some (.iload 11) := by decide +kernel
set_option maxRecDepth 100000 in
theorem f_106_63 : xft 106 63 = some (.ifCond .eq 19) := by decide +kernel
set_option maxRecDepth 100000 in
theorem f_106_66 : xft 106 66 = some (.aload_n 1) := by decide +kernel
set_option maxRecDepth 100000 in
theorem f_106_67 : xft 106 67 = some (.aload 6) := by decide +kernel
set_option maxRecDepth 100000 in
theorem f_106_69 : xft 106 69 = some (.iconst 0) := by decide +kernel
set_option maxRecDepth 100000 in
theorem f_106_70 : xft 106 70 = some (.iaload) := by decide +kernel
set_option maxRecDepth 100000 in
theorem f_106_71 : xft 106 71 = some (.iload 10) := by decide +kernel
set_option maxRecDepth 100000 in
theorem f_106_73 : xft 106 73 = some (.iastore) := by decide +kernel
set_option maxRecDepth 100000 in
theorem f_106_74 : xft 106 74 = some (.aload 6) := by decide +kernel
set_option maxRecDepth 100000 in
theorem f_106_76 : xft 106 76 = some (.iconst 0) := by decide +kernel
set_option maxRecDepth 100000 in
theorem f_106_77 : xft 106 77 = some (.dup2) := by decide +kernel
set_option maxRecDepth 100000 in
theorem f_106_78 : xft 106 78 = some (.iaload) := by decide +kernel
set_option maxRecDepth 100000 in
theorem f_106_79 : xft 106 79 = some (.iconst 1) := by decide +kernel
set_option maxRecDepth 100000 in
theorem f_106_80 : xft 106 80 = some (.iadd) := by decide +kernel
set_option maxRecDepth 100000 in
theorem f_106_81 : xft 106 81 = some (.iastore) := by decide +kernel
set_option maxRecDepth 100000 in
theorem f_106_82 : xft 106 82 = some (.aload_n 0) := by decide +kernel
set_option maxRecDepth 100000 in
theorem f_106_83 : xft 106 83 = some (.iconst 0) := by decide +kernel
set_option maxRecDepth 100000 in
theorem f_106_84 : xft 106 84 = some (.iload 10) := by decide +kernel
set_option maxRecDepth 100000 in
theorem f_106_86 : xft 106 86 = some (.iconst 0) := by decide +kernel
set_option maxRecDepth 100000 in
theorem f_106_87 : xft 106 87 = some (.iconst 0) := by decide +kernel
set_option maxRecDepth 100000 in
theorem f_106_88 : xft 106 88 = some (.iconst 0) := by decide +kernel
set_option maxRecDepth 100000 in
theorem f_106_89 : xft 106 89 = some (.iconst 0) := by decide +kernel
set_option maxRecDepth 100000 in
theorem f_106_90 : xft 106 90 = some (.iconst 0) := by decide +kernel
set_option maxRecDepth 100000 in
theorem f_106_91 : xft 106 91 = some (.invokestatic 124) := by decide +kernel
set_option maxRecDepth 100000 in
theorem f_106_94 : xft 106 94 = some (.iload 11) := by decide +kernel
set_option maxRecDepth 100000 in
theorem f_106_96 : xft 106 96 = some (.ifCond .eq 12) := by decide +kernel
set_option maxRecDepth 100000 in
theorem f_106_99 : xft 106 99 = some (.aload 6) := by decide +kernel
set_option maxRecDepth 100000 in
theorem f_106_101 : xft 106 101 = some (.iconst 0) := by decide +kernel
set_option maxRecDepth 100000 in
theorem f_106_102 : xft 106 102 = some (.iaload) := by decide +kernel
set_option maxRecDepth 100000 in
theorem f_106_103 : xft 106 103 = some (.iconst 1) := by decide +kernel
set_option maxRecDepth 100000 in
theorem f_106_104 : xft 106 104 = some (.isub) := by decide +kernel
set_option maxRecDepth 100000 in
theorem f_106_105 : xft 106 105 = some (.goto 5) := by decide +kernel
set_option maxRecDepth 100000 in
theorem f_106_108 : xft 106 108 = some (.ldc 82) := by decide +kernel
set_option maxRecDepth 100000 in
theorem f_106_110 : xft 106 110 = some (.if_icmp .ne 7) := by decide +kernel
set_option maxRecDepth 100000 in
theorem f_106_113 : xft 106 113 = some (.iconst 1) := by decide +kernel
set_option maxRecDepth 100000 in
theorem f_106_114 : xft 106 114 = some (.goto 4) := by decide +kernel
set_option maxRecDepth 100000 in
theorem f_106_117 : xft 106 117 = some (.iconst 0) := by decide +kernel
set_option maxRecDepth 100000 in
theorem f_106_118 : xft 106 118 = some (.ireturn) := by decide +kernel
set_option maxRecDepth 100000 in
theorem f_106_119 : xft 106 119 = some (.iload 8) := by decide +kernel
set_option maxRecDepth 100000 in
theorem f_106_121 : xft 106 121 = some (.aload 6) := by decide +kernel
set_option maxRecDepth 100000 in
theorem f_106_123 : xft 106 123 = some (.iconst 0) := by decide +kernel
set_option maxRecDepth 100000 in
theorem f_106_124 : xft 106 124 = some (.iaload) := by decide +kernel
set_option maxRecDepth 100000 in
theorem f_106_125 : xft 106 125 = some (.iconst 1) := by decide +kernel
set_option maxRecDepth 100000 in
theorem f_106_126 : xft 106 126 = some (.iadd) := by decide +kernel
set_option maxRecDepth 100000 in
theorem f_106_127 : xft 106 127 = some (.irem) := by decide +kernel
set_option maxRecDepth 100000 in
theorem f_106_128 : xft 106 128 = some (.istore 10) := by decide +kernel
set_option maxRecDepth 100000 in
theorem f_106_130 : xft 106 130 = some (.iload 10) := by decide +kernel
set_option maxRecDepth 100000 in
theorem f_106_132 : xft 106 132 = some (.aload 6) := by decide +kernel
set_option maxRecDepth 100000 in
theorem f_106_134 : xft 106 134 = some (.iconst 0) := by decide +kernel
set_option maxRecDepth 100000 in
theorem f_106_135 : xft 106 135 = some (.iaload) := by decide +kernel
set_option maxRecDepth 100000 in
theorem f_106_136 : xft 106 136 = some (.if_icmp .ge 7) := by decide +kernel
set_option maxRecDepth 100000 in
theorem f_106_139 : xft 106 139 = some (.iconst 1) := by decide +kernel
set_option maxRecDepth 100000 in
theorem f_106_140 : xft 106 140 = some (.goto 4) := by decide +kernel
set_option maxRecDepth 100000 in
theorem f_106_143 : xft 106 143 = some (.iconst 0) := by decide +kernel
set_option maxRecDepth 100000 in
theorem f_106_144 : xft 106 144 = some (.istore 11) := by decide +kernel
set_option maxRecDepth 100000 in
theorem f_106_146 : xft 106 146 = some (.iload 8) := by decide +kernel
set_option maxRecDepth 100000 in
theorem f_106_148 : xft 106 148 = some (.iconst 3) := by decide +kernel
set_option maxRecDepth 100000 in
theorem f_106_149 : xft 106 149 = some (.idiv) := by decide +kernel
set_option maxRecDepth 100000 in
theorem f_106_150 : xft 106 150 = some (.bipush 13) := by decide +kernel
set_option maxRecDepth 100000 in
theorem f_106_152 : xft 106 152 = some (.irem) := by decide +kernel
set_option maxRecDepth 100000 in
theorem f_106_153 : xft 106 153 = some (.istore 12) := by decide +kernel
set_option maxRecDepth 100000 in
theorem f_106_155 : xft 106 155 = some (.iload 9) := by decide +kernel
set_option maxRecDepth 100000 in
theorem f_106_157 : xft 106 157 = some (.bipush 9) := by decide +kernel
set_option maxRecDepth 100000 in
theorem f_106_159 : xft 106 159 = some (.irem) := by decide +kernel
set_option maxRecDepth 100000 in
theorem f_106_160 : xft 106 160 = some (.istore 13) := by decide +kernel
set_option maxRecDepth 100000 in
theorem f_106_162 : xft 106 162 = some (.iload 11) := by decide +kernel
set_option maxRecDepth 100000 in
theorem f_106_164 : xft 106 164 = some (.ifCond .eq 21) := by decide +kernel
set_option maxRecDepth 100000 in
theorem f_106_167 : xft 106 167 = some (.iload 12) := by decide +kernel
set_option maxRecDepth 100000 in
theorem f_106_169 : xft 106 169 = some (.bipush 12) := by decide +kernel
set_option maxRecDepth 100000 in
theorem f_106_171 : xft 106 171 = some (.if_icmp .ge 14) := by decide +kernel
set_option maxRecDepth 100000 in
theorem f_106_174 : xft 106 174 = some (.iload 13) := by decide +kernel
set_option maxRecDepth 100000 in
theorem f_106_176 : xft 106 176 = some (.bipush 8) := by decide +kernel
set_option maxRecDepth 100000 in
theorem f_106_178 : xft 106 178 = some (.if_icmp .ge 7) := by decide +kernel
set_option maxRecDepth 100000 in
theorem f_106_181 : xft 106 181 = some (.iconst 1) := by decide +kernel
set_option maxRecDepth 100000 in
theorem f_106_182 : xft 106 182 = some (.goto 4) := by decide +kernel
set_option maxRecDepth 100000 in
theorem f_106_185 : xft 106 185 = some (.iconst 0) := by decide +kernel
set_option maxRecDepth 100000 in
theorem f_106_186 : xft 106 186 = some (.istore 14) := by decide +kernel
set_option maxRecDepth 100000 in
theorem f_106_188 : xft 106 188 = some (.iload 7) := by decide +kernel
set_option maxRecDepth 100000 in
theorem f_106_190 : xft 106 190 = some (.iconst 2) := by decide +kernel
set_option maxRecDepth 100000 in
theorem f_106_191 : xft 106 191 = some (.if_icmp .ge 114) := by decide +kernel
set_option maxRecDepth 100000 in
theorem f_106_194 : xft 106 194 = some (.aload_n 1) := by decide +kernel
set_option maxRecDepth 100000 in
theorem f_106_195 : xft 106 195 = some (.iload 14) := by decide +kernel
set_option maxRecDepth 100000 in
theorem f_106_197 : xft 106 197 = some (.ifCond .eq 16) := by decide +kernel
set_option maxRecDepth 100000 in
theorem f_106_200 : xft 106 200 = some (.iconst 2) := by decide +kernel
set_option maxRecDepth 100000 in
theorem f_106_201 : xft 106 201 = some (.bipush 8) := by decide +kernel
set_option maxRecDepth 100000 in
theorem f_106_203 : xft 106 203 = some (.iload 10) := by decide +kernel
set_option maxRecDepth 100000 in
theorem f_106_205 : xft 106 205 = some (.imul) := by decide +kernel
set_option maxRecDepth 100000 in
theorem f_106_206 : xft 106 206 = some (.iadd) := by decide +kernel
set_option maxRecDepth 100000 in
theorem f_106_207 : xft 106 207 = some (.iload 13) := by decide +kernel
set_option maxRecDepth 100000 in
theorem f_106_209 : xft 106 209 = some (.iadd) := by decide +kernel
set_option maxRecDepth 100000 in
theorem f_106_210 : xft 106 210 = some (.goto 5) := by decide +kernel
set_option maxRecDepth 100000 in
theorem f_106_213 : xft 106 213 = some (.bipush 18) := by decide +kernel
set_option maxRecDepth 100000 in
theorem f_106_215 : xft 106 215 = some (.dup2) := by decide +kernel
set_option maxRecDepth 100000 in
theorem f_106_216 : xft 106 216 = some (.iaload) := by decide +kernel
set_option maxRecDepth 100000 in
theorem f_106_217 : xft 106 217 = some (.iconst 1) := by decide +kernel
set_option maxRecDepth 100000 in
theorem f_106_218 : xft 106 218 = some (.iload 12) := by decide +kernel
set_option maxRecDepth 100000 in
theorem f_106_220 : xft 106 220 = some (.ishl) := by decide +kernel
set_option maxRecDepth 100000 in
theorem f_106_221 : xft 106 221 = some (.ior) := by decide +kernel
set_option maxRecDepth 100000 in
theorem f_106_222 : xft 106 222 = some (.iastore) := by decide +kernel
set_option maxRecDepth 100000 in
theorem f_106_223 : xft 106 223 = some (.iconst 0) := by decide +kernel
set_option maxRecDepth 100000 in
theorem f_106_224 : xft 106 224 = some (.istore 15) := by decide +kernel
set_option maxRecDepth 100000 in
theorem f_106_226 : xft 106 226 = some (.iconst 0) := by decide +kernel
set_option maxRecDepth 100000 in
theorem f_106_227 : xft 106 227 = some (.istore 16) := by decide +kernel
set_option maxRecDepth 100000 in
theorem f_106_229 : xft 106 229 = some (.iload 16) := by decide +kernel
set_option maxRecDepth 100000 in
theorem f_106_231 : xft 106 231 = some (.bipush 8) := by decide +kernel
set_option maxRecDepth 100000 in
theorem f_106_233 : xft 106 233 = some (.if_icmp .ge 34) := by decide +kernel
set_option maxRecDepth 100000 in
theorem f_106_236 : xft 106 236 = some (.iload 14) := by decide +kernel
set_option maxRecDepth 100000 in
theorem f_106_238 : xft 106 238 = some (.ifCond .eq 29) := by decide +kernel
set_option maxRecDepth 100000 in
theorem f_106_241 : xft 106 241 = some (.iload 15) := by decide +kernel
set_option maxRecDepth 100000 in
theorem f_106_243 : xft 106 243 = some (.aload_n 1) := by decide +kernel
set_option maxRecDepth 100000 in
theorem f_106_244 : xft 106 244 = some (.iconst 2) := by decide +kernel
set_option maxRecDepth 100000 in
theorem f_106_245 : xft 106 245 = some (.bipush 8) := by decide +kernel
set_option maxRecDepth 100000 in
theorem f_106_247 : xft 106 247 = some (.iload 10) := by decide +kernel
set_option maxRecDepth 100000 in
theorem f_106_249 : xft 106 249 = some (.imul) := by decide +kernel
set_option maxRecDepth 100000 in
theorem f_106_250 : xft 106 250 = some (.iadd) := by decide +kernel
set_option maxRecDepth 100000 in
theorem f_106_251 : xft 106 251 = some (.iload 16) := by decide +kernel
set_option maxRecDepth 100000 in
theorem f_106_253 : xft 106 253 = some (.iadd) := by decide +kernel
set_option maxRecDepth 100000 in
theorem f_106_254 : xft 106 254 = some (.iaload) := by decide +kernel
set_option maxRecDepth 100000 in
theorem f_106_255 : xft 106 255 = some (.invokestatic 116) := by decide +kernel
set_option maxRecDepth 100000 in
theorem f_106_258 : xft 106 258 = some (.iadd) := by decide +kernel
set_option maxRecDepth 100000 in
theorem f_106_259 : xft 106 259 = some (.istore 15) := by decide +kernel
set_option maxRecDepth 100000 in
theorem f_106_261 : xft 106 261 = some (.iinc 16 1) := by decide +kernel
set_option maxRecDepth 100000 in
theorem f_106_264 : xft 106 264 = some (.goto (-35)) := by decide +kernel
set_option maxRecDepth 100000 in
theorem f_106_267 : xft 106 267 = some (.aload_n 0) := by decide +kernel
set_option maxRecDepth 100000 in
theorem f_106_268 : xft 106 268 = some (.iconst 1) := by decide +kernel
set_option maxRecDepth 100000 in
theorem f_106_269 : xft 106 269 = some (.iload 10) := by decide +kernel
set_option maxRecDepth 100000 in
theorem f_106_271 : xft 106 271 = some (.iload 12) := by decide +kernel
set_option maxRecDepth 100000 in
theorem f_106_273 : xft 106 273 = some (.iload 13) := by decide +kernel
set_option maxRecDepth 100000 in
theorem f_106_275 : xft 106 275 = some (.iconst 0) := by decide +kernel
set_option maxRecDepth 100000 in
theorem f_106_276 : xft 106 276 = some (.iconst 0) := by decide +kernel
set_option maxRecDepth 100000 in
theorem f_106_277 : xft 106 277 = some (.iconst 0) := by decide +kernel
set_option maxRecDepth 100000 in
theorem f_106_278 : xft 106 278 = some (.invokestatic 124) := by decide +kernel
set_option maxRecDepth 100000 in
theorem f_106_281 : xft 106 281 = some (.iload 14) := by decide +kernel
set_option maxRecDepth 100000 in
theorem f_106_283 : xft 106 283 = some (.ifCond .eq 11) := by decide +kernel
set_option maxRecDepth 100000 in
theorem f_106_286 : xft 106 286 = some (.bipush 96) := by decide +kernel
set_option maxRecDepth 100000 in
theorem f_106_288 : xft 106 288 = some (.iload 15) := by decide +kernel
set_option maxRecDepth 100000 in
theorem f_106_290 : xft 106 290 = some (.isub) := by decide +kernel
set_option maxRecDepth 100000 in
theorem f_106_291 : xft 106 291 = some (.goto 5) := by decide +kernel
set_option maxRecDepth 100000 in
theorem f_106_294 : xft 106 294 = some (.ldc 79) := by decide +kernel
set_option maxRecDepth 100000 in
theorem f_106_296 : xft 106 296 = some (.if_icmp .ne 7) := by decide +kernel
set_option maxRecDepth 100000 in
theorem f_106_299 : xft 106 299 = some (.iconst 1) := by decide +kernel
set_option maxRecDepth 100000 in
theorem f_106_300 : xft 106 300 = some (.goto 4) := by decide +kernel
set_option maxRecDepth 100000 in
theorem f_106_303 : xft 106 303 = some (.iconst 0) := by decide +kernel
set_option maxRecDepth 100000 in
theorem f_106_304 : xft 106 304 = some (.ireturn) := by decide +kernel
set_option maxRecDepth 100000 in
theorem f_106_305 : xft 106 305 = some (.iload 8) := by decide +kernel
set_option maxRecDepth 100000 in
theorem f_106_307 : xft 106 307 = some (.bipush 39) := by decide +kernel
set_option maxRecDepth 100000 in
theorem f_106_309 : xft 106 309 = some (.idiv) := by decide +kernel
set_option maxRecDepth 100000 in
theorem f_106_310 : xft 106 310 = some (.bipush 9) := by decide +kernel
set_option maxRecDepth 100000 in
theorem f_106_312 : xft 106 312 = some (.irem) := by decide +kernel
set_option maxRecDepth 100000 in
theorem f_106_313 : xft 106 313 = some (.ifCond .ne 15) := by decide +kernel
set_option maxRecDepth 100000 in
theorem f_106_316 : xft 106 316 = some (.iload 8) := by decide +kernel
set_option maxRecDepth 100000 in
theorem f_106_318 : xft 106 318 = some (.sipush 351) := by decide +kernel
set_option maxRecDepth 100000 in
theorem f_106_321 : xft 106 321 = some (.idiv) := by decide +kernel
set_option maxRecDepth 100000 in
theorem f_106_322 : xft 106 322 = some (.bipush 14) := by decide +kernel
set_option maxRecDepth 100000 in
theorem f_106_324 : xft 106 324 = some (.irem) := by decide +kernel
set_option maxRecDepth 100000 in
theorem f_106_325 : xft 106 325 = some (.goto 13) := by decide +kernel
set_option maxRecDepth 100000 in
theorem f_106_328 : xft 106 328 = some (.iconst 1) := by decide +kernel
set_option maxRecDepth 100000 in
theorem f_106_329 : xft 106 329 = some (.iload 8) := by decide +kernel
set_option maxRecDepth 100000 in
theorem f_106_331 : xft 106 331 = some (.bipush 39) := by decide +kernel
set_option maxRecDepth 100000 in
theorem f_106_333 : xft 106 333 = some (.idiv) := by decide +kernel
set_option maxRecDepth 100000 in
theorem f_106_334 : xft 106 334 = some (.bipush 6) := by decide +kernel
set_option maxRecDepth 100000 in
theorem f_106_336 : xft 106 336 = some (.irem) := by decide +kernel
set_option maxRecDepth 100000 in
theorem f_106_337 : xft 106 337 = some (.iadd) := by decide +kernel
set_option maxRecDepth 100000 in
theorem f_106_338 : xft 106 338 = some (.istore 15) := by decide +kernel
set_option maxRecDepth 100000 in
theorem f_106_340 : xft 106 340 = some (.iload 9) := by decide +kernel
set_option maxRecDepth 100000 in
theorem f_106_342 : xft 106 342 = some (.bipush 9) := by decide +kernel
set_option maxRecDepth 100000 in
theorem f_106_344 : xft 106 344 = some (.idiv) := by decide +kernel
set_option maxRecDepth 100000 in
theorem f_106_345 : xft 106 345 = some (.bipush 9) := by decide +kernel
set_option maxRecDepth 100000 in
theorem f_106_347 : xft 106 347 = some (.irem) := by decide +kernel
set_option maxRecDepth 100000 in
theorem f_106_348 : xft 106 348 = some (.ifCond .ne 14) := by decide +kernel
set_option maxRecDepth 100000 in
theorem f_106_351 : xft 106 351 = some (.iload 9) := by decide +kernel
set_option maxRecDepth 100000 in
theorem f_106_353 : xft 106 353 = some (.bipush 81) := by decide +kernel
set_option maxRecDepth 100000 in
theorem f_106_355 : xft 106 355 = some (.idiv) := by decide +kernel
set_option maxRecDepth 100000 in
theorem f_106_356 : xft 106 356 = some (.bipush 10) := by decide +kernel
set_option maxRecDepth 100000 in
theorem f_106_358 : xft 106 358 = some (.irem) := by decide +kernel
set_option maxRecDepth 100000 in
theorem f_106_359 : xft 106 359 = some (.goto 12) := by decide +kernel
set_option maxRecDepth 100000 in
theorem f_106_362 : xft 106 362 = some (.iconst 1) := by decide +kernel
set_option maxRecDepth 100000 in
theorem f_106_363 : xft 106 363 = some (.iload 9) := by decide +kernel
set_option maxRecDepth 100000 in
theorem f_106_365 : xft 106 365 = some (.bipush 9) := by decide +kernel
set_option maxRecDepth 100000 in
theorem f_106_367 : xft 106 367 = some (.idiv) := by decide +kernel
set_option maxRecDepth 100000 in
theorem f_106_368 : xft 106 368 = some (.iconst 3) := by decide +kernel
set_option maxRecDepth 100000 in
theorem f_106_369 : xft 106 369 = some (.irem) := by decide +kernel
set_option maxRecDepth 100000 in
theorem f_106_370 : xft 106 370 = some (.iadd) := by decide +kernel
set_option maxRecDepth 100000 in
theorem f_106_371 : xft 106 371 = some (.istore 16) := by decide +kernel
set_option maxRecDepth 100000 in
theorem f_106_373 : xft 106 373 = some (.iload 9) := by decide +kernel
set_option maxRecDepth 100000 in
theorem f_106_375 : xft 106 375 = some (.sipush 162) := by decide +kernel
set_option maxRecDepth 100000 in
theorem f_106_378 : xft 106 378 = some (.idiv) := by decide +kernel
set_option maxRecDepth 100000 in
theorem f_106_379 : xft 106 379 = some (.iconst 4) := by decide +kernel
set_option maxRecDepth 100000 in
theorem f_106_380 : xft 106 380 = some (.irem) := by decide +kernel
set_option maxRecDepth 100000 in
theorem f_106_381 : xft 106 381 = some (.ifCond .le 7) := by decide +kernel
set_option maxRecDepth 100000 in
theorem f_106_384 : xft 106 384 = some (.iconst 1) := by decide +kernel
set_option maxRecDepth 100000 in
theorem f_106_385 : xft 106 385 = some (.goto 4) := by decide +kernel
set_option maxRecDepth 100000 in
theorem f_106_388 : xft 106 388 = some (.iconst 0) := by decide +kernel
set_option maxRecDepth 100000 in
theorem f_106_389 : xft 106 389 = some (.istore 17) := by decide +kernel
set_option maxRecDepth 100000 in
theorem f_106_391 : xft 106 391 = some (.iload 15) := by decide +kernel
set_option maxRecDepth 100000 in
theorem f_106_393 : xft 106 393 = some (.ifCond .le 26) := by decide +kernel
set_option maxRecDepth 100000 in
theorem f_106_396 : xft 106 396 = some (.iload 15) := by decide +kernel
set_option maxRecDepth 100000 in
theorem f_106_398 : xft 106 398 = some (.bipush 13) := by decide +kernel
set_option maxRecDepth 100000 in
theorem f_106_400 : xft 106 400 = some (.if_icmp .ge 19) := by decide +kernel
set_option maxRecDepth 100000 in
theorem f_106_403 : xft 106 403 = some (.iload 16) := by decide +kernel
set_option maxRecDepth 100000 in
theorem f_106_405 : xft 106 405 = some (.ifCond .le 14) := by decide +kernel
set_option maxRecDepth 100000 in
theorem f_106_408 : xft 106 408 = some (.iload 16) := by decide +kernel
set_option maxRecDepth 100000 in
theorem f_106_410 : xft 106 410 = some (.bipush 9) := by decide +kernel
set_option maxRecDepth 100000 in
theorem f_106_412 : xft 106 412 = some (.if_icmp .ge 7) := by decide +kernel
set_option maxRecDepth 100000 in
theorem f_106_415 : xft 106 415 = some (.iconst 1) := by decide +kernel
set_option maxRecDepth 100000 in
theorem f_106_416 : xft 106 416 = some (.goto 4) := by decide +kernel
set_option maxRecDepth 100000 in
theorem f_106_419 : xft 106 419 = some (.iconst 0) := by decide +kernel
set_option maxRecDepth 100000 in
theorem f_106_420 : xft 106 420 = some (.istore 18) := by decide +kernel
set_option maxRecDepth 100000 in
theorem f_106_422 : xft 106 422 = some (.iload 7) := by decide +kernel
set_option maxRecDepth 100000 in
theorem f_106_424 : xft 106 424 = some (.iconst 2) := by decide +kernel
set_option maxRecDepth 100000 in
theorem f_106_425 : xft 106 425 = some (.if_icmp .ne 272) := by decide +kernel
set_option maxRecDepth 100000 in
theorem f_106_428 : xft 106 428 = some (.aload 6) := by decide +kernel
set_option maxRecDepth 100000 in
theorem f_106_430 : xft 106 430 = some (.iconst 1) := by decide +kernel
set_option maxRecDepth 100000 in
theorem f_106_431 : xft 106 431 = some (.iaload) := by decide +kernel
set_option maxRecDepth 100000 in
theorem f_106_432 : xft 106 432 = some (.bipush 10) := by decide +kernel
set_option maxRecDepth 100000 in
theorem f_106_434 : xft 106 434 = some (.if_icmp .ne 5) := by decide +kernel
set_option maxRecDepth 100000 in
theorem f_106_437 : xft 106 437 = some (.iconst 1) := by decide +kernel
set_option maxRecDepth 100000 in
theorem f_106_438 : xft 106 438 = some (.ireturn) := by decide +kernel
set_option maxRecDepth 100000 in
theorem f_106_439 : xft 106 439 = some (.iload 18) := by decide +kernel
set_option maxRecDepth 100000 in
theorem f_106_441 : xft 106 441 = some (.ifCond .eq 27) := by decide +kernel
set_option maxRecDepth 100000 in
theorem f_106_444 : xft 106 444 = some (.iload 12) := by decide +kernel
set_option maxRecDepth 100000 in
theorem f_106_446 : xft 106 446 = some (.iload 15) := by decide +kernel
set_option maxRecDepth 100000 in
theorem f_106_448 : xft 106 448 = some (.iadd) := by decide +kernel
set_option maxRecDepth 100000 in
theorem f_106_449 : xft 106 449 = some (.bipush 13) := by decide +kernel
set_option maxRecDepth 100000 in
theorem f_106_451 : xft 106 451 = some (.if_icmp .ge 17) := by decide +kernel
set_option maxRecDepth 100000 in
theorem f_106_454 : xft 106 454 = some (.iload 13) := by decide +kernel
set_option maxRecDepth 100000 in
theorem f_106_456 : xft 106 456 = some (.iload 16) := by decide +kernel
set_option maxRecDepth 100000 in
theorem f_106_458 : xft 106 458 = some (.iadd) := by decide +kernel
set_option maxRecDepth 100000 in
theorem f_106_459 : xft 106 459 = some (.bipush 9) := by decide +kernel
set_option maxRecDepth 100000 in
theorem f_106_461 : xft 106 461 = some (.if_icmp .ge 7) := by decide +kernel
set_option maxRecDepth 100000 in
theorem f_106_464 : xft 106 464 = some (.iconst 1) := by decide +kernel
set_option maxRecDepth 100000 in
theorem f_106_465 : xft 106 465 = some (.goto 4) := by decide +kernel
set_option maxRecDepth 100000 in
theorem f_106_468 : xft 106 468 = some (.iconst 0) := by decide +kernel
set_option maxRecDepth 100000 in
theorem f_106_469 : xft 106 469 = some (.istore 19) := by decide +kernel
set_option maxRecDepth 100000 in
theorem f_106_471 : xft 106 471 = some (.iload 14) := by decide +kernel
set_option maxRecDepth 100000 in
theorem f_106_473 : xft 106 473 = some (.ifCond .eq 31) := by decide +kernel
set_option maxRecDepth 100000 in
theorem f_106_476 : xft 106 476 = some (.iload 19) := by decide +kernel
set_option maxRecDepth 100000 in
theorem f_106_478 : xft 106 478 = some (.ifCond .eq 26) := by decide +kernel
set_option maxRecDepth 100000 in
theorem f_106_481 : xft 106 481 = some (.aload_n 1) := by decide +kernel
set_option maxRecDepth 100000 in
theorem f_106_482 : xft 106 482 = some (.iload 10) := by decide +kernel
set_option maxRecDepth 100000 in
theorem f_106_484 : xft 106 484 = some (.iload 12) := by decide +kernel
set_option maxRecDepth 100000 in
theorem f_106_486 : xft 106 486 = some (.iload 13) := by decide +kernel
set_option maxRecDepth 100000 in
theorem f_106_488 : xft 106 488 = some (.iload 15) := by decide +kernel
set_option maxRecDepth 100000 in
theorem f_106_490 : xft 106 490 = some (.iload 16) := by decide +kernel
set_option maxRecDepth 100000 in
theorem f_106_492 : xft 106 492 = some (.iload 17) := by decide +kernel
set_option maxRecDepth 100000 in
theorem f_106_494 : xft 106 494 = some (.invokestatic 160) := by decide +kernel
set_option maxRecDepth 100000 in
theorem f_106_497 : xft 106 497 = some (.ifCond .eq 7) := by decide +kernel
set_option maxRecDepth 100000 in
theorem f_106_500 : xft 106 500 = some (.iconst 1) := by decide +kernel
set_option maxRecDepth 100000 in
theorem f_106_501 : xft 106 501 = some (.goto 4) := by decide +kernel
set_option maxRecDepth 100000 in
theorem f_106_504 : xft 106 504 = some (.iconst 0) := by decide +kernel
set_option maxRecDepth 100000 in
theorem f_106_505 : xft 106 505 = some (.istore 20) := by decide +kernel
set_option maxRecDepth 100000 in
theorem f_106_507 : xft 106 507 = some (.iload 20) := by decide +kernel
set_option maxRecDepth 100000 in
theorem f_106_509 : xft 106 509 = some (.ifCond .eq 118) := by decide +kernel
set_option maxRecDepth 100000 in
theorem f_106_512 : xft 106 512 = some (.iconst 0) := by decide +kernel
set_option maxRecDepth 100000 in
theorem f_106_513 : xft 106 513 = some (.istore 21) := by decide +kernel
set_option maxRecDepth 100000 in
theorem f_106_515 : xft 106 515 = some (.iload 21) := by decide +kernel
set_option maxRecDepth 100000 in
theorem f_106_517 : xft 106 517 = some (.iload 15) := by decide +kernel
set_option maxRecDepth 100000 in
theorem f_106_519 : xft 106 519 = some (.iload 16) := by decide +kernel
set_option maxRecDepth 100000 in
theorem f_106_521 : xft 106 521 = some (.imul) := by decide +kernel
set_option maxRecDepth 100000 in
theorem f_106_522 : xft 106 522 = some (.if_icmp .ge 40) := by decide +kernel
set_option maxRecDepth 100000 in
theorem f_106_525 : xft 106 525 = some (.aload_n 1) := by decide +kernel
set_option maxRecDepth 100000 in
theorem f_106_526 : xft 106 526 = some (.iconst 2) := by decide +kernel
set_option maxRecDepth 100000 in
theorem f_106_527 : xft 106 527 = some (.bipush 8) := by decide +kernel
set_option maxRecDepth 100000 in
theorem f_106_529 : xft 106 529 = some (.iload 10) := by decide +kernel
set_option maxRecDepth 100000 in
theorem f_106_531 : xft 106 531 = some (.imul) := by decide +kernel
set_option maxRecDepth 100000 in
theorem f_106_532 : xft 106 532 = some (.iadd) := by decide +kernel
set_option maxRecDepth 100000 in
theorem f_106_533 : xft 106 533 = some (.iload 13) := by decide +kernel
set_option maxRecDepth 100000 in
theorem f_106_535 : xft 106 535 = some (.iadd) := by decide +kernel
set_option maxRecDepth 100000 in
theorem f_106_536 : xft 106 536 = some (.iload 21) := by decide +kernel
set_option maxRecDepth 100000 in
theorem f_106_538 : xft 106 538 = some (.iload 15) := by decide +kernel
set_option maxRecDepth 100000 in
theorem f_106_540 : xft 106 540 = some (.idiv) := by decide +kernel
set_option maxRecDepth 100000 in
theorem f_106_541 : xft 106 541 = some (.iadd) := by decide +kernel
set_option maxRecDepth 100000 in
theorem f_106_542 : xft 106 542 = some (.dup2) := by decide +kernel
set_option maxRecDepth 100000 in
theorem f_106_543 : xft 106 543 = some (.iaload) := by decide +kernel
set_option maxRecDepth 100000 in
theorem f_106_544 : xft 106 544 = some (.iconst 1) := by decide +kernel
set_option maxRecDepth 100000 in
theorem f_106_545 : xft 106 545 = some (.iload 12) := by decide +kernel
set_option maxRecDepth 100000 in
theorem f_106_547 : xft 106 547 = some (.iload 21) := by decide +kernel
set_option maxRecDepth 100000 in
theorem f_106_549 : xft 106 549 = some (.iload 15) := by decide +kernel
set_option maxRecDepth 100000 in
theorem f_106_551 : xft 106 551 = some (.irem) := by decide +kernel
set_option maxRecDepth 100000 in
theorem f_106_552 : xft 106 552 = some (.iadd) := by decide +kernel
set_option maxRecDepth 100000 in
theorem f_106_553 : xft 106 553 = some (.ishl) := by decide +kernel
set_option maxRecDepth 100000 in
theorem f_106_554 : xft 106 554 = some (.ior) := by decide +kernel
set_option maxRecDepth 100000 in
theorem f_106_555 : xft 106 555 = some (.iastore) := by decide +kernel
set_option maxRecDepth 100000 in
theorem f_106_556 : xft 106 556 = some (.iinc 21 1) := by decide +kernel
set_option maxRecDepth 100000 in
theorem f_106_559 : xft 106 559 = some (.goto (-44)) := by decide +kernel
set_option maxRecDepth 100000 in
theorem f_106_562 : xft 106 562 = some (.aload_n 2) := by decide +kernel
set_option maxRecDepth 100000 in
theorem f_106_563 : xft 106 563 = some (.aload 6) := by decide +kernel
set_option maxRecDepth 100000 in
theorem f_106_565 : xft 106 565 = some (.iconst 1) := by decide +kernel
set_option maxRecDepth 100000 in
theorem f_106_566 : xft 106 566 = some (.iaload) := by decide +kernel
set_option maxRecDepth 100000 in
theorem f_106_567 : xft 106 567 = some (.iload 15) := by decide +kernel
set_option maxRecDepth 100000 in
theorem f_106_569 : xft 106 569 = some (.bipush 16) := by decide +kernel
set_option maxRecDepth 100000 in
theorem f_106_571 : xft 106 571 = some (.iload 16) := by decide +kernel
set_option maxRecDepth 100000 in
theorem f_106_573 : xft 106 573 = some (.imul) := by decide +kernel
set_option maxRecDepth 100000 in
theorem f_106_574 : xft 106 574 = some (.iadd) := by decide +kernel
set_option maxRecDepth 100000 in
theorem f_106_575 : xft 106 575 = some (.sipush 256) := by decide +kernel
set_option maxRecDepth 100000 in
theorem f_106_578 : xft 106 578 = some (.aload_n 1) := by decide +kernel
set_option maxRecDepth 100000 in
theorem f_106_579 : xft 106 579 = some (.iload 10) := by decide +kernel
set_option maxRecDepth 100000 in
theorem f_106_581 : xft 106 581 = some (.iaload) := by decide +kernel
set_option maxRecDepth 100000 in
theorem f_106_582 : xft 106 582 = some (.iload 13) := by decide +kernel
set_option maxRecDepth 100000 in
theorem f_106_584 : xft 106 584 = some (.iload 16) := by decide +kernel
set_option maxRecDepth 100000 in
theorem f_106_586 : xft 106 586 = some (.iadd) := by decide +kernel
set_option maxRecDepth 100000 in
theorem f_106_587 : xft 106 587 = some (.iconst 5) := by decide +kernel
set_option maxRecDepth 100000 in
theorem f_106_588 : xft 106 588 = some (.if_icmp .le 7) := by decide +kernel
set_option maxRecDepth 100000 in
theorem f_106_591 : xft 106 591 = some (.iconst 1) := by decide +kernel
set_option maxRecDepth 100000 in
theorem f_106_592 : xft 106 592 = some (.goto 4) := by decide +kernel
set_option maxRecDepth 100000 in
theorem f_106_595 : xft 106 595 = some (.iconst 0) := by decide +kernel
set_option maxRecDepth 100000 in
theorem f_106_596 : xft 106 596 = some (.isub) := by decide +kernel
set_option maxRecDepth 100000 in
theorem f_106_597 : xft 106 597 = some (.imul) := by decide +kernel
set_option maxRecDepth 100000 in
theorem f_106_598 : xft 106 598 = some (.iadd) := by decide +kernel
set_option maxRecDepth 100000 in
theorem f_106_599 : xft 106 599 = some (.sipush 4096) := by decide +kernel
set_option maxRecDepth 100000 in
theorem f_106_602 : xft 106 602 = some (.iload 13) := by decide +kernel
set_option maxRecDepth 100000 in
theorem f_106_604 : xft 106 604 = some (.imul) := by decide +kernel
set_option maxRecDepth 100000 in
theorem f_106_605 : xft 106 605 = some (.iadd) := by decide +kernel
set_option maxRecDepth 100000 in
theorem f_106_606 : xft 106 606 = some (.iload 17) := by decide +kernel
set_option maxRecDepth 100000 in
theorem f_106_608 : xft 106 608 = some (.ifCond .eq 8) := by decide +kernel
set_option maxRecDepth 100000 in
theorem f_106_611 : xft 106 611 = some (.ldc 164) := by decide +kernel
set_option maxRecDepth 100000 in
theorem f_106_613 : xft 106 613 = some (.goto 4) := by decide +kernel
set_option maxRecDepth 100000 in
theorem f_106_616 : xft 106 616 = some (.iconst 0) := by decide +kernel
set_option maxRecDepth 100000 in
theorem f_106_617 : xft 106 617 = some (.iadd) := by decide +kernel
set_option maxRecDepth 100000 in
theorem f_106_618 : xft 106 618 = some (.iastore) := by decide +kernel
set_option maxRecDepth 100000 in
theorem f_106_619 : xft 106 619 = some (.aload 6) := by decide +kernel
set_option maxRecDepth 100000 in
theorem f_106_621 : xft 106 621 = some (.iconst 1) := by decide +kernel
set_option maxRecDepth 100000 in
theorem f_106_622 : xft 106 622 = some (.dup2) := by decide +kernel
set_option maxRecDepth 100000 in
theorem f_106_623 : xft 106 623 = some (.iaload) := by decide +kernel
set_option maxRecDepth 100000 in
theorem f_106_624 : xft 106 624 = some (.iconst 1) := by decide +kernel
set_option maxRecDepth 100000 in
theorem f_106_625 : xft 106 625 = some (.iadd) := by decide +kernel
set_option maxRecDepth 100000 in
theorem f_106_626 : xft 106 626 = some (.iastore) := by decide +kernel
set_option maxRecDepth 100000 in
theorem f_106_627 : xft 106 627 = some (.aload_n 0) := by decide +kernel
set_option maxRecDepth 100000 in
theorem f_106_628 : xft 106 628 = some (.iconst 2) := by decide +kernel
set_option maxRecDepth 100000 in
theorem f_106_629 : xft 106 629 = some (.iload 10) := by decide +kernel
set_option maxRecDepth 100000 in
theorem f_106_631 : xft 106 631 = some (.iload 12) := by decide +kernel
set_option maxRecDepth 100000 in
theorem f_106_633 : xft 106 633 = some (.iload 13) := by decide +kernel
set_option maxRecDepth 100000 in
theorem f_106_635 : xft 106 635 = some (.iload 15) := by decide +kernel
set_option maxRecDepth 100000 in
theorem f_106_637 : xft 106 637 = some (.iload 16) := by decide +kernel
set_option maxRecDepth 100000 in
theorem f_106_639 : xft 106 639 = some (.iload 17) := by decide +kernel
set_option maxRecDepth 100000 in
theorem f_106_641 : xft 106 641 = some (.ifCond .eq 7) := by decide +kernel
set_option maxRecDepth 100000 in
theorem f_106_644 : xft 106 644 = some (.iconst 1) := by decide +kernel
set_option maxRecDepth 100000 in
theorem f_106_645 : xft 106 645 = some (.goto 4) := by decide +kernel
set_option maxRecDepth 100000 in
theorem f_106_648 : xft 106 648 = some (.iconst 0) := by decide +kernel
set_option maxRecDepth 100000 in
theorem f_106_649 : xft 106 649 = some (.invokestatic 124) := by decide +kernel
set_option maxRecDepth 100000 in
theorem f_106_652 : xft 106 652 = some (.iload 14) := by decide +kernel
set_option maxRecDepth 100000 in
theorem f_106_654 : xft 106 654 = some (.ifCond .ne 8) := by decide +kernel
set_option maxRecDepth 100000 in
theorem f_106_657 : xft 106 657 = some (.ldc 79) := by decide +kernel
set_option maxRecDepth 100000 in
theorem f_106_659 : xft 106 659 = some (.goto 29) := by decide +kernel
set_option maxRecDepth 100000 in
theorem f_106_662 : xft 106 662 = some (.iload 19) := by decide +kernel
set_option maxRecDepth 100000 in
theorem f_106_664 : xft 106 664 = some (.ifCond .ne 8) := by decide +kernel
set_option maxRecDepth 100000 in
theorem f_106_667 : xft 106 667 = some (.ldc 82) := by decide +kernel
set_option maxRecDepth 100000 in
theorem f_106_669 : xft 106 669 = some (.goto 19) := by decide +kernel
set_option maxRecDepth 100000 in
theorem f_106_672 : xft 106 672 = some (.iload 20) := by decide +kernel
set_option maxRecDepth 100000 in
theorem f_106_674 : xft 106 674 = some (.ifCond .eq 12) := by decide +kernel
set_option maxRecDepth 100000 in
theorem f_106_677 : xft 106 677 = some (.aload 6) := by decide +kernel
set_option maxRecDepth 100000 in
theorem f_106_679 : xft 106 679 = some (.iconst 1) := by decide +kernel
set_option maxRecDepth 100000 in
theorem f_106_680 : xft 106 680 = some (.iaload) := by decide +kernel
set_option maxRecDepth 100000 in
theorem f_106_681 : xft 106 681 = some (.iconst 1) := by decide +kernel
set_option maxRecDepth 100000 in
theorem f_106_682 : xft 106 682 = some (.isub) := by decide +kernel
set_option maxRecDepth 100000 in
theorem f_106_683 : xft 106 683 = some (.goto 5) := by decide +kernel
set_option maxRecDepth 100000 in
theorem f_106_686 : xft 106 686 = some (.ldc 85) := by decide +kernel
set_option maxRecDepth 100000 in
theorem f_106_688 : xft 106 688 = some (.if_icmp .ne 7) := by decide +kernel
set_option maxRecDepth 100000 in
theorem f_106_691 : xft 106 691 = some (.iconst 1) := by decide +kernel
set_option maxRecDepth 100000 in
theorem f_106_692 : xft 106 692 = some (.goto 4) := by decide +kernel
set_option maxRecDepth 100000 in
theorem f_106_695 : xft 106 695 = some (.iconst 0) := by decide +kernel
set_option maxRecDepth 100000 in
theorem f_106_696 : xft 106 696 = some (.ireturn) := by decide +kernel
set_option maxRecDepth 100000 in
theorem f_106_697 : xft 106 697 = some (.iload 8) := by decide +kernel
set_option maxRecDepth 100000 in
theorem f_106_699 : xft 106 699 = some (.sipush 702) := by decide +kernel
set_option maxRecDepth 100000 in
theorem f_106_702 : xft 106 702 = some (.idiv) := by decide +kernel
set_option maxRecDepth 100000 in
theorem f_106_703 : xft 106 703 = some (.bipush 11) := by decide +kernel
set_option maxRecDepth 100000 in
theorem f_106_705 : xft 106 705 = some (.irem) := by decide +kernel
set_option maxRecDepth 100000 in
theorem f_106_706 : xft 106 706 = some (.istore 19) := by decide +kernel
set_option maxRecDepth 100000 in
theorem f_106_708 : xft 106 708 = some (.iload 18) := by decide +kernel
set_option maxRecDepth 100000 in
theorem f_106_710 : xft 106 710 = some (.ifCond .eq 19) := by decide +kernel
set_option maxRecDepth 100000 in
theorem f_106_713 : xft 106 713 = some (.iload 19) := by decide +kernel
set_option maxRecDepth 100000 in
theorem f_106_715 : xft 106 715 = some (.ifCond .le 14) := by decide +kernel
set_option maxRecDepth 100000 in
theorem f_106_718 : xft 106 718 = some (.iload 19) := by decide +kernel
set_option maxRecDepth 100000 in
theorem f_106_720 : xft 106 720 = some (.bipush 10) := by decide +kernel
set_option maxRecDepth 100000 in
theorem f_106_722 : xft 106 722 = some (.if_icmp .ge 7) := by decide +kernel
set_option maxRecDepth 100000 in
theorem f_106_725 : xft 106 725 = some (.iconst 1) := by decide +kernel
set_option maxRecDepth 100000 in
theorem f_106_726 : xft 106 726 = some (.goto 4) := by decide +kernel
set_option maxRecDepth 100000 in
theorem f_106_729 : xft 106 729 = some (.iconst 0) := by decide +kernel
set_option maxRecDepth 100000 in
theorem f_106_730 : xft 106 730 = some (.istore 20) := by decide +kernel
set_option maxRecDepth 100000 in
theorem f_106_732 : xft 106 732 = some (.iconst (-1)) := by decide +kernel
set_option maxRecDepth 100000 in
theorem f_106_733 : xft 106 733 = some (.istore 21) := by decide +kernel
set_option maxRecDepth 100000 in
theorem f_106_735 : xft 106 735 = some (.iconst (-1)) := by decide +kernel
set_option maxRecDepth 100000 in
theorem f_106_736 : xft 106 736 = some (.istore 22) := by decide +kernel
set_option maxRecDepth 100000 in
theorem f_106_738 : xft 106 738 = some (.bipush 95) := by decide +kernel
set_option maxRecDepth 100000 in
theorem f_106_740 : xft 106 740 = some (.istore 23) := by decide +kernel
set_option maxRecDepth 100000 in
theorem f_106_742 : xft 106 742 = some (.iload 23) := by decide +kernel
set_option maxRecDepth 100000 in
theorem f_106_744 : xft 106 744 = some (.ifCond .lt 183) := by decide +kernel
set_option maxRecDepth 100000 in
theorem f_106_747 : xft 106 747 = some (.iload 11) := by decide +kernel
set_option maxRecDepth 100000 in
theorem f_106_749 : xft 106 749 = some (.ifCond .eq 178) := by decide +kernel
set_option maxRecDepth 100000 in
theorem f_106_752 : xft 106 752 = some (.iload 20) := by decide +kernel
set_option maxRecDepth 100000 in
theorem f_106_754 : xft 106 754 = some (.ifCond .eq 173) := by decide +kernel
set_option maxRecDepth 100000 in
theorem f_106_757 : xft 106 757 = some (.iload 23) := by decide +kernel
set_option maxRecDepth 100000 in
theorem f_106_759 : xft 106 759 = some (.bipush 12) := by decide +kernel
set_option maxRecDepth 100000 in
theorem f_106_761 : xft 106 761 = some (.idiv) := by decide +kernel
set_option maxRecDepth 100000 in
theorem f_106_762 : xft 106 762 = some (.istore 24) := by decide +kernel
set_option maxRecDepth 100000 in
theorem f_106_764 : xft 106 764 = some (.iload 23) := by decide +kernel
set_option maxRecDepth 100000 in
theorem f_106_766 : xft 106 766 = some (.bipush 12) := by decide +kernel
set_option maxRecDepth 100000 in
theorem f_106_768 : xft 106 768 = some (.irem) := by decide +kernel
set_option maxRecDepth 100000 in
theorem f_106_769 : xft 106 769 = some (.iload 15) := by decide +kernel
set_option maxRecDepth 100000 in
theorem f_106_771 : xft 106 771 = some (.iadd) := by decide +kernel
set_option maxRecDepth 100000 in
theorem f_106_772 : xft 106 772 = some (.bipush 13) := by decide +kernel
set_option maxRecDepth 100000 in
theorem f_106_774 : xft 106 774 = some (.if_icmp .ge 63) := by decide +kernel
set_option maxRecDepth 100000 in
theorem f_106_777 : xft 106 777 = some (.iload 24) := by decide +kernel
set_option maxRecDepth 100000 in
theorem f_106_779 : xft 106 779 = some (.iload 16) := by decide +kernel
set_option maxRecDepth 100000 in
theorem f_106_781 : xft 106 781 = some (.iadd) := by decide +kernel
set_option maxRecDepth 100000 in
theorem f_106_782 : xft 106 782 = some (.bipush 9) := by decide +kernel
set_option maxRecDepth 100000 in
theorem f_106_784 : xft 106 784 = some (.if_icmp .ge 53) := by decide +kernel
set_option maxRecDepth 100000 in
theorem f_106_787 : xft 106 787 = some (.aload_n 1) := by decide +kernel
set_option maxRecDepth 100000 in
theorem f_106_788 : xft 106 788 = some (.iload 10) := by decide +kernel
set_option maxRecDepth 100000 in
theorem f_106_790 : xft 106 790 = some (.iaload) := by decide +kernel
set_option maxRecDepth 100000 in
theorem f_106_791 : xft 106 791 = some (.iload 24) := by decide +kernel
set_option maxRecDepth 100000 in
theorem f_106_793 : xft 106 793 = some (.iload 16) := by decide +kernel
set_option maxRecDepth 100000 in
theorem f_106_795 : xft 106 795 = some (.iadd) := by decide +kernel
set_option maxRecDepth 100000 in
theorem f_106_796 : xft 106 796 = some (.iconst 5) := by decide +kernel
set_option maxRecDepth 100000 in
theorem f_106_797 : xft 106 797 = some (.if_icmp .le 7) := by decide +kernel
set_option maxRecDepth 100000 in
theorem f_106_800 : xft 106 800 = some (.iconst 1) := by decide +kernel
set_option maxRecDepth 100000 in
theorem f_106_801 : xft 106 801 = some (.goto 4) := by decide +kernel
set_option maxRecDepth 100000 in
theorem f_106_804 : xft 106 804 = some (.iconst 0) := by decide +kernel
set_option maxRecDepth 100000 in
theorem f_106_805 : xft 106 805 = some (.isub) := by decide +kernel
set_option maxRecDepth 100000 in
theorem f_106_806 : xft 106 806 = some (.iload 19) := by decide +kernel
set_option maxRecDepth 100000 in
theorem f_106_808 : xft 106 808 = some (.if_icmp .lt 29) := by decide +kernel
set_option maxRecDepth 100000 in
theorem f_106_811 : xft 106 811 = some (.aload_n 1) := by decide +kernel
set_option maxRecDepth 100000 in
theorem f_106_812 : xft 106 812 = some (.iload 10) := by decide +kernel
set_option maxRecDepth 100000 in
theorem f_106_814 : xft 106 814 = some (.iload 23) := by decide +kernel
set_option maxRecDepth 100000 in
theorem f_106_816 : xft 106 816 = some (.bipush 12) := by decide +kernel
set_option maxRecDepth 100000 in
theorem f_106_818 : xft 106 818 = some (.irem) := by decide +kernel
set_option maxRecDepth 100000 in
theorem f_106_819 : xft 106 819 = some (.iload 24) := by decide +kernel
set_option maxRecDepth 100000 in
theorem f_106_821 : xft 106 821 = some (.iload 15) := by decide +kernel
set_option maxRecDepth 100000 in
theorem f_106_823 : xft 106 823 = some (.iload 16) := by decide +kernel
set_option maxRecDepth 100000 in
theorem f_106_825 : xft 106 825 = some (.iload 17) := by decide +kernel
set_option maxRecDepth 100000 in
theorem f_106_827 : xft 106 827 = some (.invokestatic 160) := by decide +kernel
set_option maxRecDepth 100000 in
theorem f_106_830 : xft 106 830 = some (.ifCond .eq 7) := by decide +kernel
set_option maxRecDepth 100000 in
theorem f_106_833 : xft 106 833 = some (.iconst 1) := by decide +kernel
set_option maxRecDepth 100000 in
theorem f_106_834 : xft 106 834 = some (.goto 4) := by decide +kernel
set_option maxRecDepth 100000 in
theorem f_106_837 : xft 106 837 = some (.iconst 0) := by decide +kernel
set_option maxRecDepth 100000 in
theorem f_106_838 : xft 106 838 = some (.istore 25) := by decide +kernel
set_option maxRecDepth 100000 in
theorem f_106_840 : xft 106 840 = some (.iconst 0) := by decide +kernel
set_option maxRecDepth 100000 in
theorem f_106_841 : xft 106 841 = some (.istore 26) := by decide +kernel
set_option maxRecDepth 100000 in
theorem f_106_843 : xft 106 843 = some (.iload 24) := by decide +kernel
set_option maxRecDepth 100000 in
theorem f_106_845 : xft 106 845 = some (.istore 27) := by decide +kernel
set_option maxRecDepth 100000 in
theorem f_106_847 : xft 106 847 = some (.iload 27) := by decide +kernel
set_option maxRecDepth 100000 in
theorem f_106_849 : xft 106 849 = some (.iload 24) := by decide +kernel
set_option maxRecDepth 100000 in
theorem f_106_851 : xft 106 851 = some (.iload 16) := by decide +kernel
set_option maxRecDepth 100000 in
theorem f_106_853 : xft 106 853 = some (.iadd) := by decide +kernel
set_option maxRecDepth 100000 in
theorem f_106_854 : xft 106 854 = some (.if_icmp .ge 42) := by decide +kernel
set_option maxRecDepth 100000 in
theorem f_106_857 : xft 106 857 = some (.iload 26) := by decide +kernel
set_option maxRecDepth 100000 in
theorem f_106_859 : xft 106 859 = some (.iload 27) := by decide +kernel
set_option maxRecDepth 100000 in
theorem f_106_861 : xft 106 861 = some (.iconst 2) := by decide +kernel
set_option maxRecDepth 100000 in
theorem f_106_862 : xft 106 862 = some (.if_icmp .ge 10) := by decide +kernel
set_option maxRecDepth 100000 in
theorem f_106_865 : xft 106 865 = some (.iconst 3) := by decide +kernel
set_option maxRecDepth 100000 in
theorem f_106_866 : xft 106 866 = some (.iload 15) := by decide +kernel
set_option maxRecDepth 100000 in
theorem f_106_868 : xft 106 868 = some (.imul) := by decide +kernel
set_option maxRecDepth 100000 in
theorem f_106_869 : xft 106 869 = some (.goto 18) := by decide +kernel
set_option maxRecDepth 100000 in
theorem f_106_872 : xft 106 872 = some (.iload 27) := by decide +kernel
set_option maxRecDepth 100000 in
theorem f_106_874 : xft 106 874 = some (.iconst 5) := by decide +kernel
set_option maxRecDepth 100000 in
theorem f_106_875 : xft 106 875 = some (.if_icmp .ge 10) := by decide +kernel
set_option maxRecDepth 100000 in
theorem f_106_878 : xft 106 878 = some (.iconst 2) := by decide +kernel
set_option maxRecDepth 100000 in
theorem f_106_879 : xft 106 879 = some (.iload 15) := by decide +kernel
set_option maxRecDepth 100000 in
theorem f_106_881 : xft 106 881 = some (.imul) := by decide +kernel
set_option maxRecDepth 100000 in
theorem f_106_882 : xft 106 882 = some (.goto 5) := by decide +kernel
set_option maxRecDepth 100000 in
theorem f_106_885 : xft 106 885 = some (.iload 15) := by decide +kernel
set_option maxRecDepth 100000 in
theorem f_106_887 : xft 106 887 = some (.iadd) := by decide +kernel
set_option maxRecDepth 100000 in
theorem f_106_888 : xft 106 888 = some (.istore 26) := by decide +kernel
set_option maxRecDepth 100000 in
theorem f_106_890 : xft 106 890 = some (.iinc 27 1) := by decide +kernel
set_option maxRecDepth 100000 in
theorem f_106_893 : xft 106 893 = some (.goto (-46)) := by decide +kernel
set_option maxRecDepth 100000 in
theorem f_106_896 : xft 106 896 = some (.iload 25) := by decide +kernel
set_option maxRecDepth 100000 in
theorem f_106_898 : xft 106 898 = some (.ifCond .eq 23) := by decide +kernel
set_option maxRecDepth 100000 in
theorem f_106_901 : xft 106 901 = some (.iload 21) := by decide +kernel
set_option maxRecDepth 100000 in
theorem f_106_903 : xft 106 903 = some (.ifCond .lt 10) := by decide +kernel
set_option maxRecDepth 100000 in
theorem f_106_906 : xft 106 906 = some (.iload 26) := by decide +kernel
set_option maxRecDepth 100000 in
theorem f_106_908 : xft 106 908 = some (.iload 21) := by decide +kernel
set_option maxRecDepth 100000 in
theorem f_106_910 : xft 106 910 = some (.if_icmp .gt 11) := by decide +kernel
set_option maxRecDepth 100000 in
theorem f_106_913 : xft 106 913 = some (.iload 26) := by decide +kernel
set_option maxRecDepth 100000 in
theorem f_106_915 : xft 106 915 = some (.istore 21) := by decide +kernel
set_option maxRecDepth 100000 in
theorem f_106_917 : xft 106 917 = some (.iload 23) := by decide +kernel
set_option maxRecDepth 100000 in
theorem f_106_919 : xft 106 919 = some (.istore 22) := by decide +kernel
set_option maxRecDepth 100000 in
theorem f_106_921 : xft 106 921 = some (.iinc 23 (-1)) := by decide +kernel
set_option maxRecDepth 100000 in
theorem f_106_924 : xft 106 924 = some (.goto (-182)) := by decide +kernel
set_option maxRecDepth 100000 in
theorem f_106_927 : xft 106 927 = some (.aload_n 0) := by decide +kernel
set_option maxRecDepth 100000 in
theorem f_106_928 : xft 106 928 = some (.iconst 3) := by decide +kernel
set_option maxRecDepth 100000 in
theorem f_106_929 : xft 106 929 = some (.iload 10) := by decide +kernel
set_option maxRecDepth 100000 in
theorem f_106_931 : xft 106 931 = some (.iload 15) := by decide +kernel
set_option maxRecDepth 100000 in
theorem f_106_933 : xft 106 933 = some (.iload 16) := by decide +kernel
set_option maxRecDepth 100000 in
theorem f_106_935 : xft 106 935 = some (.iload 17) := by decide +kernel
set_option maxRecDepth 100000 in
theorem f_106_937 : xft 106 937 = some (.ifCond .eq 7) := by decide +kernel
set_option maxRecDepth 100000 in
theorem f_106_940 : xft 106 940 = some (.iconst 1) := by decide +kernel
set_option maxRecDepth 100000 in
theorem f_106_941 : xft 106 941 = some (.goto 4) := by decide +kernel
set_option maxRecDepth 100000 in
theorem f_106_944 : xft 106 944 = some (.iconst 0) := by decide +kernel
set_option maxRecDepth 100000 in
theorem f_106_945 : xft 106 945 = some (.iload 19) := by decide +kernel
set_option maxRecDepth 100000 in
theorem f_106_947 : xft 106 947 = some (.iconst 0) := by decide +kernel
set_option maxRecDepth 100000 in
theorem f_106_948 : xft 106 948 = some (.invokestatic 124) := by decide +kernel
set_option maxRecDepth 100000 in
theorem f_106_951 : xft 106 951 = some (.iload 11) := by decide +kernel
set_option maxRecDepth 100000 in
theorem f_106_953 : xft 106 953 = some (.ifCond .ne 8) := by decide +kernel
set_option maxRecDepth 100000 in
theorem f_106_956 : xft 106 956 = some (.ldc 79) := by decide +kernel
set_option maxRecDepth 100000 in
theorem f_106_958 : xft 106 958 = some (.goto 15) := by decide +kernel
set_option maxRecDepth 100000 in
theorem f_106_961 : xft 106 961 = some (.iload 20) := by decide +kernel
set_option maxRecDepth 100000 in
theorem f_106_963 : xft 106 963 = some (.ifCond .eq 8) := by decide +kernel
set_option maxRecDepth 100000 in
theorem f_106_966 : xft 106 966 = some (.iload 22) := by decide +kernel
set_option maxRecDepth 100000 in
theorem f_106_968 : xft 106 968 = some (.goto 5) := by decide +kernel
set_option maxRecDepth 100000 in
theorem f_106_971 : xft 106 971 = some (.ldc 82) := by decide +kernel
set_option maxRecDepth 100000 in
theorem f_106_973 : xft 106 973 = some (.if_icmp .ne 7) := by decide +kernel
set_option maxRecDepth 100000 in
theorem f_106_976 : xft 106 976 = some (.iconst 1) := by decide +kernel
set_option maxRecDepth 100000 in
theorem f_106_977 : xft 106 977 = some (.goto 4) := by decide +kernel
set_option maxRecDepth 100000 in
theorem f_106_980 : xft 106 980 = some (.iconst 0) := by decide +kernel
set_option maxRecDepth 100000 in
theorem f_106_981 : xft 106 981 = some (.ireturn) := by decide +kernel
/-! blocks, by program (gen2.py) -/
section BLK
variable {sc : xS} {d : Nat} {T : Nat → Nat × Nat} {z : Nat × Nat} {V : Nat → Nat → Int} {J : Nat → Nat → Int64} {R : Nat → Nat → Option Nat}
theorem eL_isHide {x7 x8 x9 : Int} {a0 a1 a2 a3 a4 a5 a6 : Nat} : X sc (d + 1) 106 [.ref a0, .ref a1, .ref a2, .ref a3, .ref a4, .ref a5, .ref a6, xw x7, xw x8, xw x9] (T, z, xv V, J, R) = XR sc d 106 0 [some (.ref a0), some (.ref a1), some (.ref a2), some (.ref a3), some (.ref a4), some (.ref a5), some (.ref a6), some (xw x7), some (xw x8), some (xw x9), none, none, none, none, none, none, none, none, none, none, none, none, none, none, none, none, none, none] [] (T, z, xv V, J, R) :=
  (X_eq ⟨jl_106, by rw [mn_106]; rfl, rfl, by rw [lm_106]; exact Nat.le_of_ble_eq_true rfl⟩).trans (by unfold xent; rw [lm_106]; rfl)
theorem bL_isHide_0 {o0 o1 o2 o3 o4 o5 o6 o8 o9 o10 o11 o12 o13 o14 o15 o16 o17 o18 o19 o20 o21 o22 o23 o24 o25 o26 o27 : Option Value} {x7 : Int} (g1 : -2147483648 ≤ x7 ∧ x7 ≤ 2147483647) : XR sc d 106 0 [o0, o1, o2, o3, o4, o5, o6, some (xw x7), o8, o9, o10, o11, o12, o13, o14, o15, o16, o17, o18, o19, o20, o21, o22, o23, o24, o25, o26, o27] [] (T, z, xv V, J, R) = if x7 = 0 then XR sc d 106 5 [o0, o1, o2, o3, o4, o5, o6, some (xw x7), o8, o9, o10, o11, o12, o13, o14, o15, o16, o17, o18, o19, o20, o21, o22, o23, o24, o25, o26, o27] [] (T, z, xv V, J, R) else XR sc d 106 119 [o0, o1, o2, o3, o4, o5, o6, some (xw x7), o8, o9, o10, o11, o12, o13, o14, o15, o16, o17, o18, o19, o20, o21, o22, o23, o24, o25, o26, o27] [] (T, z, xv V, J, R) :=
  (sw_iload f_106_0 rfl).trans (sw_if_ne (t := 119) f_106_2 ⟨by decide, rfl⟩ g1)
theorem bL_isHide_5 {o0 o1 o2 o3 o4 o5 o7 o8 o9 o10 o11 o12 o13 o14 o15 o16 o17 o18 o19 o20 o21 o22 o23 o24 o25 o26 o27 : Option Value} {a6 : Nat} (g1 : T a6 = (32, (T a6).2)) (g2 : (0 : Int) ≤ 0 ∧ 0 < ((T a6).2 : Int) ∧ (T a6).2 ≤ 3584) (g3 : -2147483648 ≤ (V a6 0) ∧ (V a6 0) ≤ 2147483647) : XR sc d 106 5 [o0, o1, o2, o3, o4, o5, some (.ref a6), o7, o8, o9, o10, o11, o12, o13, o14, o15, o16, o17, o18, o19, o20, o21, o22, o23, o24, o25, o26, o27] [] (T, z, xv V, J, R) = if 2 ≤ (V a6 0) then XR sc d 106 119 [o0, o1, o2, o3, o4, o5, some (.ref a6), o7, o8, o9, o10, o11, o12, o13, o14, o15, o16, o17, o18, o19, o20, o21, o22, o23, o24, o25, o26, o27] [] (T, z, xv V, J, R) else XR sc d 106 13 [o0, o1, o2, o3, o4, o5, some (.ref a6), o7, o8, o9, o10, o11, o12, o13, o14, o15, o16, o17, o18, o19, o20, o21, o22, o23, o24, o25, o26, o27] [] (T, z, xv V, J, R) :=
  (st_aload f_106_5 rfl).trans ((sw_iconst f_106_7).trans ((sw_iaload f_106_8 g1 g2).trans ((sw_iconst f_106_9).trans (sw_icmp_ge (t := 119) f_106_10 ⟨by decide, rfl⟩ g3 ⟨by decide, by decide⟩))))
theorem bL_isHide_13 {o0 o1 o2 o3 o4 o5 o6 o7 o9 o10 o11 o12 o13 o14 o15 o16 o17 o18 o19 o20 o21 o22 o23 o24 o25 o26 o27 : Option Value} {x8 : Int} (g1 : 0 ≤ x8 ∧ x8 ≤ 2147483647) (g2 : -2147483648 ≤ (x8 % 9) ∧ (x8 % 9) ≤ 2147483647) : XR sc d 106 13 [o0, o1, o2, o3, o4, o5, o6, o7, some (xw x8), o9, o10, o11, o12, o13, o14, o15, o16, o17, o18, o19, o20, o21, o22, o23, o24, o25, o26, o27] [] (T, z, xv V, J, R) = if (x8 % 9) = 0 then XR sc d 106 21 [o0, o1, o2, o3, o4, o5, o6, o7, some (xw x8), o9, o10, o11, o12, o13, o14, o15, o16, o17, o18, o19, o20, o21, o22, o23, o24, o25, o26, o27] [] (T, z, xv V, J, R) else XR sc d 106 32 [o0, o1, o2, o3, o4, o5, o6, o7, some (xw x8), o9, o10, o11, o12, o13, o14, o15, o16, o17, o18, o19, o20, o21, o22, o23, o24, o25, o26, o27] [] (T, z, xv V, J, R) :=
  (sw_iload f_106_13 rfl).trans ((sw_bipush f_106_15 c8_9).trans ((sw_irem f_106_17 ⟨by decide, by decide, g1⟩).trans (sw_if_ne (t := 32) f_106_18 ⟨by decide, rfl⟩ g2)))
theorem bL_isHide_21 {o0 o1 o2 o3 o4 o5 o6 o7 o9 o10 o11 o12 o13 o14 o15 o16 o17 o18 o19 o20 o21 o22 o23 o24 o25 o26 o27 : Option Value} {x8 : Int} (g1 : 0 ≤ x8 ∧ x8 ≤ 2147483647) (g2 : 0 ≤ (x8 / 9) ∧ (x8 / 9) ≤ 2147483647) : XR sc d 106 21 [o0, o1, o2, o3, o4, o5, o6, o7, some (xw x8), o9, o10, o11, o12, o13, o14, o15, o16, o17, o18, o19, o20, o21, o22, o23, o24, o25, o26, o27] [] (T, z, xv V, J, R) = XR sc d 106 39 [o0, o1, o2, o3, o4, o5, o6, o7, some (xw x8), o9, o10, o11, o12, o13, o14, o15, o16, o17, o18, o19, o20, o21, o22, o23, o24, o25, o26, o27] [xw ((x8 / 9) % 11)] (T, z, xv V, J, R) :=
  (sw_iload f_106_21 rfl).trans ((sw_bipush f_106_23 c8_9).trans ((sw_idiv f_106_25 ⟨by decide, by decide, g1⟩).trans ((sw_bipush f_106_26 c8_11).trans ((sw_irem f_106_28 ⟨by decide, by decide, g2⟩).trans (st_goto (t := 39) f_106_29 ⟨by decide, rfl⟩)))))
theorem bL_isHide_32 {o0 o1 o2 o3 o4 o5 o6 o7 o9 o10 o11 o12 o13 o14 o15 o16 o17 o18 o19 o20 o21 o22 o23 o24 o25 o26 o27 : Option Value} {x8 : Int} (g1 : 0 ≤ x8 ∧ x8 ≤ 2147483647) : XR sc d 106 32 [o0, o1, o2, o3, o4, o5, o6, o7, some (xw x8), o9, o10, o11, o12, o13, o14, o15, o16, o17, o18, o19, o20, o21, o22, o23, o24, o25, o26, o27] [] (T, z, xv V, J, R) = XR sc d 106 39 [o0, o1, o2, o3, o4, o5, o6, o7, some (xw x8), o9, o10, o11, o12, o13, o14, o15, o16, o17, o18, o19, o20, o21, o22, o23, o24, o25, o26, o27] [xw (3 + (x8 % 7))] (T, z, xv V, J, R) :=
  (sw_iconst f_106_32).trans ((sw_iload f_106_33 rfl).trans ((sw_bipush f_106_35 c8_7).trans ((sw_irem f_106_37 ⟨by decide, by decide, g1⟩).trans (sw_iadd f_106_38))))
theorem bL_isHide_39 {o0 o1 o2 o3 o4 o5 o6 o7 o8 o9 o10 o11 o12 o13 o14 o15 o16 o17 o18 o19 o20 o21 o22 o23 o24 o25 o26 o27 : Option Value} {y0 : Int} (g1 : -2147483648 ≤ y0 ∧ y0 ≤ 2147483647) : XR sc d 106 39 [o0, o1, o2, o3, o4, o5, o6, o7, o8, o9, o10, o11, o12, o13, o14, o15, o16, o17, o18, o19, o20, o21, o22, o23, o24, o25, o26, o27] [xw y0] (T, z, xv V, J, R) = if y0 ≤ 1 then XR sc d 106 58 [o0, o1, o2, o3, o4, o5, o6, o7, o8, o9, some (xw y0), o11, o12, o13, o14, o15, o16, o17, o18, o19, o20, o21, o22, o23, o24, o25, o26, o27] [] (T, z, xv V, J, R) else XR sc d 106 47 [o0, o1, o2, o3, o4, o5, o6, o7, o8, o9, some (xw y0), o11, o12, o13, o14, o15, o16, o17, o18, o19, o20, o21, o22, o23, o24, o25, o26, o27] [] (T, z, xv V, J, R) :=
  (sw_istore (L' := [o0, o1, o2, o3, o4, o5, o6, o7, o8, o9, some (xw y0), o11, o12, o13, o14, o15, o16, o17, o18, o19, o20, o21, o22, o23, o24, o25, o26, o27]) f_106_39 (Nat.le_of_ble_eq_true rfl) rfl).trans ((sw_iload f_106_41 rfl).trans ((sw_iconst f_106_43).trans (sw_icmp_le (t := 58) f_106_44 ⟨by decide, rfl⟩ g1 ⟨by decide, by decide⟩)))
theorem bL_isHide_47 {o0 o1 o2 o3 o4 o5 o6 o7 o8 o9 o11 o12 o13 o14 o15 o16 o17 o18 o19 o20 o21 o22 o23 o24 o25 o26 o27 : Option Value} {x10 : Int} (g1 : -2147483648 ≤ x10 ∧ x10 ≤ 2147483647) : XR sc d 106 47 [o0, o1, o2, o3, o4, o5, o6, o7, o8, o9, some (xw x10), o11, o12, o13, o14, o15, o16, o17, o18, o19, o20, o21, o22, o23, o24, o25, o26, o27] [] (T, z, xv V, J, R) = if 10 ≤ x10 then XR sc d 106 58 [o0, o1, o2, o3, o4, o5, o6, o7, o8, o9, some (xw x10), o11, o12, o13, o14, o15, o16, o17, o18, o19, o20, o21, o22, o23, o24, o25, o26, o27] [] (T, z, xv V, J, R) else XR sc d 106 54 [o0, o1, o2, o3, o4, o5, o6, o7, o8, o9, some (xw x10), o11, o12, o13, o14, o15, o16, o17, o18, o19, o20, o21, o22, o23, o24, o25, o26, o27] [] (T, z, xv V, J, R) :=
  (sw_iload f_106_47 rfl).trans ((sw_bipush f_106_49 c8_10).trans (sw_icmp_ge (t := 58) f_106_51 ⟨by decide, rfl⟩ g1 ⟨by decide, by decide⟩))
theorem bL_isHide_54 {o0 o1 o2 o3 o4 o5 o6 o7 o8 o9 o10 o11 o12 o13 o14 o15 o16 o17 o18 o19 o20 o21 o22 o23 o24 o25 o26 o27 : Option Value} : XR sc d 106 54 [o0, o1, o2, o3, o4, o5, o6, o7, o8, o9, o10, o11, o12, o13, o14, o15, o16, o17, o18, o19, o20, o21, o22, o23, o24, o25, o26, o27] [] (T, z, xv V, J, R) = XR sc d 106 59 [o0, o1, o2, o3, o4, o5, o6, o7, o8, o9, o10, o11, o12, o13, o14, o15, o16, o17, o18, o19, o20, o21, o22, o23, o24, o25, o26, o27] [xw 1] (T, z, xv V, J, R) :=
  (sw_iconst f_106_54).trans (st_goto (t := 59) f_106_55 ⟨by decide, rfl⟩)
theorem bL_isHide_58 {o0 o1 o2 o3 o4 o5 o6 o7 o8 o9 o10 o11 o12 o13 o14 o15 o16 o17 o18 o19 o20 o21 o22 o23 o24 o25 o26 o27 : Option Value} : XR sc d 106 58 [o0, o1, o2, o3, o4, o5, o6, o7, o8, o9, o10, o11, o12, o13, o14, o15, o16, o17, o18, o19, o20, o21, o22, o23, o24, o25, o26, o27] [] (T, z, xv V, J, R) = XR sc d 106 59 [o0, o1, o2, o3, o4, o5, o6, o7, o8, o9, o10, o11, o12, o13, o14, o15, o16, o17, o18, o19, o20, o21, o22, o23, o24, o25, o26, o27] [xw 0] (T, z, xv V, J, R) :=
  sw_iconst f_106_58
theorem bL_isHide_59 {o0 o1 o2 o3 o4 o5 o6 o7 o8 o9 o10 o11 o12 o13 o14 o15 o16 o17 o18 o19 o20 o21 o22 o23 o24 o25 o26 o27 : Option Value} {y0 : Int} (g1 : -2147483648 ≤ y0 ∧ y0 ≤ 2147483647) : XR sc d 106 59 [o0, o1, o2, o3, o4, o5, o6, o7, o8, o9, o10, o11, o12, o13, o14, o15, o16, o17, o18, o19, o20, o21, o22, o23, o24, o25, o26, o27] [xw y0] (T, z, xv V, J, R) = if y0 = 0 then XR sc d 106 82 [o0, o1, o2, o3, o4, o5, o6, o7, o8, o9, o10, some (xw y0), o12, o13, o14, o15, o16, o17, o18, o19, o20, o21, o22, o23, o24, o25, o26, o27] [] (T, z, xv V, J, R) else XR sc d 106 66 [o0, o1, o2, o3, o4, o5, o6, o7, o8, o9, o10, some (xw y0), o12, o13, o14, o15, o16, o17, o18, o19, o20, o21, o22, o23, o24, o25, o26, o27] [] (T, z, xv V, J, R) :=
  (sw_istore (L' := [o0, o1, o2, o3, o4, o5, o6, o7, o8, o9, o10, some (xw y0), o12, o13, o14, o15, o16, o17, o18, o19, o20, o21, o22, o23, o24, o25, o26, o27]) f_106_59 (Nat.le_of_ble_eq_true rfl) rfl).trans ((sw_iload f_106_61 rfl).trans (sw_if_eq (t := 82) f_106_63 ⟨by decide, rfl⟩ g1))
theorem bL_isHide_66 {o0 o2 o3 o4 o5 o7 o8 o9 o11 o12 o13 o14 o15 o16 o17 o18 o19 o20 o21 o22 o23 o24 o25 o26 o27 : Option Value} {x10 : Int} {a1 a6 : Nat} (g1 : T a6 = (32, (T a6).2)) (g2 : (0 : Int) ≤ 0 ∧ 0 < ((T a6).2 : Int) ∧ (T a6).2 ≤ 3584) (g3 : T a1 = (32, (T a1).2)) (g4 : (0 : Int) ≤ (V a6 0) ∧ (V a6 0) < ((T a1).2 : Int) ∧ (T a1).2 ≤ 3584) : XR sc d 106 66 [o0, some (.ref a1), o2, o3, o4, o5, some (.ref a6), o7, o8, o9, some (xw x10), o11, o12, o13, o14, o15, o16, o17, o18, o19, o20, o21, o22, o23, o24, o25, o26, o27] [] (T, z, xv V, J, R) = XR sc d 106 82 [o0, some (.ref a1), o2, o3, o4, o5, some (.ref a6), o7, o8, o9, some (xw x10), o11, o12, o13, o14, o15, o16, o17, o18, o19, o20, o21, o22, o23, o24, o25, o26, o27] [] (T, z, xv (xup2 (xup2 V a1 (V a6 0).toNat x10) a6 0 (((xup2 V a1 (V a6 0).toNat x10) a6 0) + 1)), J, R) :=
  (st_aload_n f_106_66 rfl).trans ((st_aload f_106_67 rfl).trans ((sw_iconst f_106_69).trans ((sw_iaload f_106_70 g1 g2).trans ((sw_iload f_106_71 rfl).trans ((sw_iastore f_106_73 g3 g4).trans ((st_aload f_106_74 rfl).trans ((sw_iconst f_106_76).trans ((st_dup2 f_106_77 rfl rfl).trans ((sw_iaload f_106_78 g1 g2).trans ((sw_iconst f_106_79).trans ((sw_iadd f_106_80).trans (sw_iastore f_106_81 g1 g2))))))))))))
theorem bL_isHide_82 {o1 o2 o3 o4 o5 o6 o7 o8 o9 o11 o12 o13 o14 o15 o16 o17 o18 o19 o20 o21 o22 o23 o24 o25 o26 o27 : Option Value} {x10 : Int} {a0 : Nat} : XR sc d 106 82 [some (.ref a0), o1, o2, o3, o4, o5, o6, o7, o8, o9, some (xw x10), o11, o12, o13, o14, o15, o16, o17, o18, o19, o20, o21, o22, o23, o24, o25, o26, o27] [] (T, z, xv V, J, R) = xret 106 (XR sc d 106) 91 94 [some (.ref a0), o1, o2, o3, o4, o5, o6, o7, o8, o9, some (xw x10), o11, o12, o13, o14, o15, o16, o17, o18, o19, o20, o21, o22, o23, o24, o25, o26, o27] [] (X sc d 92 [.ref a0, xw 0, xw x10, xw 0, xw 0, xw 0, xw 0, xw 0] (T, z, xv V, J, R)) :=
  (st_aload_n f_106_82 rfl).trans ((sw_iconst f_106_83).trans ((sw_iload f_106_84 rfl).trans ((sw_iconst f_106_86).trans ((sw_iconst f_106_87).trans ((sw_iconst f_106_88).trans ((sw_iconst f_106_89).trans ((sw_iconst f_106_90).trans (st_callS' f_106_91 h_106_124 mn_92 rfl rfl rfl rfl))))))))
theorem bL_isHide_94 {o0 o1 o2 o3 o4 o5 o6 o7 o8 o9 o10 o12 o13 o14 o15 o16 o17 o18 o19 o20 o21 o22 o23 o24 o25 o26 o27 : Option Value} {s0 : Value} {x11 : Int} (g1 : -2147483648 ≤ x11 ∧ x11 ≤ 2147483647) : XR sc d 106 94 [o0, o1, o2, o3, o4, o5, o6, o7, o8, o9, o10, some (xw x11), o12, o13, o14, o15, o16, o17, o18, o19, o20, o21, o22, o23, o24, o25, o26, o27] [s0] (T, z, xv V, J, R) = if x11 = 0 then XR sc d 106 108 [o0, o1, o2, o3, o4, o5, o6, o7, o8, o9, o10, some (xw x11), o12, o13, o14, o15, o16, o17, o18, o19, o20, o21, o22, o23, o24, o25, o26, o27] [s0] (T, z, xv V, J, R) else XR sc d 106 99 [o0, o1, o2, o3, o4, o5, o6, o7, o8, o9, o10, some (xw x11), o12, o13, o14, o15, o16, o17, o18, o19, o20, o21, o22, o23, o24, o25, o26, o27] [s0] (T, z, xv V, J, R) :=
  (sw_iload f_106_94 rfl).trans (sw_if_eq (t := 108) f_106_96 ⟨by decide, rfl⟩ g1)
theorem bL_isHide_99 {o0 o1 o2 o3 o4 o5 o7 o8 o9 o10 o11 o12 o13 o14 o15 o16 o17 o18 o19 o20 o21 o22 o23 o24 o25 o26 o27 : Option Value} {s0 : Value} {a6 : Nat} (g1 : T a6 = (32, (T a6).2)) (g2 : (0 : Int) ≤ 0 ∧ 0 < ((T a6).2 : Int) ∧ (T a6).2 ≤ 3584) : XR sc d 106 99 [o0, o1, o2, o3, o4, o5, some (.ref a6), o7, o8, o9, o10, o11, o12, o13, o14, o15, o16, o17, o18, o19, o20, o21, o22, o23, o24, o25, o26, o27] [s0] (T, z, xv V, J, R) = XR sc d 106 110 [o0, o1, o2, o3, o4, o5, some (.ref a6), o7, o8, o9, o10, o11, o12, o13, o14, o15, o16, o17, o18, o19, o20, o21, o22, o23, o24, o25, o26, o27] [xw ((V a6 0) - 1), s0] (T, z, xv V, J, R) :=
  (st_aload f_106_99 rfl).trans ((sw_iconst f_106_101).trans ((sw_iaload f_106_102 g1 g2).trans ((sw_iconst f_106_103).trans ((sw_isub f_106_104).trans (st_goto (t := 110) f_106_105 ⟨by decide, rfl⟩)))))
theorem bL_isHide_108 {o0 o1 o2 o3 o4 o5 o6 o7 o8 o9 o10 o11 o12 o13 o14 o15 o16 o17 o18 o19 o20 o21 o22 o23 o24 o25 o26 o27 : Option Value} {s0 : Value} : XR sc d 106 108 [o0, o1, o2, o3, o4, o5, o6, o7, o8, o9, o10, o11, o12, o13, o14, o15, o16, o17, o18, o19, o20, o21, o22, o23, o24, o25, o26, o27] [s0] (T, z, xv V, J, R) = XR sc d 106 110 [o0, o1, o2, o3, o4, o5, o6, o7, o8, o9, o10, o11, o12, o13, o14, o15, o16, o17, o18, o19, o20, o21, o22, o23, o24, o25, o26, o27] [xw (-2000000), s0] (T, z, xv V, J, R) :=
  sw_ldc (-2000000) f_106_108 k_106_82 rfl
theorem bL_isHide_110 {o0 o1 o2 o3 o4 o5 o6 o7 o8 o9 o10 o11 o12 o13 o14 o15 o16 o17 o18 o19 o20 o21 o22 o23 o24 o25 o26 o27 : Option Value} {y0 y1 : Int} (g1 : -2147483648 ≤ y1 ∧ y1 ≤ 2147483647) (g2 : -2147483648 ≤ y0 ∧ y0 ≤ 2147483647) : XR sc d 106 110 [o0, o1, o2, o3, o4, o5, o6, o7, o8, o9, o10, o11, o12, o13, o14, o15, o16, o17, o18, o19, o20, o21, o22, o23, o24, o25, o26, o27] [xw y0, xw y1] (T, z, xv V, J, R) = if y1 = y0 then XR sc d 106 113 [o0, o1, o2, o3, o4, o5, o6, o7, o8, o9, o10, o11, o12, o13, o14, o15, o16, o17, o18, o19, o20, o21, o22, o23, o24, o25, o26, o27] [] (T, z, xv V, J, R) else XR sc d 106 117 [o0, o1, o2, o3, o4, o5, o6, o7, o8, o9, o10, o11, o12, o13, o14, o15, o16, o17, o18, o19, o20, o21, o22, o23, o24, o25, o26, o27] [] (T, z, xv V, J, R) :=
  sw_icmp_ne (t := 117) f_106_110 ⟨by decide, rfl⟩ g1 g2
theorem bL_isHide_113 {o0 o1 o2 o3 o4 o5 o6 o7 o8 o9 o10 o11 o12 o13 o14 o15 o16 o17 o18 o19 o20 o21 o22 o23 o24 o25 o26 o27 : Option Value} : XR sc d 106 113 [o0, o1, o2, o3, o4, o5, o6, o7, o8, o9, o10, o11, o12, o13, o14, o15, o16, o17, o18, o19, o20, o21, o22, o23, o24, o25, o26, o27] [] (T, z, xv V, J, R) = XR sc d 106 118 [o0, o1, o2, o3, o4, o5, o6, o7, o8, o9, o10, o11, o12, o13, o14, o15, o16, o17, o18, o19, o20, o21, o22, o23, o24, o25, o26, o27] [xw 1] (T, z, xv V, J, R) :=
  (sw_iconst f_106_113).trans (st_goto (t := 118) f_106_114 ⟨by decide, rfl⟩)
theorem bL_isHide_117 {o0 o1 o2 o3 o4 o5 o6 o7 o8 o9 o10 o11 o12 o13 o14 o15 o16 o17 o18 o19 o20 o21 o22 o23 o24 o25 o26 o27 : Option Value} : XR sc d 106 117 [o0, o1, o2, o3, o4, o5, o6, o7, o8, o9, o10, o11, o12, o13, o14, o15, o16, o17, o18, o19, o20, o21, o22, o23, o24, o25, o26, o27] [] (T, z, xv V, J, R) = XR sc d 106 118 [o0, o1, o2, o3, o4, o5, o6, o7, o8, o9, o10, o11, o12, o13, o14, o15, o16, o17, o18, o19, o20, o21, o22, o23, o24, o25, o26, o27] [xw 0] (T, z, xv V, J, R) :=
  sw_iconst f_106_117
theorem bL_isHide_118 {o0 o1 o2 o3 o4 o5 o6 o7 o8 o9 o10 o11 o12 o13 o14 o15 o16 o17 o18 o19 o20 o21 o22 o23 o24 o25 o26 o27 : Option Value} {y0 : Int} (g1 : y0 = 0 ∨ y0 = 1) : XR sc d 106 118 [o0, o1, o2, o3, o4, o5, o6, o7, o8, o9, o10, o11, o12, o13, o14, o15, o16, o17, o18, o19, o20, o21, o22, o23, o24, o25, o26, o27] [xw y0] (T, z, xv V, J, R) = some (.inl (some (xw y0)), (T, z, xv V, J, R)) :=
  sw_zreturn f_106_118 mr_106 g1
theorem bL_isHide_119 {o0 o1 o2 o3 o4 o5 o7 o9 o10 o11 o12 o13 o14 o15 o16 o17 o18 o19 o20 o21 o22 o23 o24 o25 o26 o27 : Option Value} {x8 : Int} {a6 : Nat} (g1 : T a6 = (32, (T a6).2)) (g2 : (0 : Int) ≤ 0 ∧ 0 < ((T a6).2 : Int) ∧ (T a6).2 ≤ 3584) (g3 : 0 < ((V a6 0) + 1) ∧ ((V a6 0) + 1) ≤ 2147483647 ∧ 0 ≤ x8 ∧ x8 ≤ 2147483647) (g4 : -2147483648 ≤ (x8 % ((V a6 0) + 1)) ∧ (x8 % ((V a6 0) + 1)) ≤ 2147483647) (g5 : -2147483648 ≤ (V a6 0) ∧ (V a6 0) ≤ 2147483647) : XR sc d 106 119 [o0, o1, o2, o3, o4, o5, some (.ref a6), o7, some (xw x8), o9, o10, o11, o12, o13, o14, o15, o16, o17, o18, o19, o20, o21, o22, o23, o24, o25, o26, o27] [] (T, z, xv V, J, R) = if (V a6 0) ≤ (x8 % ((V a6 0) + 1)) then XR sc d 106 143 [o0, o1, o2, o3, o4, o5, some (.ref a6), o7, some (xw x8), o9, some (xw (x8 % ((V a6 0) + 1))), o11, o12, o13, o14, o15, o16, o17, o18, o19, o20, o21, o22, o23, o24, o25, o26, o27] [] (T, z, xv V, J, R) else XR sc d 106 139 [o0, o1, o2, o3, o4, o5, some (.ref a6), o7, some (xw x8), o9, some (xw (x8 % ((V a6 0) + 1))), o11, o12, o13, o14, o15, o16, o17, o18, o19, o20, o21, o22, o23, o24, o25, o26, o27] [] (T, z, xv V, J, R) :=
  (sw_iload f_106_119 rfl).trans ((st_aload f_106_121 rfl).trans ((sw_iconst f_106_123).trans ((sw_iaload f_106_124 g1 g2).trans ((sw_iconst f_106_125).trans ((sw_iadd f_106_126).trans ((sw_irem f_106_127 g3).trans ((sw_istore (L' := [o0, o1, o2, o3, o4, o5, some (.ref a6), o7, some (xw x8), o9, some (xw (x8 % ((V a6 0) + 1))), o11, o12, o13, o14, o15, o16, o17, o18, o19, o20, o21, o22, o23, o24, o25, o26, o27]) f_106_128 (Nat.le_of_ble_eq_true rfl) rfl).trans ((sw_iload f_106_130 rfl).trans ((st_aload f_106_132 rfl).trans ((sw_iconst f_106_134).trans ((sw_iaload f_106_135 g1 g2).trans (sw_icmp_ge (t := 143) f_106_136 ⟨by decide, rfl⟩ g4 g5))))))))))))
theorem bL_isHide_139 {o0 o1 o2 o3 o4 o5 o6 o7 o8 o9 o10 o11 o12 o13 o14 o15 o16 o17 o18 o19 o20 o21 o22 o23 o24 o25 o26 o27 : Option Value} : XR sc d 106 139 [o0, o1, o2, o3, o4, o5, o6, o7, o8, o9, o10, o11, o12, o13, o14, o15, o16, o17, o18, o19, o20, o21, o22, o23, o24, o25, o26, o27] [] (T, z, xv V, J, R) = XR sc d 106 144 [o0, o1, o2, o3, o4, o5, o6, o7, o8, o9, o10, o11, o12, o13, o14, o15, o16, o17, o18, o19, o20, o21, o22, o23, o24, o25, o26, o27] [xw 1] (T, z, xv V, J, R) :=
  (sw_iconst f_106_139).trans (st_goto (t := 144) f_106_140 ⟨by decide, rfl⟩)
theorem bL_isHide_143 {o0 o1 o2 o3 o4 o5 o6 o7 o8 o9 o10 o11 o12 o13 o14 o15 o16 o17 o18 o19 o20 o21 o22 o23 o24 o25 o26 o27 : Option Value} : XR sc d 106 143 [o0, o1, o2, o3, o4, o5, o6, o7, o8, o9, o10, o11, o12, o13, o14, o15, o16, o17, o18, o19, o20, o21, o22, o23, o24, o25, o26, o27] [] (T, z, xv V, J, R) = XR sc d 106 144 [o0, o1, o2, o3, o4, o5, o6, o7, o8, o9, o10, o11, o12, o13, o14, o15, o16, o17, o18, o19, o20, o21, o22, o23, o24, o25, o26, o27] [xw 0] (T, z, xv V, J, R) :=
  sw_iconst f_106_143
theorem bL_isHide_144 {o0 o1 o2 o3 o4 o5 o6 o7 o10 o11 o12 o13 o14 o15 o16 o17 o18 o19 o20 o21 o22 o23 o24 o25 o26 o27 : Option Value} {y0 x8 x9 : Int} (g1 : 0 ≤ x8 ∧ x8 ≤ 2147483647) (g2 : 0 ≤ (x8 / 3) ∧ (x8 / 3) ≤ 2147483647) (g3 : 0 ≤ x9 ∧ x9 ≤ 2147483647) (g4 : -2147483648 ≤ y0 ∧ y0 ≤ 2147483647) : XR sc d 106 144 [o0, o1, o2, o3, o4, o5, o6, o7, some (xw x8), some (xw x9), o10, o11, o12, o13, o14, o15, o16, o17, o18, o19, o20, o21, o22, o23, o24, o25, o26, o27] [xw y0] (T, z, xv V, J, R) = if y0 = 0 then XR sc d 106 185 [o0, o1, o2, o3, o4, o5, o6, o7, some (xw x8), some (xw x9), o10, some (xw y0), some (xw ((x8 / 3) % 13)), some (xw (x9 % 9)), o14, o15, o16, o17, o18, o19, o20, o21, o22, o23, o24, o25, o26, o27] [] (T, z, xv V, J, R) else XR sc d 106 167 [o0, o1, o2, o3, o4, o5, o6, o7, some (xw x8), some (xw x9), o10, some (xw y0), some (xw ((x8 / 3) % 13)), some (xw (x9 % 9)), o14, o15, o16, o17, o18, o19, o20, o21, o22, o23, o24, o25, o26, o27] [] (T, z, xv V, J, R) :=
  (sw_istore (L' := [o0, o1, o2, o3, o4, o5, o6, o7, some (xw x8), some (xw x9), o10, some (xw y0), o12, o13, o14, o15, o16, o17, o18, o19, o20, o21, o22, o23, o24, o25, o26, o27]) f_106_144 (Nat.le_of_ble_eq_true rfl) rfl).trans ((sw_iload f_106_146 rfl).trans ((sw_iconst f_106_148).trans ((sw_idiv f_106_149 ⟨by decide, by decide, g1⟩).trans ((sw_bipush f_106_150 c8_13).trans ((sw_irem f_106_152 ⟨by decide, by decide, g2⟩).trans ((sw_istore (L' := [o0, o1, o2, o3, o4, o5, o6, o7, some (xw x8), some (xw x9), o10, some (xw y0), some (xw ((x8 / 3) % 13)), o13, o14, o15, o16, o17, o18, o19, o20, o21, o22, o23, o24, o25, o26, o27]) f_106_153 (Nat.le_of_ble_eq_true rfl) rfl).trans ((sw_iload f_106_155 rfl).trans ((sw_bipush f_106_157 c8_9).trans ((sw_irem f_106_159 ⟨by decide, by decide, g3⟩).trans ((sw_istore (L' := [o0, o1, o2, o3, o4, o5, o6, o7, some (xw x8), some (xw x9), o10, some (xw y0), some (xw ((x8 / 3) % 13)), some (xw (x9 % 9)), o14, o15, o16, o17, o18, o19, o20, o21, o22, o23, o24, o25, o26, o27]) f_106_160 (Nat.le_of_ble_eq_true rfl) rfl).trans ((sw_iload f_106_162 rfl).trans (sw_if_eq (t := 185) f_106_164 ⟨by decide, rfl⟩ g4))))))))))))
theorem bL_isHide_167 {o0 o1 o2 o3 o4 o5 o6 o7 o8 o9 o10 o11 o13 o14 o15 o16 o17 o18 o19 o20 o21 o22 o23 o24 o25 o26 o27 : Option Value} {x12 : Int} (g1 : -2147483648 ≤ x12 ∧ x12 ≤ 2147483647) : XR sc d 106 167 [o0, o1, o2, o3, o4, o5, o6, o7, o8, o9, o10, o11, some (xw x12), o13, o14, o15, o16, o17, o18, o19, o20, o21, o22, o23, o24, o25, o26, o27] [] (T, z, xv V, J, R) = if 12 ≤ x12 then XR sc d 106 185 [o0, o1, o2, o3, o4, o5, o6, o7, o8, o9, o10, o11, some (xw x12), o13, o14, o15, o16, o17, o18, o19, o20, o21, o22, o23, o24, o25, o26, o27] [] (T, z, xv V, J, R) else XR sc d 106 174 [o0, o1, o2, o3, o4, o5, o6, o7, o8, o9, o10, o11, some (xw x12), o13, o14, o15, o16, o17, o18, o19, o20, o21, o22, o23, o24, o25, o26, o27] [] (T, z, xv V, J, R) :=
  (sw_iload f_106_167 rfl).trans ((sw_bipush f_106_169 c8_12).trans (sw_icmp_ge (t := 185) f_106_171 ⟨by decide, rfl⟩ g1 ⟨by decide, by decide⟩))
theorem bL_isHide_174 {o0 o1 o2 o3 o4 o5 o6 o7 o8 o9 o10 o11 o12 o14 o15 o16 o17 o18 o19 o20 o21 o22 o23 o24 o25 o26 o27 : Option Value} {x13 : Int} (g1 : -2147483648 ≤ x13 ∧ x13 ≤ 2147483647) : XR sc d 106 174 [o0, o1, o2, o3, o4, o5, o6, o7, o8, o9, o10, o11, o12, some (xw x13), o14, o15, o16, o17, o18, o19, o20, o21, o22, o23, o24, o25, o26, o27] [] (T, z, xv V, J, R) = if 8 ≤ x13 then XR sc d 106 185 [o0, o1, o2, o3, o4, o5, o6, o7, o8, o9, o10, o11, o12, some (xw x13), o14, o15, o16, o17, o18, o19, o20, o21, o22, o23, o24, o25, o26, o27] [] (T, z, xv V, J, R) else XR sc d 106 181 [o0, o1, o2, o3, o4, o5, o6, o7, o8, o9, o10, o11, o12, some (xw x13), o14, o15, o16, o17, o18, o19, o20, o21, o22, o23, o24, o25, o26, o27] [] (T, z, xv V, J, R) :=
  (sw_iload f_106_174 rfl).trans ((sw_bipush f_106_176 c8_8).trans (sw_icmp_ge (t := 185) f_106_178 ⟨by decide, rfl⟩ g1 ⟨by decide, by decide⟩))
theorem bL_isHide_181 {o0 o1 o2 o3 o4 o5 o6 o7 o8 o9 o10 o11 o12 o13 o14 o15 o16 o17 o18 o19 o20 o21 o22 o23 o24 o25 o26 o27 : Option Value} : XR sc d 106 181 [o0, o1, o2, o3, o4, o5, o6, o7, o8, o9, o10, o11, o12, o13, o14, o15, o16, o17, o18, o19, o20, o21, o22, o23, o24, o25, o26, o27] [] (T, z, xv V, J, R) = XR sc d 106 186 [o0, o1, o2, o3, o4, o5, o6, o7, o8, o9, o10, o11, o12, o13, o14, o15, o16, o17, o18, o19, o20, o21, o22, o23, o24, o25, o26, o27] [xw 1] (T, z, xv V, J, R) :=
  (sw_iconst f_106_181).trans (st_goto (t := 186) f_106_182 ⟨by decide, rfl⟩)
theorem bL_isHide_185 {o0 o1 o2 o3 o4 o5 o6 o7 o8 o9 o10 o11 o12 o13 o14 o15 o16 o17 o18 o19 o20 o21 o22 o23 o24 o25 o26 o27 : Option Value} : XR sc d 106 185 [o0, o1, o2, o3, o4, o5, o6, o7, o8, o9, o10, o11, o12, o13, o14, o15, o16, o17, o18, o19, o20, o21, o22, o23, o24, o25, o26, o27] [] (T, z, xv V, J, R) = XR sc d 106 186 [o0, o1, o2, o3, o4, o5, o6, o7, o8, o9, o10, o11, o12, o13, o14, o15, o16, o17, o18, o19, o20, o21, o22, o23, o24, o25, o26, o27] [xw 0] (T, z, xv V, J, R) :=
  sw_iconst f_106_185
theorem bL_isHide_186 {o0 o1 o2 o3 o4 o5 o6 o8 o9 o10 o11 o12 o13 o14 o15 o16 o17 o18 o19 o20 o21 o22 o23 o24 o25 o26 o27 : Option Value} {y0 x7 : Int} (g1 : -2147483648 ≤ x7 ∧ x7 ≤ 2147483647) : XR sc d 106 186 [o0, o1, o2, o3, o4, o5, o6, some (xw x7), o8, o9, o10, o11, o12, o13, o14, o15, o16, o17, o18, o19, o20, o21, o22, o23, o24, o25, o26, o27] [xw y0] (T, z, xv V, J, R) = if 2 ≤ x7 then XR sc d 106 305 [o0, o1, o2, o3, o4, o5, o6, some (xw x7), o8, o9, o10, o11, o12, o13, some (xw y0), o15, o16, o17, o18, o19, o20, o21, o22, o23, o24, o25, o26, o27] [] (T, z, xv V, J, R) else XR sc d 106 194 [o0, o1, o2, o3, o4, o5, o6, some (xw x7), o8, o9, o10, o11, o12, o13, some (xw y0), o15, o16, o17, o18, o19, o20, o21, o22, o23, o24, o25, o26, o27] [] (T, z, xv V, J, R) :=
  (sw_istore (L' := [o0, o1, o2, o3, o4, o5, o6, some (xw x7), o8, o9, o10, o11, o12, o13, some (xw y0), o15, o16, o17, o18, o19, o20, o21, o22, o23, o24, o25, o26, o27]) f_106_186 (Nat.le_of_ble_eq_true rfl) rfl).trans ((sw_iload f_106_188 rfl).trans ((sw_iconst f_106_190).trans (sw_icmp_ge (t := 305) f_106_191 ⟨by decide, rfl⟩ g1 ⟨by decide, by decide⟩)))
theorem bL_isHide_194 {o0 o2 o3 o4 o5 o6 o7 o8 o9 o10 o11 o12 o13 o15 o16 o17 o18 o19 o20 o21 o22 o23 o24 o25 o26 o27 : Option Value} {x14 : Int} {a1 : Nat} (g1 : -2147483648 ≤ x14 ∧ x14 ≤ 2147483647) : XR sc d 106 194 [o0, some (.ref a1), o2, o3, o4, o5, o6, o7, o8, o9, o10, o11, o12, o13, some (xw x14), o15, o16, o17, o18, o19, o20, o21, o22, o23, o24, o25, o26, o27] [] (T, z, xv V, J, R) = if x14 = 0 then XR sc d 106 213 [o0, some (.ref a1), o2, o3, o4, o5, o6, o7, o8, o9, o10, o11, o12, o13, some (xw x14), o15, o16, o17, o18, o19, o20, o21, o22, o23, o24, o25, o26, o27] [.ref a1] (T, z, xv V, J, R) else XR sc d 106 200 [o0, some (.ref a1), o2, o3, o4, o5, o6, o7, o8, o9, o10, o11, o12, o13, some (xw x14), o15, o16, o17, o18, o19, o20, o21, o22, o23, o24, o25, o26, o27] [.ref a1] (T, z, xv V, J, R) :=
  (st_aload_n f_106_194 rfl).trans ((sw_iload f_106_195 rfl).trans (sw_if_eq (t := 213) f_106_197 ⟨by decide, rfl⟩ g1))
theorem bL_isHide_200 {o0 o1 o2 o3 o4 o5 o6 o7 o8 o9 o11 o12 o14 o15 o16 o17 o18 o19 o20 o21 o22 o23 o24 o25 o26 o27 : Option Value} {s0 : Value} {x10 x13 : Int} : XR sc d 106 200 [o0, o1, o2, o3, o4, o5, o6, o7, o8, o9, some (xw x10), o11, o12, some (xw x13), o14, o15, o16, o17, o18, o19, o20, o21, o22, o23, o24, o25, o26, o27] [s0] (T, z, xv V, J, R) = XR sc d 106 215 [o0, o1, o2, o3, o4, o5, o6, o7, o8, o9, some (xw x10), o11, o12, some (xw x13), o14, o15, o16, o17, o18, o19, o20, o21, o22, o23, o24, o25, o26, o27] [xw ((2 + (8 * x10)) + x13), s0] (T, z, xv V, J, R) :=
  (sw_iconst f_106_200).trans ((sw_bipush f_106_201 c8_8).trans ((sw_iload f_106_203 rfl).trans ((sw_imul f_106_205).trans ((sw_iadd f_106_206).trans ((sw_iload f_106_207 rfl).trans ((sw_iadd f_106_209).trans (st_goto (t := 215) f_106_210 ⟨by decide, rfl⟩)))))))
theorem bL_isHide_213 {o0 o1 o2 o3 o4 o5 o6 o7 o8 o9 o10 o11 o12 o13 o14 o15 o16 o17 o18 o19 o20 o21 o22 o23 o24 o25 o26 o27 : Option Value} {s0 : Value} : XR sc d 106 213 [o0, o1, o2, o3, o4, o5, o6, o7, o8, o9, o10, o11, o12, o13, o14, o15, o16, o17, o18, o19, o20, o21, o22, o23, o24, o25, o26, o27] [s0] (T, z, xv V, J, R) = XR sc d 106 215 [o0, o1, o2, o3, o4, o5, o6, o7, o8, o9, o10, o11, o12, o13, o14, o15, o16, o17, o18, o19, o20, o21, o22, o23, o24, o25, o26, o27] [xw 18, s0] (T, z, xv V, J, R) :=
  sw_bipush f_106_213 c8_18
theorem bL_isHide_215 {o0 o1 o2 o3 o4 o5 o6 o7 o8 o9 o10 o11 o13 o14 o15 o16 o17 o18 o19 o20 o21 o22 o23 o24 o25 o26 o27 : Option Value} {y0 x12 : Int} {b1 : Nat} (g1 : T b1 = (32, (T b1).2)) (g2 : (0 : Int) ≤ y0 ∧ y0 < ((T b1).2 : Int) ∧ (T b1).2 ≤ 3584) : XR sc d 106 215 [o0, o1, o2, o3, o4, o5, o6, o7, o8, o9, o10, o11, some (xw x12), o13, o14, o15, o16, o17, o18, o19, o20, o21, o22, o23, o24, o25, o26, o27] [xw y0, .ref b1] (T, z, xv V, J, R) = XR sc d 106 229 [o0, o1, o2, o3, o4, o5, o6, o7, o8, o9, o10, o11, some (xw x12), o13, o14, some (xw 0), some (xw 0), o17, o18, o19, o20, o21, o22, o23, o24, o25, o26, o27] [] (T, z, xv (xup2 V b1 y0.toNat (iOr (V b1 y0.toNat) (iShl 1 x12))), J, R) :=
  (st_dup2 f_106_215 rfl rfl).trans ((sw_iaload f_106_216 g1 g2).trans ((sw_iconst f_106_217).trans ((sw_iload f_106_218 rfl).trans ((sw_ishl f_106_220).trans ((sw_ior f_106_221).trans ((sw_iastore f_106_222 g1 g2).trans ((sw_iconst f_106_223).trans ((sw_istore (L' := [o0, o1, o2, o3, o4, o5, o6, o7, o8, o9, o10, o11, some (xw x12), o13, o14, some (xw 0), o16, o17, o18, o19, o20, o21, o22, o23, o24, o25, o26, o27]) f_106_224 (Nat.le_of_ble_eq_true rfl) rfl).trans ((sw_iconst f_106_226).trans (sw_istore (L' := [o0, o1, o2, o3, o4, o5, o6, o7, o8, o9, o10, o11, some (xw x12), o13, o14, some (xw 0), some (xw 0), o17, o18, o19, o20, o21, o22, o23, o24, o25, o26, o27]) f_106_227 (Nat.le_of_ble_eq_true rfl) rfl))))))))))
theorem bL_isHide_229 {o0 o1 o2 o3 o4 o5 o6 o7 o8 o9 o10 o11 o12 o13 o14 o15 o17 o18 o19 o20 o21 o22 o23 o24 o25 o26 o27 : Option Value} {x16 : Int} (g1 : -2147483648 ≤ x16 ∧ x16 ≤ 2147483647) : XR sc d 106 229 [o0, o1, o2, o3, o4, o5, o6, o7, o8, o9, o10, o11, o12, o13, o14, o15, some (xw x16), o17, o18, o19, o20, o21, o22, o23, o24, o25, o26, o27] [] (T, z, xv V, J, R) = if 8 ≤ x16 then XR sc d 106 267 [o0, o1, o2, o3, o4, o5, o6, o7, o8, o9, o10, o11, o12, o13, o14, o15, some (xw x16), o17, o18, o19, o20, o21, o22, o23, o24, o25, o26, o27] [] (T, z, xv V, J, R) else XR sc d 106 236 [o0, o1, o2, o3, o4, o5, o6, o7, o8, o9, o10, o11, o12, o13, o14, o15, some (xw x16), o17, o18, o19, o20, o21, o22, o23, o24, o25, o26, o27] [] (T, z, xv V, J, R) :=
  (sw_iload f_106_229 rfl).trans ((sw_bipush f_106_231 c8_8).trans (sw_icmp_ge (t := 267) f_106_233 ⟨by decide, rfl⟩ g1 ⟨by decide, by decide⟩))
theorem bL_isHide_236 {o0 o1 o2 o3 o4 o5 o6 o7 o8 o9 o10 o11 o12 o13 o15 o16 o17 o18 o19 o20 o21 o22 o23 o24 o25 o26 o27 : Option Value} {x14 : Int} (g1 : -2147483648 ≤ x14 ∧ x14 ≤ 2147483647) : XR sc d 106 236 [o0, o1, o2, o3, o4, o5, o6, o7, o8, o9, o10, o11, o12, o13, some (xw x14), o15, o16, o17, o18, o19, o20, o21, o22, o23, o24, o25, o26, o27] [] (T, z, xv V, J, R) = if x14 = 0 then XR sc d 106 267 [o0, o1, o2, o3, o4, o5, o6, o7, o8, o9, o10, o11, o12, o13, some (xw x14), o15, o16, o17, o18, o19, o20, o21, o22, o23, o24, o25, o26, o27] [] (T, z, xv V, J, R) else XR sc d 106 241 [o0, o1, o2, o3, o4, o5, o6, o7, o8, o9, o10, o11, o12, o13, some (xw x14), o15, o16, o17, o18, o19, o20, o21, o22, o23, o24, o25, o26, o27] [] (T, z, xv V, J, R) :=
  (sw_iload f_106_236 rfl).trans (sw_if_eq (t := 267) f_106_238 ⟨by decide, rfl⟩ g1)
theorem bL_isHide_241 {o0 o2 o3 o4 o5 o6 o7 o8 o9 o11 o12 o13 o14 o17 o18 o19 o20 o21 o22 o23 o24 o25 o26 o27 : Option Value} {x15 x10 x16 : Int} {a1 : Nat} (g1 : T a1 = (32, (T a1).2)) (g2 : (0 : Int) ≤ ((2 + (8 * x10)) + x16) ∧ ((2 + (8 * x10)) + x16) < ((T a1).2 : Int) ∧ (T a1).2 ≤ 3584) : XR sc d 106 241 [o0, some (.ref a1), o2, o3, o4, o5, o6, o7, o8, o9, some (xw x10), o11, o12, o13, o14, some (xw x15), some (xw x16), o17, o18, o19, o20, o21, o22, o23, o24, o25, o26, o27] [] (T, z, xv V, J, R) = xret 106 (XR sc d 106) 255 258 [o0, some (.ref a1), o2, o3, o4, o5, o6, o7, o8, o9, some (xw x10), o11, o12, o13, o14, some (xw x15), some (xw x16), o17, o18, o19, o20, o21, o22, o23, o24, o25, o26, o27] [xw x15] (X sc d 103 [xw (V a1 ((2 + (8 * x10)) + x16).toNat)] (T, z, xv V, J, R)) :=
  (sw_iload f_106_241 rfl).trans ((st_aload_n f_106_243 rfl).trans ((sw_iconst f_106_244).trans ((sw_bipush f_106_245 c8_8).trans ((sw_iload f_106_247 rfl).trans ((sw_imul f_106_249).trans ((sw_iadd f_106_250).trans ((sw_iload f_106_251 rfl).trans ((sw_iadd f_106_253).trans ((sw_iaload f_106_254 g1 g2).trans (st_callS' f_106_255 h_106_116 mn_103 rfl rfl rfl rfl))))))))))
theorem bL_isHide_258 {o0 o1 o2 o3 o4 o5 o6 o7 o8 o9 o10 o11 o12 o13 o14 o15 o17 o18 o19 o20 o21 o22 o23 o24 o25 o26 o27 : Option Value} {y0 y1 x16 : Int} : XR sc d 106 258 [o0, o1, o2, o3, o4, o5, o6, o7, o8, o9, o10, o11, o12, o13, o14, o15, some (xw x16), o17, o18, o19, o20, o21, o22, o23, o24, o25, o26, o27] [xw y0, xw y1] (T, z, xv V, J, R) = XR sc d 106 229 [o0, o1, o2, o3, o4, o5, o6, o7, o8, o9, o10, o11, o12, o13, o14, some (xw (y1 + y0)), some (xw (x16 + 1)), o17, o18, o19, o20, o21, o22, o23, o24, o25, o26, o27] [] (T, z, xv V, J, R) :=
  (sw_iadd f_106_258).trans ((sw_istore (L' := [o0, o1, o2, o3, o4, o5, o6, o7, o8, o9, o10, o11, o12, o13, o14, some (xw (y1 + y0)), some (xw x16), o17, o18, o19, o20, o21, o22, o23, o24, o25, o26, o27]) f_106_259 (Nat.le_of_ble_eq_true rfl) rfl).trans ((sw_iinc (L' := [o0, o1, o2, o3, o4, o5, o6, o7, o8, o9, o10, o11, o12, o13, o14, some (xw (y1 + y0)), some (xw (x16 + 1)), o17, o18, o19, o20, o21, o22, o23, o24, o25, o26, o27]) f_106_261 rfl (Nat.le_of_ble_eq_true rfl) rfl).trans (st_goto (t := 229) f_106_264 ⟨by decide, rfl⟩)))
theorem bL_isHide_267 {o1 o2 o3 o4 o5 o6 o7 o8 o9 o11 o14 o15 o16 o17 o18 o19 o20 o21 o22 o23 o24 o25 o26 o27 : Option Value} {x10 x12 x13 : Int} {a0 : Nat} : XR sc d 106 267 [some (.ref a0), o1, o2, o3, o4, o5, o6, o7, o8, o9, some (xw x10), o11, some (xw x12), some (xw x13), o14, o15, o16, o17, o18, o19, o20, o21, o22, o23, o24, o25, o26, o27] [] (T, z, xv V, J, R) = xret 106 (XR sc d 106) 278 281 [some (.ref a0), o1, o2, o3, o4, o5, o6, o7, o8, o9, some (xw x10), o11, some (xw x12), some (xw x13), o14, o15, o16, o17, o18, o19, o20, o21, o22, o23, o24, o25, o26, o27] [] (X sc d 92 [.ref a0, xw 1, xw x10, xw x12, xw x13, xw 0, xw 0, xw 0] (T, z, xv V, J, R)) :=
  (st_aload_n f_106_267 rfl).trans ((sw_iconst f_106_268).trans ((sw_iload f_106_269 rfl).trans ((sw_iload f_106_271 rfl).trans ((sw_iload f_106_273 rfl).trans ((sw_iconst f_106_275).trans ((sw_iconst f_106_276).trans ((sw_iconst f_106_277).trans (st_callS' f_106_278 h_106_124 mn_92 rfl rfl rfl rfl))))))))
theorem bL_isHide_281 {o0 o1 o2 o3 o4 o5 o6 o7 o8 o9 o10 o11 o12 o13 o15 o16 o17 o18 o19 o20 o21 o22 o23 o24 o25 o26 o27 : Option Value} {s0 : Value} {x14 : Int} (g1 : -2147483648 ≤ x14 ∧ x14 ≤ 2147483647) : XR sc d 106 281 [o0, o1, o2, o3, o4, o5, o6, o7, o8, o9, o10, o11, o12, o13, some (xw x14), o15, o16, o17, o18, o19, o20, o21, o22, o23, o24, o25, o26, o27] [s0] (T, z, xv V, J, R) = if x14 = 0 then XR sc d 106 294 [o0, o1, o2, o3, o4, o5, o6, o7, o8, o9, o10, o11, o12, o13, some (xw x14), o15, o16, o17, o18, o19, o20, o21, o22, o23, o24, o25, o26, o27] [s0] (T, z, xv V, J, R) else XR sc d 106 286 [o0, o1, o2, o3, o4, o5, o6, o7, o8, o9, o10, o11, o12, o13, some (xw x14), o15, o16, o17, o18, o19, o20, o21, o22, o23, o24, o25, o26, o27] [s0] (T, z, xv V, J, R) :=
  (sw_iload f_106_281 rfl).trans (sw_if_eq (t := 294) f_106_283 ⟨by decide, rfl⟩ g1)
theorem bL_isHide_286 {o0 o1 o2 o3 o4 o5 o6 o7 o8 o9 o10 o11 o12 o13 o14 o16 o17 o18 o19 o20 o21 o22 o23 o24 o25 o26 o27 : Option Value} {s0 : Value} {x15 : Int} : XR sc d 106 286 [o0, o1, o2, o3, o4, o5, o6, o7, o8, o9, o10, o11, o12, o13, o14, some (xw x15), o16, o17, o18, o19, o20, o21, o22, o23, o24, o25, o26, o27] [s0] (T, z, xv V, J, R) = XR sc d 106 296 [o0, o1, o2, o3, o4, o5, o6, o7, o8, o9, o10, o11, o12, o13, o14, some (xw x15), o16, o17, o18, o19, o20, o21, o22, o23, o24, o25, o26, o27] [xw (96 - x15), s0] (T, z, xv V, J, R) :=
  (sw_bipush f_106_286 c8_96).trans ((sw_iload f_106_288 rfl).trans ((sw_isub f_106_290).trans (st_goto (t := 296) f_106_291 ⟨by decide, rfl⟩)))
theorem bL_isHide_294 {o0 o1 o2 o3 o4 o5 o6 o7 o8 o9 o10 o11 o12 o13 o14 o15 o16 o17 o18 o19 o20 o21 o22 o23 o24 o25 o26 o27 : Option Value} {s0 : Value} : XR sc d 106 294 [o0, o1, o2, o3, o4, o5, o6, o7, o8, o9, o10, o11, o12, o13, o14, o15, o16, o17, o18, o19, o20, o21, o22, o23, o24, o25, o26, o27] [s0] (T, z, xv V, J, R) = XR sc d 106 296 [o0, o1, o2, o3, o4, o5, o6, o7, o8, o9, o10, o11, o12, o13, o14, o15, o16, o17, o18, o19, o20, o21, o22, o23, o24, o25, o26, o27] [xw (-3000000), s0] (T, z, xv V, J, R) :=
  sw_ldc (-3000000) f_106_294 k_106_79 rfl
theorem bL_isHide_296 {o0 o1 o2 o3 o4 o5 o6 o7 o8 o9 o10 o11 o12 o13 o14 o15 o16 o17 o18 o19 o20 o21 o22 o23 o24 o25 o26 o27 : Option Value} {y0 y1 : Int} (g1 : -2147483648 ≤ y1 ∧ y1 ≤ 2147483647) (g2 : -2147483648 ≤ y0 ∧ y0 ≤ 2147483647) : XR sc d 106 296 [o0, o1, o2, o3, o4, o5, o6, o7, o8, o9, o10, o11, o12, o13, o14, o15, o16, o17, o18, o19, o20, o21, o22, o23, o24, o25, o26, o27] [xw y0, xw y1] (T, z, xv V, J, R) = if y1 = y0 then XR sc d 106 299 [o0, o1, o2, o3, o4, o5, o6, o7, o8, o9, o10, o11, o12, o13, o14, o15, o16, o17, o18, o19, o20, o21, o22, o23, o24, o25, o26, o27] [] (T, z, xv V, J, R) else XR sc d 106 303 [o0, o1, o2, o3, o4, o5, o6, o7, o8, o9, o10, o11, o12, o13, o14, o15, o16, o17, o18, o19, o20, o21, o22, o23, o24, o25, o26, o27] [] (T, z, xv V, J, R) :=
  sw_icmp_ne (t := 303) f_106_296 ⟨by decide, rfl⟩ g1 g2
theorem bL_isHide_299 {o0 o1 o2 o3 o4 o5 o6 o7 o8 o9 o10 o11 o12 o13 o14 o15 o16 o17 o18 o19 o20 o21 o22 o23 o24 o25 o26 o27 : Option Value} : XR sc d 106 299 [o0, o1, o2, o3, o4, o5, o6, o7, o8, o9, o10, o11, o12, o13, o14, o15, o16, o17, o18, o19, o20, o21, o22, o23, o24, o25, o26, o27] [] (T, z, xv V, J, R) = XR sc d 106 304 [o0, o1, o2, o3, o4, o5, o6, o7, o8, o9, o10, o11, o12, o13, o14, o15, o16, o17, o18, o19, o20, o21, o22, o23, o24, o25, o26, o27] [xw 1] (T, z, xv V, J, R) :=
  (sw_iconst f_106_299).trans (st_goto (t := 304) f_106_300 ⟨by decide, rfl⟩)
theorem bL_isHide_303 {o0 o1 o2 o3 o4 o5 o6 o7 o8 o9 o10 o11 o12 o13 o14 o15 o16 o17 o18 o19 o20 o21 o22 o23 o24 o25 o26 o27 : Option Value} : XR sc d 106 303 [o0, o1, o2, o3, o4, o5, o6, o7, o8, o9, o10, o11, o12, o13, o14, o15, o16, o17, o18, o19, o20, o21, o22, o23, o24, o25, o26, o27] [] (T, z, xv V, J, R) = XR sc d 106 304 [o0, o1, o2, o3, o4, o5, o6, o7, o8, o9, o10, o11, o12, o13, o14, o15, o16, o17, o18, o19, o20, o21, o22, o23, o24, o25, o26, o27] [xw 0] (T, z, xv V, J, R) :=
  sw_iconst f_106_303
theorem bL_isHide_304 {o0 o1 o2 o3 o4 o5 o6 o7 o8 o9 o10 o11 o12 o13 o14 o15 o16 o17 o18 o19 o20 o21 o22 o23 o24 o25 o26 o27 : Option Value} {y0 : Int} (g1 : y0 = 0 ∨ y0 = 1) : XR sc d 106 304 [o0, o1, o2, o3, o4, o5, o6, o7, o8, o9, o10, o11, o12, o13, o14, o15, o16, o17, o18, o19, o20, o21, o22, o23, o24, o25, o26, o27] [xw y0] (T, z, xv V, J, R) = some (.inl (some (xw y0)), (T, z, xv V, J, R)) :=
  sw_zreturn f_106_304 mr_106 g1
theorem bL_isHide_305 {o0 o1 o2 o3 o4 o5 o6 o7 o9 o10 o11 o12 o13 o14 o15 o16 o17 o18 o19 o20 o21 o22 o23 o24 o25 o26 o27 : Option Value} {x8 : Int} (g1 : 0 ≤ x8 ∧ x8 ≤ 2147483647) (g2 : 0 ≤ (x8 / 39) ∧ (x8 / 39) ≤ 2147483647) (g3 : -2147483648 ≤ ((x8 / 39) % 9) ∧ ((x8 / 39) % 9) ≤ 2147483647) : XR sc d 106 305 [o0, o1, o2, o3, o4, o5, o6, o7, some (xw x8), o9, o10, o11, o12, o13, o14, o15, o16, o17, o18, o19, o20, o21, o22, o23, o24, o25, o26, o27] [] (T, z, xv V, J, R) = if ((x8 / 39) % 9) = 0 then XR sc d 106 316 [o0, o1, o2, o3, o4, o5, o6, o7, some (xw x8), o9, o10, o11, o12, o13, o14, o15, o16, o17, o18, o19, o20, o21, o22, o23, o24, o25, o26, o27] [] (T, z, xv V, J, R) else XR sc d 106 328 [o0, o1, o2, o3, o4, o5, o6, o7, some (xw x8), o9, o10, o11, o12, o13, o14, o15, o16, o17, o18, o19, o20, o21, o22, o23, o24, o25, o26, o27] [] (T, z, xv V, J, R) :=
  (sw_iload f_106_305 rfl).trans ((sw_bipush f_106_307 c8_39).trans ((sw_idiv f_106_309 ⟨by decide, by decide, g1⟩).trans ((sw_bipush f_106_310 c8_9).trans ((sw_irem f_106_312 ⟨by decide, by decide, g2⟩).trans (sw_if_ne (t := 328) f_106_313 ⟨by decide, rfl⟩ g3)))))
theorem bL_isHide_316 {o0 o1 o2 o3 o4 o5 o6 o7 o9 o10 o11 o12 o13 o14 o15 o16 o17 o18 o19 o20 o21 o22 o23 o24 o25 o26 o27 : Option Value} {x8 : Int} (g1 : 0 ≤ x8 ∧ x8 ≤ 2147483647) (g2 : 0 ≤ (x8 / 351) ∧ (x8 / 351) ≤ 2147483647) : XR sc d 106 316 [o0, o1, o2, o3, o4, o5, o6, o7, some (xw x8), o9, o10, o11, o12, o13, o14, o15, o16, o17, o18, o19, o20, o21, o22, o23, o24, o25, o26, o27] [] (T, z, xv V, J, R) = XR sc d 106 338 [o0, o1, o2, o3, o4, o5, o6, o7, some (xw x8), o9, o10, o11, o12, o13, o14, o15, o16, o17, o18, o19, o20, o21, o22, o23, o24, o25, o26, o27] [xw ((x8 / 351) % 14)] (T, z, xv V, J, R) :=
  (sw_iload f_106_316 rfl).trans ((sw_sipush f_106_318 c16_351).trans ((sw_idiv f_106_321 ⟨by decide, by decide, g1⟩).trans ((sw_bipush f_106_322 c8_14).trans ((sw_irem f_106_324 ⟨by decide, by decide, g2⟩).trans (st_goto (t := 338) f_106_325 ⟨by decide, rfl⟩)))))
theorem bL_isHide_328 {o0 o1 o2 o3 o4 o5 o6 o7 o9 o10 o11 o12 o13 o14 o15 o16 o17 o18 o19 o20 o21 o22 o23 o24 o25 o26 o27 : Option Value} {x8 : Int} (g1 : 0 ≤ x8 ∧ x8 ≤ 2147483647) (g2 : 0 ≤ (x8 / 39) ∧ (x8 / 39) ≤ 2147483647) : XR sc d 106 328 [o0, o1, o2, o3, o4, o5, o6, o7, some (xw x8), o9, o10, o11, o12, o13, o14, o15, o16, o17, o18, o19, o20, o21, o22, o23, o24, o25, o26, o27] [] (T, z, xv V, J, R) = XR sc d 106 338 [o0, o1, o2, o3, o4, o5, o6, o7, some (xw x8), o9, o10, o11, o12, o13, o14, o15, o16, o17, o18, o19, o20, o21, o22, o23, o24, o25, o26, o27] [xw (1 + ((x8 / 39) % 6))] (T, z, xv V, J, R) :=
  (sw_iconst f_106_328).trans ((sw_iload f_106_329 rfl).trans ((sw_bipush f_106_331 c8_39).trans ((sw_idiv f_106_333 ⟨by decide, by decide, g1⟩).trans ((sw_bipush f_106_334 c8_6).trans ((sw_irem f_106_336 ⟨by decide, by decide, g2⟩).trans (sw_iadd f_106_337))))))
theorem bL_isHide_338 {o0 o1 o2 o3 o4 o5 o6 o7 o8 o10 o11 o12 o13 o14 o15 o16 o17 o18 o19 o20 o21 o22 o23 o24 o25 o26 o27 : Option Value} {y0 x9 : Int} (g1 : 0 ≤ x9 ∧ x9 ≤ 2147483647) (g2 : 0 ≤ (x9 / 9) ∧ (x9 / 9) ≤ 2147483647) (g3 : -2147483648 ≤ ((x9 / 9) % 9) ∧ ((x9 / 9) % 9) ≤ 2147483647) : XR sc d 106 338 [o0, o1, o2, o3, o4, o5, o6, o7, o8, some (xw x9), o10, o11, o12, o13, o14, o15, o16, o17, o18, o19, o20, o21, o22, o23, o24, o25, o26, o27] [xw y0] (T, z, xv V, J, R) = if ((x9 / 9) % 9) = 0 then XR sc d 106 351 [o0, o1, o2, o3, o4, o5, o6, o7, o8, some (xw x9), o10, o11, o12, o13, o14, some (xw y0), o16, o17, o18, o19, o20, o21, o22, o23, o24, o25, o26, o27] [] (T, z, xv V, J, R) else XR sc d 106 362 [o0, o1, o2, o3, o4, o5, o6, o7, o8, some (xw x9), o10, o11, o12, o13, o14, some (xw y0), o16, o17, o18, o19, o20, o21, o22, o23, o24, o25, o26, o27] [] (T, z, xv V, J, R) :=
  (sw_istore (L' := [o0, o1, o2, o3, o4, o5, o6, o7, o8, some (xw x9), o10, o11, o12, o13, o14, some (xw y0), o16, o17, o18, o19, o20, o21, o22, o23, o24, o25, o26, o27]) f_106_338 (Nat.le_of_ble_eq_true rfl) rfl).trans ((sw_iload f_106_340 rfl).trans ((sw_bipush f_106_342 c8_9).trans ((sw_idiv f_106_344 ⟨by decide, by decide, g1⟩).trans ((sw_bipush f_106_345 c8_9).trans ((sw_irem f_106_347 ⟨by decide, by decide, g2⟩).trans (sw_if_ne (t := 362) f_106_348 ⟨by decide, rfl⟩ g3))))))
theorem bL_isHide_351 {o0 o1 o2 o3 o4 o5 o6 o7 o8 o10 o11 o12 o13 o14 o15 o16 o17 o18 o19 o20 o21 o22 o23 o24 o25 o26 o27 : Option Value} {x9 : Int} (g1 : 0 ≤ x9 ∧ x9 ≤ 2147483647) (g2 : 0 ≤ (x9 / 81) ∧ (x9 / 81) ≤ 2147483647) : XR sc d 106 351 [o0, o1, o2, o3, o4, o5, o6, o7, o8, some (xw x9), o10, o11, o12, o13, o14, o15, o16, o17, o18, o19, o20, o21, o22, o23, o24, o25, o26, o27] [] (T, z, xv V, J, R) = XR sc d 106 371 [o0, o1, o2, o3, o4, o5, o6, o7, o8, some (xw x9), o10, o11, o12, o13, o14, o15, o16, o17, o18, o19, o20, o21, o22, o23, o24, o25, o26, o27] [xw ((x9 / 81) % 10)] (T, z, xv V, J, R) :=
  (sw_iload f_106_351 rfl).trans ((sw_bipush f_106_353 c8_81).trans ((sw_idiv f_106_355 ⟨by decide, by decide, g1⟩).trans ((sw_bipush f_106_356 c8_10).trans ((sw_irem f_106_358 ⟨by decide, by decide, g2⟩).trans (st_goto (t := 371) f_106_359 ⟨by decide, rfl⟩)))))
theorem bL_isHide_362 {o0 o1 o2 o3 o4 o5 o6 o7 o8 o10 o11 o12 o13 o14 o15 o16 o17 o18 o19 o20 o21 o22 o23 o24 o25 o26 o27 : Option Value} {x9 : Int} (g1 : 0 ≤ x9 ∧ x9 ≤ 2147483647) (g2 : 0 ≤ (x9 / 9) ∧ (x9 / 9) ≤ 2147483647) : XR sc d 106 362 [o0, o1, o2, o3, o4, o5, o6, o7, o8, some (xw x9), o10, o11, o12, o13, o14, o15, o16, o17, o18, o19, o20, o21, o22, o23, o24, o25, o26, o27] [] (T, z, xv V, J, R) = XR sc d 106 371 [o0, o1, o2, o3, o4, o5, o6, o7, o8, some (xw x9), o10, o11, o12, o13, o14, o15, o16, o17, o18, o19, o20, o21, o22, o23, o24, o25, o26, o27] [xw (1 + ((x9 / 9) % 3))] (T, z, xv V, J, R) :=
  (sw_iconst f_106_362).trans ((sw_iload f_106_363 rfl).trans ((sw_bipush f_106_365 c8_9).trans ((sw_idiv f_106_367 ⟨by decide, by decide, g1⟩).trans ((sw_iconst f_106_368).trans ((sw_irem f_106_369 ⟨by decide, by decide, g2⟩).trans (sw_iadd f_106_370))))))
theorem bL_isHide_371 {o0 o1 o2 o3 o4 o5 o6 o7 o8 o10 o11 o12 o13 o14 o15 o16 o17 o18 o19 o20 o21 o22 o23 o24 o25 o26 o27 : Option Value} {y0 x9 : Int} (g1 : 0 ≤ x9 ∧ x9 ≤ 2147483647) (g2 : 0 ≤ (x9 / 162) ∧ (x9 / 162) ≤ 2147483647) (g3 : -2147483648 ≤ ((x9 / 162) % 4) ∧ ((x9 / 162) % 4) ≤ 2147483647) : XR sc d 106 371 [o0, o1, o2, o3, o4, o5, o6, o7, o8, some (xw x9), o10, o11, o12, o13, o14, o15, o16, o17, o18, o19, o20, o21, o22, o23, o24, o25, o26, o27] [xw y0] (T, z, xv V, J, R) = if ((x9 / 162) % 4) ≤ 0 then XR sc d 106 388 [o0, o1, o2, o3, o4, o5, o6, o7, o8, some (xw x9), o10, o11, o12, o13, o14, o15, some (xw y0), o17, o18, o19, o20, o21, o22, o23, o24, o25, o26, o27] [] (T, z, xv V, J, R) else XR sc d 106 384 [o0, o1, o2, o3, o4, o5, o6, o7, o8, some (xw x9), o10, o11, o12, o13, o14, o15, some (xw y0), o17, o18, o19, o20, o21, o22, o23, o24, o25, o26, o27] [] (T, z, xv V, J, R) :=
  (sw_istore (L' := [o0, o1, o2, o3, o4, o5, o6, o7, o8, some (xw x9), o10, o11, o12, o13, o14, o15, some (xw y0), o17, o18, o19, o20, o21, o22, o23, o24, o25, o26, o27]) f_106_371 (Nat.le_of_ble_eq_true rfl) rfl).trans ((sw_iload f_106_373 rfl).trans ((sw_sipush f_106_375 c16_162).trans ((sw_idiv f_106_378 ⟨by decide, by decide, g1⟩).trans ((sw_iconst f_106_379).trans ((sw_irem f_106_380 ⟨by decide, by decide, g2⟩).trans (sw_if_le (t := 388) f_106_381 ⟨by decide, rfl⟩ g3))))))
theorem bL_isHide_384 {o0 o1 o2 o3 o4 o5 o6 o7 o8 o9 o10 o11 o12 o13 o14 o15 o16 o17 o18 o19 o20 o21 o22 o23 o24 o25 o26 o27 : Option Value} : XR sc d 106 384 [o0, o1, o2, o3, o4, o5, o6, o7, o8, o9, o10, o11, o12, o13, o14, o15, o16, o17, o18, o19, o20, o21, o22, o23, o24, o25, o26, o27] [] (T, z, xv V, J, R) = XR sc d 106 389 [o0, o1, o2, o3, o4, o5, o6, o7, o8, o9, o10, o11, o12, o13, o14, o15, o16, o17, o18, o19, o20, o21, o22, o23, o24, o25, o26, o27] [xw 1] (T, z, xv V, J, R) :=
  (sw_iconst f_106_384).trans (st_goto (t := 389) f_106_385 ⟨by decide, rfl⟩)
theorem bL_isHide_388 {o0 o1 o2 o3 o4 o5 o6 o7 o8 o9 o10 o11 o12 o13 o14 o15 o16 o17 o18 o19 o20 o21 o22 o23 o24 o25 o26 o27 : Option Value} : XR sc d 106 388 [o0, o1, o2, o3, o4, o5, o6, o7, o8, o9, o10, o11, o12, o13, o14, o15, o16, o17, o18, o19, o20, o21, o22, o23, o24, o25, o26, o27] [] (T, z, xv V, J, R) = XR sc d 106 389 [o0, o1, o2, o3, o4, o5, o6, o7, o8, o9, o10, o11, o12, o13, o14, o15, o16, o17, o18, o19, o20, o21, o22, o23, o24, o25, o26, o27] [xw 0] (T, z, xv V, J, R) :=
  sw_iconst f_106_388
theorem bL_isHide_389 {o0 o1 o2 o3 o4 o5 o6 o7 o8 o9 o10 o11 o12 o13 o14 o16 o17 o18 o19 o20 o21 o22 o23 o24 o25 o26 o27 : Option Value} {y0 x15 : Int} (g1 : -2147483648 ≤ x15 ∧ x15 ≤ 2147483647) : XR sc d 106 389 [o0, o1, o2, o3, o4, o5, o6, o7, o8, o9, o10, o11, o12, o13, o14, some (xw x15), o16, o17, o18, o19, o20, o21, o22, o23, o24, o25, o26, o27] [xw y0] (T, z, xv V, J, R) = if x15 ≤ 0 then XR sc d 106 419 [o0, o1, o2, o3, o4, o5, o6, o7, o8, o9, o10, o11, o12, o13, o14, some (xw x15), o16, some (xw y0), o18, o19, o20, o21, o22, o23, o24, o25, o26, o27] [] (T, z, xv V, J, R) else XR sc d 106 396 [o0, o1, o2, o3, o4, o5, o6, o7, o8, o9, o10, o11, o12, o13, o14, some (xw x15), o16, some (xw y0), o18, o19, o20, o21, o22, o23, o24, o25, o26, o27] [] (T, z, xv V, J, R) :=
  (sw_istore (L' := [o0, o1, o2, o3, o4, o5, o6, o7, o8, o9, o10, o11, o12, o13, o14, some (xw x15), o16, some (xw y0), o18, o19, o20, o21, o22, o23, o24, o25, o26, o27]) f_106_389 (Nat.le_of_ble_eq_true rfl) rfl).trans ((sw_iload f_106_391 rfl).trans (sw_if_le (t := 419) f_106_393 ⟨by decide, rfl⟩ g1))
theorem bL_isHide_396 {o0 o1 o2 o3 o4 o5 o6 o7 o8 o9 o10 o11 o12 o13 o14 o16 o17 o18 o19 o20 o21 o22 o23 o24 o25 o26 o27 : Option Value} {x15 : Int} (g1 : -2147483648 ≤ x15 ∧ x15 ≤ 2147483647) : XR sc d 106 396 [o0, o1, o2, o3, o4, o5, o6, o7, o8, o9, o10, o11, o12, o13, o14, some (xw x15), o16, o17, o18, o19, o20, o21, o22, o23, o24, o25, o26, o27] [] (T, z, xv V, J, R) = if 13 ≤ x15 then XR sc d 106 419 [o0, o1, o2, o3, o4, o5, o6, o7, o8, o9, o10, o11, o12, o13, o14, some (xw x15), o16, o17, o18, o19, o20, o21, o22, o23, o24, o25, o26, o27] [] (T, z, xv V, J, R) else XR sc d 106 403 [o0, o1, o2, o3, o4, o5, o6, o7, o8, o9, o10, o11, o12, o13, o14, some (xw x15), o16, o17, o18, o19, o20, o21, o22, o23, o24, o25, o26, o27] [] (T, z, xv V, J, R) :=
  (sw_iload f_106_396 rfl).trans ((sw_bipush f_106_398 c8_13).trans (sw_icmp_ge (t := 419) f_106_400 ⟨by decide, rfl⟩ g1 ⟨by decide, by decide⟩))
theorem bL_isHide_403 {o0 o1 o2 o3 o4 o5 o6 o7 o8 o9 o10 o11 o12 o13 o14 o15 o17 o18 o19 o20 o21 o22 o23 o24 o25 o26 o27 : Option Value} {x16 : Int} (g1 : -2147483648 ≤ x16 ∧ x16 ≤ 2147483647) : XR sc d 106 403 [o0, o1, o2, o3, o4, o5, o6, o7, o8, o9, o10, o11, o12, o13, o14, o15, some (xw x16), o17, o18, o19, o20, o21, o22, o23, o24, o25, o26, o27] [] (T, z, xv V, J, R) = if x16 ≤ 0 then XR sc d 106 419 [o0, o1, o2, o3, o4, o5, o6, o7, o8, o9, o10, o11, o12, o13, o14, o15, some (xw x16), o17, o18, o19, o20, o21, o22, o23, o24, o25, o26, o27] [] (T, z, xv V, J, R) else XR sc d 106 408 [o0, o1, o2, o3, o4, o5, o6, o7, o8, o9, o10, o11, o12, o13, o14, o15, some (xw x16), o17, o18, o19, o20, o21, o22, o23, o24, o25, o26, o27] [] (T, z, xv V, J, R) :=
  (sw_iload f_106_403 rfl).trans (sw_if_le (t := 419) f_106_405 ⟨by decide, rfl⟩ g1)
theorem bL_isHide_408 {o0 o1 o2 o3 o4 o5 o6 o7 o8 o9 o10 o11 o12 o13 o14 o15 o17 o18 o19 o20 o21 o22 o23 o24 o25 o26 o27 : Option Value} {x16 : Int} (g1 : -2147483648 ≤ x16 ∧ x16 ≤ 2147483647) : XR sc d 106 408 [o0, o1, o2, o3, o4, o5, o6, o7, o8, o9, o10, o11, o12, o13, o14, o15, some (xw x16), o17, o18, o19, o20, o21, o22, o23, o24, o25, o26, o27] [] (T, z, xv V, J, R) = if 9 ≤ x16 then XR sc d 106 419 [o0, o1, o2, o3, o4, o5, o6, o7, o8, o9, o10, o11, o12, o13, o14, o15, some (xw x16), o17, o18, o19, o20, o21, o22, o23, o24, o25, o26, o27] [] (T, z, xv V, J, R) else XR sc d 106 415 [o0, o1, o2, o3, o4, o5, o6, o7, o8, o9, o10, o11, o12, o13, o14, o15, some (xw x16), o17, o18, o19, o20, o21, o22, o23, o24, o25, o26, o27] [] (T, z, xv V, J, R) :=
  (sw_iload f_106_408 rfl).trans ((sw_bipush f_106_410 c8_9).trans (sw_icmp_ge (t := 419) f_106_412 ⟨by decide, rfl⟩ g1 ⟨by decide, by decide⟩))
theorem bL_isHide_415 {o0 o1 o2 o3 o4 o5 o6 o7 o8 o9 o10 o11 o12 o13 o14 o15 o16 o17 o18 o19 o20 o21 o22 o23 o24 o25 o26 o27 : Option Value} : XR sc d 106 415 [o0, o1, o2, o3, o4, o5, o6, o7, o8, o9, o10, o11, o12, o13, o14, o15, o16, o17, o18, o19, o20, o21, o22, o23, o24, o25, o26, o27] [] (T, z, xv V, J, R) = XR sc d 106 420 [o0, o1, o2, o3, o4, o5, o6, o7, o8, o9, o10, o11, o12, o13, o14, o15, o16, o17, o18, o19, o20, o21, o22, o23, o24, o25, o26, o27] [xw 1] (T, z, xv V, J, R) :=
  (sw_iconst f_106_415).trans (st_goto (t := 420) f_106_416 ⟨by decide, rfl⟩)
theorem bL_isHide_419 {o0 o1 o2 o3 o4 o5 o6 o7 o8 o9 o10 o11 o12 o13 o14 o15 o16 o17 o18 o19 o20 o21 o22 o23 o24 o25 o26 o27 : Option Value} : XR sc d 106 419 [o0, o1, o2, o3, o4, o5, o6, o7, o8, o9, o10, o11, o12, o13, o14, o15, o16, o17, o18, o19, o20, o21, o22, o23, o24, o25, o26, o27] [] (T, z, xv V, J, R) = XR sc d 106 420 [o0, o1, o2, o3, o4, o5, o6, o7, o8, o9, o10, o11, o12, o13, o14, o15, o16, o17, o18, o19, o20, o21, o22, o23, o24, o25, o26, o27] [xw 0] (T, z, xv V, J, R) :=
  sw_iconst f_106_419
theorem bL_isHide_420 {o0 o1 o2 o3 o4 o5 o6 o8 o9 o10 o11 o12 o13 o14 o15 o16 o17 o18 o19 o20 o21 o22 o23 o24 o25 o26 o27 : Option Value} {y0 x7 : Int} (g1 : -2147483648 ≤ x7 ∧ x7 ≤ 2147483647) : XR sc d 106 420 [o0, o1, o2, o3, o4, o5, o6, some (xw x7), o8, o9, o10, o11, o12, o13, o14, o15, o16, o17, o18, o19, o20, o21, o22, o23, o24, o25, o26, o27] [xw y0] (T, z, xv V, J, R) = if x7 = 2 then XR sc d 106 428 [o0, o1, o2, o3, o4, o5, o6, some (xw x7), o8, o9, o10, o11, o12, o13, o14, o15, o16, o17, some (xw y0), o19, o20, o21, o22, o23, o24, o25, o26, o27] [] (T, z, xv V, J, R) else XR sc d 106 697 [o0, o1, o2, o3, o4, o5, o6, some (xw x7), o8, o9, o10, o11, o12, o13, o14, o15, o16, o17, some (xw y0), o19, o20, o21, o22, o23, o24, o25, o26, o27] [] (T, z, xv V, J, R) :=
  (sw_istore (L' := [o0, o1, o2, o3, o4, o5, o6, some (xw x7), o8, o9, o10, o11, o12, o13, o14, o15, o16, o17, some (xw y0), o19, o20, o21, o22, o23, o24, o25, o26, o27]) f_106_420 (Nat.le_of_ble_eq_true rfl) rfl).trans ((sw_iload f_106_422 rfl).trans ((sw_iconst f_106_424).trans (sw_icmp_ne (t := 697) f_106_425 ⟨by decide, rfl⟩ g1 ⟨by decide, by decide⟩)))
theorem bL_isHide_428 {o0 o1 o2 o3 o4 o5 o7 o8 o9 o10 o11 o12 o13 o14 o15 o16 o17 o18 o19 o20 o21 o22 o23 o24 o25 o26 o27 : Option Value} {a6 : Nat} (g1 : T a6 = (32, (T a6).2)) (g2 : (0 : Int) ≤ 1 ∧ 1 < ((T a6).2 : Int) ∧ (T a6).2 ≤ 3584) (g3 : -2147483648 ≤ (V a6 1) ∧ (V a6 1) ≤ 2147483647) : XR sc d 106 428 [o0, o1, o2, o3, o4, o5, some (.ref a6), o7, o8, o9, o10, o11, o12, o13, o14, o15, o16, o17, o18, o19, o20, o21, o22, o23, o24, o25, o26, o27] [] (T, z, xv V, J, R) = if (V a6 1) = 10 then XR sc d 106 437 [o0, o1, o2, o3, o4, o5, some (.ref a6), o7, o8, o9, o10, o11, o12, o13, o14, o15, o16, o17, o18, o19, o20, o21, o22, o23, o24, o25, o26, o27] [] (T, z, xv V, J, R) else XR sc d 106 439 [o0, o1, o2, o3, o4, o5, some (.ref a6), o7, o8, o9, o10, o11, o12, o13, o14, o15, o16, o17, o18, o19, o20, o21, o22, o23, o24, o25, o26, o27] [] (T, z, xv V, J, R) :=
  (st_aload f_106_428 rfl).trans ((sw_iconst f_106_430).trans ((sw_iaload f_106_431 g1 g2).trans ((sw_bipush f_106_432 c8_10).trans (sw_icmp_ne (t := 439) f_106_434 ⟨by decide, rfl⟩ g3 ⟨by decide, by decide⟩))))
theorem bL_isHide_437 {o0 o1 o2 o3 o4 o5 o6 o7 o8 o9 o10 o11 o12 o13 o14 o15 o16 o17 o18 o19 o20 o21 o22 o23 o24 o25 o26 o27 : Option Value} : XR sc d 106 437 [o0, o1, o2, o3, o4, o5, o6, o7, o8, o9, o10, o11, o12, o13, o14, o15, o16, o17, o18, o19, o20, o21, o22, o23, o24, o25, o26, o27] [] (T, z, xv V, J, R) = some (.inl (some (xw 1)), (T, z, xv V, J, R)) :=
  (sw_iconst f_106_437).trans (sw_zreturn f_106_438 mr_106 (by decide))
theorem bL_isHide_439 {o0 o1 o2 o3 o4 o5 o6 o7 o8 o9 o10 o11 o12 o13 o14 o15 o16 o17 o19 o20 o21 o22 o23 o24 o25 o26 o27 : Option Value} {x18 : Int} (g1 : -2147483648 ≤ x18 ∧ x18 ≤ 2147483647) : XR sc d 106 439 [o0, o1, o2, o3, o4, o5, o6, o7, o8, o9, o10, o11, o12, o13, o14, o15, o16, o17, some (xw x18), o19, o20, o21, o22, o23, o24, o25, o26, o27] [] (T, z, xv V, J, R) = if x18 = 0 then XR sc d 106 468 [o0, o1, o2, o3, o4, o5, o6, o7, o8, o9, o10, o11, o12, o13, o14, o15, o16, o17, some (xw x18), o19, o20, o21, o22, o23, o24, o25, o26, o27] [] (T, z, xv V, J, R) else XR sc d 106 444 [o0, o1, o2, o3, o4, o5, o6, o7, o8, o9, o10, o11, o12, o13, o14, o15, o16, o17, some (xw x18), o19, o20, o21, o22, o23, o24, o25, o26, o27] [] (T, z, xv V, J, R) :=
  (sw_iload f_106_439 rfl).trans (sw_if_eq (t := 468) f_106_441 ⟨by decide, rfl⟩ g1)
theorem bL_isHide_444 {o0 o1 o2 o3 o4 o5 o6 o7 o8 o9 o10 o11 o13 o14 o16 o17 o18 o19 o20 o21 o22 o23 o24 o25 o26 o27 : Option Value} {x12 x15 : Int} (g1 : -2147483648 ≤ (x12 + x15) ∧ (x12 + x15) ≤ 2147483647) : XR sc d 106 444 [o0, o1, o2, o3, o4, o5, o6, o7, o8, o9, o10, o11, some (xw x12), o13, o14, some (xw x15), o16, o17, o18, o19, o20, o21, o22, o23, o24, o25, o26, o27] [] (T, z, xv V, J, R) = if 13 ≤ (x12 + x15) then XR sc d 106 468 [o0, o1, o2, o3, o4, o5, o6, o7, o8, o9, o10, o11, some (xw x12), o13, o14, some (xw x15), o16, o17, o18, o19, o20, o21, o22, o23, o24, o25, o26, o27] [] (T, z, xv V, J, R) else XR sc d 106 454 [o0, o1, o2, o3, o4, o5, o6, o7, o8, o9, o10, o11, some (xw x12), o13, o14, some (xw x15), o16, o17, o18, o19, o20, o21, o22, o23, o24, o25, o26, o27] [] (T, z, xv V, J, R) :=
  (sw_iload f_106_444 rfl).trans ((sw_iload f_106_446 rfl).trans ((sw_iadd f_106_448).trans ((sw_bipush f_106_449 c8_13).trans (sw_icmp_ge (t := 468) f_106_451 ⟨by decide, rfl⟩ g1 ⟨by decide, by decide⟩))))
theorem bL_isHide_454 {o0 o1 o2 o3 o4 o5 o6 o7 o8 o9 o10 o11 o12 o14 o15 o17 o18 o19 o20 o21 o22 o23 o24 o25 o26 o27 : Option Value} {x13 x16 : Int} (g1 : -2147483648 ≤ (x13 + x16) ∧ (x13 + x16) ≤ 2147483647) : XR sc d 106 454 [o0, o1, o2, o3, o4, o5, o6, o7, o8, o9, o10, o11, o12, some (xw x13), o14, o15, some (xw x16), o17, o18, o19, o20, o21, o22, o23, o24, o25, o26, o27] [] (T, z, xv V, J, R) = if 9 ≤ (x13 + x16) then XR sc d 106 468 [o0, o1, o2, o3, o4, o5, o6, o7, o8, o9, o10, o11, o12, some (xw x13), o14, o15, some (xw x16), o17, o18, o19, o20, o21, o22, o23, o24, o25, o26, o27] [] (T, z, xv V, J, R) else XR sc d 106 464 [o0, o1, o2, o3, o4, o5, o6, o7, o8, o9, o10, o11, o12, some (xw x13), o14, o15, some (xw x16), o17, o18, o19, o20, o21, o22, o23, o24, o25, o26, o27] [] (T, z, xv V, J, R) :=
  (sw_iload f_106_454 rfl).trans ((sw_iload f_106_456 rfl).trans ((sw_iadd f_106_458).trans ((sw_bipush f_106_459 c8_9).trans (sw_icmp_ge (t := 468) f_106_461 ⟨by decide, rfl⟩ g1 ⟨by decide, by decide⟩))))
theorem bL_isHide_464 {o0 o1 o2 o3 o4 o5 o6 o7 o8 o9 o10 o11 o12 o13 o14 o15 o16 o17 o18 o19 o20 o21 o22 o23 o24 o25 o26 o27 : Option Value} : XR sc d 106 464 [o0, o1, o2, o3, o4, o5, o6, o7, o8, o9, o10, o11, o12, o13, o14, o15, o16, o17, o18, o19, o20, o21, o22, o23, o24, o25, o26, o27] [] (T, z, xv V, J, R) = XR sc d 106 469 [o0, o1, o2, o3, o4, o5, o6, o7, o8, o9, o10, o11, o12, o13, o14, o15, o16, o17, o18, o19, o20, o21, o22, o23, o24, o25, o26, o27] [xw 1] (T, z, xv V, J, R) :=
  (sw_iconst f_106_464).trans (st_goto (t := 469) f_106_465 ⟨by decide, rfl⟩)
theorem bL_isHide_468 {o0 o1 o2 o3 o4 o5 o6 o7 o8 o9 o10 o11 o12 o13 o14 o15 o16 o17 o18 o19 o20 o21 o22 o23 o24 o25 o26 o27 : Option Value} : XR sc d 106 468 [o0, o1, o2, o3, o4, o5, o6, o7, o8, o9, o10, o11, o12, o13, o14, o15, o16, o17, o18, o19, o20, o21, o22, o23, o24, o25, o26, o27] [] (T, z, xv V, J, R) = XR sc d 106 469 [o0, o1, o2, o3, o4, o5, o6, o7, o8, o9, o10, o11, o12, o13, o14, o15, o16, o17, o18, o19, o20, o21, o22, o23, o24, o25, o26, o27] [xw 0] (T, z, xv V, J, R) :=
  sw_iconst f_106_468
theorem bL_isHide_469 {o0 o1 o2 o3 o4 o5 o6 o7 o8 o9 o10 o11 o12 o13 o15 o16 o17 o18 o19 o20 o21 o22 o23 o24 o25 o26 o27 : Option Value} {y0 x14 : Int} (g1 : -2147483648 ≤ x14 ∧ x14 ≤ 2147483647) : XR sc d 106 469 [o0, o1, o2, o3, o4, o5, o6, o7, o8, o9, o10, o11, o12, o13, some (xw x14), o15, o16, o17, o18, o19, o20, o21, o22, o23, o24, o25, o26, o27] [xw y0] (T, z, xv V, J, R) = if x14 = 0 then XR sc d 106 504 [o0, o1, o2, o3, o4, o5, o6, o7, o8, o9, o10, o11, o12, o13, some (xw x14), o15, o16, o17, o18, some (xw y0), o20, o21, o22, o23, o24, o25, o26, o27] [] (T, z, xv V, J, R) else XR sc d 106 476 [o0, o1, o2, o3, o4, o5, o6, o7, o8, o9, o10, o11, o12, o13, some (xw x14), o15, o16, o17, o18, some (xw y0), o20, o21, o22, o23, o24, o25, o26, o27] [] (T, z, xv V, J, R) :=
  (sw_istore (L' := [o0, o1, o2, o3, o4, o5, o6, o7, o8, o9, o10, o11, o12, o13, some (xw x14), o15, o16, o17, o18, some (xw y0), o20, o21, o22, o23, o24, o25, o26, o27]) f_106_469 (Nat.le_of_ble_eq_true rfl) rfl).trans ((sw_iload f_106_471 rfl).trans (sw_if_eq (t := 504) f_106_473 ⟨by decide, rfl⟩ g1))
theorem bL_isHide_476 {o0 o1 o2 o3 o4 o5 o6 o7 o8 o9 o10 o11 o12 o13 o14 o15 o16 o17 o18 o20 o21 o22 o23 o24 o25 o26 o27 : Option Value} {x19 : Int} (g1 : -2147483648 ≤ x19 ∧ x19 ≤ 2147483647) : XR sc d 106 476 [o0, o1, o2, o3, o4, o5, o6, o7, o8, o9, o10, o11, o12, o13, o14, o15, o16, o17, o18, some (xw x19), o20, o21, o22, o23, o24, o25, o26, o27] [] (T, z, xv V, J, R) = if x19 = 0 then XR sc d 106 504 [o0, o1, o2, o3, o4, o5, o6, o7, o8, o9, o10, o11, o12, o13, o14, o15, o16, o17, o18, some (xw x19), o20, o21, o22, o23, o24, o25, o26, o27] [] (T, z, xv V, J, R) else XR sc d 106 481 [o0, o1, o2, o3, o4, o5, o6, o7, o8, o9, o10, o11, o12, o13, o14, o15, o16, o17, o18, some (xw x19), o20, o21, o22, o23, o24, o25, o26, o27] [] (T, z, xv V, J, R) :=
  (sw_iload f_106_476 rfl).trans (sw_if_eq (t := 504) f_106_478 ⟨by decide, rfl⟩ g1)
theorem bL_isHide_481 {o0 o2 o3 o4 o5 o6 o7 o8 o9 o11 o14 o18 o19 o20 o21 o22 o23 o24 o25 o26 o27 : Option Value} {x10 x12 x13 x15 x16 x17 : Int} {a1 : Nat} : XR sc d 106 481 [o0, some (.ref a1), o2, o3, o4, o5, o6, o7, o8, o9, some (xw x10), o11, some (xw x12), some (xw x13), o14, some (xw x15), some (xw x16), some (xw x17), o18, o19, o20, o21, o22, o23, o24, o25, o26, o27] [] (T, z, xv V, J, R) = xret 106 (XR sc d 106) 494 497 [o0, some (.ref a1), o2, o3, o4, o5, o6, o7, o8, o9, some (xw x10), o11, some (xw x12), some (xw x13), o14, some (xw x15), some (xw x16), some (xw x17), o18, o19, o20, o21, o22, o23, o24, o25, o26, o27] [] (X sc d 105 [.ref a1, xw x10, xw x12, xw x13, xw x15, xw x16, xw x17] (T, z, xv V, J, R)) :=
  (st_aload_n f_106_481 rfl).trans ((sw_iload f_106_482 rfl).trans ((sw_iload f_106_484 rfl).trans ((sw_iload f_106_486 rfl).trans ((sw_iload f_106_488 rfl).trans ((sw_iload f_106_490 rfl).trans ((sw_iload f_106_492 rfl).trans (st_callS' f_106_494 h_106_160 mn_105 rfl rfl rfl rfl)))))))
theorem bL_isHide_497 {o0 o1 o2 o3 o4 o5 o6 o7 o8 o9 o10 o11 o12 o13 o14 o15 o16 o17 o18 o19 o20 o21 o22 o23 o24 o25 o26 o27 : Option Value} {y0 : Int} (g1 : -2147483648 ≤ y0 ∧ y0 ≤ 2147483647) : XR sc d 106 497 [o0, o1, o2, o3, o4, o5, o6, o7, o8, o9, o10, o11, o12, o13, o14, o15, o16, o17, o18, o19, o20, o21, o22, o23, o24, o25, o26, o27] [xw y0] (T, z, xv V, J, R) = if y0 = 0 then XR sc d 106 504 [o0, o1, o2, o3, o4, o5, o6, o7, o8, o9, o10, o11, o12, o13, o14, o15, o16, o17, o18, o19, o20, o21, o22, o23, o24, o25, o26, o27] [] (T, z, xv V, J, R) else XR sc d 106 500 [o0, o1, o2, o3, o4, o5, o6, o7, o8, o9, o10, o11, o12, o13, o14, o15, o16, o17, o18, o19, o20, o21, o22, o23, o24, o25, o26, o27] [] (T, z, xv V, J, R) :=
  sw_if_eq (t := 504) f_106_497 ⟨by decide, rfl⟩ g1
theorem bL_isHide_500 {o0 o1 o2 o3 o4 o5 o6 o7 o8 o9 o10 o11 o12 o13 o14 o15 o16 o17 o18 o19 o20 o21 o22 o23 o24 o25 o26 o27 : Option Value} : XR sc d 106 500 [o0, o1, o2, o3, o4, o5, o6, o7, o8, o9, o10, o11, o12, o13, o14, o15, o16, o17, o18, o19, o20, o21, o22, o23, o24, o25, o26, o27] [] (T, z, xv V, J, R) = XR sc d 106 505 [o0, o1, o2, o3, o4, o5, o6, o7, o8, o9, o10, o11, o12, o13, o14, o15, o16, o17, o18, o19, o20, o21, o22, o23, o24, o25, o26, o27] [xw 1] (T, z, xv V, J, R) :=
  (sw_iconst f_106_500).trans (st_goto (t := 505) f_106_501 ⟨by decide, rfl⟩)
theorem bL_isHide_504 {o0 o1 o2 o3 o4 o5 o6 o7 o8 o9 o10 o11 o12 o13 o14 o15 o16 o17 o18 o19 o20 o21 o22 o23 o24 o25 o26 o27 : Option Value} : XR sc d 106 504 [o0, o1, o2, o3, o4, o5, o6, o7, o8, o9, o10, o11, o12, o13, o14, o15, o16, o17, o18, o19, o20, o21, o22, o23, o24, o25, o26, o27] [] (T, z, xv V, J, R) = XR sc d 106 505 [o0, o1, o2, o3, o4, o5, o6, o7, o8, o9, o10, o11, o12, o13, o14, o15, o16, o17, o18, o19, o20, o21, o22, o23, o24, o25, o26, o27] [xw 0] (T, z, xv V, J, R) :=
  sw_iconst f_106_504
theorem bL_isHide_505 {o0 o1 o2 o3 o4 o5 o6 o7 o8 o9 o10 o11 o12 o13 o14 o15 o16 o17 o18 o19 o20 o21 o22 o23 o24 o25 o26 o27 : Option Value} {y0 : Int} (g1 : -2147483648 ≤ y0 ∧ y0 ≤ 2147483647) : XR sc d 106 505 [o0, o1, o2, o3, o4, o5, o6, o7, o8, o9, o10, o11, o12, o13, o14, o15, o16, o17, o18, o19, o20, o21, o22, o23, o24, o25, o26, o27] [xw y0] (T, z, xv V, J, R) = if y0 = 0 then XR sc d 106 627 [o0, o1, o2, o3, o4, o5, o6, o7, o8, o9, o10, o11, o12, o13, o14, o15, o16, o17, o18, o19, some (xw y0), o21, o22, o23, o24, o25, o26, o27] [] (T, z, xv V, J, R) else XR sc d 106 512 [o0, o1, o2, o3, o4, o5, o6, o7, o8, o9, o10, o11, o12, o13, o14, o15, o16, o17, o18, o19, some (xw y0), o21, o22, o23, o24, o25, o26, o27] [] (T, z, xv V, J, R) :=
  (sw_istore (L' := [o0, o1, o2, o3, o4, o5, o6, o7, o8, o9, o10, o11, o12, o13, o14, o15, o16, o17, o18, o19, some (xw y0), o21, o22, o23, o24, o25, o26, o27]) f_106_505 (Nat.le_of_ble_eq_true rfl) rfl).trans ((sw_iload f_106_507 rfl).trans (sw_if_eq (t := 627) f_106_509 ⟨by decide, rfl⟩ g1))
theorem bL_isHide_512 {o0 o1 o2 o3 o4 o5 o6 o7 o8 o9 o10 o11 o12 o13 o14 o15 o16 o17 o18 o19 o20 o21 o22 o23 o24 o25 o26 o27 : Option Value} : XR sc d 106 512 [o0, o1, o2, o3, o4, o5, o6, o7, o8, o9, o10, o11, o12, o13, o14, o15, o16, o17, o18, o19, o20, o21, o22, o23, o24, o25, o26, o27] [] (T, z, xv V, J, R) = XR sc d 106 515 [o0, o1, o2, o3, o4, o5, o6, o7, o8, o9, o10, o11, o12, o13, o14, o15, o16, o17, o18, o19, o20, some (xw 0), o22, o23, o24, o25, o26, o27] [] (T, z, xv V, J, R) :=
  (sw_iconst f_106_512).trans (sw_istore (L' := [o0, o1, o2, o3, o4, o5, o6, o7, o8, o9, o10, o11, o12, o13, o14, o15, o16, o17, o18, o19, o20, some (xw 0), o22, o23, o24, o25, o26, o27]) f_106_513 (Nat.le_of_ble_eq_true rfl) rfl)
theorem bL_isHide_515 {o0 o1 o2 o3 o4 o5 o6 o7 o8 o9 o10 o11 o12 o13 o14 o17 o18 o19 o20 o22 o23 o24 o25 o26 o27 : Option Value} {x21 x15 x16 : Int} (g1 : -2147483648 ≤ x21 ∧ x21 ≤ 2147483647) (g2 : -2147483648 ≤ (x15 * x16) ∧ (x15 * x16) ≤ 2147483647) : XR sc d 106 515 [o0, o1, o2, o3, o4, o5, o6, o7, o8, o9, o10, o11, o12, o13, o14, some (xw x15), some (xw x16), o17, o18, o19, o20, some (xw x21), o22, o23, o24, o25, o26, o27] [] (T, z, xv V, J, R) = if (x15 * x16) ≤ x21 then XR sc d 106 562 [o0, o1, o2, o3, o4, o5, o6, o7, o8, o9, o10, o11, o12, o13, o14, some (xw x15), some (xw x16), o17, o18, o19, o20, some (xw x21), o22, o23, o24, o25, o26, o27] [] (T, z, xv V, J, R) else XR sc d 106 525 [o0, o1, o2, o3, o4, o5, o6, o7, o8, o9, o10, o11, o12, o13, o14, some (xw x15), some (xw x16), o17, o18, o19, o20, some (xw x21), o22, o23, o24, o25, o26, o27] [] (T, z, xv V, J, R) :=
  (sw_iload f_106_515 rfl).trans ((sw_iload f_106_517 rfl).trans ((sw_iload f_106_519 rfl).trans ((sw_imul f_106_521).trans (sw_icmp_ge (t := 562) f_106_522 ⟨by decide, rfl⟩ g1 g2))))
theorem bL_isHide_525 {o0 o2 o3 o4 o5 o6 o7 o8 o9 o11 o14 o16 o17 o18 o19 o20 o22 o23 o24 o25 o26 o27 : Option Value} {x10 x13 x21 x15 x12 : Int} {a1 : Nat} (g1 : 0 < x15 ∧ x15 ≤ 2147483647 ∧ 0 ≤ x21 ∧ x21 ≤ 2147483647) (g2 : T a1 = (32, (T a1).2)) (g3 : (0 : Int) ≤ (((2 + (8 * x10)) + x13) + (x21 / x15)) ∧ (((2 + (8 * x10)) + x13) + (x21 / x15)) < ((T a1).2 : Int) ∧ (T a1).2 ≤ 3584) : XR sc d 106 525 [o0, some (.ref a1), o2, o3, o4, o5, o6, o7, o8, o9, some (xw x10), o11, some (xw x12), some (xw x13), o14, some (xw x15), o16, o17, o18, o19, o20, some (xw x21), o22, o23, o24, o25, o26, o27] [] (T, z, xv V, J, R) = XR sc d 106 515 [o0, some (.ref a1), o2, o3, o4, o5, o6, o7, o8, o9, some (xw x10), o11, some (xw x12), some (xw x13), o14, some (xw x15), o16, o17, o18, o19, o20, some (xw (x21 + 1)), o22, o23, o24, o25, o26, o27] [] (T, z, xv (xup2 V a1 (((2 + (8 * x10)) + x13) + (x21 / x15)).toNat (iOr (V a1 (((2 + (8 * x10)) + x13) + (x21 / x15)).toNat) (iShl 1 (x12 + (x21 % x15))))), J, R) :=
  (st_aload_n f_106_525 rfl).trans ((sw_iconst f_106_526).trans ((sw_bipush f_106_527 c8_8).trans ((sw_iload f_106_529 rfl).trans ((sw_imul f_106_531).trans ((sw_iadd f_106_532).trans ((sw_iload f_106_533 rfl).trans ((sw_iadd f_106_535).trans ((sw_iload f_106_536 rfl).trans ((sw_iload f_106_538 rfl).trans ((sw_idiv f_106_540 g1).trans ((sw_iadd f_106_541).trans ((st_dup2 f_106_542 rfl rfl).trans ((sw_iaload f_106_543 g2 g3).trans ((sw_iconst f_106_544).trans ((sw_iload f_106_545 rfl).trans ((sw_iload f_106_547 rfl).trans ((sw_iload f_106_549 rfl).trans ((sw_irem f_106_551 g1).trans ((sw_iadd f_106_552).trans ((sw_ishl f_106_553).trans ((sw_ior f_106_554).trans ((sw_iastore f_106_555 g2 g3).trans ((sw_iinc (L' := [o0, some (.ref a1), o2, o3, o4, o5, o6, o7, o8, o9, some (xw x10), o11, some (xw x12), some (xw x13), o14, some (xw x15), o16, o17, o18, o19, o20, some (xw (x21 + 1)), o22, o23, o24, o25, o26, o27]) f_106_556 rfl (Nat.le_of_ble_eq_true rfl) rfl).trans (st_goto (t := 515) f_106_559 ⟨by decide, rfl⟩))))))))))))))))))))))))
theorem bL_isHide_562 {o0 o3 o4 o5 o7 o8 o9 o11 o12 o14 o17 o18 o19 o20 o21 o22 o23 o24 o25 o26 o27 : Option Value} {x15 x16 x10 x13 : Int} {a2 a6 a1 : Nat} (g1 : T a6 = (32, (T a6).2)) (g2 : (0 : Int) ≤ 1 ∧ 1 < ((T a6).2 : Int) ∧ (T a6).2 ≤ 3584) (g3 : T a1 = (32, (T a1).2)) (g4 : (0 : Int) ≤ x10 ∧ x10 < ((T a1).2 : Int) ∧ (T a1).2 ≤ 3584) (g5 : -2147483648 ≤ (x13 + x16) ∧ (x13 + x16) ≤ 2147483647) : XR sc d 106 562 [o0, some (.ref a1), some (.ref a2), o3, o4, o5, some (.ref a6), o7, o8, o9, some (xw x10), o11, o12, some (xw x13), o14, some (xw x15), some (xw x16), o17, o18, o19, o20, o21, o22, o23, o24, o25, o26, o27] [] (T, z, xv V, J, R) = if (x13 + x16) ≤ 5 then XR sc d 106 595 [o0, some (.ref a1), some (.ref a2), o3, o4, o5, some (.ref a6), o7, o8, o9, some (xw x10), o11, o12, some (xw x13), o14, some (xw x15), some (xw x16), o17, o18, o19, o20, o21, o22, o23, o24, o25, o26, o27] [xw (V a1 x10.toNat), xw 256, xw (x15 + (16 * x16)), xw (V a6 1), .ref a2] (T, z, xv V, J, R) else XR sc d 106 591 [o0, some (.ref a1), some (.ref a2), o3, o4, o5, some (.ref a6), o7, o8, o9, some (xw x10), o11, o12, some (xw x13), o14, some (xw x15), some (xw x16), o17, o18, o19, o20, o21, o22, o23, o24, o25, o26, o27] [xw (V a1 x10.toNat), xw 256, xw (x15 + (16 * x16)), xw (V a6 1), .ref a2] (T, z, xv V, J, R) :=
  (st_aload_n f_106_562 rfl).trans ((st_aload f_106_563 rfl).trans ((sw_iconst f_106_565).trans ((sw_iaload f_106_566 g1 g2).trans ((sw_iload f_106_567 rfl).trans ((sw_bipush f_106_569 c8_16).trans ((sw_iload f_106_571 rfl).trans ((sw_imul f_106_573).trans ((sw_iadd f_106_574).trans ((sw_sipush f_106_575 c16_256).trans ((st_aload_n f_106_578 rfl).trans ((sw_iload f_106_579 rfl).trans ((sw_iaload f_106_581 g3 g4).trans ((sw_iload f_106_582 rfl).trans ((sw_iload f_106_584 rfl).trans ((sw_iadd f_106_586).trans ((sw_iconst f_106_587).trans (sw_icmp_le (t := 595) f_106_588 ⟨by decide, rfl⟩ g5 ⟨by decide, by decide⟩)))))))))))))))))
theorem bL_isHide_591 {o0 o1 o2 o3 o4 o5 o6 o7 o8 o9 o10 o11 o12 o13 o14 o15 o16 o17 o18 o19 o20 o21 o22 o23 o24 o25 o26 o27 : Option Value} {s0 s1 s2 s3 s4 : Value} : XR sc d 106 591 [o0, o1, o2, o3, o4, o5, o6, o7, o8, o9, o10, o11, o12, o13, o14, o15, o16, o17, o18, o19, o20, o21, o22, o23, o24, o25, o26, o27] [s0, s1, s2, s3, s4] (T, z, xv V, J, R) = XR sc d 106 596 [o0, o1, o2, o3, o4, o5, o6, o7, o8, o9, o10, o11, o12, o13, o14, o15, o16, o17, o18, o19, o20, o21, o22, o23, o24, o25, o26, o27] [xw 1, s0, s1, s2, s3, s4] (T, z, xv V, J, R) :=
  (sw_iconst f_106_591).trans (st_goto (t := 596) f_106_592 ⟨by decide, rfl⟩)
theorem bL_isHide_595 {o0 o1 o2 o3 o4 o5 o6 o7 o8 o9 o10 o11 o12 o13 o14 o15 o16 o17 o18 o19 o20 o21 o22 o23 o24 o25 o26 o27 : Option Value} {s0 s1 s2 s3 s4 : Value} : XR sc d 106 595 [o0, o1, o2, o3, o4, o5, o6, o7, o8, o9, o10, o11, o12, o13, o14, o15, o16, o17, o18, o19, o20, o21, o22, o23, o24, o25, o26, o27] [s0, s1, s2, s3, s4] (T, z, xv V, J, R) = XR sc d 106 596 [o0, o1, o2, o3, o4, o5, o6, o7, o8, o9, o10, o11, o12, o13, o14, o15, o16, o17, o18, o19, o20, o21, o22, o23, o24, o25, o26, o27] [xw 0, s0, s1, s2, s3, s4] (T, z, xv V, J, R) :=
  sw_iconst f_106_595
theorem bL_isHide_596 {o0 o1 o2 o3 o4 o5 o6 o7 o8 o9 o10 o11 o12 o14 o15 o16 o18 o19 o20 o21 o22 o23 o24 o25 o26 o27 : Option Value} {s4 s5 : Value} {y0 y1 y2 y3 x13 x17 : Int} (g1 : -2147483648 ≤ x17 ∧ x17 ≤ 2147483647) : XR sc d 106 596 [o0, o1, o2, o3, o4, o5, o6, o7, o8, o9, o10, o11, o12, some (xw x13), o14, o15, o16, some (xw x17), o18, o19, o20, o21, o22, o23, o24, o25, o26, o27] [xw y0, xw y1, xw y2, xw y3, s4, s5] (T, z, xv V, J, R) = if x17 = 0 then XR sc d 106 616 [o0, o1, o2, o3, o4, o5, o6, o7, o8, o9, o10, o11, o12, some (xw x13), o14, o15, o16, some (xw x17), o18, o19, o20, o21, o22, o23, o24, o25, o26, o27] [xw ((y3 + (y2 * (y1 - y0))) + (4096 * x13)), s4, s5] (T, z, xv V, J, R) else XR sc d 106 611 [o0, o1, o2, o3, o4, o5, o6, o7, o8, o9, o10, o11, o12, some (xw x13), o14, o15, o16, some (xw x17), o18, o19, o20, o21, o22, o23, o24, o25, o26, o27] [xw ((y3 + (y2 * (y1 - y0))) + (4096 * x13)), s4, s5] (T, z, xv V, J, R) :=
  (sw_isub f_106_596).trans ((sw_imul f_106_597).trans ((sw_iadd f_106_598).trans ((sw_sipush f_106_599 c16_4096).trans ((sw_iload f_106_602 rfl).trans ((sw_imul f_106_604).trans ((sw_iadd f_106_605).trans ((sw_iload f_106_606 rfl).trans (sw_if_eq (t := 616) f_106_608 ⟨by decide, rfl⟩ g1))))))))
theorem bL_isHide_611 {o0 o1 o2 o3 o4 o5 o6 o7 o8 o9 o10 o11 o12 o13 o14 o15 o16 o17 o18 o19 o20 o21 o22 o23 o24 o25 o26 o27 : Option Value} {s0 s1 s2 : Value} : XR sc d 106 611 [o0, o1, o2, o3, o4, o5, o6, o7, o8, o9, o10, o11, o12, o13, o14, o15, o16, o17, o18, o19, o20, o21, o22, o23, o24, o25, o26, o27] [s0, s1, s2] (T, z, xv V, J, R) = XR sc d 106 617 [o0, o1, o2, o3, o4, o5, o6, o7, o8, o9, o10, o11, o12, o13, o14, o15, o16, o17, o18, o19, o20, o21, o22, o23, o24, o25, o26, o27] [xw 32768, s0, s1, s2] (T, z, xv V, J, R) :=
  (sw_ldc 32768 f_106_611 k_106_164 rfl).trans (st_goto (t := 617) f_106_613 ⟨by decide, rfl⟩)
theorem bL_isHide_616 {o0 o1 o2 o3 o4 o5 o6 o7 o8 o9 o10 o11 o12 o13 o14 o15 o16 o17 o18 o19 o20 o21 o22 o23 o24 o25 o26 o27 : Option Value} {s0 s1 s2 : Value} : XR sc d 106 616 [o0, o1, o2, o3, o4, o5, o6, o7, o8, o9, o10, o11, o12, o13, o14, o15, o16, o17, o18, o19, o20, o21, o22, o23, o24, o25, o26, o27] [s0, s1, s2] (T, z, xv V, J, R) = XR sc d 106 617 [o0, o1, o2, o3, o4, o5, o6, o7, o8, o9, o10, o11, o12, o13, o14, o15, o16, o17, o18, o19, o20, o21, o22, o23, o24, o25, o26, o27] [xw 0, s0, s1, s2] (T, z, xv V, J, R) :=
  sw_iconst f_106_616
theorem bL_isHide_617 {o0 o1 o2 o3 o4 o5 o7 o8 o9 o10 o11 o12 o13 o14 o15 o16 o17 o18 o19 o20 o21 o22 o23 o24 o25 o26 o27 : Option Value} {y0 y1 y2 : Int} {b3 a6 : Nat} (g1 : T b3 = (32, (T b3).2)) (g2 : (0 : Int) ≤ y2 ∧ y2 < ((T b3).2 : Int) ∧ (T b3).2 ≤ 3584) (g3 : T a6 = (32, (T a6).2)) (g4 : (0 : Int) ≤ 1 ∧ 1 < ((T a6).2 : Int) ∧ (T a6).2 ≤ 3584) : XR sc d 106 617 [o0, o1, o2, o3, o4, o5, some (.ref a6), o7, o8, o9, o10, o11, o12, o13, o14, o15, o16, o17, o18, o19, o20, o21, o22, o23, o24, o25, o26, o27] [xw y0, xw y1, xw y2, .ref b3] (T, z, xv V, J, R) = XR sc d 106 627 [o0, o1, o2, o3, o4, o5, some (.ref a6), o7, o8, o9, o10, o11, o12, o13, o14, o15, o16, o17, o18, o19, o20, o21, o22, o23, o24, o25, o26, o27] [] (T, z, xv (xup2 (xup2 V b3 y2.toNat (y1 + y0)) a6 1 (((xup2 V b3 y2.toNat (y1 + y0)) a6 1) + 1)), J, R) :=
  (sw_iadd f_106_617).trans ((sw_iastore f_106_618 g1 g2).trans ((st_aload f_106_619 rfl).trans ((sw_iconst f_106_621).trans ((st_dup2 f_106_622 rfl rfl).trans ((sw_iaload f_106_623 g3 g4).trans ((sw_iconst f_106_624).trans ((sw_iadd f_106_625).trans (sw_iastore f_106_626 g3 g4))))))))
theorem bL_isHide_627 {o1 o2 o3 o4 o5 o6 o7 o8 o9 o11 o14 o18 o19 o20 o21 o22 o23 o24 o25 o26 o27 : Option Value} {x10 x12 x13 x15 x16 x17 : Int} {a0 : Nat} (g1 : -2147483648 ≤ x17 ∧ x17 ≤ 2147483647) : XR sc d 106 627 [some (.ref a0), o1, o2, o3, o4, o5, o6, o7, o8, o9, some (xw x10), o11, some (xw x12), some (xw x13), o14, some (xw x15), some (xw x16), some (xw x17), o18, o19, o20, o21, o22, o23, o24, o25, o26, o27] [] (T, z, xv V, J, R) = if x17 = 0 then XR sc d 106 648 [some (.ref a0), o1, o2, o3, o4, o5, o6, o7, o8, o9, some (xw x10), o11, some (xw x12), some (xw x13), o14, some (xw x15), some (xw x16), some (xw x17), o18, o19, o20, o21, o22, o23, o24, o25, o26, o27] [xw x16, xw x15, xw x13, xw x12, xw x10, xw 2, .ref a0] (T, z, xv V, J, R) else XR sc d 106 644 [some (.ref a0), o1, o2, o3, o4, o5, o6, o7, o8, o9, some (xw x10), o11, some (xw x12), some (xw x13), o14, some (xw x15), some (xw x16), some (xw x17), o18, o19, o20, o21, o22, o23, o24, o25, o26, o27] [xw x16, xw x15, xw x13, xw x12, xw x10, xw 2, .ref a0] (T, z, xv V, J, R) :=
  (st_aload_n f_106_627 rfl).trans ((sw_iconst f_106_628).trans ((sw_iload f_106_629 rfl).trans ((sw_iload f_106_631 rfl).trans ((sw_iload f_106_633 rfl).trans ((sw_iload f_106_635 rfl).trans ((sw_iload f_106_637 rfl).trans ((sw_iload f_106_639 rfl).trans (sw_if_eq (t := 648) f_106_641 ⟨by decide, rfl⟩ g1))))))))
theorem bL_isHide_644 {o0 o1 o2 o3 o4 o5 o6 o7 o8 o9 o10 o11 o12 o13 o14 o15 o16 o17 o18 o19 o20 o21 o22 o23 o24 o25 o26 o27 : Option Value} {s0 s1 s2 s3 s4 s5 s6 : Value} : XR sc d 106 644 [o0, o1, o2, o3, o4, o5, o6, o7, o8, o9, o10, o11, o12, o13, o14, o15, o16, o17, o18, o19, o20, o21, o22, o23, o24, o25, o26, o27] [s0, s1, s2, s3, s4, s5, s6] (T, z, xv V, J, R) = XR sc d 106 649 [o0, o1, o2, o3, o4, o5, o6, o7, o8, o9, o10, o11, o12, o13, o14, o15, o16, o17, o18, o19, o20, o21, o22, o23, o24, o25, o26, o27] [xw 1, s0, s1, s2, s3, s4, s5, s6] (T, z, xv V, J, R) :=
  (sw_iconst f_106_644).trans (st_goto (t := 649) f_106_645 ⟨by decide, rfl⟩)
theorem bL_isHide_648 {o0 o1 o2 o3 o4 o5 o6 o7 o8 o9 o10 o11 o12 o13 o14 o15 o16 o17 o18 o19 o20 o21 o22 o23 o24 o25 o26 o27 : Option Value} {s0 s1 s2 s3 s4 s5 s6 : Value} : XR sc d 106 648 [o0, o1, o2, o3, o4, o5, o6, o7, o8, o9, o10, o11, o12, o13, o14, o15, o16, o17, o18, o19, o20, o21, o22, o23, o24, o25, o26, o27] [s0, s1, s2, s3, s4, s5, s6] (T, z, xv V, J, R) = XR sc d 106 649 [o0, o1, o2, o3, o4, o5, o6, o7, o8, o9, o10, o11, o12, o13, o14, o15, o16, o17, o18, o19, o20, o21, o22, o23, o24, o25, o26, o27] [xw 0, s0, s1, s2, s3, s4, s5, s6] (T, z, xv V, J, R) :=
  sw_iconst f_106_648
theorem bL_isHide_649 {o0 o1 o2 o3 o4 o5 o6 o7 o8 o9 o10 o11 o12 o13 o14 o15 o16 o17 o18 o19 o20 o21 o22 o23 o24 o25 o26 o27 : Option Value} {y0 y1 y2 y3 y4 y5 y6 : Int} {b7 : Nat} : XR sc d 106 649 [o0, o1, o2, o3, o4, o5, o6, o7, o8, o9, o10, o11, o12, o13, o14, o15, o16, o17, o18, o19, o20, o21, o22, o23, o24, o25, o26, o27] [xw y0, xw y1, xw y2, xw y3, xw y4, xw y5, xw y6, .ref b7] (T, z, xv V, J, R) = xret 106 (XR sc d 106) 649 652 [o0, o1, o2, o3, o4, o5, o6, o7, o8, o9, o10, o11, o12, o13, o14, o15, o16, o17, o18, o19, o20, o21, o22, o23, o24, o25, o26, o27] [] (X sc d 92 [.ref b7, xw y6, xw y5, xw y4, xw y3, xw y2, xw y1, xw y0] (T, z, xv V, J, R)) :=
  st_callS' f_106_649 h_106_124 mn_92 rfl rfl rfl rfl
theorem bL_isHide_652 {o0 o1 o2 o3 o4 o5 o6 o7 o8 o9 o10 o11 o12 o13 o15 o16 o17 o18 o19 o20 o21 o22 o23 o24 o25 o26 o27 : Option Value} {s0 : Value} {x14 : Int} (g1 : -2147483648 ≤ x14 ∧ x14 ≤ 2147483647) : XR sc d 106 652 [o0, o1, o2, o3, o4, o5, o6, o7, o8, o9, o10, o11, o12, o13, some (xw x14), o15, o16, o17, o18, o19, o20, o21, o22, o23, o24, o25, o26, o27] [s0] (T, z, xv V, J, R) = if x14 = 0 then XR sc d 106 657 [o0, o1, o2, o3, o4, o5, o6, o7, o8, o9, o10, o11, o12, o13, some (xw x14), o15, o16, o17, o18, o19, o20, o21, o22, o23, o24, o25, o26, o27] [s0] (T, z, xv V, J, R) else XR sc d 106 662 [o0, o1, o2, o3, o4, o5, o6, o7, o8, o9, o10, o11, o12, o13, some (xw x14), o15, o16, o17, o18, o19, o20, o21, o22, o23, o24, o25, o26, o27] [s0] (T, z, xv V, J, R) :=
  (sw_iload f_106_652 rfl).trans (sw_if_ne (t := 662) f_106_654 ⟨by decide, rfl⟩ g1)
theorem bL_isHide_657 {o0 o1 o2 o3 o4 o5 o6 o7 o8 o9 o10 o11 o12 o13 o14 o15 o16 o17 o18 o19 o20 o21 o22 o23 o24 o25 o26 o27 : Option Value} {s0 : Value} : XR sc d 106 657 [o0, o1, o2, o3, o4, o5, o6, o7, o8, o9, o10, o11, o12, o13, o14, o15, o16, o17, o18, o19, o20, o21, o22, o23, o24, o25, o26, o27] [s0] (T, z, xv V, J, R) = XR sc d 106 688 [o0, o1, o2, o3, o4, o5, o6, o7, o8, o9, o10, o11, o12, o13, o14, o15, o16, o17, o18, o19, o20, o21, o22, o23, o24, o25, o26, o27] [xw (-3000000), s0] (T, z, xv V, J, R) :=
  (sw_ldc (-3000000) f_106_657 k_106_79 rfl).trans (st_goto (t := 688) f_106_659 ⟨by decide, rfl⟩)
theorem bL_isHide_662 {o0 o1 o2 o3 o4 o5 o6 o7 o8 o9 o10 o11 o12 o13 o14 o15 o16 o17 o18 o20 o21 o22 o23 o24 o25 o26 o27 : Option Value} {s0 : Value} {x19 : Int} (g1 : -2147483648 ≤ x19 ∧ x19 ≤ 2147483647) : XR sc d 106 662 [o0, o1, o2, o3, o4, o5, o6, o7, o8, o9, o10, o11, o12, o13, o14, o15, o16, o17, o18, some (xw x19), o20, o21, o22, o23, o24, o25, o26, o27] [s0] (T, z, xv V, J, R) = if x19 = 0 then XR sc d 106 667 [o0, o1, o2, o3, o4, o5, o6, o7, o8, o9, o10, o11, o12, o13, o14, o15, o16, o17, o18, some (xw x19), o20, o21, o22, o23, o24, o25, o26, o27] [s0] (T, z, xv V, J, R) else XR sc d 106 672 [o0, o1, o2, o3, o4, o5, o6, o7, o8, o9, o10, o11, o12, o13, o14, o15, o16, o17, o18, some (xw x19), o20, o21, o22, o23, o24, o25, o26, o27] [s0] (T, z, xv V, J, R) :=
  (sw_iload f_106_662 rfl).trans (sw_if_ne (t := 672) f_106_664 ⟨by decide, rfl⟩ g1)
theorem bL_isHide_667 {o0 o1 o2 o3 o4 o5 o6 o7 o8 o9 o10 o11 o12 o13 o14 o15 o16 o17 o18 o19 o20 o21 o22 o23 o24 o25 o26 o27 : Option Value} {s0 : Value} : XR sc d 106 667 [o0, o1, o2, o3, o4, o5, o6, o7, o8, o9, o10, o11, o12, o13, o14, o15, o16, o17, o18, o19, o20, o21, o22, o23, o24, o25, o26, o27] [s0] (T, z, xv V, J, R) = XR sc d 106 688 [o0, o1, o2, o3, o4, o5, o6, o7, o8, o9, o10, o11, o12, o13, o14, o15, o16, o17, o18, o19, o20, o21, o22, o23, o24, o25, o26, o27] [xw (-2000000), s0] (T, z, xv V, J, R) :=
  (sw_ldc (-2000000) f_106_667 k_106_82 rfl).trans (st_goto (t := 688) f_106_669 ⟨by decide, rfl⟩)
theorem bL_isHide_672 {o0 o1 o2 o3 o4 o5 o6 o7 o8 o9 o10 o11 o12 o13 o14 o15 o16 o17 o18 o19 o21 o22 o23 o24 o25 o26 o27 : Option Value} {s0 : Value} {x20 : Int} (g1 : -2147483648 ≤ x20 ∧ x20 ≤ 2147483647) : XR sc d 106 672 [o0, o1, o2, o3, o4, o5, o6, o7, o8, o9, o10, o11, o12, o13, o14, o15, o16, o17, o18, o19, some (xw x20), o21, o22, o23, o24, o25, o26, o27] [s0] (T, z, xv V, J, R) = if x20 = 0 then XR sc d 106 686 [o0, o1, o2, o3, o4, o5, o6, o7, o8, o9, o10, o11, o12, o13, o14, o15, o16, o17, o18, o19, some (xw x20), o21, o22, o23, o24, o25, o26, o27] [s0] (T, z, xv V, J, R) else XR sc d 106 677 [o0, o1, o2, o3, o4, o5, o6, o7, o8, o9, o10, o11, o12, o13, o14, o15, o16, o17, o18, o19, some (xw x20), o21, o22, o23, o24, o25, o26, o27] [s0] (T, z, xv V, J, R) :=
  (sw_iload f_106_672 rfl).trans (sw_if_eq (t := 686) f_106_674 ⟨by decide, rfl⟩ g1)
theorem bL_isHide_677 {o0 o1 o2 o3 o4 o5 o7 o8 o9 o10 o11 o12 o13 o14 o15 o16 o17 o18 o19 o20 o21 o22 o23 o24 o25 o26 o27 : Option Value} {s0 : Value} {a6 : Nat} (g1 : T a6 = (32, (T a6).2)) (g2 : (0 : Int) ≤ 1 ∧ 1 < ((T a6).2 : Int) ∧ (T a6).2 ≤ 3584) : XR sc d 106 677 [o0, o1, o2, o3, o4, o5, some (.ref a6), o7, o8, o9, o10, o11, o12, o13, o14, o15, o16, o17, o18, o19, o20, o21, o22, o23, o24, o25, o26, o27] [s0] (T, z, xv V, J, R) = XR sc d 106 688 [o0, o1, o2, o3, o4, o5, some (.ref a6), o7, o8, o9, o10, o11, o12, o13, o14, o15, o16, o17, o18, o19, o20, o21, o22, o23, o24, o25, o26, o27] [xw ((V a6 1) - 1), s0] (T, z, xv V, J, R) :=
  (st_aload f_106_677 rfl).trans ((sw_iconst f_106_679).trans ((sw_iaload f_106_680 g1 g2).trans ((sw_iconst f_106_681).trans ((sw_isub f_106_682).trans (st_goto (t := 688) f_106_683 ⟨by decide, rfl⟩)))))
theorem bL_isHide_686 {o0 o1 o2 o3 o4 o5 o6 o7 o8 o9 o10 o11 o12 o13 o14 o15 o16 o17 o18 o19 o20 o21 o22 o23 o24 o25 o26 o27 : Option Value} {s0 : Value} : XR sc d 106 686 [o0, o1, o2, o3, o4, o5, o6, o7, o8, o9, o10, o11, o12, o13, o14, o15, o16, o17, o18, o19, o20, o21, o22, o23, o24, o25, o26, o27] [s0] (T, z, xv V, J, R) = XR sc d 106 688 [o0, o1, o2, o3, o4, o5, o6, o7, o8, o9, o10, o11, o12, o13, o14, o15, o16, o17, o18, o19, o20, o21, o22, o23, o24, o25, o26, o27] [xw (-1000000), s0] (T, z, xv V, J, R) :=
  sw_ldc (-1000000) f_106_686 k_106_85 rfl
theorem bL_isHide_688 {o0 o1 o2 o3 o4 o5 o6 o7 o8 o9 o10 o11 o12 o13 o14 o15 o16 o17 o18 o19 o20 o21 o22 o23 o24 o25 o26 o27 : Option Value} {y0 y1 : Int} (g1 : -2147483648 ≤ y1 ∧ y1 ≤ 2147483647) (g2 : -2147483648 ≤ y0 ∧ y0 ≤ 2147483647) : XR sc d 106 688 [o0, o1, o2, o3, o4, o5, o6, o7, o8, o9, o10, o11, o12, o13, o14, o15, o16, o17, o18, o19, o20, o21, o22, o23, o24, o25, o26, o27] [xw y0, xw y1] (T, z, xv V, J, R) = if y1 = y0 then XR sc d 106 691 [o0, o1, o2, o3, o4, o5, o6, o7, o8, o9, o10, o11, o12, o13, o14, o15, o16, o17, o18, o19, o20, o21, o22, o23, o24, o25, o26, o27] [] (T, z, xv V, J, R) else XR sc d 106 695 [o0, o1, o2, o3, o4, o5, o6, o7, o8, o9, o10, o11, o12, o13, o14, o15, o16, o17, o18, o19, o20, o21, o22, o23, o24, o25, o26, o27] [] (T, z, xv V, J, R) :=
  sw_icmp_ne (t := 695) f_106_688 ⟨by decide, rfl⟩ g1 g2
theorem bL_isHide_691 {o0 o1 o2 o3 o4 o5 o6 o7 o8 o9 o10 o11 o12 o13 o14 o15 o16 o17 o18 o19 o20 o21 o22 o23 o24 o25 o26 o27 : Option Value} : XR sc d 106 691 [o0, o1, o2, o3, o4, o5, o6, o7, o8, o9, o10, o11, o12, o13, o14, o15, o16, o17, o18, o19, o20, o21, o22, o23, o24, o25, o26, o27] [] (T, z, xv V, J, R) = XR sc d 106 696 [o0, o1, o2, o3, o4, o5, o6, o7, o8, o9, o10, o11, o12, o13, o14, o15, o16, o17, o18, o19, o20, o21, o22, o23, o24, o25, o26, o27] [xw 1] (T, z, xv V, J, R) :=
  (sw_iconst f_106_691).trans (st_goto (t := 696) f_106_692 ⟨by decide, rfl⟩)
theorem bL_isHide_695 {o0 o1 o2 o3 o4 o5 o6 o7 o8 o9 o10 o11 o12 o13 o14 o15 o16 o17 o18 o19 o20 o21 o22 o23 o24 o25 o26 o27 : Option Value} : XR sc d 106 695 [o0, o1, o2, o3, o4, o5, o6, o7, o8, o9, o10, o11, o12, o13, o14, o15, o16, o17, o18, o19, o20, o21, o22, o23, o24, o25, o26, o27] [] (T, z, xv V, J, R) = XR sc d 106 696 [o0, o1, o2, o3, o4, o5, o6, o7, o8, o9, o10, o11, o12, o13, o14, o15, o16, o17, o18, o19, o20, o21, o22, o23, o24, o25, o26, o27] [xw 0] (T, z, xv V, J, R) :=
  sw_iconst f_106_695
theorem bL_isHide_696 {o0 o1 o2 o3 o4 o5 o6 o7 o8 o9 o10 o11 o12 o13 o14 o15 o16 o17 o18 o19 o20 o21 o22 o23 o24 o25 o26 o27 : Option Value} {y0 : Int} (g1 : y0 = 0 ∨ y0 = 1) : XR sc d 106 696 [o0, o1, o2, o3, o4, o5, o6, o7, o8, o9, o10, o11, o12, o13, o14, o15, o16, o17, o18, o19, o20, o21, o22, o23, o24, o25, o26, o27] [xw y0] (T, z, xv V, J, R) = some (.inl (some (xw y0)), (T, z, xv V, J, R)) :=
  sw_zreturn f_106_696 mr_106 g1
theorem bL_isHide_697 {o0 o1 o2 o3 o4 o5 o6 o7 o9 o10 o11 o12 o13 o14 o15 o16 o17 o19 o20 o21 o22 o23 o24 o25 o26 o27 : Option Value} {x8 x18 : Int} (g1 : 0 ≤ x8 ∧ x8 ≤ 2147483647) (g2 : 0 ≤ (x8 / 702) ∧ (x8 / 702) ≤ 2147483647) (g3 : -2147483648 ≤ x18 ∧ x18 ≤ 2147483647) : XR sc d 106 697 [o0, o1, o2, o3, o4, o5, o6, o7, some (xw x8), o9, o10, o11, o12, o13, o14, o15, o16, o17, some (xw x18), o19, o20, o21, o22, o23, o24, o25, o26, o27] [] (T, z, xv V, J, R) = if x18 = 0 then XR sc d 106 729 [o0, o1, o2, o3, o4, o5, o6, o7, some (xw x8), o9, o10, o11, o12, o13, o14, o15, o16, o17, some (xw x18), some (xw ((x8 / 702) % 11)), o20, o21, o22, o23, o24, o25, o26, o27] [] (T, z, xv V, J, R) else XR sc d 106 713 [o0, o1, o2, o3, o4, o5, o6, o7, some (xw x8), o9, o10, o11, o12, o13, o14, o15, o16, o17, some (xw x18), some (xw ((x8 / 702) % 11)), o20, o21, o22, o23, o24, o25, o26, o27] [] (T, z, xv V, J, R) :=
  (sw_iload f_106_697 rfl).trans ((sw_sipush f_106_699 c16_702).trans ((sw_idiv f_106_702 ⟨by decide, by decide, g1⟩).trans ((sw_bipush f_106_703 c8_11).trans ((sw_irem f_106_705 ⟨by decide, by decide, g2⟩).trans ((sw_istore (L' := [o0, o1, o2, o3, o4, o5, o6, o7, some (xw x8), o9, o10, o11, o12, o13, o14, o15, o16, o17, some (xw x18), some (xw ((x8 / 702) % 11)), o20, o21, o22, o23, o24, o25, o26, o27]) f_106_706 (Nat.le_of_ble_eq_true rfl) rfl).trans ((sw_iload f_106_708 rfl).trans (sw_if_eq (t := 729) f_106_710 ⟨by decide, rfl⟩ g3)))))))
theorem bL_isHide_713 {o0 o1 o2 o3 o4 o5 o6 o7 o8 o9 o10 o11 o12 o13 o14 o15 o16 o17 o18 o20 o21 o22 o23 o24 o25 o26 o27 : Option Value} {x19 : Int} (g1 : -2147483648 ≤ x19 ∧ x19 ≤ 2147483647) : XR sc d 106 713 [o0, o1, o2, o3, o4, o5, o6, o7, o8, o9, o10, o11, o12, o13, o14, o15, o16, o17, o18, some (xw x19), o20, o21, o22, o23, o24, o25, o26, o27] [] (T, z, xv V, J, R) = if x19 ≤ 0 then XR sc d 106 729 [o0, o1, o2, o3, o4, o5, o6, o7, o8, o9, o10, o11, o12, o13, o14, o15, o16, o17, o18, some (xw x19), o20, o21, o22, o23, o24, o25, o26, o27] [] (T, z, xv V, J, R) else XR sc d 106 718 [o0, o1, o2, o3, o4, o5, o6, o7, o8, o9, o10, o11, o12, o13, o14, o15, o16, o17, o18, some (xw x19), o20, o21, o22, o23, o24, o25, o26, o27] [] (T, z, xv V, J, R) :=
  (sw_iload f_106_713 rfl).trans (sw_if_le (t := 729) f_106_715 ⟨by decide, rfl⟩ g1)
theorem bL_isHide_718 {o0 o1 o2 o3 o4 o5 o6 o7 o8 o9 o10 o11 o12 o13 o14 o15 o16 o17 o18 o20 o21 o22 o23 o24 o25 o26 o27 : Option Value} {x19 : Int} (g1 : -2147483648 ≤ x19 ∧ x19 ≤ 2147483647) : XR sc d 106 718 [o0, o1, o2, o3, o4, o5, o6, o7, o8, o9, o10, o11, o12, o13, o14, o15, o16, o17, o18, some (xw x19), o20, o21, o22, o23, o24, o25, o26, o27] [] (T, z, xv V, J, R) = if 10 ≤ x19 then XR sc d 106 729 [o0, o1, o2, o3, o4, o5, o6, o7, o8, o9, o10, o11, o12, o13, o14, o15, o16, o17, o18, some (xw x19), o20, o21, o22, o23, o24, o25, o26, o27] [] (T, z, xv V, J, R) else XR sc d 106 725 [o0, o1, o2, o3, o4, o5, o6, o7, o8, o9, o10, o11, o12, o13, o14, o15, o16, o17, o18, some (xw x19), o20, o21, o22, o23, o24, o25, o26, o27] [] (T, z, xv V, J, R) :=
  (sw_iload f_106_718 rfl).trans ((sw_bipush f_106_720 c8_10).trans (sw_icmp_ge (t := 729) f_106_722 ⟨by decide, rfl⟩ g1 ⟨by decide, by decide⟩))
theorem bL_isHide_725 {o0 o1 o2 o3 o4 o5 o6 o7 o8 o9 o10 o11 o12 o13 o14 o15 o16 o17 o18 o19 o20 o21 o22 o23 o24 o25 o26 o27 : Option Value} : XR sc d 106 725 [o0, o1, o2, o3, o4, o5, o6, o7, o8, o9, o10, o11, o12, o13, o14, o15, o16, o17, o18, o19, o20, o21, o22, o23, o24, o25, o26, o27] [] (T, z, xv V, J, R) = XR sc d 106 730 [o0, o1, o2, o3, o4, o5, o6, o7, o8, o9, o10, o11, o12, o13, o14, o15, o16, o17, o18, o19, o20, o21, o22, o23, o24, o25, o26, o27] [xw 1] (T, z, xv V, J, R) :=
  (sw_iconst f_106_725).trans (st_goto (t := 730) f_106_726 ⟨by decide, rfl⟩)
theorem bL_isHide_729 {o0 o1 o2 o3 o4 o5 o6 o7 o8 o9 o10 o11 o12 o13 o14 o15 o16 o17 o18 o19 o20 o21 o22 o23 o24 o25 o26 o27 : Option Value} : XR sc d 106 729 [o0, o1, o2, o3, o4, o5, o6, o7, o8, o9, o10, o11, o12, o13, o14, o15, o16, o17, o18, o19, o20, o21, o22, o23, o24, o25, o26, o27] [] (T, z, xv V, J, R) = XR sc d 106 730 [o0, o1, o2, o3, o4, o5, o6, o7, o8, o9, o10, o11, o12, o13, o14, o15, o16, o17, o18, o19, o20, o21, o22, o23, o24, o25, o26, o27] [xw 0] (T, z, xv V, J, R) :=
  sw_iconst f_106_729
theorem bL_isHide_730 {o0 o1 o2 o3 o4 o5 o6 o7 o8 o9 o10 o11 o12 o13 o14 o15 o16 o17 o18 o19 o20 o21 o22 o23 o24 o25 o26 o27 : Option Value} {y0 : Int} : XR sc d 106 730 [o0, o1, o2, o3, o4, o5, o6, o7, o8, o9, o10, o11, o12, o13, o14, o15, o16, o17, o18, o19, o20, o21, o22, o23, o24, o25, o26, o27] [xw y0] (T, z, xv V, J, R) = XR sc d 106 742 [o0, o1, o2, o3, o4, o5, o6, o7, o8, o9, o10, o11, o12, o13, o14, o15, o16, o17, o18, o19, some (xw y0), some (xw (-1)), some (xw (-1)), some (xw 95), o24, o25, o26, o27] [] (T, z, xv V, J, R) :=
  (sw_istore (L' := [o0, o1, o2, o3, o4, o5, o6, o7, o8, o9, o10, o11, o12, o13, o14, o15, o16, o17, o18, o19, some (xw y0), o21, o22, o23, o24, o25, o26, o27]) f_106_730 (Nat.le_of_ble_eq_true rfl) rfl).trans ((sw_iconst f_106_732).trans ((sw_istore (L' := [o0, o1, o2, o3, o4, o5, o6, o7, o8, o9, o10, o11, o12, o13, o14, o15, o16, o17, o18, o19, some (xw y0), some (xw (-1)), o22, o23, o24, o25, o26, o27]) f_106_733 (Nat.le_of_ble_eq_true rfl) rfl).trans ((sw_iconst f_106_735).trans ((sw_istore (L' := [o0, o1, o2, o3, o4, o5, o6, o7, o8, o9, o10, o11, o12, o13, o14, o15, o16, o17, o18, o19, some (xw y0), some (xw (-1)), some (xw (-1)), o23, o24, o25, o26, o27]) f_106_736 (Nat.le_of_ble_eq_true rfl) rfl).trans ((sw_bipush f_106_738 c8_95).trans (sw_istore (L' := [o0, o1, o2, o3, o4, o5, o6, o7, o8, o9, o10, o11, o12, o13, o14, o15, o16, o17, o18, o19, some (xw y0), some (xw (-1)), some (xw (-1)), some (xw 95), o24, o25, o26, o27]) f_106_740 (Nat.le_of_ble_eq_true rfl) rfl))))))
theorem bL_isHide_742 {o0 o1 o2 o3 o4 o5 o6 o7 o8 o9 o10 o11 o12 o13 o14 o15 o16 o17 o18 o19 o20 o21 o22 o24 o25 o26 o27 : Option Value} {x23 : Int} (g1 : -2147483648 ≤ x23 ∧ x23 ≤ 2147483647) : XR sc d 106 742 [o0, o1, o2, o3, o4, o5, o6, o7, o8, o9, o10, o11, o12, o13, o14, o15, o16, o17, o18, o19, o20, o21, o22, some (xw x23), o24, o25, o26, o27] [] (T, z, xv V, J, R) = if x23 < 0 then XR sc d 106 927 [o0, o1, o2, o3, o4, o5, o6, o7, o8, o9, o10, o11, o12, o13, o14, o15, o16, o17, o18, o19, o20, o21, o22, some (xw x23), o24, o25, o26, o27] [] (T, z, xv V, J, R) else XR sc d 106 747 [o0, o1, o2, o3, o4, o5, o6, o7, o8, o9, o10, o11, o12, o13, o14, o15, o16, o17, o18, o19, o20, o21, o22, some (xw x23), o24, o25, o26, o27] [] (T, z, xv V, J, R) :=
  (sw_iload f_106_742 rfl).trans (sw_if_lt (t := 927) f_106_744 ⟨by decide, rfl⟩ g1)
theorem bL_isHide_747 {o0 o1 o2 o3 o4 o5 o6 o7 o8 o9 o10 o12 o13 o14 o15 o16 o17 o18 o19 o20 o21 o22 o23 o24 o25 o26 o27 : Option Value} {x11 : Int} (g1 : -2147483648 ≤ x11 ∧ x11 ≤ 2147483647) : XR sc d 106 747 [o0, o1, o2, o3, o4, o5, o6, o7, o8, o9, o10, some (xw x11), o12, o13, o14, o15, o16, o17, o18, o19, o20, o21, o22, o23, o24, o25, o26, o27] [] (T, z, xv V, J, R) = if x11 = 0 then XR sc d 106 927 [o0, o1, o2, o3, o4, o5, o6, o7, o8, o9, o10, some (xw x11), o12, o13, o14, o15, o16, o17, o18, o19, o20, o21, o22, o23, o24, o25, o26, o27] [] (T, z, xv V, J, R) else XR sc d 106 752 [o0, o1, o2, o3, o4, o5, o6, o7, o8, o9, o10, some (xw x11), o12, o13, o14, o15, o16, o17, o18, o19, o20, o21, o22, o23, o24, o25, o26, o27] [] (T, z, xv V, J, R) :=
  (sw_iload f_106_747 rfl).trans (sw_if_eq (t := 927) f_106_749 ⟨by decide, rfl⟩ g1)
theorem bL_isHide_752 {o0 o1 o2 o3 o4 o5 o6 o7 o8 o9 o10 o11 o12 o13 o14 o15 o16 o17 o18 o19 o21 o22 o23 o24 o25 o26 o27 : Option Value} {x20 : Int} (g1 : -2147483648 ≤ x20 ∧ x20 ≤ 2147483647) : XR sc d 106 752 [o0, o1, o2, o3, o4, o5, o6, o7, o8, o9, o10, o11, o12, o13, o14, o15, o16, o17, o18, o19, some (xw x20), o21, o22, o23, o24, o25, o26, o27] [] (T, z, xv V, J, R) = if x20 = 0 then XR sc d 106 927 [o0, o1, o2, o3, o4, o5, o6, o7, o8, o9, o10, o11, o12, o13, o14, o15, o16, o17, o18, o19, some (xw x20), o21, o22, o23, o24, o25, o26, o27] [] (T, z, xv V, J, R) else XR sc d 106 757 [o0, o1, o2, o3, o4, o5, o6, o7, o8, o9, o10, o11, o12, o13, o14, o15, o16, o17, o18, o19, some (xw x20), o21, o22, o23, o24, o25, o26, o27] [] (T, z, xv V, J, R) :=
  (sw_iload f_106_752 rfl).trans (sw_if_eq (t := 927) f_106_754 ⟨by decide, rfl⟩ g1)
theorem bL_isHide_757 {o0 o1 o2 o3 o4 o5 o6 o7 o8 o9 o10 o11 o12 o13 o14 o16 o17 o18 o19 o20 o21 o22 o24 o25 o26 o27 : Option Value} {x23 x15 : Int} (g1 : 0 ≤ x23 ∧ x23 ≤ 2147483647) (g2 : -2147483648 ≤ ((x23 % 12) + x15) ∧ ((x23 % 12) + x15) ≤ 2147483647) : XR sc d 106 757 [o0, o1, o2, o3, o4, o5, o6, o7, o8, o9, o10, o11, o12, o13, o14, some (xw x15), o16, o17, o18, o19, o20, o21, o22, some (xw x23), o24, o25, o26, o27] [] (T, z, xv V, J, R) = if 13 ≤ ((x23 % 12) + x15) then XR sc d 106 837 [o0, o1, o2, o3, o4, o5, o6, o7, o8, o9, o10, o11, o12, o13, o14, some (xw x15), o16, o17, o18, o19, o20, o21, o22, some (xw x23), some (xw (x23 / 12)), o25, o26, o27] [] (T, z, xv V, J, R) else XR sc d 106 777 [o0, o1, o2, o3, o4, o5, o6, o7, o8, o9, o10, o11, o12, o13, o14, some (xw x15), o16, o17, o18, o19, o20, o21, o22, some (xw x23), some (xw (x23 / 12)), o25, o26, o27] [] (T, z, xv V, J, R) :=
  (sw_iload f_106_757 rfl).trans ((sw_bipush f_106_759 c8_12).trans ((sw_idiv f_106_761 ⟨by decide, by decide, g1⟩).trans ((sw_istore (L' := [o0, o1, o2, o3, o4, o5, o6, o7, o8, o9, o10, o11, o12, o13, o14, some (xw x15), o16, o17, o18, o19, o20, o21, o22, some (xw x23), some (xw (x23 / 12)), o25, o26, o27]) f_106_762 (Nat.le_of_ble_eq_true rfl) rfl).trans ((sw_iload f_106_764 rfl).trans ((sw_bipush f_106_766 c8_12).trans ((sw_irem f_106_768 ⟨by decide, by decide, g1⟩).trans ((sw_iload f_106_769 rfl).trans ((sw_iadd f_106_771).trans ((sw_bipush f_106_772 c8_13).trans (sw_icmp_ge (t := 837) f_106_774 ⟨by decide, rfl⟩ g2 ⟨by decide, by decide⟩))))))))))
theorem bL_isHide_777 {o0 o1 o2 o3 o4 o5 o6 o7 o8 o9 o10 o11 o12 o13 o14 o15 o17 o18 o19 o20 o21 o22 o23 o25 o26 o27 : Option Value} {x24 x16 : Int} (g1 : -2147483648 ≤ (x24 + x16) ∧ (x24 + x16) ≤ 2147483647) : XR sc d 106 777 [o0, o1, o2, o3, o4, o5, o6, o7, o8, o9, o10, o11, o12, o13, o14, o15, some (xw x16), o17, o18, o19, o20, o21, o22, o23, some (xw x24), o25, o26, o27] [] (T, z, xv V, J, R) = if 9 ≤ (x24 + x16) then XR sc d 106 837 [o0, o1, o2, o3, o4, o5, o6, o7, o8, o9, o10, o11, o12, o13, o14, o15, some (xw x16), o17, o18, o19, o20, o21, o22, o23, some (xw x24), o25, o26, o27] [] (T, z, xv V, J, R) else XR sc d 106 787 [o0, o1, o2, o3, o4, o5, o6, o7, o8, o9, o10, o11, o12, o13, o14, o15, some (xw x16), o17, o18, o19, o20, o21, o22, o23, some (xw x24), o25, o26, o27] [] (T, z, xv V, J, R) :=
  (sw_iload f_106_777 rfl).trans ((sw_iload f_106_779 rfl).trans ((sw_iadd f_106_781).trans ((sw_bipush f_106_782 c8_9).trans (sw_icmp_ge (t := 837) f_106_784 ⟨by decide, rfl⟩ g1 ⟨by decide, by decide⟩))))
theorem bL_isHide_787 {o0 o2 o3 o4 o5 o6 o7 o8 o9 o11 o12 o13 o14 o15 o17 o18 o19 o20 o21 o22 o23 o25 o26 o27 : Option Value} {x10 x24 x16 : Int} {a1 : Nat} (g1 : T a1 = (32, (T a1).2)) (g2 : (0 : Int) ≤ x10 ∧ x10 < ((T a1).2 : Int) ∧ (T a1).2 ≤ 3584) (g3 : -2147483648 ≤ (x24 + x16) ∧ (x24 + x16) ≤ 2147483647) : XR sc d 106 787 [o0, some (.ref a1), o2, o3, o4, o5, o6, o7, o8, o9, some (xw x10), o11, o12, o13, o14, o15, some (xw x16), o17, o18, o19, o20, o21, o22, o23, some (xw x24), o25, o26, o27] [] (T, z, xv V, J, R) = if (x24 + x16) ≤ 5 then XR sc d 106 804 [o0, some (.ref a1), o2, o3, o4, o5, o6, o7, o8, o9, some (xw x10), o11, o12, o13, o14, o15, some (xw x16), o17, o18, o19, o20, o21, o22, o23, some (xw x24), o25, o26, o27] [xw (V a1 x10.toNat)] (T, z, xv V, J, R) else XR sc d 106 800 [o0, some (.ref a1), o2, o3, o4, o5, o6, o7, o8, o9, some (xw x10), o11, o12, o13, o14, o15, some (xw x16), o17, o18, o19, o20, o21, o22, o23, some (xw x24), o25, o26, o27] [xw (V a1 x10.toNat)] (T, z, xv V, J, R) :=
  (st_aload_n f_106_787 rfl).trans ((sw_iload f_106_788 rfl).trans ((sw_iaload f_106_790 g1 g2).trans ((sw_iload f_106_791 rfl).trans ((sw_iload f_106_793 rfl).trans ((sw_iadd f_106_795).trans ((sw_iconst f_106_796).trans (sw_icmp_le (t := 804) f_106_797 ⟨by decide, rfl⟩ g3 ⟨by decide, by decide⟩)))))))
theorem bL_isHide_800 {o0 o1 o2 o3 o4 o5 o6 o7 o8 o9 o10 o11 o12 o13 o14 o15 o16 o17 o18 o19 o20 o21 o22 o23 o24 o25 o26 o27 : Option Value} {s0 : Value} : XR sc d 106 800 [o0, o1, o2, o3, o4, o5, o6, o7, o8, o9, o10, o11, o12, o13, o14, o15, o16, o17, o18, o19, o20, o21, o22, o23, o24, o25, o26, o27] [s0] (T, z, xv V, J, R) = XR sc d 106 805 [o0, o1, o2, o3, o4, o5, o6, o7, o8, o9, o10, o11, o12, o13, o14, o15, o16, o17, o18, o19, o20, o21, o22, o23, o24, o25, o26, o27] [xw 1, s0] (T, z, xv V, J, R) :=
  (sw_iconst f_106_800).trans (st_goto (t := 805) f_106_801 ⟨by decide, rfl⟩)
theorem bL_isHide_804 {o0 o1 o2 o3 o4 o5 o6 o7 o8 o9 o10 o11 o12 o13 o14 o15 o16 o17 o18 o19 o20 o21 o22 o23 o24 o25 o26 o27 : Option Value} {s0 : Value} : XR sc d 106 804 [o0, o1, o2, o3, o4, o5, o6, o7, o8, o9, o10, o11, o12, o13, o14, o15, o16, o17, o18, o19, o20, o21, o22, o23, o24, o25, o26, o27] [s0] (T, z, xv V, J, R) = XR sc d 106 805 [o0, o1, o2, o3, o4, o5, o6, o7, o8, o9, o10, o11, o12, o13, o14, o15, o16, o17, o18, o19, o20, o21, o22, o23, o24, o25, o26, o27] [xw 0, s0] (T, z, xv V, J, R) :=
  sw_iconst f_106_804
theorem bL_isHide_805 {o0 o1 o2 o3 o4 o5 o6 o7 o8 o9 o10 o11 o12 o13 o14 o15 o16 o17 o18 o20 o21 o22 o23 o24 o25 o26 o27 : Option Value} {y0 y1 x19 : Int} (g1 : -2147483648 ≤ (y1 - y0) ∧ (y1 - y0) ≤ 2147483647) (g2 : -2147483648 ≤ x19 ∧ x19 ≤ 2147483647) : XR sc d 106 805 [o0, o1, o2, o3, o4, o5, o6, o7, o8, o9, o10, o11, o12, o13, o14, o15, o16, o17, o18, some (xw x19), o20, o21, o22, o23, o24, o25, o26, o27] [xw y0, xw y1] (T, z, xv V, J, R) = if (y1 - y0) < x19 then XR sc d 106 837 [o0, o1, o2, o3, o4, o5, o6, o7, o8, o9, o10, o11, o12, o13, o14, o15, o16, o17, o18, some (xw x19), o20, o21, o22, o23, o24, o25, o26, o27] [] (T, z, xv V, J, R) else XR sc d 106 811 [o0, o1, o2, o3, o4, o5, o6, o7, o8, o9, o10, o11, o12, o13, o14, o15, o16, o17, o18, some (xw x19), o20, o21, o22, o23, o24, o25, o26, o27] [] (T, z, xv V, J, R) :=
  (sw_isub f_106_805).trans ((sw_iload f_106_806 rfl).trans (sw_icmp_lt (t := 837) f_106_808 ⟨by decide, rfl⟩ g1 g2))
theorem bL_isHide_811 {o0 o2 o3 o4 o5 o6 o7 o8 o9 o11 o12 o13 o14 o18 o19 o20 o21 o22 o25 o26 o27 : Option Value} {x10 x23 x24 x15 x16 x17 : Int} {a1 : Nat} (g1 : 0 ≤ x23 ∧ x23 ≤ 2147483647) : XR sc d 106 811 [o0, some (.ref a1), o2, o3, o4, o5, o6, o7, o8, o9, some (xw x10), o11, o12, o13, o14, some (xw x15), some (xw x16), some (xw x17), o18, o19, o20, o21, o22, some (xw x23), some (xw x24), o25, o26, o27] [] (T, z, xv V, J, R) = xret 106 (XR sc d 106) 827 830 [o0, some (.ref a1), o2, o3, o4, o5, o6, o7, o8, o9, some (xw x10), o11, o12, o13, o14, some (xw x15), some (xw x16), some (xw x17), o18, o19, o20, o21, o22, some (xw x23), some (xw x24), o25, o26, o27] [] (X sc d 105 [.ref a1, xw x10, xw (x23 % 12), xw x24, xw x15, xw x16, xw x17] (T, z, xv V, J, R)) :=
  (st_aload_n f_106_811 rfl).trans ((sw_iload f_106_812 rfl).trans ((sw_iload f_106_814 rfl).trans ((sw_bipush f_106_816 c8_12).trans ((sw_irem f_106_818 ⟨by decide, by decide, g1⟩).trans ((sw_iload f_106_819 rfl).trans ((sw_iload f_106_821 rfl).trans ((sw_iload f_106_823 rfl).trans ((sw_iload f_106_825 rfl).trans (st_callS' f_106_827 h_106_160 mn_105 rfl rfl rfl rfl)))))))))
theorem bL_isHide_830 {o0 o1 o2 o3 o4 o5 o6 o7 o8 o9 o10 o11 o12 o13 o14 o15 o16 o17 o18 o19 o20 o21 o22 o23 o24 o25 o26 o27 : Option Value} {y0 : Int} (g1 : -2147483648 ≤ y0 ∧ y0 ≤ 2147483647) : XR sc d 106 830 [o0, o1, o2, o3, o4, o5, o6, o7, o8, o9, o10, o11, o12, o13, o14, o15, o16, o17, o18, o19, o20, o21, o22, o23, o24, o25, o26, o27] [xw y0] (T, z, xv V, J, R) = if y0 = 0 then XR sc d 106 837 [o0, o1, o2, o3, o4, o5, o6, o7, o8, o9, o10, o11, o12, o13, o14, o15, o16, o17, o18, o19, o20, o21, o22, o23, o24, o25, o26, o27] [] (T, z, xv V, J, R) else XR sc d 106 833 [o0, o1, o2, o3, o4, o5, o6, o7, o8, o9, o10, o11, o12, o13, o14, o15, o16, o17, o18, o19, o20, o21, o22, o23, o24, o25, o26, o27] [] (T, z, xv V, J, R) :=
  sw_if_eq (t := 837) f_106_830 ⟨by decide, rfl⟩ g1
theorem bL_isHide_833 {o0 o1 o2 o3 o4 o5 o6 o7 o8 o9 o10 o11 o12 o13 o14 o15 o16 o17 o18 o19 o20 o21 o22 o23 o24 o25 o26 o27 : Option Value} : XR sc d 106 833 [o0, o1, o2, o3, o4, o5, o6, o7, o8, o9, o10, o11, o12, o13, o14, o15, o16, o17, o18, o19, o20, o21, o22, o23, o24, o25, o26, o27] [] (T, z, xv V, J, R) = XR sc d 106 838 [o0, o1, o2, o3, o4, o5, o6, o7, o8, o9, o10, o11, o12, o13, o14, o15, o16, o17, o18, o19, o20, o21, o22, o23, o24, o25, o26, o27] [xw 1] (T, z, xv V, J, R) :=
  (sw_iconst f_106_833).trans (st_goto (t := 838) f_106_834 ⟨by decide, rfl⟩)
theorem bL_isHide_837 {o0 o1 o2 o3 o4 o5 o6 o7 o8 o9 o10 o11 o12 o13 o14 o15 o16 o17 o18 o19 o20 o21 o22 o23 o24 o25 o26 o27 : Option Value} : XR sc d 106 837 [o0, o1, o2, o3, o4, o5, o6, o7, o8, o9, o10, o11, o12, o13, o14, o15, o16, o17, o18, o19, o20, o21, o22, o23, o24, o25, o26, o27] [] (T, z, xv V, J, R) = XR sc d 106 838 [o0, o1, o2, o3, o4, o5, o6, o7, o8, o9, o10, o11, o12, o13, o14, o15, o16, o17, o18, o19, o20, o21, o22, o23, o24, o25, o26, o27] [xw 0] (T, z, xv V, J, R) :=
  sw_iconst f_106_837
theorem bL_isHide_838 {o0 o1 o2 o3 o4 o5 o6 o7 o8 o9 o10 o11 o12 o13 o14 o15 o16 o17 o18 o19 o20 o21 o22 o23 o25 o26 o27 : Option Value} {y0 x24 : Int} : XR sc d 106 838 [o0, o1, o2, o3, o4, o5, o6, o7, o8, o9, o10, o11, o12, o13, o14, o15, o16, o17, o18, o19, o20, o21, o22, o23, some (xw x24), o25, o26, o27] [xw y0] (T, z, xv V, J, R) = XR sc d 106 847 [o0, o1, o2, o3, o4, o5, o6, o7, o8, o9, o10, o11, o12, o13, o14, o15, o16, o17, o18, o19, o20, o21, o22, o23, some (xw x24), some (xw y0), some (xw 0), some (xw x24)] [] (T, z, xv V, J, R) :=
  (sw_istore (L' := [o0, o1, o2, o3, o4, o5, o6, o7, o8, o9, o10, o11, o12, o13, o14, o15, o16, o17, o18, o19, o20, o21, o22, o23, some (xw x24), some (xw y0), o26, o27]) f_106_838 (Nat.le_of_ble_eq_true rfl) rfl).trans ((sw_iconst f_106_840).trans ((sw_istore (L' := [o0, o1, o2, o3, o4, o5, o6, o7, o8, o9, o10, o11, o12, o13, o14, o15, o16, o17, o18, o19, o20, o21, o22, o23, some (xw x24), some (xw y0), some (xw 0), o27]) f_106_841 (Nat.le_of_ble_eq_true rfl) rfl).trans ((sw_iload f_106_843 rfl).trans (sw_istore (L' := [o0, o1, o2, o3, o4, o5, o6, o7, o8, o9, o10, o11, o12, o13, o14, o15, o16, o17, o18, o19, o20, o21, o22, o23, some (xw x24), some (xw y0), some (xw 0), some (xw x24)]) f_106_845 (Nat.le_of_ble_eq_true rfl) rfl))))
theorem bL_isHide_847 {o0 o1 o2 o3 o4 o5 o6 o7 o8 o9 o10 o11 o12 o13 o14 o15 o17 o18 o19 o20 o21 o22 o23 o25 o26 : Option Value} {x27 x24 x16 : Int} (g1 : -2147483648 ≤ x27 ∧ x27 ≤ 2147483647) (g2 : -2147483648 ≤ (x24 + x16) ∧ (x24 + x16) ≤ 2147483647) : XR sc d 106 847 [o0, o1, o2, o3, o4, o5, o6, o7, o8, o9, o10, o11, o12, o13, o14, o15, some (xw x16), o17, o18, o19, o20, o21, o22, o23, some (xw x24), o25, o26, some (xw x27)] [] (T, z, xv V, J, R) = if (x24 + x16) ≤ x27 then XR sc d 106 896 [o0, o1, o2, o3, o4, o5, o6, o7, o8, o9, o10, o11, o12, o13, o14, o15, some (xw x16), o17, o18, o19, o20, o21, o22, o23, some (xw x24), o25, o26, some (xw x27)] [] (T, z, xv V, J, R) else XR sc d 106 857 [o0, o1, o2, o3, o4, o5, o6, o7, o8, o9, o10, o11, o12, o13, o14, o15, some (xw x16), o17, o18, o19, o20, o21, o22, o23, some (xw x24), o25, o26, some (xw x27)] [] (T, z, xv V, J, R) :=
  (sw_iload f_106_847 rfl).trans ((sw_iload f_106_849 rfl).trans ((sw_iload f_106_851 rfl).trans ((sw_iadd f_106_853).trans (sw_icmp_ge (t := 896) f_106_854 ⟨by decide, rfl⟩ g1 g2))))
theorem bL_isHide_857 {o0 o1 o2 o3 o4 o5 o6 o7 o8 o9 o10 o11 o12 o13 o14 o15 o16 o17 o18 o19 o20 o21 o22 o23 o24 o25 : Option Value} {x26 x27 : Int} (g1 : -2147483648 ≤ x27 ∧ x27 ≤ 2147483647) : XR sc d 106 857 [o0, o1, o2, o3, o4, o5, o6, o7, o8, o9, o10, o11, o12, o13, o14, o15, o16, o17, o18, o19, o20, o21, o22, o23, o24, o25, some (xw x26), some (xw x27)] [] (T, z, xv V, J, R) = if 2 ≤ x27 then XR sc d 106 872 [o0, o1, o2, o3, o4, o5, o6, o7, o8, o9, o10, o11, o12, o13, o14, o15, o16, o17, o18, o19, o20, o21, o22, o23, o24, o25, some (xw x26), some (xw x27)] [xw x26] (T, z, xv V, J, R) else XR sc d 106 865 [o0, o1, o2, o3, o4, o5, o6, o7, o8, o9, o10, o11, o12, o13, o14, o15, o16, o17, o18, o19, o20, o21, o22, o23, o24, o25, some (xw x26), some (xw x27)] [xw x26] (T, z, xv V, J, R) :=
  (sw_iload f_106_857 rfl).trans ((sw_iload f_106_859 rfl).trans ((sw_iconst f_106_861).trans (sw_icmp_ge (t := 872) f_106_862 ⟨by decide, rfl⟩ g1 ⟨by decide, by decide⟩)))
theorem bL_isHide_865 {o0 o1 o2 o3 o4 o5 o6 o7 o8 o9 o10 o11 o12 o13 o14 o16 o17 o18 o19 o20 o21 o22 o23 o24 o25 o26 o27 : Option Value} {s0 : Value} {x15 : Int} : XR sc d 106 865 [o0, o1, o2, o3, o4, o5, o6, o7, o8, o9, o10, o11, o12, o13, o14, some (xw x15), o16, o17, o18, o19, o20, o21, o22, o23, o24, o25, o26, o27] [s0] (T, z, xv V, J, R) = XR sc d 106 887 [o0, o1, o2, o3, o4, o5, o6, o7, o8, o9, o10, o11, o12, o13, o14, some (xw x15), o16, o17, o18, o19, o20, o21, o22, o23, o24, o25, o26, o27] [xw (3 * x15), s0] (T, z, xv V, J, R) :=
  (sw_iconst f_106_865).trans ((sw_iload f_106_866 rfl).trans ((sw_imul f_106_868).trans (st_goto (t := 887) f_106_869 ⟨by decide, rfl⟩)))
theorem bL_isHide_872 {o0 o1 o2 o3 o4 o5 o6 o7 o8 o9 o10 o11 o12 o13 o14 o15 o16 o17 o18 o19 o20 o21 o22 o23 o24 o25 o26 : Option Value} {s0 : Value} {x27 : Int} (g1 : -2147483648 ≤ x27 ∧ x27 ≤ 2147483647) : XR sc d 106 872 [o0, o1, o2, o3, o4, o5, o6, o7, o8, o9, o10, o11, o12, o13, o14, o15, o16, o17, o18, o19, o20, o21, o22, o23, o24, o25, o26, some (xw x27)] [s0] (T, z, xv V, J, R) = if 5 ≤ x27 then XR sc d 106 885 [o0, o1, o2, o3, o4, o5, o6, o7, o8, o9, o10, o11, o12, o13, o14, o15, o16, o17, o18, o19, o20, o21, o22, o23, o24, o25, o26, some (xw x27)] [s0] (T, z, xv V, J, R) else XR sc d 106 878 [o0, o1, o2, o3, o4, o5, o6, o7, o8, o9, o10, o11, o12, o13, o14, o15, o16, o17, o18, o19, o20, o21, o22, o23, o24, o25, o26, some (xw x27)] [s0] (T, z, xv V, J, R) :=
  (sw_iload f_106_872 rfl).trans ((sw_iconst f_106_874).trans (sw_icmp_ge (t := 885) f_106_875 ⟨by decide, rfl⟩ g1 ⟨by decide, by decide⟩))
theorem bL_isHide_878 {o0 o1 o2 o3 o4 o5 o6 o7 o8 o9 o10 o11 o12 o13 o14 o16 o17 o18 o19 o20 o21 o22 o23 o24 o25 o26 o27 : Option Value} {s0 : Value} {x15 : Int} : XR sc d 106 878 [o0, o1, o2, o3, o4, o5, o6, o7, o8, o9, o10, o11, o12, o13, o14, some (xw x15), o16, o17, o18, o19, o20, o21, o22, o23, o24, o25, o26, o27] [s0] (T, z, xv V, J, R) = XR sc d 106 887 [o0, o1, o2, o3, o4, o5, o6, o7, o8, o9, o10, o11, o12, o13, o14, some (xw x15), o16, o17, o18, o19, o20, o21, o22, o23, o24, o25, o26, o27] [xw (2 * x15), s0] (T, z, xv V, J, R) :=
  (sw_iconst f_106_878).trans ((sw_iload f_106_879 rfl).trans ((sw_imul f_106_881).trans (st_goto (t := 887) f_106_882 ⟨by decide, rfl⟩)))
theorem bL_isHide_885 {o0 o1 o2 o3 o4 o5 o6 o7 o8 o9 o10 o11 o12 o13 o14 o16 o17 o18 o19 o20 o21 o22 o23 o24 o25 o26 o27 : Option Value} {s0 : Value} {x15 : Int} : XR sc d 106 885 [o0, o1, o2, o3, o4, o5, o6, o7, o8, o9, o10, o11, o12, o13, o14, some (xw x15), o16, o17, o18, o19, o20, o21, o22, o23, o24, o25, o26, o27] [s0] (T, z, xv V, J, R) = XR sc d 106 887 [o0, o1, o2, o3, o4, o5, o6, o7, o8, o9, o10, o11, o12, o13, o14, some (xw x15), o16, o17, o18, o19, o20, o21, o22, o23, o24, o25, o26, o27] [xw x15, s0] (T, z, xv V, J, R) :=
  sw_iload f_106_885 rfl
theorem bL_isHide_887 {o0 o1 o2 o3 o4 o5 o6 o7 o8 o9 o10 o11 o12 o13 o14 o15 o16 o17 o18 o19 o20 o21 o22 o23 o24 o25 o26 : Option Value} {y0 y1 x27 : Int} : XR sc d 106 887 [o0, o1, o2, o3, o4, o5, o6, o7, o8, o9, o10, o11, o12, o13, o14, o15, o16, o17, o18, o19, o20, o21, o22, o23, o24, o25, o26, some (xw x27)] [xw y0, xw y1] (T, z, xv V, J, R) = XR sc d 106 847 [o0, o1, o2, o3, o4, o5, o6, o7, o8, o9, o10, o11, o12, o13, o14, o15, o16, o17, o18, o19, o20, o21, o22, o23, o24, o25, some (xw (y1 + y0)), some (xw (x27 + 1))] [] (T, z, xv V, J, R) :=
  (sw_iadd f_106_887).trans ((sw_istore (L' := [o0, o1, o2, o3, o4, o5, o6, o7, o8, o9, o10, o11, o12, o13, o14, o15, o16, o17, o18, o19, o20, o21, o22, o23, o24, o25, some (xw (y1 + y0)), some (xw x27)]) f_106_888 (Nat.le_of_ble_eq_true rfl) rfl).trans ((sw_iinc (L' := [o0, o1, o2, o3, o4, o5, o6, o7, o8, o9, o10, o11, o12, o13, o14, o15, o16, o17, o18, o19, o20, o21, o22, o23, o24, o25, some (xw (y1 + y0)), some (xw (x27 + 1))]) f_106_890 rfl (Nat.le_of_ble_eq_true rfl) rfl).trans (st_goto (t := 847) f_106_893 ⟨by decide, rfl⟩)))
theorem bL_isHide_896 {o0 o1 o2 o3 o4 o5 o6 o7 o8 o9 o10 o11 o12 o13 o14 o15 o16 o17 o18 o19 o20 o21 o22 o23 o24 o26 o27 : Option Value} {x25 : Int} (g1 : -2147483648 ≤ x25 ∧ x25 ≤ 2147483647) : XR sc d 106 896 [o0, o1, o2, o3, o4, o5, o6, o7, o8, o9, o10, o11, o12, o13, o14, o15, o16, o17, o18, o19, o20, o21, o22, o23, o24, some (xw x25), o26, o27] [] (T, z, xv V, J, R) = if x25 = 0 then XR sc d 106 921 [o0, o1, o2, o3, o4, o5, o6, o7, o8, o9, o10, o11, o12, o13, o14, o15, o16, o17, o18, o19, o20, o21, o22, o23, o24, some (xw x25), o26, o27] [] (T, z, xv V, J, R) else XR sc d 106 901 [o0, o1, o2, o3, o4, o5, o6, o7, o8, o9, o10, o11, o12, o13, o14, o15, o16, o17, o18, o19, o20, o21, o22, o23, o24, some (xw x25), o26, o27] [] (T, z, xv V, J, R) :=
  (sw_iload f_106_896 rfl).trans (sw_if_eq (t := 921) f_106_898 ⟨by decide, rfl⟩ g1)
theorem bL_isHide_901 {o0 o1 o2 o3 o4 o5 o6 o7 o8 o9 o10 o11 o12 o13 o14 o15 o16 o17 o18 o19 o20 o22 o23 o24 o25 o26 o27 : Option Value} {x21 : Int} (g1 : -2147483648 ≤ x21 ∧ x21 ≤ 2147483647) : XR sc d 106 901 [o0, o1, o2, o3, o4, o5, o6, o7, o8, o9, o10, o11, o12, o13, o14, o15, o16, o17, o18, o19, o20, some (xw x21), o22, o23, o24, o25, o26, o27] [] (T, z, xv V, J, R) = if x21 < 0 then XR sc d 106 913 [o0, o1, o2, o3, o4, o5, o6, o7, o8, o9, o10, o11, o12, o13, o14, o15, o16, o17, o18, o19, o20, some (xw x21), o22, o23, o24, o25, o26, o27] [] (T, z, xv V, J, R) else XR sc d 106 906 [o0, o1, o2, o3, o4, o5, o6, o7, o8, o9, o10, o11, o12, o13, o14, o15, o16, o17, o18, o19, o20, some (xw x21), o22, o23, o24, o25, o26, o27] [] (T, z, xv V, J, R) :=
  (sw_iload f_106_901 rfl).trans (sw_if_lt (t := 913) f_106_903 ⟨by decide, rfl⟩ g1)
theorem bL_isHide_906 {o0 o1 o2 o3 o4 o5 o6 o7 o8 o9 o10 o11 o12 o13 o14 o15 o16 o17 o18 o19 o20 o22 o23 o24 o25 o27 : Option Value} {x26 x21 : Int} (g1 : -2147483648 ≤ x26 ∧ x26 ≤ 2147483647) (g2 : -2147483648 ≤ x21 ∧ x21 ≤ 2147483647) : XR sc d 106 906 [o0, o1, o2, o3, o4, o5, o6, o7, o8, o9, o10, o11, o12, o13, o14, o15, o16, o17, o18, o19, o20, some (xw x21), o22, o23, o24, o25, some (xw x26), o27] [] (T, z, xv V, J, R) = if x21 < x26 then XR sc d 106 921 [o0, o1, o2, o3, o4, o5, o6, o7, o8, o9, o10, o11, o12, o13, o14, o15, o16, o17, o18, o19, o20, some (xw x21), o22, o23, o24, o25, some (xw x26), o27] [] (T, z, xv V, J, R) else XR sc d 106 913 [o0, o1, o2, o3, o4, o5, o6, o7, o8, o9, o10, o11, o12, o13, o14, o15, o16, o17, o18, o19, o20, some (xw x21), o22, o23, o24, o25, some (xw x26), o27] [] (T, z, xv V, J, R) :=
  (sw_iload f_106_906 rfl).trans ((sw_iload f_106_908 rfl).trans (sw_icmp_gt (t := 921) f_106_910 ⟨by decide, rfl⟩ g1 g2))
theorem bL_isHide_913 {o0 o1 o2 o3 o4 o5 o6 o7 o8 o9 o10 o11 o12 o13 o14 o15 o16 o17 o18 o19 o20 o21 o22 o24 o25 o27 : Option Value} {x26 x23 : Int} : XR sc d 106 913 [o0, o1, o2, o3, o4, o5, o6, o7, o8, o9, o10, o11, o12, o13, o14, o15, o16, o17, o18, o19, o20, o21, o22, some (xw x23), o24, o25, some (xw x26), o27] [] (T, z, xv V, J, R) = XR sc d 106 921 [o0, o1, o2, o3, o4, o5, o6, o7, o8, o9, o10, o11, o12, o13, o14, o15, o16, o17, o18, o19, o20, some (xw x26), some (xw x23), some (xw x23), o24, o25, some (xw x26), o27] [] (T, z, xv V, J, R) :=
  (sw_iload f_106_913 rfl).trans ((sw_istore (L' := [o0, o1, o2, o3, o4, o5, o6, o7, o8, o9, o10, o11, o12, o13, o14, o15, o16, o17, o18, o19, o20, some (xw x26), o22, some (xw x23), o24, o25, some (xw x26), o27]) f_106_915 (Nat.le_of_ble_eq_true rfl) rfl).trans ((sw_iload f_106_917 rfl).trans (sw_istore (L' := [o0, o1, o2, o3, o4, o5, o6, o7, o8, o9, o10, o11, o12, o13, o14, o15, o16, o17, o18, o19, o20, some (xw x26), some (xw x23), some (xw x23), o24, o25, some (xw x26), o27]) f_106_919 (Nat.le_of_ble_eq_true rfl) rfl)))
theorem bL_isHide_921 {o0 o1 o2 o3 o4 o5 o6 o7 o8 o9 o10 o11 o12 o13 o14 o15 o16 o17 o18 o19 o20 o21 o22 o24 o25 o26 o27 : Option Value} {x23 : Int} : XR sc d 106 921 [o0, o1, o2, o3, o4, o5, o6, o7, o8, o9, o10, o11, o12, o13, o14, o15, o16, o17, o18, o19, o20, o21, o22, some (xw x23), o24, o25, o26, o27] [] (T, z, xv V, J, R) = XR sc d 106 742 [o0, o1, o2, o3, o4, o5, o6, o7, o8, o9, o10, o11, o12, o13, o14, o15, o16, o17, o18, o19, o20, o21, o22, some (xw (x23 + (-1))), o24, o25, o26, o27] [] (T, z, xv V, J, R) :=
  (sw_iinc (L' := [o0, o1, o2, o3, o4, o5, o6, o7, o8, o9, o10, o11, o12, o13, o14, o15, o16, o17, o18, o19, o20, o21, o22, some (xw (x23 + (-1))), o24, o25, o26, o27]) f_106_921 rfl (Nat.le_of_ble_eq_true rfl) rfl).trans (st_goto (t := 742) f_106_924 ⟨by decide, rfl⟩)
theorem bL_isHide_927 {o1 o2 o3 o4 o5 o6 o7 o8 o9 o11 o12 o13 o14 o18 o19 o20 o21 o22 o23 o24 o25 o26 o27 : Option Value} {x10 x15 x16 x17 : Int} {a0 : Nat} (g1 : -2147483648 ≤ x17 ∧ x17 ≤ 2147483647) : XR sc d 106 927 [some (.ref a0), o1, o2, o3, o4, o5, o6, o7, o8, o9, some (xw x10), o11, o12, o13, o14, some (xw x15), some (xw x16), some (xw x17), o18, o19, o20, o21, o22, o23, o24, o25, o26, o27] [] (T, z, xv V, J, R) = if x17 = 0 then XR sc d 106 944 [some (.ref a0), o1, o2, o3, o4, o5, o6, o7, o8, o9, some (xw x10), o11, o12, o13, o14, some (xw x15), some (xw x16), some (xw x17), o18, o19, o20, o21, o22, o23, o24, o25, o26, o27] [xw x16, xw x15, xw x10, xw 3, .ref a0] (T, z, xv V, J, R) else XR sc d 106 940 [some (.ref a0), o1, o2, o3, o4, o5, o6, o7, o8, o9, some (xw x10), o11, o12, o13, o14, some (xw x15), some (xw x16), some (xw x17), o18, o19, o20, o21, o22, o23, o24, o25, o26, o27] [xw x16, xw x15, xw x10, xw 3, .ref a0] (T, z, xv V, J, R) :=
  (st_aload_n f_106_927 rfl).trans ((sw_iconst f_106_928).trans ((sw_iload f_106_929 rfl).trans ((sw_iload f_106_931 rfl).trans ((sw_iload f_106_933 rfl).trans ((sw_iload f_106_935 rfl).trans (sw_if_eq (t := 944) f_106_937 ⟨by decide, rfl⟩ g1))))))
theorem bL_isHide_940 {o0 o1 o2 o3 o4 o5 o6 o7 o8 o9 o10 o11 o12 o13 o14 o15 o16 o17 o18 o19 o20 o21 o22 o23 o24 o25 o26 o27 : Option Value} {s0 s1 s2 s3 s4 : Value} : XR sc d 106 940 [o0, o1, o2, o3, o4, o5, o6, o7, o8, o9, o10, o11, o12, o13, o14, o15, o16, o17, o18, o19, o20, o21, o22, o23, o24, o25, o26, o27] [s0, s1, s2, s3, s4] (T, z, xv V, J, R) = XR sc d 106 945 [o0, o1, o2, o3, o4, o5, o6, o7, o8, o9, o10, o11, o12, o13, o14, o15, o16, o17, o18, o19, o20, o21, o22, o23, o24, o25, o26, o27] [xw 1, s0, s1, s2, s3, s4] (T, z, xv V, J, R) :=
  (sw_iconst f_106_940).trans (st_goto (t := 945) f_106_941 ⟨by decide, rfl⟩)
theorem bL_isHide_944 {o0 o1 o2 o3 o4 o5 o6 o7 o8 o9 o10 o11 o12 o13 o14 o15 o16 o17 o18 o19 o20 o21 o22 o23 o24 o25 o26 o27 : Option Value} {s0 s1 s2 s3 s4 : Value} : XR sc d 106 944 [o0, o1, o2, o3, o4, o5, o6, o7, o8, o9, o10, o11, o12, o13, o14, o15, o16, o17, o18, o19, o20, o21, o22, o23, o24, o25, o26, o27] [s0, s1, s2, s3, s4] (T, z, xv V, J, R) = XR sc d 106 945 [o0, o1, o2, o3, o4, o5, o6, o7, o8, o9, o10, o11, o12, o13, o14, o15, o16, o17, o18, o19, o20, o21, o22, o23, o24, o25, o26, o27] [xw 0, s0, s1, s2, s3, s4] (T, z, xv V, J, R) :=
  sw_iconst f_106_944
theorem bL_isHide_945 {o0 o1 o2 o3 o4 o5 o6 o7 o8 o9 o10 o11 o12 o13 o14 o15 o16 o17 o18 o20 o21 o22 o23 o24 o25 o26 o27 : Option Value} {x19 y0 y1 y2 y3 y4 : Int} {b5 : Nat} : XR sc d 106 945 [o0, o1, o2, o3, o4, o5, o6, o7, o8, o9, o10, o11, o12, o13, o14, o15, o16, o17, o18, some (xw x19), o20, o21, o22, o23, o24, o25, o26, o27] [xw y0, xw y1, xw y2, xw y3, xw y4, .ref b5] (T, z, xv V, J, R) = xret 106 (XR sc d 106) 948 951 [o0, o1, o2, o3, o4, o5, o6, o7, o8, o9, o10, o11, o12, o13, o14, o15, o16, o17, o18, some (xw x19), o20, o21, o22, o23, o24, o25, o26, o27] [] (X sc d 92 [.ref b5, xw y4, xw y3, xw y2, xw y1, xw y0, xw x19, xw 0] (T, z, xv V, J, R)) :=
  (sw_iload f_106_945 rfl).trans ((sw_iconst f_106_947).trans (st_callS' f_106_948 h_106_124 mn_92 rfl rfl rfl rfl))
theorem bL_isHide_951 {o0 o1 o2 o3 o4 o5 o6 o7 o8 o9 o10 o12 o13 o14 o15 o16 o17 o18 o19 o20 o21 o22 o23 o24 o25 o26 o27 : Option Value} {s0 : Value} {x11 : Int} (g1 : -2147483648 ≤ x11 ∧ x11 ≤ 2147483647) : XR sc d 106 951 [o0, o1, o2, o3, o4, o5, o6, o7, o8, o9, o10, some (xw x11), o12, o13, o14, o15, o16, o17, o18, o19, o20, o21, o22, o23, o24, o25, o26, o27] [s0] (T, z, xv V, J, R) = if x11 = 0 then XR sc d 106 956 [o0, o1, o2, o3, o4, o5, o6, o7, o8, o9, o10, some (xw x11), o12, o13, o14, o15, o16, o17, o18, o19, o20, o21, o22, o23, o24, o25, o26, o27] [s0] (T, z, xv V, J, R) else XR sc d 106 961 [o0, o1, o2, o3, o4, o5, o6, o7, o8, o9, o10, some (xw x11), o12, o13, o14, o15, o16, o17, o18, o19, o20, o21, o22, o23, o24, o25, o26, o27] [s0] (T, z, xv V, J, R) :=
  (sw_iload f_106_951 rfl).trans (sw_if_ne (t := 961) f_106_953 ⟨by decide, rfl⟩ g1)
theorem bL_isHide_956 {o0 o1 o2 o3 o4 o5 o6 o7 o8 o9 o10 o11 o12 o13 o14 o15 o16 o17 o18 o19 o20 o21 o22 o23 o24 o25 o26 o27 : Option Value} {s0 : Value} : XR sc d 106 956 [o0, o1, o2, o3, o4, o5, o6, o7, o8, o9, o10, o11, o12, o13, o14, o15, o16, o17, o18, o19, o20, o21, o22, o23, o24, o25, o26, o27] [s0] (T, z, xv V, J, R) = XR sc d 106 973 [o0, o1, o2, o3, o4, o5, o6, o7, o8, o9, o10, o11, o12, o13, o14, o15, o16, o17, o18, o19, o20, o21, o22, o23, o24, o25, o26, o27] [xw (-3000000), s0] (T, z, xv V, J, R) :=
  (sw_ldc (-3000000) f_106_956 k_106_79 rfl).trans (st_goto (t := 973) f_106_958 ⟨by decide, rfl⟩)
theorem bL_isHide_961 {o0 o1 o2 o3 o4 o5 o6 o7 o8 o9 o10 o11 o12 o13 o14 o15 o16 o17 o18 o19 o21 o22 o23 o24 o25 o26 o27 : Option Value} {s0 : Value} {x20 : Int} (g1 : -2147483648 ≤ x20 ∧ x20 ≤ 2147483647) : XR sc d 106 961 [o0, o1, o2, o3, o4, o5, o6, o7, o8, o9, o10, o11, o12, o13, o14, o15, o16, o17, o18, o19, some (xw x20), o21, o22, o23, o24, o25, o26, o27] [s0] (T, z, xv V, J, R) = if x20 = 0 then XR sc d 106 971 [o0, o1, o2, o3, o4, o5, o6, o7, o8, o9, o10, o11, o12, o13, o14, o15, o16, o17, o18, o19, some (xw x20), o21, o22, o23, o24, o25, o26, o27] [s0] (T, z, xv V, J, R) else XR sc d 106 966 [o0, o1, o2, o3, o4, o5, o6, o7, o8, o9, o10, o11, o12, o13, o14, o15, o16, o17, o18, o19, some (xw x20), o21, o22, o23, o24, o25, o26, o27] [s0] (T, z, xv V, J, R) :=
  (sw_iload f_106_961 rfl).trans (sw_if_eq (t := 971) f_106_963 ⟨by decide, rfl⟩ g1)
theorem bL_isHide_966 {o0 o1 o2 o3 o4 o5 o6 o7 o8 o9 o10 o11 o12 o13 o14 o15 o16 o17 o18 o19 o20 o21 o23 o24 o25 o26 o27 : Option Value} {s0 : Value} {x22 : Int} : XR sc d 106 966 [o0, o1, o2, o3, o4, o5, o6, o7, o8, o9, o10, o11, o12, o13, o14, o15, o16, o17, o18, o19, o20, o21, some (xw x22), o23, o24, o25, o26, o27] [s0] (T, z, xv V, J, R) = XR sc d 106 973 [o0, o1, o2, o3, o4, o5, o6, o7, o8, o9, o10, o11, o12, o13, o14, o15, o16, o17, o18, o19, o20, o21, some (xw x22), o23, o24, o25, o26, o27] [xw x22, s0] (T, z, xv V, J, R) :=
  (sw_iload f_106_966 rfl).trans (st_goto (t := 973) f_106_968 ⟨by decide, rfl⟩)
theorem bL_isHide_971 {o0 o1 o2 o3 o4 o5 o6 o7 o8 o9 o10 o11 o12 o13 o14 o15 o16 o17 o18 o19 o20 o21 o22 o23 o24 o25 o26 o27 : Option Value} {s0 : Value} : XR sc d 106 971 [o0, o1, o2, o3, o4, o5, o6, o7, o8, o9, o10, o11, o12, o13, o14, o15, o16, o17, o18, o19, o20, o21, o22, o23, o24, o25, o26, o27] [s0] (T, z, xv V, J, R) = XR sc d 106 973 [o0, o1, o2, o3, o4, o5, o6, o7, o8, o9, o10, o11, o12, o13, o14, o15, o16, o17, o18, o19, o20, o21, o22, o23, o24, o25, o26, o27] [xw (-2000000), s0] (T, z, xv V, J, R) :=
  sw_ldc (-2000000) f_106_971 k_106_82 rfl
theorem bL_isHide_973 {o0 o1 o2 o3 o4 o5 o6 o7 o8 o9 o10 o11 o12 o13 o14 o15 o16 o17 o18 o19 o20 o21 o22 o23 o24 o25 o26 o27 : Option Value} {y0 y1 : Int} (g1 : -2147483648 ≤ y1 ∧ y1 ≤ 2147483647) (g2 : -2147483648 ≤ y0 ∧ y0 ≤ 2147483647) : XR sc d 106 973 [o0, o1, o2, o3, o4, o5, o6, o7, o8, o9, o10, o11, o12, o13, o14, o15, o16, o17, o18, o19, o20, o21, o22, o23, o24, o25, o26, o27] [xw y0, xw y1] (T, z, xv V, J, R) = if y1 = y0 then XR sc d 106 976 [o0, o1, o2, o3, o4, o5, o6, o7, o8, o9, o10, o11, o12, o13, o14, o15, o16, o17, o18, o19, o20, o21, o22, o23, o24, o25, o26, o27] [] (T, z, xv V, J, R) else XR sc d 106 980 [o0, o1, o2, o3, o4, o5, o6, o7, o8, o9, o10, o11, o12, o13, o14, o15, o16, o17, o18, o19, o20, o21, o22, o23, o24, o25, o26, o27] [] (T, z, xv V, J, R) :=
  sw_icmp_ne (t := 980) f_106_973 ⟨by decide, rfl⟩ g1 g2
theorem bL_isHide_976 {o0 o1 o2 o3 o4 o5 o6 o7 o8 o9 o10 o11 o12 o13 o14 o15 o16 o17 o18 o19 o20 o21 o22 o23 o24 o25 o26 o27 : Option Value} : XR sc d 106 976 [o0, o1, o2, o3, o4, o5, o6, o7, o8, o9, o10, o11, o12, o13, o14, o15, o16, o17, o18, o19, o20, o21, o22, o23, o24, o25, o26, o27] [] (T, z, xv V, J, R) = XR sc d 106 981 [o0, o1, o2, o3, o4, o5, o6, o7, o8, o9, o10, o11, o12, o13, o14, o15, o16, o17, o18, o19, o20, o21, o22, o23, o24, o25, o26, o27] [xw 1] (T, z, xv V, J, R) :=
  (sw_iconst f_106_976).trans (st_goto (t := 981) f_106_977 ⟨by decide, rfl⟩)
theorem bL_isHide_980 {o0 o1 o2 o3 o4 o5 o6 o7 o8 o9 o10 o11 o12 o13 o14 o15 o16 o17 o18 o19 o20 o21 o22 o23 o24 o25 o26 o27 : Option Value} : XR sc d 106 980 [o0, o1, o2, o3, o4, o5, o6, o7, o8, o9, o10, o11, o12, o13, o14, o15, o16, o17, o18, o19, o20, o21, o22, o23, o24, o25, o26, o27] [] (T, z, xv V, J, R) = XR sc d 106 981 [o0, o1, o2, o3, o4, o5, o6, o7, o8, o9, o10, o11, o12, o13, o14, o15, o16, o17, o18, o19, o20, o21, o22, o23, o24, o25, o26, o27] [xw 0] (T, z, xv V, J, R) :=
  sw_iconst f_106_980
theorem bL_isHide_981 {o0 o1 o2 o3 o4 o5 o6 o7 o8 o9 o10 o11 o12 o13 o14 o15 o16 o17 o18 o19 o20 o21 o22 o23 o24 o25 o26 o27 : Option Value} {y0 : Int} (g1 : y0 = 0 ∨ y0 = 1) : XR sc d 106 981 [o0, o1, o2, o3, o4, o5, o6, o7, o8, o9, o10, o11, o12, o13, o14, o15, o16, o17, o18, o19, o20, o21, o22, o23, o24, o25, o26, o27] [xw y0] (T, z, xv V, J, R) = some (.inl (some (xw y0)), (T, z, xv V, J, R)) :=
  sw_zreturn f_106_981 mr_106 g1
end BLK
