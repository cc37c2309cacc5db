/-! instructions, by program (gen2.py) -/
set_option maxRecDepth 100000 in
theorem f_91_0 : xft 91 0 = some (.iload_n 1) := by decide +kernel
set_option maxRecDepth 100000 in
theorem f_91_1 : xft 91 1 = some (.aload_n 0) := by decide +kernel
set_option maxRecDepth 100000 in
theorem f_91_2 : xft 91 2 = some (.arraylength) := by decide +kernel
set_option maxRecDepth 100000 in
theorem f_91_3 : xft 91 3 = some (.if_icmp .ge 9) := by decide +kernel
set_option maxRecDepth 100000 in
theorem f_91_6 : xft 91 6 = some (.aload_n 0) := by decide +kernel
set_option maxRecDepth 100000 in
theorem f_91_7 : xft 91 7 = some (.iload_n 1) := by decide +kernel
set_option maxRecDepth 100000 in
theorem f_91_8 : xft 91 8 = some (.iaload) := by decide +kernel
set_option maxRecDepth 100000 in
theorem f_91_9 : xft 91 9 = some (.goto 16) := by decide +kernel
set_option maxRecDepth 100000 in
theorem f_91_12 : xft 91 12 = some (.sipush 1031) := by decide +kernel
set_option maxRecDepth 100000 in
theorem f_91_15 : xft 91 15 = some (.iload_n 1) := by decide +kernel
set_option maxRecDepth 100000 in
theorem f_91_16 : xft 91 16 = some (.imul) := by decide +kernel
set_option maxRecDepth 100000 in
theorem f_91_17 : xft 91 17 = some (.sipush 911) := by decide +kernel
set_option maxRecDepth 100000 in
theorem f_91_20 : xft 91 20 = some (.iload_n 1) := by decide +kernel
set_option maxRecDepth 100000 in
theorem f_91_21 : xft 91 21 = some (.imul) := by decide +kernel
set_option maxRecDepth 100000 in
theorem f_91_22 : xft 91 22 = some (.iload_n 1) := by decide +kernel
set_option maxRecDepth 100000 in
theorem f_91_23 : xft 91 23 = some (.imul) := by decide +kernel
set_option maxRecDepth 100000 in
theorem f_91_24 : xft 91 24 = some (.iadd) := by decide +kernel
set_option maxRecDepth 100000 in
theorem f_91_25 : xft 91 25 = some (.istore_n 3) := by decide +kernel
set_option maxRecDepth 100000 in
theorem f_91_26 : xft 91 26 = some (.iload_n 3) := by decide +kernel
set_option maxRecDepth 100000 in
theorem f_91_27 : xft 91 27 = some (.ldc 7) := by decide +kernel
set_option maxRecDepth 100000 in
theorem f_91_29 : xft 91 29 = some (.iand) := by decide +kernel
set_option maxRecDepth 100000 in
theorem f_91_30 : xft 91 30 = some (.iload_n 2) := by decide +kernel
set_option maxRecDepth 100000 in
theorem f_91_31 : xft 91 31 = some (.irem) := by decide +kernel
set_option maxRecDepth 100000 in
theorem f_91_32 : xft 91 32 = some (.ireturn) := by decide +kernel
set_option maxRecDepth 100000 in
theorem f_92_0 : xft 92 0 = some (.iload_n 1) := by decide +kernel
set_option maxRecDepth 100000 in
theorem f_92_1 : xft 92 1 = some (.ifCond .ne 11) := by decide +kernel
set_option maxRecDepth 100000 in
theorem f_92_4 : xft 92 4 = some (.aload_n 0) := by decide +kernel
set_option maxRecDepth 100000 in
theorem f_92_5 : xft 92 5 = some (.iload_n 2) := by decide +kernel
set_option maxRecDepth 100000 in
theorem f_92_6 : xft 92 6 = some (.invokevirtual 8) := by decide +kernel
set_option maxRecDepth 100000 in
theorem f_92_9 : xft 92 9 = some (.goto 335) := by decide +kernel
set_option maxRecDepth 100000 in
theorem f_92_12 : xft 92 12 = some (.iload_n 1) := by decide +kernel
set_option maxRecDepth 100000 in
theorem f_92_13 : xft 92 13 = some (.iconst 1) := by decide +kernel
set_option maxRecDepth 100000 in
theorem f_92_14 : xft 92 14 = some (.if_icmp .ne 14) := by decide +kernel
set_option maxRecDepth 100000 in
theorem f_92_17 : xft 92 17 = some (.aload_n 0) := by decide +kernel
set_option maxRecDepth 100000 in
theorem f_92_18 : xft 92 18 = some (.iload_n 2) := by decide +kernel
set_option maxRecDepth 100000 in
theorem f_92_19 : xft 92 19 = some (.iload_n 3) := by decide +kernel
set_option maxRecDepth 100000 in
theorem f_92_20 : xft 92 20 = some (.iload 4) := by decide +kernel
set_option maxRecDepth 100000 in
theorem f_92_22 : xft 92 22 = some (.invokevirtual 14) := by decide +kernel
set_option maxRecDepth 100000 in
theorem f_92_25 : xft 92 25 = some (.goto 319) := by decide +kernel
set_option maxRecDepth 100000 in
theorem f_92_28 : xft 92 28 = some (.iload_n 1) := by decide +kernel
set_option maxRecDepth 100000 in
theorem f_92_29 : xft 92 29 = some (.iconst 2) := by decide +kernel
set_option maxRecDepth 100000 in
theorem f_92_30 : xft 92 30 = some (.if_icmp .ne 29) := by decide +kernel
set_option maxRecDepth 100000 in
theorem f_92_33 : xft 92 33 = some (.aload_n 0) := by decide +kernel
set_option maxRecDepth 100000 in
theorem f_92_34 : xft 92 34 = some (.iload_n 2) := by decide +kernel
set_option maxRecDepth 100000 in
theorem f_92_35 : xft 92 35 = some (.iload_n 3) := by decide +kernel
set_option maxRecDepth 100000 in
theorem f_92_36 : xft 92 36 = some (.iload 4) := by decide +kernel
set_option maxRecDepth 100000 in
theorem f_92_38 : xft 92 38 = some (.iload 5) := by decide +kernel
set_option maxRecDepth 100000 in
theorem f_92_40 : xft 92 40 = some (.iload 6) := by decide +kernel
set_option maxRecDepth 100000 in
theorem f_92_42 : xft 92 42 = some (.iload 7) := by decide +kernel
set_option maxRecDepth 100000 in
theorem f_92_44 : xft 92 44 = some (.iconst 1) := by decide +kernel
set_option maxRecDepth 100000 in
theorem f_92_45 : xft 92 45 = some (.if_icmp .ne 7) := by decide +kernel
set_option maxRecDepth 100000 in
theorem f_92_48 : xft 92 48 = some (.iconst 1) := by decide +kernel
set_option maxRecDepth 100000 in
theorem f_92_49 : xft 92 49 = some (.goto 4) := by decide +kernel
set_option maxRecDepth 100000 in
theorem f_92_52 : xft 92 52 = some (.iconst 0) := by decide +kernel
set_option maxRecDepth 100000 in
theorem f_92_53 : xft 92 53 = some (.invokevirtual 18) := by decide +kernel
set_option maxRecDepth 100000 in
theorem f_92_56 : xft 92 56 = some (.goto 288) := by decide +kernel
set_option maxRecDepth 100000 in
theorem f_92_59 : xft 92 59 = some (.iload_n 1) := by decide +kernel
set_option maxRecDepth 100000 in
theorem f_92_60 : xft 92 60 = some (.iconst 3) := by decide +kernel
set_option maxRecDepth 100000 in
theorem f_92_61 : xft 92 61 = some (.if_icmp .ne 27) := by decide +kernel
set_option maxRecDepth 100000 in
theorem f_92_64 : xft 92 64 = some (.aload_n 0) := by decide +kernel
set_option maxRecDepth 100000 in
theorem f_92_65 : xft 92 65 = some (.iload_n 2) := by decide +kernel
set_option maxRecDepth 100000 in
theorem f_92_66 : xft 92 66 = some (.iload_n 3) := by decide +kernel
set_option maxRecDepth 100000 in
theorem f_92_67 : xft 92 67 = some (.iload 4) := by decide +kernel
set_option maxRecDepth 100000 in
theorem f_92_69 : xft 92 69 = some (.iload 5) := by decide +kernel
set_option maxRecDepth 100000 in
theorem f_92_71 : xft 92 71 = some (.iconst 1) := by decide +kernel
set_option maxRecDepth 100000 in
theorem f_92_72 : xft 92 72 = some (.if_icmp .ne 7) := by decide +kernel
set_option maxRecDepth 100000 in
theorem f_92_75 : xft 92 75 = some (.iconst 1) := by decide +kernel
set_option maxRecDepth 100000 in
theorem f_92_76 : xft 92 76 = some (.goto 4) := by decide +kernel
set_option maxRecDepth 100000 in
theorem f_92_79 : xft 92 79 = some (.iconst 0) := by decide +kernel
set_option maxRecDepth 100000 in
theorem f_92_80 : xft 92 80 = some (.iload 6) := by decide +kernel
set_option maxRecDepth 100000 in
theorem f_92_82 : xft 92 82 = some (.invokevirtual 22) := by decide +kernel
set_option maxRecDepth 100000 in
theorem f_92_85 : xft 92 85 = some (.goto 259) := by decide +kernel
set_option maxRecDepth 100000 in
theorem f_92_88 : xft 92 88 = some (.iload_n 1) := by decide +kernel
set_option maxRecDepth 100000 in
theorem f_92_89 : xft 92 89 = some (.iconst 4) := by decide +kernel
set_option maxRecDepth 100000 in
theorem f_92_90 : xft 92 90 = some (.if_icmp .ne 12) := by decide +kernel
set_option maxRecDepth 100000 in
theorem f_92_93 : xft 92 93 = some (.aload_n 0) := by decide +kernel
set_option maxRecDepth 100000 in
theorem f_92_94 : xft 92 94 = some (.iload_n 2) := by decide +kernel
set_option maxRecDepth 100000 in
theorem f_92_95 : xft 92 95 = some (.iload_n 3) := by decide +kernel
set_option maxRecDepth 100000 in
theorem f_92_96 : xft 92 96 = some (.invokevirtual 26) := by decide +kernel
set_option maxRecDepth 100000 in
theorem f_92_99 : xft 92 99 = some (.goto 245) := by decide +kernel
set_option maxRecDepth 100000 in
theorem f_92_102 : xft 92 102 = some (.iload_n 1) := by decide +kernel
set_option maxRecDepth 100000 in
theorem f_92_103 : xft 92 103 = some (.iconst 5) := by decide +kernel
set_option maxRecDepth 100000 in
theorem f_92_104 : xft 92 104 = some (.if_icmp .ne 12) := by decide +kernel
set_option maxRecDepth 100000 in
theorem f_92_107 : xft 92 107 = some (.aload_n 0) := by decide +kernel
set_option maxRecDepth 100000 in
theorem f_92_108 : xft 92 108 = some (.iload_n 2) := by decide +kernel
set_option maxRecDepth 100000 in
theorem f_92_109 : xft 92 109 = some (.iload_n 3) := by decide +kernel
set_option maxRecDepth 100000 in
theorem f_92_110 : xft 92 110 = some (.invokevirtual 30) := by decide +kernel
set_option maxRecDepth 100000 in
theorem f_92_113 : xft 92 113 = some (.goto 231) := by decide +kernel
set_option maxRecDepth 100000 in
theorem f_92_116 : xft 92 116 = some (.iload_n 1) := by decide +kernel
set_option maxRecDepth 100000 in
theorem f_92_117 : xft 92 117 = some (.bipush 6) := by decide +kernel
set_option maxRecDepth 100000 in
theorem f_92_119 : xft 92 119 = some (.if_icmp .ne 12) := by decide +kernel
set_option maxRecDepth 100000 in
theorem f_92_122 : xft 92 122 = some (.aload_n 0) := by decide +kernel
set_option maxRecDepth 100000 in
theorem f_92_123 : xft 92 123 = some (.iload_n 2) := by decide +kernel
set_option maxRecDepth 100000 in
theorem f_92_124 : xft 92 124 = some (.iload_n 3) := by decide +kernel
set_option maxRecDepth 100000 in
theorem f_92_125 : xft 92 125 = some (.invokevirtual 33) := by decide +kernel
set_option maxRecDepth 100000 in
theorem f_92_128 : xft 92 128 = some (.goto 216) := by decide +kernel
set_option maxRecDepth 100000 in
theorem f_92_131 : xft 92 131 = some (.iload_n 1) := by decide +kernel
set_option maxRecDepth 100000 in
theorem f_92_132 : xft 92 132 = some (.bipush 7) := by decide +kernel
set_option maxRecDepth 100000 in
theorem f_92_134 : xft 92 134 = some (.if_icmp .ne 16) := by decide +kernel
set_option maxRecDepth 100000 in
theorem f_92_137 : xft 92 137 = some (.aload_n 0) := by decide +kernel
set_option maxRecDepth 100000 in
theorem f_92_138 : xft 92 138 = some (.iload_n 2) := by decide +kernel
set_option maxRecDepth 100000 in
theorem f_92_139 : xft 92 139 = some (.iload_n 3) := by decide +kernel
set_option maxRecDepth 100000 in
theorem f_92_140 : xft 92 140 = some (.iload 4) := by decide +kernel
set_option maxRecDepth 100000 in
theorem f_92_142 : xft 92 142 = some (.iload 5) := by decide +kernel
set_option maxRecDepth 100000 in
theorem f_92_144 : xft 92 144 = some (.invokevirtual 36) := by decide +kernel
set_option maxRecDepth 100000 in
theorem f_92_147 : xft 92 147 = some (.goto 197) := by decide +kernel
set_option maxRecDepth 100000 in
theorem f_92_150 : xft 92 150 = some (.iload_n 1) := by decide +kernel
set_option maxRecDepth 100000 in
theorem f_92_151 : xft 92 151 = some (.bipush 8) := by decide +kernel
set_option maxRecDepth 100000 in
theorem f_92_153 : xft 92 153 = some (.if_icmp .ne 11) := by decide +kernel
set_option maxRecDepth 100000 in
theorem f_92_156 : xft 92 156 = some (.aload_n 0) := by decide +kernel
set_option maxRecDepth 100000 in
theorem f_92_157 : xft 92 157 = some (.iload_n 2) := by decide +kernel
set_option maxRecDepth 100000 in
theorem f_92_158 : xft 92 158 = some (.invokevirtual 40) := by decide +kernel
set_option maxRecDepth 100000 in
theorem f_92_161 : xft 92 161 = some (.goto 183) := by decide +kernel
set_option maxRecDepth 100000 in
theorem f_92_164 : xft 92 164 = some (.iload_n 1) := by decide +kernel
set_option maxRecDepth 100000 in
theorem f_92_165 : xft 92 165 = some (.bipush 9) := by decide +kernel
set_option maxRecDepth 100000 in
theorem f_92_167 : xft 92 167 = some (.if_icmp .ne 14) := by decide +kernel
set_option maxRecDepth 100000 in
theorem f_92_170 : xft 92 170 = some (.aload_n 0) := by decide +kernel
set_option maxRecDepth 100000 in
theorem f_92_171 : xft 92 171 = some (.iload_n 2) := by decide +kernel
set_option maxRecDepth 100000 in
theorem f_92_172 : xft 92 172 = some (.iload_n 3) := by decide +kernel
set_option maxRecDepth 100000 in
theorem f_92_173 : xft 92 173 = some (.iload 4) := by decide +kernel
set_option maxRecDepth 100000 in
theorem f_92_175 : xft 92 175 = some (.invokevirtual 43) := by decide +kernel
set_option maxRecDepth 100000 in
theorem f_92_178 : xft 92 178 = some (.goto 166) := by decide +kernel
set_option maxRecDepth 100000 in
theorem f_92_181 : xft 92 181 = some (.iload_n 1) := by decide +kernel
set_option maxRecDepth 100000 in
theorem f_92_182 : xft 92 182 = some (.bipush 10) := by decide +kernel
set_option maxRecDepth 100000 in
theorem f_92_184 : xft 92 184 = some (.if_icmp .ne 11) := by decide +kernel
set_option maxRecDepth 100000 in
theorem f_92_187 : xft 92 187 = some (.aload_n 0) := by decide +kernel
set_option maxRecDepth 100000 in
theorem f_92_188 : xft 92 188 = some (.iload_n 2) := by decide +kernel
set_option maxRecDepth 100000 in
theorem f_92_189 : xft 92 189 = some (.invokevirtual 46) := by decide +kernel
set_option maxRecDepth 100000 in
theorem f_92_192 : xft 92 192 = some (.goto 152) := by decide +kernel
set_option maxRecDepth 100000 in
theorem f_92_195 : xft 92 195 = some (.iload_n 1) := by decide +kernel
set_option maxRecDepth 100000 in
theorem f_92_196 : xft 92 196 = some (.bipush 11) := by decide +kernel
set_option maxRecDepth 100000 in
theorem f_92_198 : xft 92 198 = some (.if_icmp .ne 16) := by decide +kernel
set_option maxRecDepth 100000 in
theorem f_92_201 : xft 92 201 = some (.aload_n 0) := by decide +kernel
set_option maxRecDepth 100000 in
theorem f_92_202 : xft 92 202 = some (.iload_n 2) := by decide +kernel
set_option maxRecDepth 100000 in
theorem f_92_203 : xft 92 203 = some (.iload_n 3) := by decide +kernel
set_option maxRecDepth 100000 in
theorem f_92_204 : xft 92 204 = some (.iload 4) := by decide +kernel
set_option maxRecDepth 100000 in
theorem f_92_206 : xft 92 206 = some (.iload 5) := by decide +kernel
set_option maxRecDepth 100000 in
theorem f_92_208 : xft 92 208 = some (.invokevirtual 49) := by decide +kernel
set_option maxRecDepth 100000 in
theorem f_92_211 : xft 92 211 = some (.goto 133) := by decide +kernel
set_option maxRecDepth 100000 in
theorem f_92_214 : xft 92 214 = some (.iload_n 1) := by decide +kernel
set_option maxRecDepth 100000 in
theorem f_92_215 : xft 92 215 = some (.bipush 12) := by decide +kernel
set_option maxRecDepth 100000 in
theorem f_92_217 : xft 92 217 = some (.if_icmp .ne 14) := by decide +kernel
set_option maxRecDepth 100000 in
theorem f_92_220 : xft 92 220 = some (.aload_n 0) := by decide +kernel
set_option maxRecDepth 100000 in
theorem f_92_221 : xft 92 221 = some (.iload_n 2) := by decide +kernel
set_option maxRecDepth 100000 in
theorem f_92_222 : xft 92 222 = some (.iload_n 3) := by decide +kernel
set_option maxRecDepth 100000 in
theorem f_92_223 : xft 92 223 = some (.iload 4) := by decide +kernel
set_option maxRecDepth 100000 in
theorem f_92_225 : xft 92 225 = some (.invokevirtual 52) := by decide +kernel
set_option maxRecDepth 100000 in
theorem f_92_228 : xft 92 228 = some (.goto 116) := by decide +kernel
set_option maxRecDepth 100000 in
theorem f_92_231 : xft 92 231 = some (.iload_n 1) := by decide +kernel
set_option maxRecDepth 100000 in
theorem f_92_232 : xft 92 232 = some (.bipush 13) := by decide +kernel
set_option maxRecDepth 100000 in
theorem f_92_234 : xft 92 234 = some (.if_icmp .ne 14) := by decide +kernel
set_option maxRecDepth 100000 in
theorem f_92_237 : xft 92 237 = some (.aload_n 0) := by decide +kernel
set_option maxRecDepth 100000 in
theorem f_92_238 : xft 92 238 = some (.iload_n 2) := by decide +kernel
set_option maxRecDepth 100000 in
theorem f_92_239 : xft 92 239 = some (.iload_n 3) := by decide +kernel
set_option maxRecDepth 100000 in
theorem f_92_240 : xft 92 240 = some (.iload 4) := by decide +kernel
set_option maxRecDepth 100000 in
theorem f_92_242 : xft 92 242 = some (.invokevirtual 55) := by decide +kernel
set_option maxRecDepth 100000 in
theorem f_92_245 : xft 92 245 = some (.goto 99) := by decide +kernel
set_option maxRecDepth 100000 in
theorem f_92_248 : xft 92 248 = some (.iload_n 1) := by decide +kernel
set_option maxRecDepth 100000 in
theorem f_92_249 : xft 92 249 = some (.bipush 14) := by decide +kernel
set_option maxRecDepth 100000 in
theorem f_92_251 : xft 92 251 = some (.if_icmp .ne 14) := by decide +kernel
set_option maxRecDepth 100000 in
theorem f_92_254 : xft 92 254 = some (.aload_n 0) := by decide +kernel
set_option maxRecDepth 100000 in
theorem f_92_255 : xft 92 255 = some (.iload_n 2) := by decide +kernel
set_option maxRecDepth 100000 in
theorem f_92_256 : xft 92 256 = some (.iload_n 3) := by decide +kernel
set_option maxRecDepth 100000 in
theorem f_92_257 : xft 92 257 = some (.iload 4) := by decide +kernel
set_option maxRecDepth 100000 in
theorem f_92_259 : xft 92 259 = some (.invokevirtual 58) := by decide +kernel
set_option maxRecDepth 100000 in
theorem f_92_262 : xft 92 262 = some (.goto 82) := by decide +kernel
set_option maxRecDepth 100000 in
theorem f_92_265 : xft 92 265 = some (.iload_n 1) := by decide +kernel
set_option maxRecDepth 100000 in
theorem f_92_266 : xft 92 266 = some (.bipush 15) := by decide +kernel
set_option maxRecDepth 100000 in
theorem f_92_268 : xft 92 268 = some (.if_icmp .ne 20) := by decide +kernel
set_option maxRecDepth 100000 in
theorem f_92_271 : xft 92 271 = some (.aload_n 0) := by decide +kernel
set_option maxRecDepth 100000 in
theorem f_92_272 : xft 92 272 = some (.iload_n 2) := by decide +kernel
set_option maxRecDepth 100000 in
theorem f_92_273 : xft 92 273 = some (.iload_n 3) := by decide +kernel
set_option maxRecDepth 100000 in
theorem f_92_274 : xft 92 274 = some (.iload 4) := by decide +kernel
set_option maxRecDepth 100000 in
theorem f_92_276 : xft 92 276 = some (.iload 5) := by decide +kernel
set_option maxRecDepth 100000 in
theorem f_92_278 : xft 92 278 = some (.iload 6) := by decide +kernel
set_option maxRecDepth 100000 in
theorem f_92_280 : xft 92 280 = some (.iload 7) := by decide +kernel
set_option maxRecDepth 100000 in
theorem f_92_282 : xft 92 282 = some (.invokevirtual 61) := by decide +kernel
set_option maxRecDepth 100000 in
theorem f_92_285 : xft 92 285 = some (.goto 59) := by decide +kernel
set_option maxRecDepth 100000 in
theorem f_92_288 : xft 92 288 = some (.iload_n 1) := by decide +kernel
set_option maxRecDepth 100000 in
theorem f_92_289 : xft 92 289 = some (.bipush 16) := by decide +kernel
set_option maxRecDepth 100000 in
theorem f_92_291 : xft 92 291 = some (.if_icmp .ne 11) := by decide +kernel
set_option maxRecDepth 100000 in
theorem f_92_294 : xft 92 294 = some (.aload_n 0) := by decide +kernel
set_option maxRecDepth 100000 in
theorem f_92_295 : xft 92 295 = some (.iload_n 2) := by decide +kernel
set_option maxRecDepth 100000 in
theorem f_92_296 : xft 92 296 = some (.invokevirtual 65) := by decide +kernel
set_option maxRecDepth 100000 in
theorem f_92_299 : xft 92 299 = some (.goto 45) := by decide +kernel
set_option maxRecDepth 100000 in
theorem f_92_302 : xft 92 302 = some (.iload_n 1) := by decide +kernel
set_option maxRecDepth 100000 in
theorem f_92_303 : xft 92 303 = some (.bipush 17) := by decide +kernel
set_option maxRecDepth 100000 in
theorem f_92_305 : xft 92 305 = some (.if_icmp .ne 16) := by decide +kernel
set_option maxRecDepth 100000 in
theorem f_92_308 : xft 92 308 = some (.aload_n 0) := by decide +kernel
set_option maxRecDepth 100000 in
theorem f_92_309 : xft 92 309 = some (.iload_n 2) := by decide +kernel
set_option maxRecDepth 100000 in
theorem f_92_310 : xft 92 310 = some (.iload_n 3) := by decide +kernel
set_option maxRecDepth 100000 in
theorem f_92_311 : xft 92 311 = some (.iload 4) := by decide +kernel
set_option maxRecDepth 100000 in
theorem f_92_313 : xft 92 313 = some (.iload 5) := by decide +kernel
set_option maxRecDepth 100000 in
theorem f_92_315 : xft 92 315 = some (.invokevirtual 68) := by decide +kernel
set_option maxRecDepth 100000 in
theorem f_92_318 : xft 92 318 = some (.goto 26) := by decide +kernel
set_option maxRecDepth 100000 in
theorem f_92_321 : xft 92 321 = some (.iload_n 1) := by decide +kernel
set_option maxRecDepth 100000 in
theorem f_92_322 : xft 92 322 = some (.bipush 18) := by decide +kernel
set_option maxRecDepth 100000 in
theorem f_92_324 : xft 92 324 = some (.if_icmp .ne 12) := by decide +kernel
set_option maxRecDepth 100000 in
theorem f_92_327 : xft 92 327 = some (.aload_n 0) := by decide +kernel
set_option maxRecDepth 100000 in
theorem f_92_328 : xft 92 328 = some (.iload_n 2) := by decide +kernel
set_option maxRecDepth 100000 in
theorem f_92_329 : xft 92 329 = some (.iload_n 3) := by decide +kernel
set_option maxRecDepth 100000 in
theorem f_92_330 : xft 92 330 = some (.invokevirtual 71) := by decide +kernel
set_option maxRecDepth 100000 in
theorem f_92_333 : xft 92 333 = some (.goto 11) := by decide +kernel
set_option maxRecDepth 100000 in
theorem f_92_336 : xft 92 336 = some (.aload_n 0) := by decide +kernel
set_option maxRecDepth 100000 in
theorem f_92_337 : xft 92 337 = some (.iload_n 2) := by decide +kernel
set_option maxRecDepth 100000 in
theorem f_92_338 : xft 92 338 = some (.iload_n 3) := by decide +kernel
set_option maxRecDepth 100000 in
theorem f_92_339 : xft 92 339 = some (.iload 4) := by decide +kernel
set_option maxRecDepth 100000 in
theorem f_92_341 : xft 92 341 = some (.invokevirtual 74) := by decide +kernel
set_option maxRecDepth 100000 in
theorem f_92_344 : xft 92 344 = some (.ireturn) := by decide +kernel
set_option maxRecDepth 100000 in
theorem f_92_345 : xft 92 345 = some (.astore 8) := by decide +kernel
set_option maxRecDepth 100000 in
theorem f_92_347 : xft 92 347 = some (.ldc 79) := by decide +kernel
set_option maxRecDepth 100000 in
theorem f_92_349 : xft 92 349 = some (.ireturn) := by decide +kernel
set_option maxRecDepth 100000 in
theorem f_92_350 : xft 92 350 = some (.astore 8) := by decide +kernel
set_option maxRecDepth 100000 in
theorem f_92_352 : xft 92 352 = some (.ldc 82) := by decide +kernel
set_option maxRecDepth 100000 in
theorem f_92_354 : xft 92 354 = some (.ireturn) := by decide +kernel
set_option maxRecDepth 100000 in
theorem f_92_355 : xft 92 355 = some (.astore 8) := by decide +kernel
set_option maxRecDepth 100000 in
theorem f_92_357 : xft 92 357 = some (.ldc 85) := by decide +kernel
set_option maxRecDepth 100000 in
theorem f_92_359 : xft 92 359 = some (.ireturn) := by decide +kernel
set_option maxRecDepth 100000 in
theorem f_93_0 : xft 93 0 = some (.bipush 10) := by decide +kernel
set_option maxRecDepth 100000 in
theorem f_93_2 : xft 93 2 = some (.aload_n 0) := by decide +kernel
set_option maxRecDepth 100000 in
theorem f_93_3 : xft 93 3 = some (.iload_n 3) := by decide +kernel
set_option maxRecDepth 100000 in
theorem f_93_4 : xft 93 4 = some (.iaload) := by decide +kernel
set_option maxRecDepth 100000 in
theorem f_93_5 : xft 93 5 = some (.bipush 16) := by decide +kernel
set_option maxRecDepth 100000 in
theorem f_93_7 : xft 93 7 = some (.idiv) := by decide +kernel
set_option maxRecDepth 100000 in
theorem f_93_8 : xft 93 8 = some (.bipush 16) := by decide +kernel
set_option maxRecDepth 100000 in
theorem f_93_10 : xft 93 10 = some (.irem) := by decide +kernel
set_option maxRecDepth 100000 in
theorem f_93_11 : xft 93 11 = some (.imul) := by decide +kernel
set_option maxRecDepth 100000 in
theorem f_93_12 : xft 93 12 = some (.aload_n 0) := by decide +kernel
set_option maxRecDepth 100000 in
theorem f_93_13 : xft 93 13 = some (.iload_n 3) := by decide +kernel
set_option maxRecDepth 100000 in
theorem f_93_14 : xft 93 14 = some (.iaload) := by decide +kernel
set_option maxRecDepth 100000 in
theorem f_93_15 : xft 93 15 = some (.sipush 256) := by decide +kernel
set_option maxRecDepth 100000 in
theorem f_93_18 : xft 93 18 = some (.idiv) := by decide +kernel
set_option maxRecDepth 100000 in
theorem f_93_19 : xft 93 19 = some (.bipush 16) := by decide +kernel
set_option maxRecDepth 100000 in
theorem f_93_21 : xft 93 21 = some (.irem) := by decide +kernel
set_option maxRecDepth 100000 in
theorem f_93_22 : xft 93 22 = some (.imul) := by decide +kernel
set_option maxRecDepth 100000 in
theorem f_93_23 : xft 93 23 = some (.istore 4) := by decide +kernel
set_option maxRecDepth 100000 in
theorem f_93_25 : xft 93 25 = some (.aload_n 2) := by decide +kernel
set_option maxRecDepth 100000 in
theorem f_93_26 : xft 93 26 = some (.iload_n 3) := by decide +kernel
set_option maxRecDepth 100000 in
theorem f_93_27 : xft 93 27 = some (.iaload) := by decide +kernel
set_option maxRecDepth 100000 in
theorem f_93_28 : xft 93 28 = some (.ifCond .ne 8) := by decide +kernel
set_option maxRecDepth 100000 in
theorem f_93_31 : xft 93 31 = some (.iload 4) := by decide +kernel
set_option maxRecDepth 100000 in
theorem f_93_33 : xft 93 33 = some (.goto 9) := by decide +kernel
set_option maxRecDepth 100000 in
theorem f_93_36 : xft 93 36 = some (.iload 4) := by decide +kernel
set_option maxRecDepth 100000 in
theorem f_93_38 : xft 93 38 = some (.iconst 3) := by decide +kernel
set_option maxRecDepth 100000 in
theorem f_93_39 : xft 93 39 = some (.imul) := by decide +kernel
set_option maxRecDepth 100000 in
theorem f_93_40 : xft 93 40 = some (.iconst 4) := by decide +kernel
set_option maxRecDepth 100000 in
theorem f_93_41 : xft 93 41 = some (.idiv) := by decide +kernel
set_option maxRecDepth 100000 in
theorem f_93_42 : xft 93 42 = some (.aload_n 1) := by decide +kernel
set_option maxRecDepth 100000 in
theorem f_93_43 : xft 93 43 = some (.iload_n 3) := by decide +kernel
set_option maxRecDepth 100000 in
theorem f_93_44 : xft 93 44 = some (.iaload) := by decide +kernel
set_option maxRecDepth 100000 in
theorem f_93_45 : xft 93 45 = some (.isub) := by decide +kernel
set_option maxRecDepth 100000 in
theorem f_93_46 : xft 93 46 = some (.istore 4) := by decide +kernel
set_option maxRecDepth 100000 in
theorem f_93_48 : xft 93 48 = some (.iload 4) := by decide +kernel
set_option maxRecDepth 100000 in
theorem f_93_50 : xft 93 50 = some (.ifCond .le 8) := by decide +kernel
set_option maxRecDepth 100000 in
theorem f_93_53 : xft 93 53 = some (.iload 4) := by decide +kernel
set_option maxRecDepth 100000 in
theorem f_93_55 : xft 93 55 = some (.goto 4) := by decide +kernel
set_option maxRecDepth 100000 in
theorem f_93_58 : xft 93 58 = some (.iconst 0) := by decide +kernel
set_option maxRecDepth 100000 in
theorem f_93_59 : xft 93 59 = some (.ireturn) := by decide +kernel
set_option maxRecDepth 100000 in
theorem f_94_0 : xft 94 0 = some (.sipush 1000) := by decide +kernel
set_option maxRecDepth 100000 in
theorem f_94_3 : xft 94 3 = some (.istore 4) := by decide +kernel
set_option maxRecDepth 100000 in
theorem f_94_5 : xft 94 5 = some (.iconst 0) := by decide +kernel
set_option maxRecDepth 100000 in
theorem f_94_6 : xft 94 6 = some (.istore 5) := by decide +kernel
set_option maxRecDepth 100000 in
theorem f_94_8 : xft 94 8 = some (.iload 5) := by decide +kernel
set_option maxRecDepth 100000 in
theorem f_94_10 : xft 94 10 = some (.aload_n 1) := by decide +kernel
set_option maxRecDepth 100000 in
theorem f_94_11 : xft 94 11 = some (.iconst 1) := by decide +kernel
set_option maxRecDepth 100000 in
theorem f_94_12 : xft 94 12 = some (.iaload) := by decide +kernel
set_option maxRecDepth 100000 in
theorem f_94_13 : xft 94 13 = some (.if_icmp .ge 107) := by decide +kernel
set_option maxRecDepth 100000 in
theorem f_94_16 : xft 94 16 = some (.aload_n 0) := by decide +kernel
set_option maxRecDepth 100000 in
theorem f_94_17 : xft 94 17 = some (.iload 5) := by decide +kernel
set_option maxRecDepth 100000 in
theorem f_94_19 : xft 94 19 = some (.iaload) := by decide +kernel
set_option maxRecDepth 100000 in
theorem f_94_20 : xft 94 20 = some (.iconst 1) := by decide +kernel
set_option maxRecDepth 100000 in
theorem f_94_21 : xft 94 21 = some (.isub) := by decide +kernel
set_option maxRecDepth 100000 in
theorem f_94_22 : xft 94 22 = some (.bipush 8) := by decide +kernel
set_option maxRecDepth 100000 in
theorem f_94_24 : xft 94 24 = some (.irem) := by decide +kernel
set_option maxRecDepth 100000 in
theorem f_94_25 : xft 94 25 = some (.istore 6) := by decide +kernel
set_option maxRecDepth 100000 in
theorem f_94_27 : xft 94 27 = some (.aload_n 0) := by decide +kernel
set_option maxRecDepth 100000 in
theorem f_94_28 : xft 94 28 = some (.iload 5) := by decide +kernel
set_option maxRecDepth 100000 in
theorem f_94_30 : xft 94 30 = some (.iaload) := by decide +kernel
set_option maxRecDepth 100000 in
theorem f_94_31 : xft 94 31 = some (.iconst 1) := by decide +kernel
set_option maxRecDepth 100000 in
theorem f_94_32 : xft 94 32 = some (.isub) := by decide +kernel
set_option maxRecDepth 100000 in
theorem f_94_33 : xft 94 33 = some (.bipush 8) := by decide +kernel
set_option maxRecDepth 100000 in
theorem f_94_35 : xft 94 35 = some (.idiv) := by decide +kernel
set_option maxRecDepth 100000 in
theorem f_94_36 : xft 94 36 = some (.bipush 8) := by decide +kernel
set_option maxRecDepth 100000 in
theorem f_94_38 : xft 94 38 = some (.irem) := by decide +kernel
set_option maxRecDepth 100000 in
theorem f_94_39 : xft 94 39 = some (.istore 7) := by decide +kernel
set_option maxRecDepth 100000 in
theorem f_94_41 : xft 94 41 = some (.aload_n 0) := by decide +kernel
set_option maxRecDepth 100000 in
theorem f_94_42 : xft 94 42 = some (.iload 5) := by decide +kernel
set_option maxRecDepth 100000 in
theorem f_94_44 : xft 94 44 = some (.iaload) := by decide +kernel
set_option maxRecDepth 100000 in
theorem f_94_45 : xft 94 45 = some (.ifCond .le 31) := by decide +kernel
set_option maxRecDepth 100000 in
theorem f_94_48 : xft 94 48 = some (.iload 6) := by decide +kernel
set_option maxRecDepth 100000 in
theorem f_94_50 : xft 94 50 = some (.iload_n 2) := by decide +kernel
set_option maxRecDepth 100000 in
theorem f_94_51 : xft 94 51 = some (.if_icmp .ne 9) := by decide +kernel
set_option maxRecDepth 100000 in
theorem f_94_54 : xft 94 54 = some (.iload 7) := by decide +kernel
set_option maxRecDepth 100000 in
theorem f_94_56 : xft 94 56 = some (.iload_n 3) := by decide +kernel
set_option maxRecDepth 100000 in
theorem f_94_57 : xft 94 57 = some (.if_icmp .eq 15) := by decide +kernel
set_option maxRecDepth 100000 in
theorem f_94_60 : xft 94 60 = some (.iload 6) := by decide +kernel
set_option maxRecDepth 100000 in
theorem f_94_62 : xft 94 62 = some (.iload_n 3) := by decide +kernel
set_option maxRecDepth 100000 in
theorem f_94_63 : xft 94 63 = some (.if_icmp .ne 13) := by decide +kernel
set_option maxRecDepth 100000 in
theorem f_94_66 : xft 94 66 = some (.iload 7) := by decide +kernel
set_option maxRecDepth 100000 in
theorem f_94_68 : xft 94 68 = some (.iload_n 2) := by decide +kernel
set_option maxRecDepth 100000 in
theorem f_94_69 : xft 94 69 = some (.if_icmp .ne 7) := by decide +kernel
set_option maxRecDepth 100000 in
theorem f_94_72 : xft 94 72 = some (.iconst 1) := by decide +kernel
set_option maxRecDepth 100000 in
theorem f_94_73 : xft 94 73 = some (.goto 4) := by decide +kernel
set_option maxRecDepth 100000 in
theorem f_94_76 : xft 94 76 = some (.iconst 0) := by decide +kernel
set_option maxRecDepth 100000 in
theorem f_94_77 : xft 94 77 = some (.istore 8) := by decide +kernel
set_option maxRecDepth 100000 in
theorem f_94_79 : xft 94 79 = some (.iload 8) := by decide +kernel
set_option maxRecDepth 100000 in
theorem f_94_81 : xft 94 81 = some (.ifCond .eq 29) := by decide +kernel
set_option maxRecDepth 100000 in
theorem f_94_84 : xft 94 84 = some (.aload_n 0) := by decide +kernel
set_option maxRecDepth 100000 in
theorem f_94_85 : xft 94 85 = some (.iload 5) := by decide +kernel
set_option maxRecDepth 100000 in
theorem f_94_87 : xft 94 87 = some (.iaload) := by decide +kernel
set_option maxRecDepth 100000 in
theorem f_94_88 : xft 94 88 = some (.iconst 1) := by decide +kernel
set_option maxRecDepth 100000 in
theorem f_94_89 : xft 94 89 = some (.isub) := by decide +kernel
set_option maxRecDepth 100000 in
theorem f_94_90 : xft 94 90 = some (.bipush 64) := by decide +kernel
set_option maxRecDepth 100000 in
theorem f_94_92 : xft 94 92 = some (.idiv) := by decide +kernel
set_option maxRecDepth 100000 in
theorem f_94_93 : xft 94 93 = some (.iload 4) := by decide +kernel
set_option maxRecDepth 100000 in
theorem f_94_95 : xft 94 95 = some (.if_icmp .ge 15) := by decide +kernel
set_option maxRecDepth 100000 in
theorem f_94_98 : xft 94 98 = some (.aload_n 0) := by decide +kernel
set_option maxRecDepth 100000 in
theorem f_94_99 : xft 94 99 = some (.iload 5) := by decide +kernel
set_option maxRecDepth 100000 in
theorem f_94_101 : xft 94 101 = some (.iaload) := by decide +kernel
set_option maxRecDepth 100000 in
theorem f_94_102 : xft 94 102 = some (.iconst 1) := by decide +kernel
set_option maxRecDepth 100000 in
theorem f_94_103 : xft 94 103 = some (.isub) := by decide +kernel
set_option maxRecDepth 100000 in
theorem f_94_104 : xft 94 104 = some (.bipush 64) := by decide +kernel
set_option maxRecDepth 100000 in
theorem f_94_106 : xft 94 106 = some (.idiv) := by decide +kernel
set_option maxRecDepth 100000 in
theorem f_94_107 : xft 94 107 = some (.goto 5) := by decide +kernel
set_option maxRecDepth 100000 in
theorem f_94_110 : xft 94 110 = some (.iload 4) := by decide +kernel
set_option maxRecDepth 100000 in
theorem f_94_112 : xft 94 112 = some (.istore 4) := by decide +kernel
set_option maxRecDepth 100000 in
theorem f_94_114 : xft 94 114 = some (.iinc 5 1) := by decide +kernel
set_option maxRecDepth 100000 in
theorem f_94_117 : xft 94 117 = some (.goto (-109)) := by decide +kernel
set_option maxRecDepth 100000 in
theorem f_94_120 : xft 94 120 = some (.iload 4) := by decide +kernel
set_option maxRecDepth 100000 in
theorem f_94_122 : xft 94 122 = some (.ireturn) := by decide +kernel
set_option maxRecDepth 100000 in
theorem f_100_0 : xft 100 0 = some (.bipush (-121)) := by decide +kernel
set_option maxRecDepth 100000 in
theorem f_100_2 : xft 100 2 = some (.istore 4) := by decide +kernel
set_option maxRecDepth 100000 in
theorem f_100_4 : xft 100 4 = some (.iload_n 3) := by decide +kernel
set_option maxRecDepth 100000 in
theorem f_100_5 : xft 100 5 = some (.istore 5) := by decide +kernel
set_option maxRecDepth 100000 in
theorem f_100_7 : xft 100 7 = some (.iload 5) := by decide +kernel
set_option maxRecDepth 100000 in
theorem f_100_9 : xft 100 9 = some (.ifCond .le 87) := by decide +kernel
set_option maxRecDepth 100000 in
theorem f_100_12 : xft 100 12 = some (.iconst 0) := by decide +kernel
set_option maxRecDepth 100000 in
theorem f_100_13 : xft 100 13 = some (.istore 6) := by decide +kernel
set_option maxRecDepth 100000 in
theorem f_100_15 : xft 100 15 = some (.iconst 0) := by decide +kernel
set_option maxRecDepth 100000 in
theorem f_100_16 : xft 100 16 = some (.istore 7) := by decide +kernel
set_option maxRecDepth 100000 in
theorem f_100_18 : xft 100 18 = some (.iload 7) := by decide +kernel
set_option maxRecDepth 100000 in
theorem f_100_20 : xft 100 20 = some (.bipush 7) := by decide +kernel
set_option maxRecDepth 100000 in
theorem f_100_22 : xft 100 22 = some (.if_icmp .ge 59) := by decide +kernel
set_option maxRecDepth 100000 in
theorem f_100_25 : xft 100 25 = some (.iload 6) := by decide +kernel
set_option maxRecDepth 100000 in
theorem f_100_27 : xft 100 27 = some (.aload_n 0) := by decide +kernel
set_option maxRecDepth 100000 in
theorem f_100_28 : xft 100 28 = some (.bipush 14) := by decide +kernel
set_option maxRecDepth 100000 in
theorem f_100_30 : xft 100 30 = some (.bipush 7) := by decide +kernel
set_option maxRecDepth 100000 in
theorem f_100_32 : xft 100 32 = some (.iload_n 2) := by decide +kernel
set_option maxRecDepth 100000 in
theorem f_100_33 : xft 100 33 = some (.imul) := by decide +kernel
set_option maxRecDepth 100000 in
theorem f_100_34 : xft 100 34 = some (.iadd) := by decide +kernel
set_option maxRecDepth 100000 in
theorem f_100_35 : xft 100 35 = some (.iload 7) := by decide +kernel
set_option maxRecDepth 100000 in
theorem f_100_37 : xft 100 37 = some (.iadd) := by decide +kernel
set_option maxRecDepth 100000 in
theorem f_100_38 : xft 100 38 = some (.iaload) := by decide +kernel
set_option maxRecDepth 100000 in
theorem f_100_39 : xft 100 39 = some (.aload_n 0) := by decide +kernel
set_option maxRecDepth 100000 in
theorem f_100_40 : xft 100 40 = some (.bipush 28) := by decide +kernel
set_option maxRecDepth 100000 in
theorem f_100_42 : xft 100 42 = some (.bipush 7) := by decide +kernel
set_option maxRecDepth 100000 in
theorem f_100_44 : xft 100 44 = some (.iload_n 2) := by decide +kernel
set_option maxRecDepth 100000 in
theorem f_100_45 : xft 100 45 = some (.imul) := by decide +kernel
set_option maxRecDepth 100000 in
theorem f_100_46 : xft 100 46 = some (.iadd) := by decide +kernel
set_option maxRecDepth 100000 in
theorem f_100_47 : xft 100 47 = some (.iload 7) := by decide +kernel
set_option maxRecDepth 100000 in
theorem f_100_49 : xft 100 49 = some (.iadd) := by decide +kernel
set_option maxRecDepth 100000 in
theorem f_100_50 : xft 100 50 = some (.iaload) := by decide +kernel
set_option maxRecDepth 100000 in
theorem f_100_51 : xft 100 51 = some (.isub) := by decide +kernel
set_option maxRecDepth 100000 in
theorem f_100_52 : xft 100 52 = some (.aload_n 0) := by decide +kernel
set_option maxRecDepth 100000 in
theorem f_100_53 : xft 100 53 = some (.bipush 7) := by decide +kernel
set_option maxRecDepth 100000 in
theorem f_100_55 : xft 100 55 = some (.iload_n 1) := by decide +kernel
set_option maxRecDepth 100000 in
theorem f_100_56 : xft 100 56 = some (.imul) := by decide +kernel
set_option maxRecDepth 100000 in
theorem f_100_57 : xft 100 57 = some (.iload 7) := by decide +kernel
set_option maxRecDepth 100000 in
theorem f_100_59 : xft 100 59 = some (.iadd) := by decide +kernel
set_option maxRecDepth 100000 in
theorem f_100_60 : xft 100 60 = some (.iaload) := by decide +kernel
set_option maxRecDepth 100000 in
theorem f_100_61 : xft 100 61 = some (.isub) := by decide +kernel
set_option maxRecDepth 100000 in
theorem f_100_62 : xft 100 62 = some (.iload 4) := by decide +kernel
set_option maxRecDepth 100000 in
theorem f_100_64 : xft 100 64 = some (.if_icmp .gt 7) := by decide +kernel
set_option maxRecDepth 100000 in
theorem f_100_67 : xft 100 67 = some (.iconst 1) := by decide +kernel
set_option maxRecDepth 100000 in
theorem f_100_68 : xft 100 68 = some (.goto 4) := by decide +kernel
set_option maxRecDepth 100000 in
theorem f_100_71 : xft 100 71 = some (.iconst 0) := by decide +kernel
set_option maxRecDepth 100000 in
theorem f_100_72 : xft 100 72 = some (.iadd) := by decide +kernel
set_option maxRecDepth 100000 in
theorem f_100_73 : xft 100 73 = some (.istore 6) := by decide +kernel
set_option maxRecDepth 100000 in
theorem f_100_75 : xft 100 75 = some (.iinc 7 1) := by decide +kernel
set_option maxRecDepth 100000 in
theorem f_100_78 : xft 100 78 = some (.goto (-60)) := by decide +kernel
set_option maxRecDepth 100000 in
theorem f_100_81 : xft 100 81 = some (.iload 5) := by decide +kernel
set_option maxRecDepth 100000 in
theorem f_100_83 : xft 100 83 = some (.iconst 4) := by decide +kernel
set_option maxRecDepth 100000 in
theorem f_100_84 : xft 100 84 = some (.iload 6) := by decide +kernel
set_option maxRecDepth 100000 in
theorem f_100_86 : xft 100 86 = some (.imul) := by decide +kernel
set_option maxRecDepth 100000 in
theorem f_100_87 : xft 100 87 = some (.isub) := by decide +kernel
set_option maxRecDepth 100000 in
theorem f_100_88 : xft 100 88 = some (.istore 5) := by decide +kernel
set_option maxRecDepth 100000 in
theorem f_100_90 : xft 100 90 = some (.iinc 4 1) := by decide +kernel
set_option maxRecDepth 100000 in
theorem f_100_93 : xft 100 93 = some (.goto (-86)) := by decide +kernel
set_option maxRecDepth 100000 in
theorem f_100_96 : xft 100 96 = some (.iload 4) := by decide +kernel
set_option maxRecDepth 100000 in
theorem f_100_98 : xft 100 98 = some (.ireturn) := by decide +kernel
set_option maxRecDepth 100000 in
theorem f_101_0 : xft 101 0 = some (.iload_n 3) := by decide +kernel
set_option maxRecDepth 100000 in
theorem f_101_1 : xft 101 1 = some (.aload_n 0) := by decide +kernel
set_option maxRecDepth 100000 in
theorem f_101_2 : xft 101 2 = some (.bipush 14) := by decide +kernel
set_option maxRecDepth 100000 in
theorem f_101_4 : xft 101 4 = some (.bipush 7) := by decide +kernel
set_option maxRecDepth 100000 in
theorem f_101_6 : xft 101 6 = some (.iload_n 2) := by decide +kernel
set_option maxRecDepth 100000 in
theorem f_101_7 : xft 101 7 = some (.imul) := by decide +kernel
set_option maxRecDepth 100000 in
theorem f_101_8 : xft 101 8 = some (.iadd) := by decide +kernel
set_option maxRecDepth 100000 in
theorem f_101_9 : xft 101 9 = some (.iload 4) := by decide +kernel
set_option maxRecDepth 100000 in
theorem f_101_11 : xft 101 11 = some (.iadd) := by decide +kernel
set_option maxRecDepth 100000 in
theorem f_101_12 : xft 101 12 = some (.iaload) := by decide +kernel
set_option maxRecDepth 100000 in
theorem f_101_13 : xft 101 13 = some (.aload_n 0) := by decide +kernel
set_option maxRecDepth 100000 in
theorem f_101_14 : xft 101 14 = some (.bipush 28) := by decide +kernel
set_option maxRecDepth 100000 in
theorem f_101_16 : xft 101 16 = some (.bipush 7) := by decide +kernel
set_option maxRecDepth 100000 in
theorem f_101_18 : xft 101 18 = some (.iload_n 2) := by decide +kernel
set_option maxRecDepth 100000 in
theorem f_101_19 : xft 101 19 = some (.imul) := by decide +kernel
set_option maxRecDepth 100000 in
theorem f_101_20 : xft 101 20 = some (.iadd) := by decide +kernel
set_option maxRecDepth 100000 in
theorem f_101_21 : xft 101 21 = some (.iload 4) := by decide +kernel
set_option maxRecDepth 100000 in
theorem f_101_23 : xft 101 23 = some (.iadd) := by decide +kernel
set_option maxRecDepth 100000 in
theorem f_101_24 : xft 101 24 = some (.iaload) := by decide +kernel
set_option maxRecDepth 100000 in
theorem f_101_25 : xft 101 25 = some (.isub) := by decide +kernel
set_option maxRecDepth 100000 in
theorem f_101_26 : xft 101 26 = some (.aload_n 0) := by decide +kernel
set_option maxRecDepth 100000 in
theorem f_101_27 : xft 101 27 = some (.bipush 7) := by decide +kernel
set_option maxRecDepth 100000 in
theorem f_101_29 : xft 101 29 = some (.iload_n 1) := by decide +kernel
set_option maxRecDepth 100000 in
theorem f_101_30 : xft 101 30 = some (.imul) := by decide +kernel
set_option maxRecDepth 100000 in
theorem f_101_31 : xft 101 31 = some (.iload 4) := by decide +kernel
set_option maxRecDepth 100000 in
theorem f_101_33 : xft 101 33 = some (.iadd) := by decide +kernel
set_option maxRecDepth 100000 in
theorem f_101_34 : xft 101 34 = some (.iaload) := by decide +kernel
set_option maxRecDepth 100000 in
theorem f_101_35 : xft 101 35 = some (.isub) := by decide +kernel
set_option maxRecDepth 100000 in
theorem f_101_36 : xft 101 36 = some (.isub) := by decide +kernel
set_option maxRecDepth 100000 in
theorem f_101_37 : xft 101 37 = some (.istore 5) := by decide +kernel
set_option maxRecDepth 100000 in
theorem f_101_39 : xft 101 39 = some (.iload 5) := by decide +kernel
set_option maxRecDepth 100000 in
theorem f_101_41 : xft 101 41 = some (.ifCond .ge 7) := by decide +kernel
set_option maxRecDepth 100000 in
theorem f_101_44 : xft 101 44 = some (.iconst 0) := by decide +kernel
set_option maxRecDepth 100000 in
theorem f_101_45 : xft 101 45 = some (.goto 7) := by decide +kernel
set_option maxRecDepth 100000 in
theorem f_101_48 : xft 101 48 = some (.iconst 4) := by decide +kernel
set_option maxRecDepth 100000 in
theorem f_101_49 : xft 101 49 = some (.iload 5) := by decide +kernel
set_option maxRecDepth 100000 in
theorem f_101_51 : xft 101 51 = some (.imul) := by decide +kernel
set_option maxRecDepth 100000 in
theorem f_101_52 : xft 101 52 = some (.ireturn) := by decide +kernel
set_option maxRecDepth 100000 in
theorem f_102_0 : xft 102 0 = some (.iconst 0) := by decide +kernel
set_option maxRecDepth 100000 in
theorem f_102_1 : xft 102 1 = some (.istore_n 2) := by decide +kernel
set_option maxRecDepth 100000 in
theorem f_102_2 : xft 102 2 = some (.iconst 0) := by decide +kernel
set_option maxRecDepth 100000 in
theorem f_102_3 : xft 102 3 = some (.istore_n 3) := by decide +kernel
set_option maxRecDepth 100000 in
theorem f_102_4 : xft 102 4 = some (.iload_n 3) := by decide +kernel
set_option maxRecDepth 100000 in
theorem f_102_5 : xft 102 5 = some (.bipush 7) := by decide +kernel
set_option maxRecDepth 100000 in
theorem f_102_7 : xft 102 7 = some (.if_icmp .ge 35) := by decide +kernel
set_option maxRecDepth 100000 in
theorem f_102_10 : xft 102 10 = some (.iload_n 2) := by decide +kernel
set_option maxRecDepth 100000 in
theorem f_102_11 : xft 102 11 = some (.ifCond .ne 19) := by decide +kernel
set_option maxRecDepth 100000 in
theorem f_102_14 : xft 102 14 = some (.aload_n 0) := by decide +kernel
set_option maxRecDepth 100000 in
theorem f_102_15 : xft 102 15 = some (.bipush 42) := by decide +kernel
set_option maxRecDepth 100000 in
theorem f_102_17 : xft 102 17 = some (.bipush 7) := by decide +kernel
set_option maxRecDepth 100000 in
theorem f_102_19 : xft 102 19 = some (.iload_n 1) := by decide +kernel
set_option maxRecDepth 100000 in
theorem f_102_20 : xft 102 20 = some (.imul) := by decide +kernel
set_option maxRecDepth 100000 in
theorem f_102_21 : xft 102 21 = some (.iadd) := by decide +kernel
set_option maxRecDepth 100000 in
theorem f_102_22 : xft 102 22 = some (.iload_n 3) := by decide +kernel
set_option maxRecDepth 100000 in
theorem f_102_23 : xft 102 23 = some (.iadd) := by decide +kernel
set_option maxRecDepth 100000 in
theorem f_102_24 : xft 102 24 = some (.iaload) := by decide +kernel
set_option maxRecDepth 100000 in
theorem f_102_25 : xft 102 25 = some (.bipush 99) := by decide +kernel
set_option maxRecDepth 100000 in
theorem f_102_27 : xft 102 27 = some (.if_icmp .le 7) := by decide +kernel
set_option maxRecDepth 100000 in
theorem f_102_30 : xft 102 30 = some (.iconst 1) := by decide +kernel
set_option maxRecDepth 100000 in
theorem f_102_31 : xft 102 31 = some (.goto 4) := by decide +kernel
set_option maxRecDepth 100000 in
theorem f_102_34 : xft 102 34 = some (.iconst 0) := by decide +kernel
set_option maxRecDepth 100000 in
theorem f_102_35 : xft 102 35 = some (.istore_n 2) := by decide +kernel
set_option maxRecDepth 100000 in
theorem f_102_36 : xft 102 36 = some (.iinc 3 1) := by decide +kernel
set_option maxRecDepth 100000 in
theorem f_102_39 : xft 102 39 = some (.goto (-35)) := by decide +kernel
set_option maxRecDepth 100000 in
theorem f_102_42 : xft 102 42 = some (.iload_n 2) := by decide +kernel
set_option maxRecDepth 100000 in
theorem f_102_43 : xft 102 43 = some (.ireturn) := by decide +kernel
set_option maxRecDepth 100000 in
theorem f_103_0 : xft 103 0 = some (.iconst 0) := by decide +kernel
set_option maxRecDepth 100000 in
theorem f_103_1 : xft 103 1 = some (.istore_n 1) := by decide +kernel
set_option maxRecDepth 100000 in
theorem f_103_2 : xft 103 2 = some (.iconst 0) := by decide +kernel
set_option maxRecDepth 100000 in
theorem f_103_3 : xft 103 3 = some (.istore_n 2) := by decide +kernel
set_option maxRecDepth 100000 in
theorem f_103_4 : xft 103 4 = some (.iload_n 2) := by decide +kernel
set_option maxRecDepth 100000 in
theorem f_103_5 : xft 103 5 = some (.bipush 30) := by decide +kernel
set_option maxRecDepth 100000 in
theorem f_103_7 : xft 103 7 = some (.if_icmp .ge 17) := by decide +kernel
set_option maxRecDepth 100000 in
theorem f_103_10 : xft 103 10 = some (.iload_n 1) := by decide +kernel
set_option maxRecDepth 100000 in
theorem f_103_11 : xft 103 11 = some (.iload_n 0) := by decide +kernel
set_option maxRecDepth 100000 in
theorem f_103_12 : xft 103 12 = some (.iload_n 2) := by decide +kernel
set_option maxRecDepth 100000 in
theorem f_103_13 : xft 103 13 = some (.ishr) := by decide +kernel
set_option maxRecDepth 100000 in
theorem f_103_14 : xft 103 14 = some (.iconst 1) := by decide +kernel
set_option maxRecDepth 100000 in
theorem f_103_15 : xft 103 15 = some (.iand) := by decide +kernel
set_option maxRecDepth 100000 in
theorem f_103_16 : xft 103 16 = some (.iadd) := by decide +kernel
set_option maxRecDepth 100000 in
theorem f_103_17 : xft 103 17 = some (.istore_n 1) := by decide +kernel
set_option maxRecDepth 100000 in
theorem f_103_18 : xft 103 18 = some (.iinc 2 1) := by decide +kernel
set_option maxRecDepth 100000 in
theorem f_103_21 : xft 103 21 = some (.goto (-17)) := by decide +kernel
set_option maxRecDepth 100000 in
theorem f_103_24 : xft 103 24 = some (.iload_n 1) := by decide +kernel
set_option maxRecDepth 100000 in
theorem f_103_25 : xft 103 25 = some (.ireturn) := by decide +kernel
set_option maxRecDepth 100000 in
theorem f_105_0 : xft 105 0 = some (.iload 6) := by decide +kernel
set_option maxRecDepth 100000 in
theorem f_105_2 : xft 105 2 = some (.ifCond .eq 12) := by decide +kernel
set_option maxRecDepth 100000 in
theorem f_105_5 : xft 105 5 = some (.iload_n 3) := by decide +kernel
set_option maxRecDepth 100000 in
theorem f_105_6 : xft 105 6 = some (.iload 5) := by decide +kernel
set_option maxRecDepth 100000 in
theorem f_105_8 : xft 105 8 = some (.iadd) := by decide +kernel
set_option maxRecDepth 100000 in
theorem f_105_9 : xft 105 9 = some (.bipush 6) := by decide +kernel
set_option maxRecDepth 100000 in
theorem f_105_11 : xft 105 11 = some (.if_icmp .ge 7) := by decide +kernel
set_option maxRecDepth 100000 in
theorem f_105_14 : xft 105 14 = some (.iconst 1) := by decide +kernel
set_option maxRecDepth 100000 in
theorem f_105_15 : xft 105 15 = some (.goto 4) := by decide +kernel
set_option maxRecDepth 100000 in
theorem f_105_18 : xft 105 18 = some (.iconst 0) := by decide +kernel
set_option maxRecDepth 100000 in
theorem f_105_19 : xft 105 19 = some (.istore 7) := by decide +kernel
set_option maxRecDepth 100000 in
theorem f_105_21 : xft 105 21 = some (.iconst 0) := by decide +kernel
set_option maxRecDepth 100000 in
theorem f_105_22 : xft 105 22 = some (.istore 8) := by decide +kernel
set_option maxRecDepth 100000 in
theorem f_105_24 : xft 105 24 = some (.iload 8) := by decide +kernel
set_option maxRecDepth 100000 in
theorem f_105_26 : xft 105 26 = some (.iload 4) := by decide +kernel
set_option maxRecDepth 100000 in
theorem f_105_28 : xft 105 28 = some (.iload 5) := by decide +kernel
set_option maxRecDepth 100000 in
theorem f_105_30 : xft 105 30 = some (.imul) := by decide +kernel
set_option maxRecDepth 100000 in
theorem f_105_31 : xft 105 31 = some (.if_icmp .ge 50) := by decide +kernel
set_option maxRecDepth 100000 in
theorem f_105_34 : xft 105 34 = some (.iload 7) := by decide +kernel
set_option maxRecDepth 100000 in
theorem f_105_36 : xft 105 36 = some (.ifCond .eq 36) := by decide +kernel
set_option maxRecDepth 100000 in
theorem f_105_39 : xft 105 39 = some (.aload_n 0) := by decide +kernel
set_option maxRecDepth 100000 in
theorem f_105_40 : xft 105 40 = some (.iconst 2) := by decide +kernel
set_option maxRecDepth 100000 in
theorem f_105_41 : xft 105 41 = some (.bipush 8) := by decide +kernel
set_option maxRecDepth 100000 in
theorem f_105_43 : xft 105 43 = some (.iload_n 1) := by decide +kernel
set_option maxRecDepth 100000 in
theorem f_105_44 : xft 105 44 = some (.imul) := by decide +kernel
set_option maxRecDepth 100000 in
theorem f_105_45 : xft 105 45 = some (.iadd) := by decide +kernel
set_option maxRecDepth 100000 in
theorem f_105_46 : xft 105 46 = some (.iload_n 3) := by decide +kernel
set_option maxRecDepth 100000 in
theorem f_105_47 : xft 105 47 = some (.iadd) := by decide +kernel
set_option maxRecDepth 100000 in
theorem f_105_48 : xft 105 48 = some (.iload 8) := by decide +kernel
set_option maxRecDepth 100000 in
theorem f_105_50 : xft 105 50 = some (.iload 4) := by decide +kernel
set_option maxRecDepth 100000 in
theorem f_105_52 : xft 105 52 = some (.idiv) := by decide +kernel
set_option maxRecDepth 100000 in
theorem f_105_53 : xft 105 53 = some (.iadd) := by decide +kernel
set_option maxRecDepth 100000 in
theorem f_105_54 : xft 105 54 = some (.iaload) := by decide +kernel
set_option maxRecDepth 100000 in
theorem f_105_55 : xft 105 55 = some (.iload_n 2) := by decide +kernel
set_option maxRecDepth 100000 in
theorem f_105_56 : xft 105 56 = some (.iload 8) := by decide +kernel
set_option maxRecDepth 100000 in
theorem f_105_58 : xft 105 58 = some (.iload 4) := by decide +kernel
set_option maxRecDepth 100000 in
theorem f_105_60 : xft 105 60 = some (.irem) := by decide +kernel
set_option maxRecDepth 100000 in
theorem f_105_61 : xft 105 61 = some (.iadd) := by decide +kernel
set_option maxRecDepth 100000 in
theorem f_105_62 : xft 105 62 = some (.ishr) := by decide +kernel
set_option maxRecDepth 100000 in
theorem f_105_63 : xft 105 63 = some (.iconst 1) := by decide +kernel
set_option maxRecDepth 100000 in
theorem f_105_64 : xft 105 64 = some (.iand) := by decide +kernel
set_option maxRecDepth 100000 in
theorem f_105_65 : xft 105 65 = some (.ifCond .ne 7) := by decide +kernel
set_option maxRecDepth 100000 in
theorem f_105_68 : xft 105 68 = some (.iconst 1) := by decide +kernel
set_option maxRecDepth 100000 in
theorem f_105_69 : xft 105 69 = some (.goto 4) := by decide +kernel
set_option maxRecDepth 100000 in
theorem f_105_72 : xft 105 72 = some (.iconst 0) := by decide +kernel
set_option maxRecDepth 100000 in
theorem f_105_73 : xft 105 73 = some (.istore 7) := by decide +kernel
set_option maxRecDepth 100000 in
theorem f_105_75 : xft 105 75 = some (.iinc 8 1) := by decide +kernel
set_option maxRecDepth 100000 in
theorem f_105_78 : xft 105 78 = some (.goto (-54)) := by decide +kernel
set_option maxRecDepth 100000 in
theorem f_105_81 : xft 105 81 = some (.iload 7) := by decide +kernel
set_option maxRecDepth 100000 in
theorem f_105_83 : xft 105 83 = some (.ireturn) := by decide +kernel
/-! blocks, by program (gen2.py) -/
section BLK
variable {sc : xS} {d : Nat} {T : Nat → Nat × Nat} {z : Nat × Nat} {V : Nat → Nat → Int} {J : Nat → Nat → Int64} {R : Nat → Nat → Option Nat}
theorem eL_part {x1 x2 : Int} : X sc (d + 1) 91 [.retAddr 0, xw x1, xw x2] (T, z, xv V, J, R) = XR sc d 91 0 [some (.retAddr 0), some (xw x1), some (xw x2), none] [] (T, z, xv V, J, R) :=
  (X_eq ⟨jl_91, by rw [mn_91]; rfl, rfl, by rw [lm_91]; exact Nat.le_of_ble_eq_true rfl⟩).trans (by unfold xent; rw [lm_91]; rfl)
theorem bL_part_0 {o2 o3 : Option Value} {x1 : Int} (g1 : -2147483648 ≤ x1 ∧ x1 ≤ 2147483647) (g2 : -2147483648 ≤ (sc.1 : Int) ∧ (sc.1 : Int) ≤ 2147483647) : XR sc d 91 0 [some (.retAddr 0), some (xw x1), o2, o3] [] (T, z, xv V, J, R) = if (sc.1 : Int) ≤ x1 then XR sc d 91 12 [some (.retAddr 0), some (xw x1), o2, o3] [] (T, z, xv V, J, R) else XR sc d 91 6 [some (.retAddr 0), some (xw x1), o2, o3] [] (T, z, xv V, J, R) :=
  (sw_iload_n f_91_0 rfl).trans ((st_aload_nS f_91_1 rfl).trans ((sw_alenS f_91_2).trans (sw_icmp_ge (t := 12) f_91_3 ⟨by decide, rfl⟩ g1 g2)))
theorem bL_part_6 {o2 o3 : Option Value} {x1 : Int} (g1 : (0 : Int) ≤ x1 ∧ x1 < (sc.1 : Int) ∧ sc.1 ≤ 3584) : XR sc d 91 6 [some (.retAddr 0), some (xw x1), o2, o3] [] (T, z, xv V, J, R) = XR sc d 91 25 [some (.retAddr 0), some (xw x1), o2, o3] [xw ((sc.2 x1.toNat).toInt)] (T, z, xv V, J, R) :=
  (st_aload_nS f_91_6 rfl).trans ((sw_iload_n f_91_7 rfl).trans ((sw_ialoadS f_91_8 g1).trans (st_goto (t := 25) f_91_9 ⟨by decide, rfl⟩)))
theorem bL_part_12 {o0 o2 o3 : Option Value} {x1 : Int} : XR sc d 91 12 [o0, some (xw x1), o2, o3] [] (T, z, xv V, J, R) = XR sc d 91 25 [o0, some (xw x1), o2, o3] [xw ((1031 * x1) + ((911 * x1) * x1))] (T, z, xv V, J, R) :=
  (sw_sipush f_91_12 c16_1031).trans ((sw_iload_n f_91_15 rfl).trans ((sw_imul f_91_16).trans ((sw_sipush f_91_17 c16_911).trans ((sw_iload_n f_91_20 rfl).trans ((sw_imul f_91_21).trans ((sw_iload_n f_91_22 rfl).trans ((sw_imul f_91_23).trans (sw_iadd f_91_24))))))))
theorem bL_part_25 {o0 o1 o3 : Option Value} {y0 x2 : Int} (g1 : 0 < x2 ∧ x2 ≤ 2147483647 ∧ 0 ≤ (iAnd y0 2147483647) ∧ (iAnd y0 2147483647) ≤ 2147483647) : XR sc d 91 25 [o0, o1, some (xw x2), o3] [xw y0] (T, z, xv V, J, R) = some (.inl (some (xw ((iAnd y0 2147483647) % x2))), (T, z, xv V, J, R)) :=
  (sw_istore_n (L' := [o0, o1, some (xw x2), some (xw y0)]) f_91_25 (Nat.le_of_ble_eq_true rfl) rfl).trans ((sw_iload_n f_91_26 rfl).trans ((sw_ldc 2147483647 f_91_27 k_91_7 rfl).trans ((sw_iand f_91_29).trans ((sw_iload_n f_91_30 rfl).trans ((sw_irem f_91_31 g1).trans (sw_ireturn f_91_32 mr_91))))))
theorem eL_does {x1 x2 x3 x4 x5 x6 x7 : Int} {a0 : Nat} : X sc (d + 1) 92 [.ref a0, xw x1, xw x2, xw x3, xw x4, xw x5, xw x6, xw x7] (T, z, xv V, J, R) = XR sc d 92 0 [some (.ref a0), some (xw x1), some (xw x2), some (xw x3), some (xw x4), some (xw x5), some (xw x6), some (xw x7), none] [] (T, z, xv V, J, R) :=
  (X_eq ⟨jl_92, by rw [mn_92]; rfl, rfl, by rw [lm_92]; exact Nat.le_of_ble_eq_true rfl⟩).trans (by unfold xent; rw [lm_92]; rfl)
theorem bL_does_0 {o0 o2 o3 o4 o5 o6 o7 o8 : Option Value} {x1 : Int} (g1 : -2147483648 ≤ x1 ∧ x1 ≤ 2147483647) : XR sc d 92 0 [o0, some (xw x1), o2, o3, o4, o5, o6, o7, o8] [] (T, z, xv V, J, R) = if x1 = 0 then XR sc d 92 4 [o0, some (xw x1), o2, o3, o4, o5, o6, o7, o8] [] (T, z, xv V, J, R) else XR sc d 92 12 [o0, some (xw x1), o2, o3, o4, o5, o6, o7, o8] [] (T, z, xv V, J, R) :=
  (sw_iload_n f_92_0 rfl).trans (sw_if_ne (t := 12) f_92_1 ⟨by decide, rfl⟩ g1)
theorem bL_does_4 {o1 o3 o4 o5 o6 o7 o8 : Option Value} {x2 : Int} {a0 : Nat} (g1 : T a0 = (7, 0)) : XR sc d 92 4 [some (.ref a0), o1, some (xw x2), o3, o4, o5, o6, o7, o8] [] (T, z, xv V, J, R) = xret 92 (XR sc d 92) 6 9 [some (.ref a0), o1, some (xw x2), o3, o4, o5, o6, o7, o8] [] (X sc d 50 [.ref a0, xw x2] (T, z, xv V, J, R)) :=
  (st_aload_n f_92_4 rfl).trans ((sw_iload_n f_92_5 rfl).trans (st_callV' f_92_6 h_92_8 mn_50 rfl rfl rfl rfl mo_50 g1 rfl))
theorem bL_does_9 {o0 o1 o2 o3 o4 o5 o6 o7 o8 : Option Value} {s0 : Value} : XR sc d 92 9 [o0, o1, o2, o3, o4, o5, o6, o7, o8] [s0] (T, z, xv V, J, R) = XR sc d 92 344 [o0, o1, o2, o3, o4, o5, o6, o7, o8] [s0] (T, z, xv V, J, R) :=
  st_goto (t := 344) f_92_9 ⟨by decide, rfl⟩
theorem bL_does_12 {o0 o2 o3 o4 o5 o6 o7 o8 : Option Value} {x1 : Int} (g1 : -2147483648 ≤ x1 ∧ x1 ≤ 2147483647) : XR sc d 92 12 [o0, some (xw x1), o2, o3, o4, o5, o6, o7, o8] [] (T, z, xv V, J, R) = if x1 = 1 then XR sc d 92 17 [o0, some (xw x1), o2, o3, o4, o5, o6, o7, o8] [] (T, z, xv V, J, R) else XR sc d 92 28 [o0, some (xw x1), o2, o3, o4, o5, o6, o7, o8] [] (T, z, xv V, J, R) :=
  (sw_iload_n f_92_12 rfl).trans ((sw_iconst f_92_13).trans (sw_icmp_ne (t := 28) f_92_14 ⟨by decide, rfl⟩ g1 ⟨by decide, by decide⟩))
theorem bL_does_17 {o1 o5 o6 o7 o8 : Option Value} {x2 x3 x4 : Int} {a0 : Nat} (g1 : T a0 = (7, 0)) : XR sc d 92 17 [some (.ref a0), o1, some (xw x2), some (xw x3), some (xw x4), o5, o6, o7, o8] [] (T, z, xv V, J, R) = xret 92 (XR sc d 92) 22 25 [some (.ref a0), o1, some (xw x2), some (xw x3), some (xw x4), o5, o6, o7, o8] [] (X sc d 51 [.ref a0, xw x2, xw x3, xw x4] (T, z, xv V, J, R)) :=
  (st_aload_n f_92_17 rfl).trans ((sw_iload_n f_92_18 rfl).trans ((sw_iload_n f_92_19 rfl).trans ((sw_iload f_92_20 rfl).trans (st_callV' f_92_22 h_92_14 mn_51 rfl rfl rfl rfl mo_51 g1 rfl))))
theorem bL_does_25 {o0 o1 o2 o3 o4 o5 o6 o7 o8 : Option Value} {s0 : Value} : XR sc d 92 25 [o0, o1, o2, o3, o4, o5, o6, o7, o8] [s0] (T, z, xv V, J, R) = XR sc d 92 344 [o0, o1, o2, o3, o4, o5, o6, o7, o8] [s0] (T, z, xv V, J, R) :=
  st_goto (t := 344) f_92_25 ⟨by decide, rfl⟩
theorem bL_does_28 {o0 o2 o3 o4 o5 o6 o7 o8 : Option Value} {x1 : Int} (g1 : -2147483648 ≤ x1 ∧ x1 ≤ 2147483647) : XR sc d 92 28 [o0, some (xw x1), o2, o3, o4, o5, o6, o7, o8] [] (T, z, xv V, J, R) = if x1 = 2 then XR sc d 92 33 [o0, some (xw x1), o2, o3, o4, o5, o6, o7, o8] [] (T, z, xv V, J, R) else XR sc d 92 59 [o0, some (xw x1), o2, o3, o4, o5, o6, o7, o8] [] (T, z, xv V, J, R) :=
  (sw_iload_n f_92_28 rfl).trans ((sw_iconst f_92_29).trans (sw_icmp_ne (t := 59) f_92_30 ⟨by decide, rfl⟩ g1 ⟨by decide, by decide⟩))
theorem bL_does_33 {o1 o8 : Option Value} {x2 x3 x4 x5 x6 x7 : Int} {a0 : Nat} (g1 : -2147483648 ≤ x7 ∧ x7 ≤ 2147483647) : XR sc d 92 33 [some (.ref a0), o1, some (xw x2), some (xw x3), some (xw x4), some (xw x5), some (xw x6), some (xw x7), o8] [] (T, z, xv V, J, R) = if x7 = 1 then XR sc d 92 48 [some (.ref a0), o1, some (xw x2), some (xw x3), some (xw x4), some (xw x5), some (xw x6), some (xw x7), o8] [xw x6, xw x5, xw x4, xw x3, xw x2, .ref a0] (T, z, xv V, J, R) else XR sc d 92 52 [some (.ref a0), o1, some (xw x2), some (xw x3), some (xw x4), some (xw x5), some (xw x6), some (xw x7), o8] [xw x6, xw x5, xw x4, xw x3, xw x2, .ref a0] (T, z, xv V, J, R) :=
  (st_aload_n f_92_33 rfl).trans ((sw_iload_n f_92_34 rfl).trans ((sw_iload_n f_92_35 rfl).trans ((sw_iload f_92_36 rfl).trans ((sw_iload f_92_38 rfl).trans ((sw_iload f_92_40 rfl).trans ((sw_iload f_92_42 rfl).trans ((sw_iconst f_92_44).trans (sw_icmp_ne (t := 52) f_92_45 ⟨by decide, rfl⟩ g1 ⟨by decide, by decide⟩))))))))
theorem bL_does_48 {o0 o1 o2 o3 o4 o5 o6 o7 o8 : Option Value} {s0 s1 s2 s3 s4 s5 : Value} : XR sc d 92 48 [o0, o1, o2, o3, o4, o5, o6, o7, o8] [s0, s1, s2, s3, s4, s5] (T, z, xv V, J, R) = XR sc d 92 53 [o0, o1, o2, o3, o4, o5, o6, o7, o8] [xw 1, s0, s1, s2, s3, s4, s5] (T, z, xv V, J, R) :=
  (sw_iconst f_92_48).trans (st_goto (t := 53) f_92_49 ⟨by decide, rfl⟩)
theorem bL_does_52 {o0 o1 o2 o3 o4 o5 o6 o7 o8 : Option Value} {s0 s1 s2 s3 s4 s5 : Value} : XR sc d 92 52 [o0, o1, o2, o3, o4, o5, o6, o7, o8] [s0, s1, s2, s3, s4, s5] (T, z, xv V, J, R) = XR sc d 92 53 [o0, o1, o2, o3, o4, o5, o6, o7, o8] [xw 0, s0, s1, s2, s3, s4, s5] (T, z, xv V, J, R) :=
  sw_iconst f_92_52
theorem bL_does_53 {o0 o1 o2 o3 o4 o5 o6 o7 o8 : Option Value} {y0 y1 y2 y3 y4 y5 : Int} {b6 : Nat} (g1 : T b6 = (7, 0)) : XR sc d 92 53 [o0, o1, o2, o3, o4, o5, o6, o7, o8] [xw y0, xw y1, xw y2, xw y3, xw y4, xw y5, .ref b6] (T, z, xv V, J, R) = xret 92 (XR sc d 92) 53 56 [o0, o1, o2, o3, o4, o5, o6, o7, o8] [] (X sc d 52 [.ref b6, xw y5, xw y4, xw y3, xw y2, xw y1, xw y0] (T, z, xv V, J, R)) :=
  st_callV' f_92_53 h_92_18 mn_52 rfl rfl rfl rfl mo_52 g1 rfl
theorem bL_does_56 {o0 o1 o2 o3 o4 o5 o6 o7 o8 : Option Value} {s0 : Value} : XR sc d 92 56 [o0, o1, o2, o3, o4, o5, o6, o7, o8] [s0] (T, z, xv V, J, R) = XR sc d 92 344 [o0, o1, o2, o3, o4, o5, o6, o7, o8] [s0] (T, z, xv V, J, R) :=
  st_goto (t := 344) f_92_56 ⟨by decide, rfl⟩
theorem bL_does_59 {o0 o2 o3 o4 o5 o6 o7 o8 : Option Value} {x1 : Int} (g1 : -2147483648 ≤ x1 ∧ x1 ≤ 2147483647) : XR sc d 92 59 [o0, some (xw x1), o2, o3, o4, o5, o6, o7, o8] [] (T, z, xv V, J, R) = if x1 = 3 then XR sc d 92 64 [o0, some (xw x1), o2, o3, o4, o5, o6, o7, o8] [] (T, z, xv V, J, R) else XR sc d 92 88 [o0, some (xw x1), o2, o3, o4, o5, o6, o7, o8] [] (T, z, xv V, J, R) :=
  (sw_iload_n f_92_59 rfl).trans ((sw_iconst f_92_60).trans (sw_icmp_ne (t := 88) f_92_61 ⟨by decide, rfl⟩ g1 ⟨by decide, by decide⟩))
theorem bL_does_64 {o1 o6 o7 o8 : Option Value} {x2 x3 x4 x5 : Int} {a0 : Nat} (g1 : -2147483648 ≤ x5 ∧ x5 ≤ 2147483647) : XR sc d 92 64 [some (.ref a0), o1, some (xw x2), some (xw x3), some (xw x4), some (xw x5), o6, o7, o8] [] (T, z, xv V, J, R) = if x5 = 1 then XR sc d 92 75 [some (.ref a0), o1, some (xw x2), some (xw x3), some (xw x4), some (xw x5), o6, o7, o8] [xw x4, xw x3, xw x2, .ref a0] (T, z, xv V, J, R) else XR sc d 92 79 [some (.ref a0), o1, some (xw x2), some (xw x3), some (xw x4), some (xw x5), o6, o7, o8] [xw x4, xw x3, xw x2, .ref a0] (T, z, xv V, J, R) :=
  (st_aload_n f_92_64 rfl).trans ((sw_iload_n f_92_65 rfl).trans ((sw_iload_n f_92_66 rfl).trans ((sw_iload f_92_67 rfl).trans ((sw_iload f_92_69 rfl).trans ((sw_iconst f_92_71).trans (sw_icmp_ne (t := 79) f_92_72 ⟨by decide, rfl⟩ g1 ⟨by decide, by decide⟩))))))
theorem bL_does_75 {o0 o1 o2 o3 o4 o5 o6 o7 o8 : Option Value} {s0 s1 s2 s3 : Value} : XR sc d 92 75 [o0, o1, o2, o3, o4, o5, o6, o7, o8] [s0, s1, s2, s3] (T, z, xv V, J, R) = XR sc d 92 80 [o0, o1, o2, o3, o4, o5, o6, o7, o8] [xw 1, s0, s1, s2, s3] (T, z, xv V, J, R) :=
  (sw_iconst f_92_75).trans (st_goto (t := 80) f_92_76 ⟨by decide, rfl⟩)
theorem bL_does_79 {o0 o1 o2 o3 o4 o5 o6 o7 o8 : Option Value} {s0 s1 s2 s3 : Value} : XR sc d 92 79 [o0, o1, o2, o3, o4, o5, o6, o7, o8] [s0, s1, s2, s3] (T, z, xv V, J, R) = XR sc d 92 80 [o0, o1, o2, o3, o4, o5, o6, o7, o8] [xw 0, s0, s1, s2, s3] (T, z, xv V, J, R) :=
  sw_iconst f_92_79
theorem bL_does_80 {o0 o1 o2 o3 o4 o5 o7 o8 : Option Value} {x6 y0 y1 y2 y3 : Int} {b4 : Nat} (g1 : T b4 = (7, 0)) : XR sc d 92 80 [o0, o1, o2, o3, o4, o5, some (xw x6), o7, o8] [xw y0, xw y1, xw y2, xw y3, .ref b4] (T, z, xv V, J, R) = xret 92 (XR sc d 92) 82 85 [o0, o1, o2, o3, o4, o5, some (xw x6), o7, o8] [] (X sc d 53 [.ref b4, xw y3, xw y2, xw y1, xw y0, xw x6] (T, z, xv V, J, R)) :=
  (sw_iload f_92_80 rfl).trans (st_callV' f_92_82 h_92_22 mn_53 rfl rfl rfl rfl mo_53 g1 rfl)
theorem bL_does_85 {o0 o1 o2 o3 o4 o5 o6 o7 o8 : Option Value} {s0 : Value} : XR sc d 92 85 [o0, o1, o2, o3, o4, o5, o6, o7, o8] [s0] (T, z, xv V, J, R) = XR sc d 92 344 [o0, o1, o2, o3, o4, o5, o6, o7, o8] [s0] (T, z, xv V, J, R) :=
  st_goto (t := 344) f_92_85 ⟨by decide, rfl⟩
theorem bL_does_88 {o0 o2 o3 o4 o5 o6 o7 o8 : Option Value} {x1 : Int} (g1 : -2147483648 ≤ x1 ∧ x1 ≤ 2147483647) : XR sc d 92 88 [o0, some (xw x1), o2, o3, o4, o5, o6, o7, o8] [] (T, z, xv V, J, R) = if x1 = 4 then XR sc d 92 93 [o0, some (xw x1), o2, o3, o4, o5, o6, o7, o8] [] (T, z, xv V, J, R) else XR sc d 92 102 [o0, some (xw x1), o2, o3, o4, o5, o6, o7, o8] [] (T, z, xv V, J, R) :=
  (sw_iload_n f_92_88 rfl).trans ((sw_iconst f_92_89).trans (sw_icmp_ne (t := 102) f_92_90 ⟨by decide, rfl⟩ g1 ⟨by decide, by decide⟩))
theorem bL_does_93 {o1 o4 o5 o6 o7 o8 : Option Value} {x2 x3 : Int} {a0 : Nat} (g1 : T a0 = (7, 0)) : XR sc d 92 93 [some (.ref a0), o1, some (xw x2), some (xw x3), o4, o5, o6, o7, o8] [] (T, z, xv V, J, R) = xret 92 (XR sc d 92) 96 99 [some (.ref a0), o1, some (xw x2), some (xw x3), o4, o5, o6, o7, o8] [] (X sc d 54 [.ref a0, xw x2, xw x3] (T, z, xv V, J, R)) :=
  (st_aload_n f_92_93 rfl).trans ((sw_iload_n f_92_94 rfl).trans ((sw_iload_n f_92_95 rfl).trans (st_callV' f_92_96 h_92_26 mn_54 rfl rfl rfl rfl mo_54 g1 rfl)))
theorem bL_does_99 {o0 o1 o2 o3 o4 o5 o6 o7 o8 : Option Value} {s0 : Value} : XR sc d 92 99 [o0, o1, o2, o3, o4, o5, o6, o7, o8] [s0] (T, z, xv V, J, R) = XR sc d 92 344 [o0, o1, o2, o3, o4, o5, o6, o7, o8] [s0] (T, z, xv V, J, R) :=
  st_goto (t := 344) f_92_99 ⟨by decide, rfl⟩
theorem bL_does_102 {o0 o2 o3 o4 o5 o6 o7 o8 : Option Value} {x1 : Int} (g1 : -2147483648 ≤ x1 ∧ x1 ≤ 2147483647) : XR sc d 92 102 [o0, some (xw x1), o2, o3, o4, o5, o6, o7, o8] [] (T, z, xv V, J, R) = if x1 = 5 then XR sc d 92 107 [o0, some (xw x1), o2, o3, o4, o5, o6, o7, o8] [] (T, z, xv V, J, R) else XR sc d 92 116 [o0, some (xw x1), o2, o3, o4, o5, o6, o7, o8] [] (T, z, xv V, J, R) :=
  (sw_iload_n f_92_102 rfl).trans ((sw_iconst f_92_103).trans (sw_icmp_ne (t := 116) f_92_104 ⟨by decide, rfl⟩ g1 ⟨by decide, by decide⟩))
theorem bL_does_107 {o1 o4 o5 o6 o7 o8 : Option Value} {x2 x3 : Int} {a0 : Nat} (g1 : T a0 = (7, 0)) : XR sc d 92 107 [some (.ref a0), o1, some (xw x2), some (xw x3), o4, o5, o6, o7, o8] [] (T, z, xv V, J, R) = xret 92 (XR sc d 92) 110 113 [some (.ref a0), o1, some (xw x2), some (xw x3), o4, o5, o6, o7, o8] [] (X sc d 55 [.ref a0, xw x2, xw x3] (T, z, xv V, J, R)) :=
  (st_aload_n f_92_107 rfl).trans ((sw_iload_n f_92_108 rfl).trans ((sw_iload_n f_92_109 rfl).trans (st_callV' f_92_110 h_92_30 mn_55 rfl rfl rfl rfl mo_55 g1 rfl)))
theorem bL_does_113 {o0 o1 o2 o3 o4 o5 o6 o7 o8 : Option Value} {s0 : Value} : XR sc d 92 113 [o0, o1, o2, o3, o4, o5, o6, o7, o8] [s0] (T, z, xv V, J, R) = XR sc d 92 344 [o0, o1, o2, o3, o4, o5, o6, o7, o8] [s0] (T, z, xv V, J, R) :=
  st_goto (t := 344) f_92_113 ⟨by decide, rfl⟩
theorem bL_does_116 {o0 o2 o3 o4 o5 o6 o7 o8 : Option Value} {x1 : Int} (g1 : -2147483648 ≤ x1 ∧ x1 ≤ 2147483647) : XR sc d 92 116 [o0, some (xw x1), o2, o3, o4, o5, o6, o7, o8] [] (T, z, xv V, J, R) = if x1 = 6 then XR sc d 92 122 [o0, some (xw x1), o2, o3, o4, o5, o6, o7, o8] [] (T, z, xv V, J, R) else XR sc d 92 131 [o0, some (xw x1), o2, o3, o4, o5, o6, o7, o8] [] (T, z, xv V, J, R) :=
  (sw_iload_n f_92_116 rfl).trans ((sw_bipush f_92_117 c8_6).trans (sw_icmp_ne (t := 131) f_92_119 ⟨by decide, rfl⟩ g1 ⟨by decide, by decide⟩))
theorem bL_does_122 {o1 o4 o5 o6 o7 o8 : Option Value} {x2 x3 : Int} {a0 : Nat} (g1 : T a0 = (7, 0)) : XR sc d 92 122 [some (.ref a0), o1, some (xw x2), some (xw x3), o4, o5, o6, o7, o8] [] (T, z, xv V, J, R) = xret 92 (XR sc d 92) 125 128 [some (.ref a0), o1, some (xw x2), some (xw x3), o4, o5, o6, o7, o8] [] (X sc d 57 [.ref a0, xw x2, xw x3] (T, z, xv V, J, R)) :=
  (st_aload_n f_92_122 rfl).trans ((sw_iload_n f_92_123 rfl).trans ((sw_iload_n f_92_124 rfl).trans (st_callV' f_92_125 h_92_33 mn_57 rfl rfl rfl rfl mo_57 g1 rfl)))
theorem bL_does_128 {o0 o1 o2 o3 o4 o5 o6 o7 o8 : Option Value} {s0 : Value} : XR sc d 92 128 [o0, o1, o2, o3, o4, o5, o6, o7, o8] [s0] (T, z, xv V, J, R) = XR sc d 92 344 [o0, o1, o2, o3, o4, o5, o6, o7, o8] [s0] (T, z, xv V, J, R) :=
  st_goto (t := 344) f_92_128 ⟨by decide, rfl⟩
theorem bL_does_131 {o0 o2 o3 o4 o5 o6 o7 o8 : Option Value} {x1 : Int} (g1 : -2147483648 ≤ x1 ∧ x1 ≤ 2147483647) : XR sc d 92 131 [o0, some (xw x1), o2, o3, o4, o5, o6, o7, o8] [] (T, z, xv V, J, R) = if x1 = 7 then XR sc d 92 137 [o0, some (xw x1), o2, o3, o4, o5, o6, o7, o8] [] (T, z, xv V, J, R) else XR sc d 92 150 [o0, some (xw x1), o2, o3, o4, o5, o6, o7, o8] [] (T, z, xv V, J, R) :=
  (sw_iload_n f_92_131 rfl).trans ((sw_bipush f_92_132 c8_7).trans (sw_icmp_ne (t := 150) f_92_134 ⟨by decide, rfl⟩ g1 ⟨by decide, by decide⟩))
theorem bL_does_137 {o1 o6 o7 o8 : Option Value} {x2 x3 x4 x5 : Int} {a0 : Nat} (g1 : T a0 = (7, 0)) : XR sc d 92 137 [some (.ref a0), o1, some (xw x2), some (xw x3), some (xw x4), some (xw x5), o6, o7, o8] [] (T, z, xv V, J, R) = xret 92 (XR sc d 92) 144 147 [some (.ref a0), o1, some (xw x2), some (xw x3), some (xw x4), some (xw x5), o6, o7, o8] [] (X sc d 58 [.ref a0, xw x2, xw x3, xw x4, xw x5] (T, z, xv V, J, R)) :=
  (st_aload_n f_92_137 rfl).trans ((sw_iload_n f_92_138 rfl).trans ((sw_iload_n f_92_139 rfl).trans ((sw_iload f_92_140 rfl).trans ((sw_iload f_92_142 rfl).trans (st_callV' f_92_144 h_92_36 mn_58 rfl rfl rfl rfl mo_58 g1 rfl)))))
theorem bL_does_147 {o0 o1 o2 o3 o4 o5 o6 o7 o8 : Option Value} {s0 : Value} : XR sc d 92 147 [o0, o1, o2, o3, o4, o5, o6, o7, o8] [s0] (T, z, xv V, J, R) = XR sc d 92 344 [o0, o1, o2, o3, o4, o5, o6, o7, o8] [s0] (T, z, xv V, J, R) :=
  st_goto (t := 344) f_92_147 ⟨by decide, rfl⟩
theorem bL_does_150 {o0 o2 o3 o4 o5 o6 o7 o8 : Option Value} {x1 : Int} (g1 : -2147483648 ≤ x1 ∧ x1 ≤ 2147483647) : XR sc d 92 150 [o0, some (xw x1), o2, o3, o4, o5, o6, o7, o8] [] (T, z, xv V, J, R) = if x1 = 8 then XR sc d 92 156 [o0, some (xw x1), o2, o3, o4, o5, o6, o7, o8] [] (T, z, xv V, J, R) else XR sc d 92 164 [o0, some (xw x1), o2, o3, o4, o5, o6, o7, o8] [] (T, z, xv V, J, R) :=
  (sw_iload_n f_92_150 rfl).trans ((sw_bipush f_92_151 c8_8).trans (sw_icmp_ne (t := 164) f_92_153 ⟨by decide, rfl⟩ g1 ⟨by decide, by decide⟩))
theorem bL_does_156 {o1 o3 o4 o5 o6 o7 o8 : Option Value} {x2 : Int} {a0 : Nat} (g1 : T a0 = (7, 0)) : XR sc d 92 156 [some (.ref a0), o1, some (xw x2), o3, o4, o5, o6, o7, o8] [] (T, z, xv V, J, R) = xret 92 (XR sc d 92) 158 161 [some (.ref a0), o1, some (xw x2), o3, o4, o5, o6, o7, o8] [] (X sc d 59 [.ref a0, xw x2] (T, z, xv V, J, R)) :=
  (st_aload_n f_92_156 rfl).trans ((sw_iload_n f_92_157 rfl).trans (st_callV' f_92_158 h_92_40 mn_59 rfl rfl rfl rfl mo_59 g1 rfl))
theorem bL_does_161 {o0 o1 o2 o3 o4 o5 o6 o7 o8 : Option Value} {s0 : Value} : XR sc d 92 161 [o0, o1, o2, o3, o4, o5, o6, o7, o8] [s0] (T, z, xv V, J, R) = XR sc d 92 344 [o0, o1, o2, o3, o4, o5, o6, o7, o8] [s0] (T, z, xv V, J, R) :=
  st_goto (t := 344) f_92_161 ⟨by decide, rfl⟩
theorem bL_does_164 {o0 o2 o3 o4 o5 o6 o7 o8 : Option Value} {x1 : Int} (g1 : -2147483648 ≤ x1 ∧ x1 ≤ 2147483647) : XR sc d 92 164 [o0, some (xw x1), o2, o3, o4, o5, o6, o7, o8] [] (T, z, xv V, J, R) = if x1 = 9 then XR sc d 92 170 [o0, some (xw x1), o2, o3, o4, o5, o6, o7, o8] [] (T, z, xv V, J, R) else XR sc d 92 181 [o0, some (xw x1), o2, o3, o4, o5, o6, o7, o8] [] (T, z, xv V, J, R) :=
  (sw_iload_n f_92_164 rfl).trans ((sw_bipush f_92_165 c8_9).trans (sw_icmp_ne (t := 181) f_92_167 ⟨by decide, rfl⟩ g1 ⟨by decide, by decide⟩))
theorem bL_does_170 {o1 o5 o6 o7 o8 : Option Value} {x2 x3 x4 : Int} {a0 : Nat} (g1 : T a0 = (7, 0)) : XR sc d 92 170 [some (.ref a0), o1, some (xw x2), some (xw x3), some (xw x4), o5, o6, o7, o8] [] (T, z, xv V, J, R) = xret 92 (XR sc d 92) 175 178 [some (.ref a0), o1, some (xw x2), some (xw x3), some (xw x4), o5, o6, o7, o8] [] (X sc d 62 [.ref a0, xw x2, xw x3, xw x4] (T, z, xv V, J, R)) :=
  (st_aload_n f_92_170 rfl).trans ((sw_iload_n f_92_171 rfl).trans ((sw_iload_n f_92_172 rfl).trans ((sw_iload f_92_173 rfl).trans (st_callV' f_92_175 h_92_43 mn_62 rfl rfl rfl rfl mo_62 g1 rfl))))
theorem bL_does_178 {o0 o1 o2 o3 o4 o5 o6 o7 o8 : Option Value} {s0 : Value} : XR sc d 92 178 [o0, o1, o2, o3, o4, o5, o6, o7, o8] [s0] (T, z, xv V, J, R) = XR sc d 92 344 [o0, o1, o2, o3, o4, o5, o6, o7, o8] [s0] (T, z, xv V, J, R) :=
  st_goto (t := 344) f_92_178 ⟨by decide, rfl⟩
theorem bL_does_181 {o0 o2 o3 o4 o5 o6 o7 o8 : Option Value} {x1 : Int} (g1 : -2147483648 ≤ x1 ∧ x1 ≤ 2147483647) : XR sc d 92 181 [o0, some (xw x1), o2, o3, o4, o5, o6, o7, o8] [] (T, z, xv V, J, R) = if x1 = 10 then XR sc d 92 187 [o0, some (xw x1), o2, o3, o4, o5, o6, o7, o8] [] (T, z, xv V, J, R) else XR sc d 92 195 [o0, some (xw x1), o2, o3, o4, o5, o6, o7, o8] [] (T, z, xv V, J, R) :=
  (sw_iload_n f_92_181 rfl).trans ((sw_bipush f_92_182 c8_10).trans (sw_icmp_ne (t := 195) f_92_184 ⟨by decide, rfl⟩ g1 ⟨by decide, by decide⟩))
theorem bL_does_187 {o1 o3 o4 o5 o6 o7 o8 : Option Value} {x2 : Int} {a0 : Nat} (g1 : T a0 = (7, 0)) : XR sc d 92 187 [some (.ref a0), o1, some (xw x2), o3, o4, o5, o6, o7, o8] [] (T, z, xv V, J, R) = xret 92 (XR sc d 92) 189 192 [some (.ref a0), o1, some (xw x2), o3, o4, o5, o6, o7, o8] [] (X sc d 64 [.ref a0, xw x2] (T, z, xv V, J, R)) :=
  (st_aload_n f_92_187 rfl).trans ((sw_iload_n f_92_188 rfl).trans (st_callV' f_92_189 h_92_46 mn_64 rfl rfl rfl rfl mo_64 g1 rfl))
theorem bL_does_192 {o0 o1 o2 o3 o4 o5 o6 o7 o8 : Option Value} {s0 : Value} : XR sc d 92 192 [o0, o1, o2, o3, o4, o5, o6, o7, o8] [s0] (T, z, xv V, J, R) = XR sc d 92 344 [o0, o1, o2, o3, o4, o5, o6, o7, o8] [s0] (T, z, xv V, J, R) :=
  st_goto (t := 344) f_92_192 ⟨by decide, rfl⟩
theorem bL_does_195 {o0 o2 o3 o4 o5 o6 o7 o8 : Option Value} {x1 : Int} (g1 : -2147483648 ≤ x1 ∧ x1 ≤ 2147483647) : XR sc d 92 195 [o0, some (xw x1), o2, o3, o4, o5, o6, o7, o8] [] (T, z, xv V, J, R) = if x1 = 11 then XR sc d 92 201 [o0, some (xw x1), o2, o3, o4, o5, o6, o7, o8] [] (T, z, xv V, J, R) else XR sc d 92 214 [o0, some (xw x1), o2, o3, o4, o5, o6, o7, o8] [] (T, z, xv V, J, R) :=
  (sw_iload_n f_92_195 rfl).trans ((sw_bipush f_92_196 c8_11).trans (sw_icmp_ne (t := 214) f_92_198 ⟨by decide, rfl⟩ g1 ⟨by decide, by decide⟩))
theorem bL_does_201 {o1 o6 o7 o8 : Option Value} {x2 x3 x4 x5 : Int} {a0 : Nat} (g1 : T a0 = (7, 0)) : XR sc d 92 201 [some (.ref a0), o1, some (xw x2), some (xw x3), some (xw x4), some (xw x5), o6, o7, o8] [] (T, z, xv V, J, R) = xret 92 (XR sc d 92) 208 211 [some (.ref a0), o1, some (xw x2), some (xw x3), some (xw x4), some (xw x5), o6, o7, o8] [] (X sc d 65 [.ref a0, xw x2, xw x3, xw x4, xw x5] (T, z, xv V, J, R)) :=
  (st_aload_n f_92_201 rfl).trans ((sw_iload_n f_92_202 rfl).trans ((sw_iload_n f_92_203 rfl).trans ((sw_iload f_92_204 rfl).trans ((sw_iload f_92_206 rfl).trans (st_callV' f_92_208 h_92_49 mn_65 rfl rfl rfl rfl mo_65 g1 rfl)))))
theorem bL_does_211 {o0 o1 o2 o3 o4 o5 o6 o7 o8 : Option Value} {s0 : Value} : XR sc d 92 211 [o0, o1, o2, o3, o4, o5, o6, o7, o8] [s0] (T, z, xv V, J, R) = XR sc d 92 344 [o0, o1, o2, o3, o4, o5, o6, o7, o8] [s0] (T, z, xv V, J, R) :=
  st_goto (t := 344) f_92_211 ⟨by decide, rfl⟩
theorem bL_does_214 {o0 o2 o3 o4 o5 o6 o7 o8 : Option Value} {x1 : Int} (g1 : -2147483648 ≤ x1 ∧ x1 ≤ 2147483647) : XR sc d 92 214 [o0, some (xw x1), o2, o3, o4, o5, o6, o7, o8] [] (T, z, xv V, J, R) = if x1 = 12 then XR sc d 92 220 [o0, some (xw x1), o2, o3, o4, o5, o6, o7, o8] [] (T, z, xv V, J, R) else XR sc d 92 231 [o0, some (xw x1), o2, o3, o4, o5, o6, o7, o8] [] (T, z, xv V, J, R) :=
  (sw_iload_n f_92_214 rfl).trans ((sw_bipush f_92_215 c8_12).trans (sw_icmp_ne (t := 231) f_92_217 ⟨by decide, rfl⟩ g1 ⟨by decide, by decide⟩))
theorem bL_does_220 {o1 o5 o6 o7 o8 : Option Value} {x2 x3 x4 : Int} {a0 : Nat} (g1 : T a0 = (7, 0)) : XR sc d 92 220 [some (.ref a0), o1, some (xw x2), some (xw x3), some (xw x4), o5, o6, o7, o8] [] (T, z, xv V, J, R) = xret 92 (XR sc d 92) 225 228 [some (.ref a0), o1, some (xw x2), some (xw x3), some (xw x4), o5, o6, o7, o8] [] (X sc d 66 [.ref a0, xw x2, xw x3, xw x4] (T, z, xv V, J, R)) :=
  (st_aload_n f_92_220 rfl).trans ((sw_iload_n f_92_221 rfl).trans ((sw_iload_n f_92_222 rfl).trans ((sw_iload f_92_223 rfl).trans (st_callV' f_92_225 h_92_52 mn_66 rfl rfl rfl rfl mo_66 g1 rfl))))
theorem bL_does_228 {o0 o1 o2 o3 o4 o5 o6 o7 o8 : Option Value} {s0 : Value} : XR sc d 92 228 [o0, o1, o2, o3, o4, o5, o6, o7, o8] [s0] (T, z, xv V, J, R) = XR sc d 92 344 [o0, o1, o2, o3, o4, o5, o6, o7, o8] [s0] (T, z, xv V, J, R) :=
  st_goto (t := 344) f_92_228 ⟨by decide, rfl⟩
theorem bL_does_231 {o0 o2 o3 o4 o5 o6 o7 o8 : Option Value} {x1 : Int} (g1 : -2147483648 ≤ x1 ∧ x1 ≤ 2147483647) : XR sc d 92 231 [o0, some (xw x1), o2, o3, o4, o5, o6, o7, o8] [] (T, z, xv V, J, R) = if x1 = 13 then XR sc d 92 237 [o0, some (xw x1), o2, o3, o4, o5, o6, o7, o8] [] (T, z, xv V, J, R) else XR sc d 92 248 [o0, some (xw x1), o2, o3, o4, o5, o6, o7, o8] [] (T, z, xv V, J, R) :=
  (sw_iload_n f_92_231 rfl).trans ((sw_bipush f_92_232 c8_13).trans (sw_icmp_ne (t := 248) f_92_234 ⟨by decide, rfl⟩ g1 ⟨by decide, by decide⟩))
theorem bL_does_237 {o1 o5 o6 o7 o8 : Option Value} {x2 x3 x4 : Int} {a0 : Nat} (g1 : T a0 = (7, 0)) : XR sc d 92 237 [some (.ref a0), o1, some (xw x2), some (xw x3), some (xw x4), o5, o6, o7, o8] [] (T, z, xv V, J, R) = xret 92 (XR sc d 92) 242 245 [some (.ref a0), o1, some (xw x2), some (xw x3), some (xw x4), o5, o6, o7, o8] [] (X sc d 67 [.ref a0, xw x2, xw x3, xw x4] (T, z, xv V, J, R)) :=
  (st_aload_n f_92_237 rfl).trans ((sw_iload_n f_92_238 rfl).trans ((sw_iload_n f_92_239 rfl).trans ((sw_iload f_92_240 rfl).trans (st_callV' f_92_242 h_92_55 mn_67 rfl rfl rfl rfl mo_67 g1 rfl))))
theorem bL_does_245 {o0 o1 o2 o3 o4 o5 o6 o7 o8 : Option Value} {s0 : Value} : XR sc d 92 245 [o0, o1, o2, o3, o4, o5, o6, o7, o8] [s0] (T, z, xv V, J, R) = XR sc d 92 344 [o0, o1, o2, o3, o4, o5, o6, o7, o8] [s0] (T, z, xv V, J, R) :=
  st_goto (t := 344) f_92_245 ⟨by decide, rfl⟩
theorem bL_does_248 {o0 o2 o3 o4 o5 o6 o7 o8 : Option Value} {x1 : Int} (g1 : -2147483648 ≤ x1 ∧ x1 ≤ 2147483647) : XR sc d 92 248 [o0, some (xw x1), o2, o3, o4, o5, o6, o7, o8] [] (T, z, xv V, J, R) = if x1 = 14 then XR sc d 92 254 [o0, some (xw x1), o2, o3, o4, o5, o6, o7, o8] [] (T, z, xv V, J, R) else XR sc d 92 265 [o0, some (xw x1), o2, o3, o4, o5, o6, o7, o8] [] (T, z, xv V, J, R) :=
  (sw_iload_n f_92_248 rfl).trans ((sw_bipush f_92_249 c8_14).trans (sw_icmp_ne (t := 265) f_92_251 ⟨by decide, rfl⟩ g1 ⟨by decide, by decide⟩))
theorem bL_does_254 {o1 o5 o6 o7 o8 : Option Value} {x2 x3 x4 : Int} {a0 : Nat} (g1 : T a0 = (7, 0)) : XR sc d 92 254 [some (.ref a0), o1, some (xw x2), some (xw x3), some (xw x4), o5, o6, o7, o8] [] (T, z, xv V, J, R) = xret 92 (XR sc d 92) 259 262 [some (.ref a0), o1, some (xw x2), some (xw x3), some (xw x4), o5, o6, o7, o8] [] (X sc d 68 [.ref a0, xw x2, xw x3, xw x4] (T, z, xv V, J, R)) :=
  (st_aload_n f_92_254 rfl).trans ((sw_iload_n f_92_255 rfl).trans ((sw_iload_n f_92_256 rfl).trans ((sw_iload f_92_257 rfl).trans (st_callV' f_92_259 h_92_58 mn_68 rfl rfl rfl rfl mo_68 g1 rfl))))
theorem bL_does_262 {o0 o1 o2 o3 o4 o5 o6 o7 o8 : Option Value} {s0 : Value} : XR sc d 92 262 [o0, o1, o2, o3, o4, o5, o6, o7, o8] [s0] (T, z, xv V, J, R) = XR sc d 92 344 [o0, o1, o2, o3, o4, o5, o6, o7, o8] [s0] (T, z, xv V, J, R) :=
  st_goto (t := 344) f_92_262 ⟨by decide, rfl⟩
theorem bL_does_265 {o0 o2 o3 o4 o5 o6 o7 o8 : Option Value} {x1 : Int} (g1 : -2147483648 ≤ x1 ∧ x1 ≤ 2147483647) : XR sc d 92 265 [o0, some (xw x1), o2, o3, o4, o5, o6, o7, o8] [] (T, z, xv V, J, R) = if x1 = 15 then XR sc d 92 271 [o0, some (xw x1), o2, o3, o4, o5, o6, o7, o8] [] (T, z, xv V, J, R) else XR sc d 92 288 [o0, some (xw x1), o2, o3, o4, o5, o6, o7, o8] [] (T, z, xv V, J, R) :=
  (sw_iload_n f_92_265 rfl).trans ((sw_bipush f_92_266 c8_15).trans (sw_icmp_ne (t := 288) f_92_268 ⟨by decide, rfl⟩ g1 ⟨by decide, by decide⟩))
theorem bL_does_271 {o1 o8 : Option Value} {x2 x3 x4 x5 x6 x7 : Int} {a0 : Nat} (g1 : T a0 = (7, 0)) : XR sc d 92 271 [some (.ref a0), o1, some (xw x2), some (xw x3), some (xw x4), some (xw x5), some (xw x6), some (xw x7), o8] [] (T, z, xv V, J, R) = xret 92 (XR sc d 92) 282 285 [some (.ref a0), o1, some (xw x2), some (xw x3), some (xw x4), some (xw x5), some (xw x6), some (xw x7), o8] [] (X sc d 73 [.ref a0, xw x2, xw x3, xw x4, xw x5, xw x6, xw x7] (T, z, xv V, J, R)) :=
  (st_aload_n f_92_271 rfl).trans ((sw_iload_n f_92_272 rfl).trans ((sw_iload_n f_92_273 rfl).trans ((sw_iload f_92_274 rfl).trans ((sw_iload f_92_276 rfl).trans ((sw_iload f_92_278 rfl).trans ((sw_iload f_92_280 rfl).trans (st_callV' f_92_282 h_92_61 mn_73 rfl rfl rfl rfl mo_73 g1 rfl)))))))
theorem bL_does_285 {o0 o1 o2 o3 o4 o5 o6 o7 o8 : Option Value} {s0 : Value} : XR sc d 92 285 [o0, o1, o2, o3, o4, o5, o6, o7, o8] [s0] (T, z, xv V, J, R) = XR sc d 92 344 [o0, o1, o2, o3, o4, o5, o6, o7, o8] [s0] (T, z, xv V, J, R) :=
  st_goto (t := 344) f_92_285 ⟨by decide, rfl⟩
theorem bL_does_288 {o0 o2 o3 o4 o5 o6 o7 o8 : Option Value} {x1 : Int} (g1 : -2147483648 ≤ x1 ∧ x1 ≤ 2147483647) : XR sc d 92 288 [o0, some (xw x1), o2, o3, o4, o5, o6, o7, o8] [] (T, z, xv V, J, R) = if x1 = 16 then XR sc d 92 294 [o0, some (xw x1), o2, o3, o4, o5, o6, o7, o8] [] (T, z, xv V, J, R) else XR sc d 92 302 [o0, some (xw x1), o2, o3, o4, o5, o6, o7, o8] [] (T, z, xv V, J, R) :=
  (sw_iload_n f_92_288 rfl).trans ((sw_bipush f_92_289 c8_16).trans (sw_icmp_ne (t := 302) f_92_291 ⟨by decide, rfl⟩ g1 ⟨by decide, by decide⟩))
theorem bL_does_294 {o1 o3 o4 o5 o6 o7 o8 : Option Value} {x2 : Int} {a0 : Nat} (g1 : T a0 = (7, 0)) : XR sc d 92 294 [some (.ref a0), o1, some (xw x2), o3, o4, o5, o6, o7, o8] [] (T, z, xv V, J, R) = xret 92 (XR sc d 92) 296 299 [some (.ref a0), o1, some (xw x2), o3, o4, o5, o6, o7, o8] [] (X sc d 74 [.ref a0, xw x2] (T, z, xv V, J, R)) :=
  (st_aload_n f_92_294 rfl).trans ((sw_iload_n f_92_295 rfl).trans (st_callV' f_92_296 h_92_65 mn_74 rfl rfl rfl rfl mo_74 g1 rfl))
theorem bL_does_299 {o0 o1 o2 o3 o4 o5 o6 o7 o8 : Option Value} {s0 : Value} : XR sc d 92 299 [o0, o1, o2, o3, o4, o5, o6, o7, o8] [s0] (T, z, xv V, J, R) = XR sc d 92 344 [o0, o1, o2, o3, o4, o5, o6, o7, o8] [s0] (T, z, xv V, J, R) :=
  st_goto (t := 344) f_92_299 ⟨by decide, rfl⟩
theorem bL_does_302 {o0 o2 o3 o4 o5 o6 o7 o8 : Option Value} {x1 : Int} (g1 : -2147483648 ≤ x1 ∧ x1 ≤ 2147483647) : XR sc d 92 302 [o0, some (xw x1), o2, o3, o4, o5, o6, o7, o8] [] (T, z, xv V, J, R) = if x1 = 17 then XR sc d 92 308 [o0, some (xw x1), o2, o3, o4, o5, o6, o7, o8] [] (T, z, xv V, J, R) else XR sc d 92 321 [o0, some (xw x1), o2, o3, o4, o5, o6, o7, o8] [] (T, z, xv V, J, R) :=
  (sw_iload_n f_92_302 rfl).trans ((sw_bipush f_92_303 c8_17).trans (sw_icmp_ne (t := 321) f_92_305 ⟨by decide, rfl⟩ g1 ⟨by decide, by decide⟩))
theorem bL_does_308 {o1 o6 o7 o8 : Option Value} {x2 x3 x4 x5 : Int} {a0 : Nat} (g1 : T a0 = (7, 0)) : XR sc d 92 308 [some (.ref a0), o1, some (xw x2), some (xw x3), some (xw x4), some (xw x5), o6, o7, o8] [] (T, z, xv V, J, R) = xret 92 (XR sc d 92) 315 318 [some (.ref a0), o1, some (xw x2), some (xw x3), some (xw x4), some (xw x5), o6, o7, o8] [] (X sc d 60 [.ref a0, xw x2, xw x3, xw x4, xw x5] (T, z, xv V, J, R)) :=
  (st_aload_n f_92_308 rfl).trans ((sw_iload_n f_92_309 rfl).trans ((sw_iload_n f_92_310 rfl).trans ((sw_iload f_92_311 rfl).trans ((sw_iload f_92_313 rfl).trans (st_callV' f_92_315 h_92_68 mn_60 rfl rfl rfl rfl mo_60 g1 rfl)))))
theorem bL_does_318 {o0 o1 o2 o3 o4 o5 o6 o7 o8 : Option Value} {s0 : Value} : XR sc d 92 318 [o0, o1, o2, o3, o4, o5, o6, o7, o8] [s0] (T, z, xv V, J, R) = XR sc d 92 344 [o0, o1, o2, o3, o4, o5, o6, o7, o8] [s0] (T, z, xv V, J, R) :=
  st_goto (t := 344) f_92_318 ⟨by decide, rfl⟩
theorem bL_does_321 {o0 o2 o3 o4 o5 o6 o7 o8 : Option Value} {x1 : Int} (g1 : -2147483648 ≤ x1 ∧ x1 ≤ 2147483647) : XR sc d 92 321 [o0, some (xw x1), o2, o3, o4, o5, o6, o7, o8] [] (T, z, xv V, J, R) = if x1 = 18 then XR sc d 92 327 [o0, some (xw x1), o2, o3, o4, o5, o6, o7, o8] [] (T, z, xv V, J, R) else XR sc d 92 336 [o0, some (xw x1), o2, o3, o4, o5, o6, o7, o8] [] (T, z, xv V, J, R) :=
  (sw_iload_n f_92_321 rfl).trans ((sw_bipush f_92_322 c8_18).trans (sw_icmp_ne (t := 336) f_92_324 ⟨by decide, rfl⟩ g1 ⟨by decide, by decide⟩))
theorem bL_does_327 {o1 o4 o5 o6 o7 o8 : Option Value} {x2 x3 : Int} {a0 : Nat} (g1 : T a0 = (7, 0)) : XR sc d 92 327 [some (.ref a0), o1, some (xw x2), some (xw x3), o4, o5, o6, o7, o8] [] (T, z, xv V, J, R) = xret 92 (XR sc d 92) 330 333 [some (.ref a0), o1, some (xw x2), some (xw x3), o4, o5, o6, o7, o8] [] (X sc d 63 [.ref a0, xw x2, xw x3] (T, z, xv V, J, R)) :=
  (st_aload_n f_92_327 rfl).trans ((sw_iload_n f_92_328 rfl).trans ((sw_iload_n f_92_329 rfl).trans (st_callV' f_92_330 h_92_71 mn_63 rfl rfl rfl rfl mo_63 g1 rfl)))
theorem bL_does_333 {o0 o1 o2 o3 o4 o5 o6 o7 o8 : Option Value} {s0 : Value} : XR sc d 92 333 [o0, o1, o2, o3, o4, o5, o6, o7, o8] [s0] (T, z, xv V, J, R) = XR sc d 92 344 [o0, o1, o2, o3, o4, o5, o6, o7, o8] [s0] (T, z, xv V, J, R) :=
  st_goto (t := 344) f_92_333 ⟨by decide, rfl⟩
theorem bL_does_336 {o1 o5 o6 o7 o8 : Option Value} {x2 x3 x4 : Int} {a0 : Nat} (g1 : T a0 = (7, 0)) : XR sc d 92 336 [some (.ref a0), o1, some (xw x2), some (xw x3), some (xw x4), o5, o6, o7, o8] [] (T, z, xv V, J, R) = xret 92 (XR sc d 92) 341 344 [some (.ref a0), o1, some (xw x2), some (xw x3), some (xw x4), o5, o6, o7, o8] [] (X sc d 61 [.ref a0, xw x2, xw x3, xw x4] (T, z, xv V, J, R)) :=
  (st_aload_n f_92_336 rfl).trans ((sw_iload_n f_92_337 rfl).trans ((sw_iload_n f_92_338 rfl).trans ((sw_iload f_92_339 rfl).trans (st_callV' f_92_341 h_92_74 mn_61 rfl rfl rfl rfl mo_61 g1 rfl))))
theorem bL_does_344 {o0 o1 o2 o3 o4 o5 o6 o7 o8 : Option Value} {y0 : Int} : XR sc d 92 344 [o0, o1, o2, o3, o4, o5, o6, o7, o8] [xw y0] (T, z, xv V, J, R) = some (.inl (some (xw y0)), (T, z, xv V, J, R)) :=
  sw_ireturn f_92_344 mr_92
theorem eL_strength {x3 : Int} {a0 a1 a2 : Nat} : X sc (d + 1) 93 [.ref a0, .ref a1, .ref a2, xw x3] (T, z, xv V, J, R) = XR sc d 93 0 [some (.ref a0), some (.ref a1), some (.ref a2), some (xw x3), none] [] (T, z, xv V, J, R) :=
  (X_eq ⟨jl_93, by rw [mn_93]; rfl, rfl, by rw [lm_93]; exact Nat.le_of_ble_eq_true rfl⟩).trans (by unfold xent; rw [lm_93]; rfl)
theorem bL_strength_0 {o1 o4 : Option Value} {x3 : Int} {a0 a2 : Nat} (g1 : T a0 = (32, (T a0).2)) (g2 : (0 : Int) ≤ x3 ∧ x3 < ((T a0).2 : Int) ∧ (T a0).2 ≤ 3584) (g3 : 0 ≤ (V a0 x3.toNat) ∧ (V a0 x3.toNat) ≤ 2147483647) (g4 : 0 ≤ ((V a0 x3.toNat) / 16) ∧ ((V a0 x3.toNat) / 16) ≤ 2147483647) (g5 : 0 ≤ ((V a0 x3.toNat) / 256) ∧ ((V a0 x3.toNat) / 256) ≤ 2147483647) (g6 : T a2 = (32, (T a2).2)) (g7 : (0 : Int) ≤ x3 ∧ x3 < ((T a2).2 : Int) ∧ (T a2).2 ≤ 3584) (g8 : -2147483648 ≤ (V a2 x3.toNat) ∧ (V a2 x3.toNat) ≤ 2147483647) : XR sc d 93 0 [some (.ref a0), o1, some (.ref a2), some (xw x3), o4] [] (T, z, xv V, J, R) = if (V a2 x3.toNat) = 0 then XR sc d 93 31 [some (.ref a0), o1, some (.ref a2), some (xw x3), some (xw ((10 * (((V a0 x3.toNat) / 16) % 16)) * (((V a0 x3.toNat) / 256) % 16)))] [] (T, z, xv V, J, R) else XR sc d 93 36 [some (.ref a0), o1, some (.ref a2), some (xw x3), some (xw ((10 * (((V a0 x3.toNat) / 16) % 16)) * (((V a0 x3.toNat) / 256) % 16)))] [] (T, z, xv V, J, R) :=
  (sw_bipush f_93_0 c8_10).trans ((st_aload_n f_93_2 rfl).trans ((sw_iload_n f_93_3 rfl).trans ((sw_iaload f_93_4 g1 g2).trans ((sw_bipush f_93_5 c8_16).trans ((sw_idiv f_93_7 ⟨by decide, by decide, g3⟩).trans ((sw_bipush f_93_8 c8_16).trans ((sw_irem f_93_10 ⟨by decide, by decide, g4⟩).trans ((sw_imul f_93_11).trans ((st_aload_n f_93_12 rfl).trans ((sw_iload_n f_93_13 rfl).trans ((sw_iaload f_93_14 g1 g2).trans ((sw_sipush f_93_15 c16_256).trans ((sw_idiv f_93_18 ⟨by decide, by decide, g3⟩).trans ((sw_bipush f_93_19 c8_16).trans ((sw_irem f_93_21 ⟨by decide, by decide, g5⟩).trans ((sw_imul f_93_22).trans ((sw_istore (L' := [some (.ref a0), o1, some (.ref a2), some (xw x3), some (xw ((10 * (((V a0 x3.toNat) / 16) % 16)) * (((V a0 x3.toNat) / 256) % 16)))]) f_93_23 (Nat.le_of_ble_eq_true rfl) rfl).trans ((st_aload_n f_93_25 rfl).trans ((sw_iload_n f_93_26 rfl).trans ((sw_iaload f_93_27 g6 g7).trans (sw_if_ne (t := 36) f_93_28 ⟨by decide, rfl⟩ g8)))))))))))))))))))))
theorem bL_strength_31 {o0 o1 o2 o3 : Option Value} {x4 : Int} : XR sc d 93 31 [o0, o1, o2, o3, some (xw x4)] [] (T, z, xv V, J, R) = XR sc d 93 42 [o0, o1, o2, o3, some (xw x4)] [xw x4] (T, z, xv V, J, R) :=
  (sw_iload f_93_31 rfl).trans (st_goto (t := 42) f_93_33 ⟨by decide, rfl⟩)
theorem bL_strength_36 {o0 o1 o2 o3 : Option Value} {x4 : Int} (g1 : 0 ≤ (x4 * 3) ∧ (x4 * 3) ≤ 2147483647) : XR sc d 93 36 [o0, o1, o2, o3, some (xw x4)] [] (T, z, xv V, J, R) = XR sc d 93 42 [o0, o1, o2, o3, some (xw x4)] [xw ((x4 * 3) / 4)] (T, z, xv V, J, R) :=
  (sw_iload f_93_36 rfl).trans ((sw_iconst f_93_38).trans ((sw_imul f_93_39).trans ((sw_iconst f_93_40).trans (sw_idiv f_93_41 ⟨by decide, by decide, g1⟩))))
theorem bL_strength_42 {o0 o2 o4 : Option Value} {x3 y0 : Int} {a1 : Nat} (g1 : T a1 = (32, (T a1).2)) (g2 : (0 : Int) ≤ x3 ∧ x3 < ((T a1).2 : Int) ∧ (T a1).2 ≤ 3584) (g3 : -2147483648 ≤ (y0 - (V a1 x3.toNat)) ∧ (y0 - (V a1 x3.toNat)) ≤ 2147483647) : XR sc d 93 42 [o0, some (.ref a1), o2, some (xw x3), o4] [xw y0] (T, z, xv V, J, R) = if (y0 - (V a1 x3.toNat)) ≤ 0 then XR sc d 93 58 [o0, some (.ref a1), o2, some (xw x3), some (xw (y0 - (V a1 x3.toNat)))] [] (T, z, xv V, J, R) else XR sc d 93 53 [o0, some (.ref a1), o2, some (xw x3), some (xw (y0 - (V a1 x3.toNat)))] [] (T, z, xv V, J, R) :=
  (st_aload_n f_93_42 rfl).trans ((sw_iload_n f_93_43 rfl).trans ((sw_iaload f_93_44 g1 g2).trans ((sw_isub f_93_45).trans ((sw_istore (L' := [o0, some (.ref a1), o2, some (xw x3), some (xw (y0 - (V a1 x3.toNat)))]) f_93_46 (Nat.le_of_ble_eq_true rfl) rfl).trans ((sw_iload f_93_48 rfl).trans (sw_if_le (t := 58) f_93_50 ⟨by decide, rfl⟩ g3))))))
theorem bL_strength_53 {o0 o1 o2 o3 : Option Value} {x4 : Int} : XR sc d 93 53 [o0, o1, o2, o3, some (xw x4)] [] (T, z, xv V, J, R) = XR sc d 93 59 [o0, o1, o2, o3, some (xw x4)] [xw x4] (T, z, xv V, J, R) :=
  (sw_iload f_93_53 rfl).trans (st_goto (t := 59) f_93_55 ⟨by decide, rfl⟩)
theorem bL_strength_58 {o0 o1 o2 o3 o4 : Option Value} : XR sc d 93 58 [o0, o1, o2, o3, o4] [] (T, z, xv V, J, R) = XR sc d 93 59 [o0, o1, o2, o3, o4] [xw 0] (T, z, xv V, J, R) :=
  sw_iconst f_93_58
theorem bL_strength_59 {o0 o1 o2 o3 o4 : Option Value} {y0 : Int} : XR sc d 93 59 [o0, o1, o2, o3, o4] [xw y0] (T, z, xv V, J, R) = some (.inl (some (xw y0)), (T, z, xv V, J, R)) :=
  sw_ireturn f_93_59 mr_93
theorem eL_length {x2 x3 : Int} {a0 a1 : Nat} : X sc (d + 1) 94 [.ref a0, .ref a1, xw x2, xw x3] (T, z, xv V, J, R) = XR sc d 94 0 [some (.ref a0), some (.ref a1), some (xw x2), some (xw x3), none, none, none, none, none] [] (T, z, xv V, J, R) :=
  (X_eq ⟨jl_94, by rw [mn_94]; rfl, rfl, by rw [lm_94]; exact Nat.le_of_ble_eq_true rfl⟩).trans (by unfold xent; rw [lm_94]; rfl)
theorem bL_length_0 {o0 o1 o2 o3 o4 o5 o6 o7 o8 : Option Value} : XR sc d 94 0 [o0, o1, o2, o3, o4, o5, o6, o7, o8] [] (T, z, xv V, J, R) = XR sc d 94 8 [o0, o1, o2, o3, some (xw 1000), some (xw 0), o6, o7, o8] [] (T, z, xv V, J, R) :=
  (sw_sipush f_94_0 c16_1000).trans ((sw_istore (L' := [o0, o1, o2, o3, some (xw 1000), o5, o6, o7, o8]) f_94_3 (Nat.le_of_ble_eq_true rfl) rfl).trans ((sw_iconst f_94_5).trans (sw_istore (L' := [o0, o1, o2, o3, some (xw 1000), some (xw 0), o6, o7, o8]) f_94_6 (Nat.le_of_ble_eq_true rfl) rfl)))
theorem bL_length_8 {o0 o2 o3 o4 o6 o7 o8 : Option Value} {x5 : Int} {a1 : Nat} (g1 : T a1 = (32, (T a1).2)) (g2 : (0 : Int) ≤ 1 ∧ 1 < ((T a1).2 : Int) ∧ (T a1).2 ≤ 3584) (g3 : -2147483648 ≤ x5 ∧ x5 ≤ 2147483647) (g4 : -2147483648 ≤ (V a1 1) ∧ (V a1 1) ≤ 2147483647) : XR sc d 94 8 [o0, some (.ref a1), o2, o3, o4, some (xw x5), o6, o7, o8] [] (T, z, xv V, J, R) = if (V a1 1) ≤ x5 then XR sc d 94 120 [o0, some (.ref a1), o2, o3, o4, some (xw x5), o6, o7, o8] [] (T, z, xv V, J, R) else XR sc d 94 16 [o0, some (.ref a1), o2, o3, o4, some (xw x5), o6, o7, o8] [] (T, z, xv V, J, R) :=
  (sw_iload f_94_8 rfl).trans ((st_aload_n f_94_10 rfl).trans ((sw_iconst f_94_11).trans ((sw_iaload f_94_12 g1 g2).trans (sw_icmp_ge (t := 120) f_94_13 ⟨by decide, rfl⟩ g3 g4))))
theorem bL_length_16 {o1 o2 o3 o4 o6 o7 o8 : Option Value} {x5 : Int} {a0 : Nat} (g1 : T a0 = (32, (T a0).2)) (g2 : (0 : Int) ≤ x5 ∧ x5 < ((T a0).2 : Int) ∧ (T a0).2 ≤ 3584) (g3 : ¬ (8 : Int) = 0 ∧ ¬ (((V a0 x5.toNat) - 1) = -2147483648 ∧ (8 : Int) = -1) ∧ (-2147483648 ≤ ((V a0 x5.toNat) - 1) ∧ ((V a0 x5.toNat) - 1) ≤ 2147483647) ∧ -2147483648 ≤ (8 : Int) ∧ (8 : Int) ≤ 2147483647) (g4 : ¬ (8 : Int) = 0 ∧ ¬ ((((V a0 x5.toNat) - 1).tdiv (8 : Int)) = -2147483648 ∧ (8 : Int) = -1) ∧ (-2147483648 ≤ (((V a0 x5.toNat) - 1).tdiv (8 : Int)) ∧ (((V a0 x5.toNat) - 1).tdiv (8 : Int)) ≤ 2147483647) ∧ -2147483648 ≤ (8 : Int) ∧ (8 : Int) ≤ 2147483647) (g5 : -2147483648 ≤ (V a0 x5.toNat) ∧ (V a0 x5.toNat) ≤ 2147483647) : XR sc d 94 16 [some (.ref a0), o1, o2, o3, o4, some (xw x5), o6, o7, o8] [] (T, z, xv V, J, R) = if (V a0 x5.toNat) ≤ 0 then XR sc d 94 76 [some (.ref a0), o1, o2, o3, o4, some (xw x5), some (xw (((V a0 x5.toNat) - 1) - ((V a0 x5.toNat) - 1).tdiv (8 : Int) * (8 : Int))), some (xw ((((V a0 x5.toNat) - 1).tdiv (8 : Int)) - (((V a0 x5.toNat) - 1).tdiv (8 : Int)).tdiv (8 : Int) * (8 : Int))), o8] [] (T, z, xv V, J, R) else XR sc d 94 48 [some (.ref a0), o1, o2, o3, o4, some (xw x5), some (xw (((V a0 x5.toNat) - 1) - ((V a0 x5.toNat) - 1).tdiv (8 : Int) * (8 : Int))), some (xw ((((V a0 x5.toNat) - 1).tdiv (8 : Int)) - (((V a0 x5.toNat) - 1).tdiv (8 : Int)).tdiv (8 : Int) * (8 : Int))), o8] [] (T, z, xv V, J, R) :=
  (st_aload_n f_94_16 rfl).trans ((sw_iload f_94_17 rfl).trans ((sw_iaload f_94_19 g1 g2).trans ((sw_iconst f_94_20).trans ((sw_isub f_94_21).trans ((sw_bipush f_94_22 c8_8).trans ((sw_iremT f_94_24 g3).trans ((sw_istore (L' := [some (.ref a0), o1, o2, o3, o4, some (xw x5), some (xw (((V a0 x5.toNat) - 1) - ((V a0 x5.toNat) - 1).tdiv (8 : Int) * (8 : Int))), o7, o8]) f_94_25 (Nat.le_of_ble_eq_true rfl) rfl).trans ((st_aload_n f_94_27 rfl).trans ((sw_iload f_94_28 rfl).trans ((sw_iaload f_94_30 g1 g2).trans ((sw_iconst f_94_31).trans ((sw_isub f_94_32).trans ((sw_bipush f_94_33 c8_8).trans ((sw_idivT f_94_35 g3).trans ((sw_bipush f_94_36 c8_8).trans ((sw_iremT f_94_38 g4).trans ((sw_istore (L' := [some (.ref a0), o1, o2, o3, o4, some (xw x5), some (xw (((V a0 x5.toNat) - 1) - ((V a0 x5.toNat) - 1).tdiv (8 : Int) * (8 : Int))), some (xw ((((V a0 x5.toNat) - 1).tdiv (8 : Int)) - (((V a0 x5.toNat) - 1).tdiv (8 : Int)).tdiv (8 : Int) * (8 : Int))), o8]) f_94_39 (Nat.le_of_ble_eq_true rfl) rfl).trans ((st_aload_n f_94_41 rfl).trans ((sw_iload f_94_42 rfl).trans ((sw_iaload f_94_44 g1 g2).trans (sw_if_le (t := 76) f_94_45 ⟨by decide, rfl⟩ g5)))))))))))))))))))))
theorem bL_length_48 {o0 o1 o3 o4 o5 o7 o8 : Option Value} {x6 x2 : Int} (g1 : -2147483648 ≤ x6 ∧ x6 ≤ 2147483647) (g2 : -2147483648 ≤ x2 ∧ x2 ≤ 2147483647) : XR sc d 94 48 [o0, o1, some (xw x2), o3, o4, o5, some (xw x6), o7, o8] [] (T, z, xv V, J, R) = if x6 = x2 then XR sc d 94 54 [o0, o1, some (xw x2), o3, o4, o5, some (xw x6), o7, o8] [] (T, z, xv V, J, R) else XR sc d 94 60 [o0, o1, some (xw x2), o3, o4, o5, some (xw x6), o7, o8] [] (T, z, xv V, J, R) :=
  (sw_iload f_94_48 rfl).trans ((sw_iload_n f_94_50 rfl).trans (sw_icmp_ne (t := 60) f_94_51 ⟨by decide, rfl⟩ g1 g2))
theorem bL_length_54 {o0 o1 o2 o4 o5 o6 o8 : Option Value} {x7 x3 : Int} (g1 : -2147483648 ≤ x7 ∧ x7 ≤ 2147483647) (g2 : -2147483648 ≤ x3 ∧ x3 ≤ 2147483647) : XR sc d 94 54 [o0, o1, o2, some (xw x3), o4, o5, o6, some (xw x7), o8] [] (T, z, xv V, J, R) = if x7 = x3 then XR sc d 94 72 [o0, o1, o2, some (xw x3), o4, o5, o6, some (xw x7), o8] [] (T, z, xv V, J, R) else XR sc d 94 60 [o0, o1, o2, some (xw x3), o4, o5, o6, some (xw x7), o8] [] (T, z, xv V, J, R) :=
  (sw_iload f_94_54 rfl).trans ((sw_iload_n f_94_56 rfl).trans (sw_icmp_eq (t := 72) f_94_57 ⟨by decide, rfl⟩ g1 g2))
theorem bL_length_60 {o0 o1 o2 o4 o5 o7 o8 : Option Value} {x6 x3 : Int} (g1 : -2147483648 ≤ x6 ∧ x6 ≤ 2147483647) (g2 : -2147483648 ≤ x3 ∧ x3 ≤ 2147483647) : XR sc d 94 60 [o0, o1, o2, some (xw x3), o4, o5, some (xw x6), o7, o8] [] (T, z, xv V, J, R) = if x6 = x3 then XR sc d 94 66 [o0, o1, o2, some (xw x3), o4, o5, some (xw x6), o7, o8] [] (T, z, xv V, J, R) else XR sc d 94 76 [o0, o1, o2, some (xw x3), o4, o5, some (xw x6), o7, o8] [] (T, z, xv V, J, R) :=
  (sw_iload f_94_60 rfl).trans ((sw_iload_n f_94_62 rfl).trans (sw_icmp_ne (t := 76) f_94_63 ⟨by decide, rfl⟩ g1 g2))
theorem bL_length_66 {o0 o1 o3 o4 o5 o6 o8 : Option Value} {x7 x2 : Int} (g1 : -2147483648 ≤ x7 ∧ x7 ≤ 2147483647) (g2 : -2147483648 ≤ x2 ∧ x2 ≤ 2147483647) : XR sc d 94 66 [o0, o1, some (xw x2), o3, o4, o5, o6, some (xw x7), o8] [] (T, z, xv V, J, R) = if x7 = x2 then XR sc d 94 72 [o0, o1, some (xw x2), o3, o4, o5, o6, some (xw x7), o8] [] (T, z, xv V, J, R) else XR sc d 94 76 [o0, o1, some (xw x2), o3, o4, o5, o6, some (xw x7), o8] [] (T, z, xv V, J, R) :=
  (sw_iload f_94_66 rfl).trans ((sw_iload_n f_94_68 rfl).trans (sw_icmp_ne (t := 76) f_94_69 ⟨by decide, rfl⟩ g1 g2))
theorem bL_length_72 {o0 o1 o2 o3 o4 o5 o6 o7 o8 : Option Value} : XR sc d 94 72 [o0, o1, o2, o3, o4, o5, o6, o7, o8] [] (T, z, xv V, J, R) = XR sc d 94 77 [o0, o1, o2, o3, o4, o5, o6, o7, o8] [xw 1] (T, z, xv V, J, R) :=
  (sw_iconst f_94_72).trans (st_goto (t := 77) f_94_73 ⟨by decide, rfl⟩)
theorem bL_length_76 {o0 o1 o2 o3 o4 o5 o6 o7 o8 : Option Value} : XR sc d 94 76 [o0, o1, o2, o3, o4, o5, o6, o7, o8] [] (T, z, xv V, J, R) = XR sc d 94 77 [o0, o1, o2, o3, o4, o5, o6, o7, o8] [xw 0] (T, z, xv V, J, R) :=
  sw_iconst f_94_76
theorem bL_length_77 {o0 o1 o2 o3 o4 o5 o6 o7 o8 : Option Value} {y0 : Int} (g1 : -2147483648 ≤ y0 ∧ y0 ≤ 2147483647) : XR sc d 94 77 [o0, o1, o2, o3, o4, o5, o6, o7, o8] [xw y0] (T, z, xv V, J, R) = if y0 = 0 then XR sc d 94 110 [o0, o1, o2, o3, o4, o5, o6, o7, some (xw y0)] [] (T, z, xv V, J, R) else XR sc d 94 84 [o0, o1, o2, o3, o4, o5, o6, o7, some (xw y0)] [] (T, z, xv V, J, R) :=
  (sw_istore (L' := [o0, o1, o2, o3, o4, o5, o6, o7, some (xw y0)]) f_94_77 (Nat.le_of_ble_eq_true rfl) rfl).trans ((sw_iload f_94_79 rfl).trans (sw_if_eq (t := 110) f_94_81 ⟨by decide, rfl⟩ g1))
theorem bL_length_84 {o1 o2 o3 o6 o7 o8 : Option Value} {x5 x4 : Int} {a0 : Nat} (g1 : T a0 = (32, (T a0).2)) (g2 : (0 : Int) ≤ x5 ∧ x5 < ((T a0).2 : Int) ∧ (T a0).2 ≤ 3584) (g3 : ¬ (64 : Int) = 0 ∧ ¬ (((V a0 x5.toNat) - 1) = -2147483648 ∧ (64 : Int) = -1) ∧ (-2147483648 ≤ ((V a0 x5.toNat) - 1) ∧ ((V a0 x5.toNat) - 1) ≤ 2147483647) ∧ -2147483648 ≤ (64 : Int) ∧ (64 : Int) ≤ 2147483647) (g4 : -2147483648 ≤ (((V a0 x5.toNat) - 1).tdiv (64 : Int)) ∧ (((V a0 x5.toNat) - 1).tdiv (64 : Int)) ≤ 2147483647) (g5 : -2147483648 ≤ x4 ∧ x4 ≤ 2147483647) : XR sc d 94 84 [some (.ref a0), o1, o2, o3, some (xw x4), some (xw x5), o6, o7, o8] [] (T, z, xv V, J, R) = if x4 ≤ (((V a0 x5.toNat) - 1).tdiv (64 : Int)) then XR sc d 94 110 [some (.ref a0), o1, o2, o3, some (xw x4), some (xw x5), o6, o7, o8] [] (T, z, xv V, J, R) else XR sc d 94 98 [some (.ref a0), o1, o2, o3, some (xw x4), some (xw x5), o6, o7, o8] [] (T, z, xv V, J, R) :=
  (st_aload_n f_94_84 rfl).trans ((sw_iload f_94_85 rfl).trans ((sw_iaload f_94_87 g1 g2).trans ((sw_iconst f_94_88).trans ((sw_isub f_94_89).trans ((sw_bipush f_94_90 c8_64).trans ((sw_idivT f_94_92 g3).trans ((sw_iload f_94_93 rfl).trans (sw_icmp_ge (t := 110) f_94_95 ⟨by decide, rfl⟩ g4 g5))))))))
theorem bL_length_98 {o1 o2 o3 o4 o6 o7 o8 : Option Value} {x5 : Int} {a0 : Nat} (g1 : T a0 = (32, (T a0).2)) (g2 : (0 : Int) ≤ x5 ∧ x5 < ((T a0).2 : Int) ∧ (T a0).2 ≤ 3584) (g3 : ¬ (64 : Int) = 0 ∧ ¬ (((V a0 x5.toNat) - 1) = -2147483648 ∧ (64 : Int) = -1) ∧ (-2147483648 ≤ ((V a0 x5.toNat) - 1) ∧ ((V a0 x5.toNat) - 1) ≤ 2147483647) ∧ -2147483648 ≤ (64 : Int) ∧ (64 : Int) ≤ 2147483647) : XR sc d 94 98 [some (.ref a0), o1, o2, o3, o4, some (xw x5), o6, o7, o8] [] (T, z, xv V, J, R) = XR sc d 94 112 [some (.ref a0), o1, o2, o3, o4, some (xw x5), o6, o7, o8] [xw (((V a0 x5.toNat) - 1).tdiv (64 : Int))] (T, z, xv V, J, R) :=
  (st_aload_n f_94_98 rfl).trans ((sw_iload f_94_99 rfl).trans ((sw_iaload f_94_101 g1 g2).trans ((sw_iconst f_94_102).trans ((sw_isub f_94_103).trans ((sw_bipush f_94_104 c8_64).trans ((sw_idivT f_94_106 g3).trans (st_goto (t := 112) f_94_107 ⟨by decide, rfl⟩)))))))
theorem bL_length_110 {o0 o1 o2 o3 o5 o6 o7 o8 : Option Value} {x4 : Int} : XR sc d 94 110 [o0, o1, o2, o3, some (xw x4), o5, o6, o7, o8] [] (T, z, xv V, J, R) = XR sc d 94 112 [o0, o1, o2, o3, some (xw x4), o5, o6, o7, o8] [xw x4] (T, z, xv V, J, R) :=
  sw_iload f_94_110 rfl
theorem bL_length_112 {o0 o1 o2 o3 o4 o6 o7 o8 : Option Value} {y0 x5 : Int} : XR sc d 94 112 [o0, o1, o2, o3, o4, some (xw x5), o6, o7, o8] [xw y0] (T, z, xv V, J, R) = XR sc d 94 8 [o0, o1, o2, o3, some (xw y0), some (xw (x5 + 1)), o6, o7, o8] [] (T, z, xv V, J, R) :=
  (sw_istore (L' := [o0, o1, o2, o3, some (xw y0), some (xw x5), o6, o7, o8]) f_94_112 (Nat.le_of_ble_eq_true rfl) rfl).trans ((sw_iinc (L' := [o0, o1, o2, o3, some (xw y0), some (xw (x5 + 1)), o6, o7, o8]) f_94_114 rfl (Nat.le_of_ble_eq_true rfl) rfl).trans (st_goto (t := 8) f_94_117 ⟨by decide, rfl⟩))
theorem bL_length_120 {o0 o1 o2 o3 o5 o6 o7 o8 : Option Value} {x4 : Int} : XR sc d 94 120 [o0, o1, o2, o3, some (xw x4), o5, o6, o7, o8] [] (T, z, xv V, J, R) = some (.inl (some (xw x4)), (T, z, xv V, J, R)) :=
  (sw_iload f_94_120 rfl).trans (sw_ireturn f_94_122 mr_94)
theorem eL_depth {x1 x2 x3 : Int} {a0 : Nat} : X sc (d + 1) 100 [.ref a0, xw x1, xw x2, xw x3] (T, z, xv V, J, R) = XR sc d 100 0 [some (.ref a0), some (xw x1), some (xw x2), some (xw x3), none, none, none, none] [] (T, z, xv V, J, R) :=
  (X_eq ⟨jl_100, by rw [mn_100]; rfl, rfl, by rw [lm_100]; exact Nat.le_of_ble_eq_true rfl⟩).trans (by unfold xent; rw [lm_100]; rfl)
theorem bL_depth_0 {o0 o1 o2 o4 o5 o6 o7 : Option Value} {x3 : Int} : XR sc d 100 0 [o0, o1, o2, some (xw x3), o4, o5, o6, o7] [] (T, z, xv V, J, R) = XR sc d 100 7 [o0, o1, o2, some (xw x3), some (xw (-121)), some (xw x3), o6, o7] [] (T, z, xv V, J, R) :=
  (sw_bipush f_100_0 c8_m121).trans ((sw_istore (L' := [o0, o1, o2, some (xw x3), some (xw (-121)), o5, o6, o7]) f_100_2 (Nat.le_of_ble_eq_true rfl) rfl).trans ((sw_iload_n f_100_4 rfl).trans (sw_istore (L' := [o0, o1, o2, some (xw x3), some (xw (-121)), some (xw x3), o6, o7]) f_100_5 (Nat.le_of_ble_eq_true rfl) rfl)))
theorem bL_depth_7 {o0 o1 o2 o3 o4 o6 o7 : Option Value} {x5 : Int} (g1 : -2147483648 ≤ x5 ∧ x5 ≤ 2147483647) : XR sc d 100 7 [o0, o1, o2, o3, o4, some (xw x5), o6, o7] [] (T, z, xv V, J, R) = if x5 ≤ 0 then XR sc d 100 96 [o0, o1, o2, o3, o4, some (xw x5), o6, o7] [] (T, z, xv V, J, R) else XR sc d 100 12 [o0, o1, o2, o3, o4, some (xw x5), o6, o7] [] (T, z, xv V, J, R) :=
  (sw_iload f_100_7 rfl).trans (sw_if_le (t := 96) f_100_9 ⟨by decide, rfl⟩ g1)
theorem bL_depth_12 {o0 o1 o2 o3 o4 o5 o6 o7 : Option Value} : XR sc d 100 12 [o0, o1, o2, o3, o4, o5, o6, o7] [] (T, z, xv V, J, R) = XR sc d 100 18 [o0, o1, o2, o3, o4, o5, some (xw 0), some (xw 0)] [] (T, z, xv V, J, R) :=
  (sw_iconst f_100_12).trans ((sw_istore (L' := [o0, o1, o2, o3, o4, o5, some (xw 0), o7]) f_100_13 (Nat.le_of_ble_eq_true rfl) rfl).trans ((sw_iconst f_100_15).trans (sw_istore (L' := [o0, o1, o2, o3, o4, o5, some (xw 0), some (xw 0)]) f_100_16 (Nat.le_of_ble_eq_true rfl) rfl)))
theorem bL_depth_18 {o0 o1 o2 o3 o4 o5 o6 : Option Value} {x7 : Int} (g1 : -2147483648 ≤ x7 ∧ x7 ≤ 2147483647) : XR sc d 100 18 [o0, o1, o2, o3, o4, o5, o6, some (xw x7)] [] (T, z, xv V, J, R) = if 7 ≤ x7 then XR sc d 100 81 [o0, o1, o2, o3, o4, o5, o6, some (xw x7)] [] (T, z, xv V, J, R) else XR sc d 100 25 [o0, o1, o2, o3, o4, o5, o6, some (xw x7)] [] (T, z, xv V, J, R) :=
  (sw_iload f_100_18 rfl).trans ((sw_bipush f_100_20 c8_7).trans (sw_icmp_ge (t := 81) f_100_22 ⟨by decide, rfl⟩ g1 ⟨by decide, by decide⟩))
theorem bL_depth_25 {o3 o5 : Option Value} {x6 x2 x7 x1 x4 : Int} {a0 : Nat} (g1 : T a0 = (32, (T a0).2)) (g2 : (0 : Int) ≤ ((14 + (7 * x2)) + x7) ∧ ((14 + (7 * x2)) + x7) < ((T a0).2 : Int) ∧ (T a0).2 ≤ 3584) (g3 : (0 : Int) ≤ ((28 + (7 * x2)) + x7) ∧ ((28 + (7 * x2)) + x7) < ((T a0).2 : Int) ∧ (T a0).2 ≤ 3584) (g4 : (0 : Int) ≤ ((7 * x1) + x7) ∧ ((7 * x1) + x7) < ((T a0).2 : Int) ∧ (T a0).2 ≤ 3584) (g5 : -2147483648 ≤ (((V a0 ((14 + (7 * x2)) + x7).toNat) - (V a0 ((28 + (7 * x2)) + x7).toNat)) - (V a0 ((7 * x1) + x7).toNat)) ∧ (((V a0 ((14 + (7 * x2)) + x7).toNat) - (V a0 ((28 + (7 * x2)) + x7).toNat)) - (V a0 ((7 * x1) + x7).toNat)) ≤ 2147483647) (g6 : -2147483648 ≤ x4 ∧ x4 ≤ 2147483647) : XR sc d 100 25 [some (.ref a0), some (xw x1), some (xw x2), o3, some (xw x4), o5, some (xw x6), some (xw x7)] [] (T, z, xv V, J, R) = if x4 < (((V a0 ((14 + (7 * x2)) + x7).toNat) - (V a0 ((28 + (7 * x2)) + x7).toNat)) - (V a0 ((7 * x1) + x7).toNat)) then XR sc d 100 71 [some (.ref a0), some (xw x1), some (xw x2), o3, some (xw x4), o5, some (xw x6), some (xw x7)] [xw x6] (T, z, xv V, J, R) else XR sc d 100 67 [some (.ref a0), some (xw x1), some (xw x2), o3, some (xw x4), o5, some (xw x6), some (xw x7)] [xw x6] (T, z, xv V, J, R) :=
  (sw_iload f_100_25 rfl).trans ((st_aload_n f_100_27 rfl).trans ((sw_bipush f_100_28 c8_14).trans ((sw_bipush f_100_30 c8_7).trans ((sw_iload_n f_100_32 rfl).trans ((sw_imul f_100_33).trans ((sw_iadd f_100_34).trans ((sw_iload f_100_35 rfl).trans ((sw_iadd f_100_37).trans ((sw_iaload f_100_38 g1 g2).trans ((st_aload_n f_100_39 rfl).trans ((sw_bipush f_100_40 c8_28).trans ((sw_bipush f_100_42 c8_7).trans ((sw_iload_n f_100_44 rfl).trans ((sw_imul f_100_45).trans ((sw_iadd f_100_46).trans ((sw_iload f_100_47 rfl).trans ((sw_iadd f_100_49).trans ((sw_iaload f_100_50 g1 g3).trans ((sw_isub f_100_51).trans ((st_aload_n f_100_52 rfl).trans ((sw_bipush f_100_53 c8_7).trans ((sw_iload_n f_100_55 rfl).trans ((sw_imul f_100_56).trans ((sw_iload f_100_57 rfl).trans ((sw_iadd f_100_59).trans ((sw_iaload f_100_60 g1 g4).trans ((sw_isub f_100_61).trans ((sw_iload f_100_62 rfl).trans (sw_icmp_gt (t := 71) f_100_64 ⟨by decide, rfl⟩ g5 g6)))))))))))))))))))))))))))))
theorem bL_depth_67 {o0 o1 o2 o3 o4 o5 o6 o7 : Option Value} {s0 : Value} : XR sc d 100 67 [o0, o1, o2, o3, o4, o5, o6, o7] [s0] (T, z, xv V, J, R) = XR sc d 100 72 [o0, o1, o2, o3, o4, o5, o6, o7] [xw 1, s0] (T, z, xv V, J, R) :=
  (sw_iconst f_100_67).trans (st_goto (t := 72) f_100_68 ⟨by decide, rfl⟩)
theorem bL_depth_71 {o0 o1 o2 o3 o4 o5 o6 o7 : Option Value} {s0 : Value} : XR sc d 100 71 [o0, o1, o2, o3, o4, o5, o6, o7] [s0] (T, z, xv V, J, R) = XR sc d 100 72 [o0, o1, o2, o3, o4, o5, o6, o7] [xw 0, s0] (T, z, xv V, J, R) :=
  sw_iconst f_100_71
theorem bL_depth_72 {o0 o1 o2 o3 o4 o5 o6 : Option Value} {y0 y1 x7 : Int} : XR sc d 100 72 [o0, o1, o2, o3, o4, o5, o6, some (xw x7)] [xw y0, xw y1] (T, z, xv V, J, R) = XR sc d 100 18 [o0, o1, o2, o3, o4, o5, some (xw (y1 + y0)), some (xw (x7 + 1))] [] (T, z, xv V, J, R) :=
  (sw_iadd f_100_72).trans ((sw_istore (L' := [o0, o1, o2, o3, o4, o5, some (xw (y1 + y0)), some (xw x7)]) f_100_73 (Nat.le_of_ble_eq_true rfl) rfl).trans ((sw_iinc (L' := [o0, o1, o2, o3, o4, o5, some (xw (y1 + y0)), some (xw (x7 + 1))]) f_100_75 rfl (Nat.le_of_ble_eq_true rfl) rfl).trans (st_goto (t := 18) f_100_78 ⟨by decide, rfl⟩)))
theorem bL_depth_81 {o0 o1 o2 o3 o7 : Option Value} {x5 x6 x4 : Int} : XR sc d 100 81 [o0, o1, o2, o3, some (xw x4), some (xw x5), some (xw x6), o7] [] (T, z, xv V, J, R) = XR sc d 100 7 [o0, o1, o2, o3, some (xw (x4 + 1)), some (xw (x5 - (4 * x6))), some (xw x6), o7] [] (T, z, xv V, J, R) :=
  (sw_iload f_100_81 rfl).trans ((sw_iconst f_100_83).trans ((sw_iload f_100_84 rfl).trans ((sw_imul f_100_86).trans ((sw_isub f_100_87).trans ((sw_istore (L' := [o0, o1, o2, o3, some (xw x4), some (xw (x5 - (4 * x6))), some (xw x6), o7]) f_100_88 (Nat.le_of_ble_eq_true rfl) rfl).trans ((sw_iinc (L' := [o0, o1, o2, o3, some (xw (x4 + 1)), some (xw (x5 - (4 * x6))), some (xw x6), o7]) f_100_90 rfl (Nat.le_of_ble_eq_true rfl) rfl).trans (st_goto (t := 7) f_100_93 ⟨by decide, rfl⟩)))))))
theorem bL_depth_96 {o0 o1 o2 o3 o5 o6 o7 : Option Value} {x4 : Int} : XR sc d 100 96 [o0, o1, o2, o3, some (xw x4), o5, o6, o7] [] (T, z, xv V, J, R) = some (.inl (some (xw x4)), (T, z, xv V, J, R)) :=
  (sw_iload f_100_96 rfl).trans (sw_ireturn f_100_98 mr_100)
theorem eL_pressure {x1 x2 x3 x4 : Int} {a0 : Nat} : X sc (d + 1) 101 [.ref a0, xw x1, xw x2, xw x3, xw x4] (T, z, xv V, J, R) = XR sc d 101 0 [some (.ref a0), some (xw x1), some (xw x2), some (xw x3), some (xw x4), none] [] (T, z, xv V, J, R) :=
  (X_eq ⟨jl_101, by rw [mn_101]; rfl, rfl, by rw [lm_101]; exact Nat.le_of_ble_eq_true rfl⟩).trans (by unfold xent; rw [lm_101]; rfl)
theorem bL_pressure_0 {o5 : Option Value} {x3 x2 x4 x1 : Int} {a0 : Nat} (g1 : T a0 = (32, (T a0).2)) (g2 : (0 : Int) ≤ ((14 + (7 * x2)) + x4) ∧ ((14 + (7 * x2)) + x4) < ((T a0).2 : Int) ∧ (T a0).2 ≤ 3584) (g3 : (0 : Int) ≤ ((28 + (7 * x2)) + x4) ∧ ((28 + (7 * x2)) + x4) < ((T a0).2 : Int) ∧ (T a0).2 ≤ 3584) (g4 : (0 : Int) ≤ ((7 * x1) + x4) ∧ ((7 * x1) + x4) < ((T a0).2 : Int) ∧ (T a0).2 ≤ 3584) (g5 : -2147483648 ≤ (x3 - (((V a0 ((14 + (7 * x2)) + x4).toNat) - (V a0 ((28 + (7 * x2)) + x4).toNat)) - (V a0 ((7 * x1) + x4).toNat))) ∧ (x3 - (((V a0 ((14 + (7 * x2)) + x4).toNat) - (V a0 ((28 + (7 * x2)) + x4).toNat)) - (V a0 ((7 * x1) + x4).toNat))) ≤ 2147483647) : XR sc d 101 0 [some (.ref a0), some (xw x1), some (xw x2), some (xw x3), some (xw x4), o5] [] (T, z, xv V, J, R) = if 0 ≤ (x3 - (((V a0 ((14 + (7 * x2)) + x4).toNat) - (V a0 ((28 + (7 * x2)) + x4).toNat)) - (V a0 ((7 * x1) + x4).toNat))) then XR sc d 101 48 [some (.ref a0), some (xw x1), some (xw x2), some (xw x3), some (xw x4), some (xw (x3 - (((V a0 ((14 + (7 * x2)) + x4).toNat) - (V a0 ((28 + (7 * x2)) + x4).toNat)) - (V a0 ((7 * x1) + x4).toNat))))] [] (T, z, xv V, J, R) else XR sc d 101 44 [some (.ref a0), some (xw x1), some (xw x2), some (xw x3), some (xw x4), some (xw (x3 - (((V a0 ((14 + (7 * x2)) + x4).toNat) - (V a0 ((28 + (7 * x2)) + x4).toNat)) - (V a0 ((7 * x1) + x4).toNat))))] [] (T, z, xv V, J, R) :=
  (sw_iload_n f_101_0 rfl).trans ((st_aload_n f_101_1 rfl).trans ((sw_bipush f_101_2 c8_14).trans ((sw_bipush f_101_4 c8_7).trans ((sw_iload_n f_101_6 rfl).trans ((sw_imul f_101_7).trans ((sw_iadd f_101_8).trans ((sw_iload f_101_9 rfl).trans ((sw_iadd f_101_11).trans ((sw_iaload f_101_12 g1 g2).trans ((st_aload_n f_101_13 rfl).trans ((sw_bipush f_101_14 c8_28).trans ((sw_bipush f_101_16 c8_7).trans ((sw_iload_n f_101_18 rfl).trans ((sw_imul f_101_19).trans ((sw_iadd f_101_20).trans ((sw_iload f_101_21 rfl).trans ((sw_iadd f_101_23).trans ((sw_iaload f_101_24 g1 g3).trans ((sw_isub f_101_25).trans ((st_aload_n f_101_26 rfl).trans ((sw_bipush f_101_27 c8_7).trans ((sw_iload_n f_101_29 rfl).trans ((sw_imul f_101_30).trans ((sw_iload f_101_31 rfl).trans ((sw_iadd f_101_33).trans ((sw_iaload f_101_34 g1 g4).trans ((sw_isub f_101_35).trans ((sw_isub f_101_36).trans ((sw_istore (L' := [some (.ref a0), some (xw x1), some (xw x2), some (xw x3), some (xw x4), some (xw (x3 - (((V a0 ((14 + (7 * x2)) + x4).toNat) - (V a0 ((28 + (7 * x2)) + x4).toNat)) - (V a0 ((7 * x1) + x4).toNat))))]) f_101_37 (Nat.le_of_ble_eq_true rfl) rfl).trans ((sw_iload f_101_39 rfl).trans (sw_if_ge (t := 48) f_101_41 ⟨by decide, rfl⟩ g5)))))))))))))))))))))))))))))))
theorem bL_pressure_44 {o0 o1 o2 o3 o4 o5 : Option Value} : XR sc d 101 44 [o0, o1, o2, o3, o4, o5] [] (T, z, xv V, J, R) = XR sc d 101 52 [o0, o1, o2, o3, o4, o5] [xw 0] (T, z, xv V, J, R) :=
  (sw_iconst f_101_44).trans (st_goto (t := 52) f_101_45 ⟨by decide, rfl⟩)
theorem bL_pressure_48 {o0 o1 o2 o3 o4 : Option Value} {x5 : Int} : XR sc d 101 48 [o0, o1, o2, o3, o4, some (xw x5)] [] (T, z, xv V, J, R) = XR sc d 101 52 [o0, o1, o2, o3, o4, some (xw x5)] [xw (4 * x5)] (T, z, xv V, J, R) :=
  (sw_iconst f_101_48).trans ((sw_iload f_101_49 rfl).trans (sw_imul f_101_51))
theorem bL_pressure_52 {o0 o1 o2 o3 o4 o5 : Option Value} {y0 : Int} : XR sc d 101 52 [o0, o1, o2, o3, o4, o5] [xw y0] (T, z, xv V, J, R) = some (.inl (some (xw y0)), (T, z, xv V, J, R)) :=
  sw_ireturn f_101_52 mr_101
theorem eL_isLame {x1 : Int} {a0 : Nat} : X sc (d + 1) 102 [.ref a0, xw x1] (T, z, xv V, J, R) = XR sc d 102 0 [some (.ref a0), some (xw x1), none, none] [] (T, z, xv V, J, R) :=
  (X_eq ⟨jl_102, by rw [mn_102]; rfl, rfl, by rw [lm_102]; exact Nat.le_of_ble_eq_true rfl⟩).trans (by unfold xent; rw [lm_102]; rfl)
theorem bL_isLame_0 {o0 o1 o2 o3 : Option Value} : XR sc d 102 0 [o0, o1, o2, o3] [] (T, z, xv V, J, R) = XR sc d 102 4 [o0, o1, some (xw 0), some (xw 0)] [] (T, z, xv V, J, R) :=
  (sw_iconst f_102_0).trans ((sw_istore_n (L' := [o0, o1, some (xw 0), o3]) f_102_1 (Nat.le_of_ble_eq_true rfl) rfl).trans ((sw_iconst f_102_2).trans (sw_istore_n (L' := [o0, o1, some (xw 0), some (xw 0)]) f_102_3 (Nat.le_of_ble_eq_true rfl) rfl)))
theorem bL_isLame_4 {o0 o1 o2 : Option Value} {x3 : Int} (g1 : -2147483648 ≤ x3 ∧ x3 ≤ 2147483647) : XR sc d 102 4 [o0, o1, o2, some (xw x3)] [] (T, z, xv V, J, R) = if 7 ≤ x3 then XR sc d 102 42 [o0, o1, o2, some (xw x3)] [] (T, z, xv V, J, R) else XR sc d 102 10 [o0, o1, o2, some (xw x3)] [] (T, z, xv V, J, R) :=
  (sw_iload_n f_102_4 rfl).trans ((sw_bipush f_102_5 c8_7).trans (sw_icmp_ge (t := 42) f_102_7 ⟨by decide, rfl⟩ g1 ⟨by decide, by decide⟩))
theorem bL_isLame_10 {o0 o1 o3 : Option Value} {x2 : Int} (g1 : -2147483648 ≤ x2 ∧ x2 ≤ 2147483647) : XR sc d 102 10 [o0, o1, some (xw x2), o3] [] (T, z, xv V, J, R) = if x2 = 0 then XR sc d 102 14 [o0, o1, some (xw x2), o3] [] (T, z, xv V, J, R) else XR sc d 102 30 [o0, o1, some (xw x2), o3] [] (T, z, xv V, J, R) :=
  (sw_iload_n f_102_10 rfl).trans (sw_if_ne (t := 30) f_102_11 ⟨by decide, rfl⟩ g1)
theorem bL_isLame_14 {o2 : Option Value} {x1 x3 : Int} {a0 : Nat} (g1 : T a0 = (32, (T a0).2)) (g2 : (0 : Int) ≤ ((42 + (7 * x1)) + x3) ∧ ((42 + (7 * x1)) + x3) < ((T a0).2 : Int) ∧ (T a0).2 ≤ 3584) (g3 : -2147483648 ≤ (V a0 ((42 + (7 * x1)) + x3).toNat) ∧ (V a0 ((42 + (7 * x1)) + x3).toNat) ≤ 2147483647) : XR sc d 102 14 [some (.ref a0), some (xw x1), o2, some (xw x3)] [] (T, z, xv V, J, R) = if (V a0 ((42 + (7 * x1)) + x3).toNat) ≤ 99 then XR sc d 102 34 [some (.ref a0), some (xw x1), o2, some (xw x3)] [] (T, z, xv V, J, R) else XR sc d 102 30 [some (.ref a0), some (xw x1), o2, some (xw x3)] [] (T, z, xv V, J, R) :=
  (st_aload_n f_102_14 rfl).trans ((sw_bipush f_102_15 c8_42).trans ((sw_bipush f_102_17 c8_7).trans ((sw_iload_n f_102_19 rfl).trans ((sw_imul f_102_20).trans ((sw_iadd f_102_21).trans ((sw_iload_n f_102_22 rfl).trans ((sw_iadd f_102_23).trans ((sw_iaload f_102_24 g1 g2).trans ((sw_bipush f_102_25 c8_99).trans (sw_icmp_le (t := 34) f_102_27 ⟨by decide, rfl⟩ g3 ⟨by decide, by decide⟩))))))))))
theorem bL_isLame_30 {o0 o1 o2 o3 : Option Value} : XR sc d 102 30 [o0, o1, o2, o3] [] (T, z, xv V, J, R) = XR sc d 102 35 [o0, o1, o2, o3] [xw 1] (T, z, xv V, J, R) :=
  (sw_iconst f_102_30).trans (st_goto (t := 35) f_102_31 ⟨by decide, rfl⟩)
theorem bL_isLame_34 {o0 o1 o2 o3 : Option Value} : XR sc d 102 34 [o0, o1, o2, o3] [] (T, z, xv V, J, R) = XR sc d 102 35 [o0, o1, o2, o3] [xw 0] (T, z, xv V, J, R) :=
  sw_iconst f_102_34
theorem bL_isLame_35 {o0 o1 o2 : Option Value} {y0 x3 : Int} : XR sc d 102 35 [o0, o1, o2, some (xw x3)] [xw y0] (T, z, xv V, J, R) = XR sc d 102 4 [o0, o1, some (xw y0), some (xw (x3 + 1))] [] (T, z, xv V, J, R) :=
  (sw_istore_n (L' := [o0, o1, some (xw y0), some (xw x3)]) f_102_35 (Nat.le_of_ble_eq_true rfl) rfl).trans ((sw_iinc (L' := [o0, o1, some (xw y0), some (xw (x3 + 1))]) f_102_36 rfl (Nat.le_of_ble_eq_true rfl) rfl).trans (st_goto (t := 4) f_102_39 ⟨by decide, rfl⟩))
theorem bL_isLame_42 {o0 o1 o3 : Option Value} {x2 : Int} (g1 : x2 = 0 ∨ x2 = 1) : XR sc d 102 42 [o0, o1, some (xw x2), o3] [] (T, z, xv V, J, R) = some (.inl (some (xw x2)), (T, z, xv V, J, R)) :=
  (sw_iload_n f_102_42 rfl).trans (sw_zreturn f_102_43 mr_102 g1)
theorem eL_many {x0 : Int} : X sc (d + 1) 103 [xw x0] (T, z, xv V, J, R) = XR sc d 103 0 [some (xw x0), none, none] [] (T, z, xv V, J, R) :=
  (X_eq ⟨jl_103, by rw [mn_103]; rfl, rfl, by rw [lm_103]; exact Nat.le_of_ble_eq_true rfl⟩).trans (by unfold xent; rw [lm_103]; rfl)
theorem bL_many_0 {o0 o1 o2 : Option Value} : XR sc d 103 0 [o0, o1, o2] [] (T, z, xv V, J, R) = XR sc d 103 4 [o0, some (xw 0), some (xw 0)] [] (T, z, xv V, J, R) :=
  (sw_iconst f_103_0).trans ((sw_istore_n (L' := [o0, some (xw 0), o2]) f_103_1 (Nat.le_of_ble_eq_true rfl) rfl).trans ((sw_iconst f_103_2).trans (sw_istore_n (L' := [o0, some (xw 0), some (xw 0)]) f_103_3 (Nat.le_of_ble_eq_true rfl) rfl)))
theorem bL_many_4 {o0 o1 : Option Value} {x2 : Int} (g1 : -2147483648 ≤ x2 ∧ x2 ≤ 2147483647) : XR sc d 103 4 [o0, o1, some (xw x2)] [] (T, z, xv V, J, R) = if 30 ≤ x2 then XR sc d 103 24 [o0, o1, some (xw x2)] [] (T, z, xv V, J, R) else XR sc d 103 10 [o0, o1, some (xw x2)] [] (T, z, xv V, J, R) :=
  (sw_iload_n f_103_4 rfl).trans ((sw_bipush f_103_5 c8_30).trans (sw_icmp_ge (t := 24) f_103_7 ⟨by decide, rfl⟩ g1 ⟨by decide, by decide⟩))
theorem bL_many_10 {x1 x0 x2 : Int} : XR sc d 103 10 [some (xw x0), some (xw x1), some (xw x2)] [] (T, z, xv V, J, R) = XR sc d 103 4 [some (xw x0), some (xw (x1 + (iAnd (iShr x0 x2) 1))), some (xw (x2 + 1))] [] (T, z, xv V, J, R) :=
  (sw_iload_n f_103_10 rfl).trans ((sw_iload_n f_103_11 rfl).trans ((sw_iload_n f_103_12 rfl).trans ((sw_ishr f_103_13).trans ((sw_iconst f_103_14).trans ((sw_iand f_103_15).trans ((sw_iadd f_103_16).trans ((sw_istore_n (L' := [some (xw x0), some (xw (x1 + (iAnd (iShr x0 x2) 1))), some (xw x2)]) f_103_17 (Nat.le_of_ble_eq_true rfl) rfl).trans ((sw_iinc (L' := [some (xw x0), some (xw (x1 + (iAnd (iShr x0 x2) 1))), some (xw (x2 + 1))]) f_103_18 rfl (Nat.le_of_ble_eq_true rfl) rfl).trans (st_goto (t := 4) f_103_21 ⟨by decide, rfl⟩)))))))))
theorem bL_many_24 {o0 o2 : Option Value} {x1 : Int} : XR sc d 103 24 [o0, some (xw x1), o2] [] (T, z, xv V, J, R) = some (.inl (some (xw x1)), (T, z, xv V, J, R)) :=
  (sw_iload_n f_103_24 rfl).trans (sw_ireturn f_103_25 mr_103)
theorem eL_canCut {x1 x2 x3 x4 x5 x6 : Int} {a0 : Nat} : X sc (d + 1) 105 [.ref a0, xw x1, xw x2, xw x3, xw x4, xw x5, xw x6] (T, z, xv V, J, R) = XR sc d 105 0 [some (.ref a0), some (xw x1), some (xw x2), some (xw x3), some (xw x4), some (xw x5), some (xw x6), none, none] [] (T, z, xv V, J, R) :=
  (X_eq ⟨jl_105, by rw [mn_105]; rfl, rfl, by rw [lm_105]; exact Nat.le_of_ble_eq_true rfl⟩).trans (by unfold xent; rw [lm_105]; rfl)
theorem bL_canCut_0 {o0 o1 o2 o3 o4 o5 o7 o8 : Option Value} {x6 : Int} (g1 : -2147483648 ≤ x6 ∧ x6 ≤ 2147483647) : XR sc d 105 0 [o0, o1, o2, o3, o4, o5, some (xw x6), o7, o8] [] (T, z, xv V, J, R) = if x6 = 0 then XR sc d 105 14 [o0, o1, o2, o3, o4, o5, some (xw x6), o7, o8] [] (T, z, xv V, J, R) else XR sc d 105 5 [o0, o1, o2, o3, o4, o5, some (xw x6), o7, o8] [] (T, z, xv V, J, R) :=
  (sw_iload f_105_0 rfl).trans (sw_if_eq (t := 14) f_105_2 ⟨by decide, rfl⟩ g1)
theorem bL_canCut_5 {o0 o1 o2 o4 o6 o7 o8 : Option Value} {x3 x5 : Int} (g1 : -2147483648 ≤ (x3 + x5) ∧ (x3 + x5) ≤ 2147483647) : XR sc d 105 5 [o0, o1, o2, some (xw x3), o4, some (xw x5), o6, o7, o8] [] (T, z, xv V, J, R) = if 6 ≤ (x3 + x5) then XR sc d 105 18 [o0, o1, o2, some (xw x3), o4, some (xw x5), o6, o7, o8] [] (T, z, xv V, J, R) else XR sc d 105 14 [o0, o1, o2, some (xw x3), o4, some (xw x5), o6, o7, o8] [] (T, z, xv V, J, R) :=
  (sw_iload_n f_105_5 rfl).trans ((sw_iload f_105_6 rfl).trans ((sw_iadd f_105_8).trans ((sw_bipush f_105_9 c8_6).trans (sw_icmp_ge (t := 18) f_105_11 ⟨by decide, rfl⟩ g1 ⟨by decide, by decide⟩))))
theorem bL_canCut_14 {o0 o1 o2 o3 o4 o5 o6 o7 o8 : Option Value} : XR sc d 105 14 [o0, o1, o2, o3, o4, o5, o6, o7, o8] [] (T, z, xv V, J, R) = XR sc d 105 19 [o0, o1, o2, o3, o4, o5, o6, o7, o8] [xw 1] (T, z, xv V, J, R) :=
  (sw_iconst f_105_14).trans (st_goto (t := 19) f_105_15 ⟨by decide, rfl⟩)
theorem bL_canCut_18 {o0 o1 o2 o3 o4 o5 o6 o7 o8 : Option Value} : XR sc d 105 18 [o0, o1, o2, o3, o4, o5, o6, o7, o8] [] (T, z, xv V, J, R) = XR sc d 105 19 [o0, o1, o2, o3, o4, o5, o6, o7, o8] [xw 0] (T, z, xv V, J, R) :=
  sw_iconst f_105_18
theorem bL_canCut_19 {o0 o1 o2 o3 o4 o5 o6 o7 o8 : Option Value} {y0 : Int} : XR sc d 105 19 [o0, o1, o2, o3, o4, o5, o6, o7, o8] [xw y0] (T, z, xv V, J, R) = XR sc d 105 24 [o0, o1, o2, o3, o4, o5, o6, some (xw y0), some (xw 0)] [] (T, z, xv V, J, R) :=
  (sw_istore (L' := [o0, o1, o2, o3, o4, o5, o6, some (xw y0), o8]) f_105_19 (Nat.le_of_ble_eq_true rfl) rfl).trans ((sw_iconst f_105_21).trans (sw_istore (L' := [o0, o1, o2, o3, o4, o5, o6, some (xw y0), some (xw 0)]) f_105_22 (Nat.le_of_ble_eq_true rfl) rfl))
theorem bL_canCut_24 {o0 o1 o2 o3 o6 o7 : Option Value} {x8 x4 x5 : Int} (g1 : -2147483648 ≤ x8 ∧ x8 ≤ 2147483647) (g2 : -2147483648 ≤ (x4 * x5) ∧ (x4 * x5) ≤ 2147483647) : XR sc d 105 24 [o0, o1, o2, o3, some (xw x4), some (xw x5), o6, o7, some (xw x8)] [] (T, z, xv V, J, R) = if (x4 * x5) ≤ x8 then XR sc d 105 81 [o0, o1, o2, o3, some (xw x4), some (xw x5), o6, o7, some (xw x8)] [] (T, z, xv V, J, R) else XR sc d 105 34 [o0, o1, o2, o3, some (xw x4), some (xw x5), o6, o7, some (xw x8)] [] (T, z, xv V, J, R) :=
  (sw_iload f_105_24 rfl).trans ((sw_iload f_105_26 rfl).trans ((sw_iload f_105_28 rfl).trans ((sw_imul f_105_30).trans (sw_icmp_ge (t := 81) f_105_31 ⟨by decide, rfl⟩ g1 g2))))
theorem bL_canCut_34 {o0 o1 o2 o3 o4 o5 o6 o8 : Option Value} {x7 : Int} (g1 : -2147483648 ≤ x7 ∧ x7 ≤ 2147483647) : XR sc d 105 34 [o0, o1, o2, o3, o4, o5, o6, some (xw x7), o8] [] (T, z, xv V, J, R) = if x7 = 0 then XR sc d 105 72 [o0, o1, o2, o3, o4, o5, o6, some (xw x7), o8] [] (T, z, xv V, J, R) else XR sc d 105 39 [o0, o1, o2, o3, o4, o5, o6, some (xw x7), o8] [] (T, z, xv V, J, R) :=
  (sw_iload f_105_34 rfl).trans (sw_if_eq (t := 72) f_105_36 ⟨by decide, rfl⟩ g1)
theorem bL_canCut_39 {o5 o6 o7 : Option Value} {x1 x3 x8 x4 x2 : Int} {a0 : Nat} (g1 : 0 < x4 ∧ x4 ≤ 2147483647 ∧ 0 ≤ x8 ∧ x8 ≤ 2147483647) (g2 : T a0 = (32, (T a0).2)) (g3 : (0 : Int) ≤ (((2 + (8 * x1)) + x3) + (x8 / x4)) ∧ (((2 + (8 * x1)) + x3) + (x8 / x4)) < ((T a0).2 : Int) ∧ (T a0).2 ≤ 3584) (g4 : -2147483648 ≤ (iAnd (iShr (V a0 (((2 + (8 * x1)) + x3) + (x8 / x4)).toNat) (x2 + (x8 % x4))) 1) ∧ (iAnd (iShr (V a0 (((2 + (8 * x1)) + x3) + (x8 / x4)).toNat) (x2 + (x8 % x4))) 1) ≤ 2147483647) : XR sc d 105 39 [some (.ref a0), some (xw x1), some (xw x2), some (xw x3), some (xw x4), o5, o6, o7, some (xw x8)] [] (T, z, xv V, J, R) = if (iAnd (iShr (V a0 (((2 + (8 * x1)) + x3) + (x8 / x4)).toNat) (x2 + (x8 % x4))) 1) = 0 then XR sc d 105 68 [some (.ref a0), some (xw x1), some (xw x2), some (xw x3), some (xw x4), o5, o6, o7, some (xw x8)] [] (T, z, xv V, J, R) else XR sc d 105 72 [some (.ref a0), some (xw x1), some (xw x2), some (xw x3), some (xw x4), o5, o6, o7, some (xw x8)] [] (T, z, xv V, J, R) :=
  (st_aload_n f_105_39 rfl).trans ((sw_iconst f_105_40).trans ((sw_bipush f_105_41 c8_8).trans ((sw_iload_n f_105_43 rfl).trans ((sw_imul f_105_44).trans ((sw_iadd f_105_45).trans ((sw_iload_n f_105_46 rfl).trans ((sw_iadd f_105_47).trans ((sw_iload f_105_48 rfl).trans ((sw_iload f_105_50 rfl).trans ((sw_idiv f_105_52 g1).trans ((sw_iadd f_105_53).trans ((sw_iaload f_105_54 g2 g3).trans ((sw_iload_n f_105_55 rfl).trans ((sw_iload f_105_56 rfl).trans ((sw_iload f_105_58 rfl).trans ((sw_irem f_105_60 g1).trans ((sw_iadd f_105_61).trans ((sw_ishr f_105_62).trans ((sw_iconst f_105_63).trans ((sw_iand f_105_64).trans (sw_if_ne (t := 72) f_105_65 ⟨by decide, rfl⟩ g4)))))))))))))))))))))
theorem bL_canCut_68 {o0 o1 o2 o3 o4 o5 o6 o7 o8 : Option Value} : XR sc d 105 68 [o0, o1, o2, o3, o4, o5, o6, o7, o8] [] (T, z, xv V, J, R) = XR sc d 105 73 [o0, o1, o2, o3, o4, o5, o6, o7, o8] [xw 1] (T, z, xv V, J, R) :=
  (sw_iconst f_105_68).trans (st_goto (t := 73) f_105_69 ⟨by decide, rfl⟩)
theorem bL_canCut_72 {o0 o1 o2 o3 o4 o5 o6 o7 o8 : Option Value} : XR sc d 105 72 [o0, o1, o2, o3, o4, o5, o6, o7, o8] [] (T, z, xv V, J, R) = XR sc d 105 73 [o0, o1, o2, o3, o4, o5, o6, o7, o8] [xw 0] (T, z, xv V, J, R) :=
  sw_iconst f_105_72
theorem bL_canCut_73 {o0 o1 o2 o3 o4 o5 o6 o7 : Option Value} {y0 x8 : Int} : XR sc d 105 73 [o0, o1, o2, o3, o4, o5, o6, o7, some (xw x8)] [xw y0] (T, z, xv V, J, R) = XR sc d 105 24 [o0, o1, o2, o3, o4, o5, o6, some (xw y0), some (xw (x8 + 1))] [] (T, z, xv V, J, R) :=
  (sw_istore (L' := [o0, o1, o2, o3, o4, o5, o6, some (xw y0), some (xw x8)]) f_105_73 (Nat.le_of_ble_eq_true rfl) rfl).trans ((sw_iinc (L' := [o0, o1, o2, o3, o4, o5, o6, some (xw y0), some (xw (x8 + 1))]) f_105_75 rfl (Nat.le_of_ble_eq_true rfl) rfl).trans (st_goto (t := 24) f_105_78 ⟨by decide, rfl⟩))
theorem bL_canCut_81 {o0 o1 o2 o3 o4 o5 o6 o8 : Option Value} {x7 : Int} (g1 : x7 = 0 ∨ x7 = 1) : XR sc d 105 81 [o0, o1, o2, o3, o4, o5, o6, some (xw x7), o8] [] (T, z, xv V, J, R) = some (.inl (some (xw x7)), (T, z, xv V, J, R)) :=
  (sw_iload f_105_81 rfl).trans (sw_zreturn f_105_83 mr_105 g1)
end BLK
