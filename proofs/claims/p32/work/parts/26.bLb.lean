/-! instructions, by program (gen2.py) -/
set_option maxRecDepth 100000 in
theorem f_95_0 : xft 95 0 = some (.bipush 9) := by decide +kernel
set_option maxRecDepth 100000 in
theorem f_95_2 : xft 95 2 = some (.newarray .int) := by decide +kernel
set_option maxRecDepth 100000 in
theorem f_95_4 : xft 95 4 = some (.astore 5) := by decide +kernel
set_option maxRecDepth 100000 in
theorem f_95_6 : xft 95 6 = some (.bipush 9) := by decide +kernel
set_option maxRecDepth 100000 in
theorem f_95_8 : xft 95 8 = some (.newarray .int) := by decide +kernel
set_option maxRecDepth 100000 in
theorem f_95_10 : xft 95 10 = some (.astore 6) := by decide +kernel
set_option maxRecDepth 100000 in
theorem f_95_12 : xft 95 12 = some (.bipush 9) := by decide +kernel
set_option maxRecDepth 100000 in
theorem f_95_14 : xft 95 14 = some (.newarray .int) := by decide +kernel
set_option maxRecDepth 100000 in
theorem f_95_16 : xft 95 16 = some (.astore 7) := by decide +kernel
set_option maxRecDepth 100000 in
theorem f_95_18 : xft 95 18 = some (.iconst (-1)) := by decide +kernel
set_option maxRecDepth 100000 in
theorem f_95_19 : xft 95 19 = some (.istore 8) := by decide +kernel
set_option maxRecDepth 100000 in
theorem f_95_21 : xft 95 21 = some (.iconst 0) := by decide +kernel
set_option maxRecDepth 100000 in
theorem f_95_22 : xft 95 22 = some (.istore 9) := by decide +kernel
set_option maxRecDepth 100000 in
theorem f_95_24 : xft 95 24 = some (.aload 5) := by decide +kernel
set_option maxRecDepth 100000 in
theorem f_95_26 : xft 95 26 = some (.iconst 0) := by decide +kernel
set_option maxRecDepth 100000 in
theorem f_95_27 : xft 95 27 = some (.iload_n 2) := by decide +kernel
set_option maxRecDepth 100000 in
theorem f_95_28 : xft 95 28 = some (.iastore) := by decide +kernel
set_option maxRecDepth 100000 in
theorem f_95_29 : xft 95 29 = some (.iconst 0) := by decide +kernel
set_option maxRecDepth 100000 in
theorem f_95_30 : xft 95 30 = some (.istore 10) := by decide +kernel
set_option maxRecDepth 100000 in
theorem f_95_32 : xft 95 32 = some (.iload 10) := by decide +kernel
set_option maxRecDepth 100000 in
theorem f_95_34 : xft 95 34 = some (.bipush 9) := by decide +kernel
set_option maxRecDepth 100000 in
theorem f_95_36 : xft 95 36 = some (.if_icmp .ge 15) := by decide +kernel
set_option maxRecDepth 100000 in
theorem f_95_39 : xft 95 39 = some (.aload 4) := by decide +kernel
set_option maxRecDepth 100000 in
theorem f_95_41 : xft 95 41 = some (.iload 10) := by decide +kernel
set_option maxRecDepth 100000 in
theorem f_95_43 : xft 95 43 = some (.iconst (-1)) := by decide +kernel
set_option maxRecDepth 100000 in
theorem f_95_44 : xft 95 44 = some (.iastore) := by decide +kernel
set_option maxRecDepth 100000 in
theorem f_95_45 : xft 95 45 = some (.iinc 10 1) := by decide +kernel
set_option maxRecDepth 100000 in
theorem f_95_48 : xft 95 48 = some (.goto (-16)) := by decide +kernel
set_option maxRecDepth 100000 in
theorem f_95_51 : xft 95 51 = some (.iload 9) := by decide +kernel
set_option maxRecDepth 100000 in
theorem f_95_53 : xft 95 53 = some (.ifCond .lt 237) := by decide +kernel
set_option maxRecDepth 100000 in
theorem f_95_56 : xft 95 56 = some (.bipush 16) := by decide +kernel
set_option maxRecDepth 100000 in
theorem f_95_58 : xft 95 58 = some (.aload 7) := by decide +kernel
set_option maxRecDepth 100000 in
theorem f_95_60 : xft 95 60 = some (.iload 9) := by decide +kernel
set_option maxRecDepth 100000 in
theorem f_95_62 : xft 95 62 = some (.iaload) := by decide +kernel
set_option maxRecDepth 100000 in
theorem f_95_63 : xft 95 63 = some (.imul) := by decide +kernel
set_option maxRecDepth 100000 in
theorem f_95_64 : xft 95 64 = some (.iload 9) := by decide +kernel
set_option maxRecDepth 100000 in
theorem f_95_66 : xft 95 66 = some (.iadd) := by decide +kernel
set_option maxRecDepth 100000 in
theorem f_95_67 : xft 95 67 = some (.istore 10) := by decide +kernel
set_option maxRecDepth 100000 in
theorem f_95_69 : xft 95 69 = some (.aload 5) := by decide +kernel
set_option maxRecDepth 100000 in
theorem f_95_71 : xft 95 71 = some (.iload 9) := by decide +kernel
set_option maxRecDepth 100000 in
theorem f_95_73 : xft 95 73 = some (.iaload) := by decide +kernel
set_option maxRecDepth 100000 in
theorem f_95_74 : xft 95 74 = some (.iload_n 3) := by decide +kernel
set_option maxRecDepth 100000 in
theorem f_95_75 : xft 95 75 = some (.if_icmp .ne 56) := by decide +kernel
set_option maxRecDepth 100000 in
theorem f_95_78 : xft 95 78 = some (.iload 8) := by decide +kernel
set_option maxRecDepth 100000 in
theorem f_95_80 : xft 95 80 = some (.ifCond .lt 10) := by decide +kernel
set_option maxRecDepth 100000 in
theorem f_95_83 : xft 95 83 = some (.iload 10) := by decide +kernel
set_option maxRecDepth 100000 in
theorem f_95_85 : xft 95 85 = some (.iload 8) := by decide +kernel
set_option maxRecDepth 100000 in
theorem f_95_87 : xft 95 87 = some (.if_icmp .ge 44) := by decide +kernel
set_option maxRecDepth 100000 in
theorem f_95_90 : xft 95 90 = some (.iload 10) := by decide +kernel
set_option maxRecDepth 100000 in
theorem f_95_92 : xft 95 92 = some (.istore 8) := by decide +kernel
set_option maxRecDepth 100000 in
theorem f_95_94 : xft 95 94 = some (.iconst 0) := by decide +kernel
set_option maxRecDepth 100000 in
theorem f_95_95 : xft 95 95 = some (.istore 11) := by decide +kernel
set_option maxRecDepth 100000 in
theorem f_95_97 : xft 95 97 = some (.iload 11) := by decide +kernel
set_option maxRecDepth 100000 in
theorem f_95_99 : xft 95 99 = some (.bipush 9) := by decide +kernel
set_option maxRecDepth 100000 in
theorem f_95_101 : xft 95 101 = some (.if_icmp .ge 30) := by decide +kernel
set_option maxRecDepth 100000 in
theorem f_95_104 : xft 95 104 = some (.aload 4) := by decide +kernel
set_option maxRecDepth 100000 in
theorem f_95_106 : xft 95 106 = some (.iload 11) := by decide +kernel
set_option maxRecDepth 100000 in
theorem f_95_108 : xft 95 108 = some (.iload 11) := by decide +kernel
set_option maxRecDepth 100000 in
theorem f_95_110 : xft 95 110 = some (.iload 9) := by decide +kernel
set_option maxRecDepth 100000 in
theorem f_95_112 : xft 95 112 = some (.if_icmp .gt 11) := by decide +kernel
set_option maxRecDepth 100000 in
theorem f_95_115 : xft 95 115 = some (.aload 5) := by decide +kernel
set_option maxRecDepth 100000 in
theorem f_95_117 : xft 95 117 = some (.iload 11) := by decide +kernel
set_option maxRecDepth 100000 in
theorem f_95_119 : xft 95 119 = some (.iaload) := by decide +kernel
set_option maxRecDepth 100000 in
theorem f_95_120 : xft 95 120 = some (.goto 4) := by decide +kernel
set_option maxRecDepth 100000 in
theorem f_95_123 : xft 95 123 = some (.iconst (-1)) := by decide +kernel
set_option maxRecDepth 100000 in
theorem f_95_124 : xft 95 124 = some (.iastore) := by decide +kernel
set_option maxRecDepth 100000 in
theorem f_95_125 : xft 95 125 = some (.iinc 11 1) := by decide +kernel
set_option maxRecDepth 100000 in
theorem f_95_128 : xft 95 128 = some (.goto (-31)) := by decide +kernel
set_option maxRecDepth 100000 in
theorem f_95_131 : xft 95 131 = some (.aload 5) := by decide +kernel
set_option maxRecDepth 100000 in
theorem f_95_133 : xft 95 133 = some (.iload 9) := by decide +kernel
set_option maxRecDepth 100000 in
theorem f_95_135 : xft 95 135 = some (.iaload) := by decide +kernel
set_option maxRecDepth 100000 in
theorem f_95_136 : xft 95 136 = some (.iload_n 3) := by decide +kernel
set_option maxRecDepth 100000 in
theorem f_95_137 : xft 95 137 = some (.if_icmp .eq 25) := by decide +kernel
set_option maxRecDepth 100000 in
theorem f_95_140 : xft 95 140 = some (.aload 6) := by decide +kernel
set_option maxRecDepth 100000 in
theorem f_95_142 : xft 95 142 = some (.iload 9) := by decide +kernel
set_option maxRecDepth 100000 in
theorem f_95_144 : xft 95 144 = some (.iaload) := by decide +kernel
set_option maxRecDepth 100000 in
theorem f_95_145 : xft 95 145 = some (.bipush 8) := by decide +kernel
set_option maxRecDepth 100000 in
theorem f_95_147 : xft 95 147 = some (.if_icmp .eq 15) := by decide +kernel
set_option maxRecDepth 100000 in
theorem f_95_150 : xft 95 150 = some (.iload 8) := by decide +kernel
set_option maxRecDepth 100000 in
theorem f_95_152 : xft 95 152 = some (.ifCond .lt 16) := by decide +kernel
set_option maxRecDepth 100000 in
theorem f_95_155 : xft 95 155 = some (.iload 10) := by decide +kernel
set_option maxRecDepth 100000 in
theorem f_95_157 : xft 95 157 = some (.iload 8) := by decide +kernel
set_option maxRecDepth 100000 in
theorem f_95_159 : xft 95 159 = some (.if_icmp .lt 9) := by decide +kernel
set_option maxRecDepth 100000 in
theorem f_95_162 : xft 95 162 = some (.iinc 9 (-1)) := by decide +kernel
set_option maxRecDepth 100000 in
theorem f_95_165 : xft 95 165 = some (.goto (-114)) := by decide +kernel
set_option maxRecDepth 100000 in
theorem f_95_168 : xft 95 168 = some (.aload 6) := by decide +kernel
set_option maxRecDepth 100000 in
theorem f_95_170 : xft 95 170 = some (.iload 9) := by decide +kernel
set_option maxRecDepth 100000 in
theorem f_95_172 : xft 95 172 = some (.iaload) := by decide +kernel
set_option maxRecDepth 100000 in
theorem f_95_173 : xft 95 173 = some (.istore 11) := by decide +kernel
set_option maxRecDepth 100000 in
theorem f_95_175 : xft 95 175 = some (.aload 6) := by decide +kernel
set_option maxRecDepth 100000 in
theorem f_95_177 : xft 95 177 = some (.iload 9) := by decide +kernel
set_option maxRecDepth 100000 in
theorem f_95_179 : xft 95 179 = some (.dup2) := by decide +kernel
set_option maxRecDepth 100000 in
theorem f_95_180 : xft 95 180 = some (.iaload) := by decide +kernel
set_option maxRecDepth 100000 in
theorem f_95_181 : xft 95 181 = some (.iconst 1) := by decide +kernel
set_option maxRecDepth 100000 in
theorem f_95_182 : xft 95 182 = some (.iadd) := by decide +kernel
set_option maxRecDepth 100000 in
theorem f_95_183 : xft 95 183 = some (.iastore) := by decide +kernel
set_option maxRecDepth 100000 in
theorem f_95_184 : xft 95 184 = some (.aload_n 0) := by decide +kernel
set_option maxRecDepth 100000 in
theorem f_95_185 : xft 95 185 = some (.aload_n 1) := by decide +kernel
set_option maxRecDepth 100000 in
theorem f_95_186 : xft 95 186 = some (.aload 5) := by decide +kernel
set_option maxRecDepth 100000 in
theorem f_95_188 : xft 95 188 = some (.iload 9) := by decide +kernel
set_option maxRecDepth 100000 in
theorem f_95_190 : xft 95 190 = some (.iaload) := by decide +kernel
set_option maxRecDepth 100000 in
theorem f_95_191 : xft 95 191 = some (.iload 11) := by decide +kernel
set_option maxRecDepth 100000 in
theorem f_95_193 : xft 95 193 = some (.invokestatic 86) := by decide +kernel
set_option maxRecDepth 100000 in
theorem f_95_196 : xft 95 196 = some (.istore 12) := by decide +kernel
set_option maxRecDepth 100000 in
theorem f_95_198 : xft 95 198 = some (.iload 12) := by decide +kernel
set_option maxRecDepth 100000 in
theorem f_95_200 : xft 95 200 = some (.sipush 1000) := by decide +kernel
set_option maxRecDepth 100000 in
theorem f_95_203 : xft 95 203 = some (.if_icmp .ge 7) := by decide +kernel
set_option maxRecDepth 100000 in
theorem f_95_206 : xft 95 206 = some (.iconst 1) := by decide +kernel
set_option maxRecDepth 100000 in
theorem f_95_207 : xft 95 207 = some (.goto 4) := by decide +kernel
set_option maxRecDepth 100000 in
theorem f_95_210 : xft 95 210 = some (.iconst 0) := by decide +kernel
set_option maxRecDepth 100000 in
theorem f_95_211 : xft 95 211 = some (.istore 13) := by decide +kernel
set_option maxRecDepth 100000 in
theorem f_95_213 : xft 95 213 = some (.iconst 0) := by decide +kernel
set_option maxRecDepth 100000 in
theorem f_95_214 : xft 95 214 = some (.istore 14) := by decide +kernel
set_option maxRecDepth 100000 in
theorem f_95_216 : xft 95 216 = some (.iload 14) := by decide +kernel
set_option maxRecDepth 100000 in
theorem f_95_218 : xft 95 218 = some (.iload 9) := by decide +kernel
set_option maxRecDepth 100000 in
theorem f_95_220 : xft 95 220 = some (.if_icmp .gt 31) := by decide +kernel
set_option maxRecDepth 100000 in
theorem f_95_223 : xft 95 223 = some (.iload 13) := by decide +kernel
set_option maxRecDepth 100000 in
theorem f_95_225 : xft 95 225 = some (.ifCond .eq 17) := by decide +kernel
set_option maxRecDepth 100000 in
theorem f_95_228 : xft 95 228 = some (.aload 5) := by decide +kernel
set_option maxRecDepth 100000 in
theorem f_95_230 : xft 95 230 = some (.iload 14) := by decide +kernel
set_option maxRecDepth 100000 in
theorem f_95_232 : xft 95 232 = some (.iaload) := by decide +kernel
set_option maxRecDepth 100000 in
theorem f_95_233 : xft 95 233 = some (.iload 11) := by decide +kernel
set_option maxRecDepth 100000 in
theorem f_95_235 : xft 95 235 = some (.if_icmp .eq 7) := by decide +kernel
set_option maxRecDepth 100000 in
theorem f_95_238 : xft 95 238 = some (.iconst 1) := by decide +kernel
set_option maxRecDepth 100000 in
theorem f_95_239 : xft 95 239 = some (.goto 4) := by decide +kernel
set_option maxRecDepth 100000 in
theorem f_95_242 : xft 95 242 = some (.iconst 0) := by decide +kernel
set_option maxRecDepth 100000 in
theorem f_95_243 : xft 95 243 = some (.istore 13) := by decide +kernel
set_option maxRecDepth 100000 in
theorem f_95_245 : xft 95 245 = some (.iinc 14 1) := by decide +kernel
set_option maxRecDepth 100000 in
theorem f_95_248 : xft 95 248 = some (.goto (-32)) := by decide +kernel
set_option maxRecDepth 100000 in
theorem f_95_251 : xft 95 251 = some (.iload 13) := by decide +kernel
set_option maxRecDepth 100000 in
theorem f_95_253 : xft 95 253 = some (.ifCond .eq 34) := by decide +kernel
set_option maxRecDepth 100000 in
theorem f_95_256 : xft 95 256 = some (.aload 7) := by decide +kernel
set_option maxRecDepth 100000 in
theorem f_95_258 : xft 95 258 = some (.iload 9) := by decide +kernel
set_option maxRecDepth 100000 in
theorem f_95_260 : xft 95 260 = some (.iconst 1) := by decide +kernel
set_option maxRecDepth 100000 in
theorem f_95_261 : xft 95 261 = some (.iadd) := by decide +kernel
set_option maxRecDepth 100000 in
theorem f_95_262 : xft 95 262 = some (.aload 7) := by decide +kernel
set_option maxRecDepth 100000 in
theorem f_95_264 : xft 95 264 = some (.iload 9) := by decide +kernel
set_option maxRecDepth 100000 in
theorem f_95_266 : xft 95 266 = some (.iaload) := by decide +kernel
set_option maxRecDepth 100000 in
theorem f_95_267 : xft 95 267 = some (.iload 12) := by decide +kernel
set_option maxRecDepth 100000 in
theorem f_95_269 : xft 95 269 = some (.iadd) := by decide +kernel
set_option maxRecDepth 100000 in
theorem f_95_270 : xft 95 270 = some (.iastore) := by decide +kernel
set_option maxRecDepth 100000 in
theorem f_95_271 : xft 95 271 = some (.iinc 9 1) := by decide +kernel
set_option maxRecDepth 100000 in
theorem f_95_274 : xft 95 274 = some (.aload 5) := by decide +kernel
set_option maxRecDepth 100000 in
theorem f_95_276 : xft 95 276 = some (.iload 9) := by decide +kernel
set_option maxRecDepth 100000 in
theorem f_95_278 : xft 95 278 = some (.iload 11) := by decide +kernel
set_option maxRecDepth 100000 in
theorem f_95_280 : xft 95 280 = some (.iastore) := by decide +kernel
set_option maxRecDepth 100000 in
theorem f_95_281 : xft 95 281 = some (.aload 6) := by decide +kernel
set_option maxRecDepth 100000 in
theorem f_95_283 : xft 95 283 = some (.iload 9) := by decide +kernel
set_option maxRecDepth 100000 in
theorem f_95_285 : xft 95 285 = some (.iconst 0) := by decide +kernel
set_option maxRecDepth 100000 in
theorem f_95_286 : xft 95 286 = some (.iastore) := by decide +kernel
set_option maxRecDepth 100000 in
theorem f_95_287 : xft 95 287 = some (.goto (-236)) := by decide +kernel
set_option maxRecDepth 100000 in
theorem f_95_290 : xft 95 290 = some (.iload 8) := by decide +kernel
set_option maxRecDepth 100000 in
theorem f_95_292 : xft 95 292 = some (.ifCond .lt 7) := by decide +kernel
set_option maxRecDepth 100000 in
theorem f_95_295 : xft 95 295 = some (.iconst 1) := by decide +kernel
set_option maxRecDepth 100000 in
theorem f_95_296 : xft 95 296 = some (.goto 4) := by decide +kernel
set_option maxRecDepth 100000 in
theorem f_95_299 : xft 95 299 = some (.iconst 0) := by decide +kernel
set_option maxRecDepth 100000 in
theorem f_95_300 : xft 95 300 = some (.ireturn) := by decide +kernel
set_option maxRecDepth 100000 in
theorem f_96_0 : xft 96 0 = some (.aload_n 0) := by decide +kernel
set_option maxRecDepth 100000 in
theorem f_96_1 : xft 96 1 = some (.iload_n 2) := by decide +kernel
set_option maxRecDepth 100000 in
theorem f_96_2 : xft 96 2 = some (.iaload) := by decide +kernel
set_option maxRecDepth 100000 in
theorem f_96_3 : xft 96 3 = some (.iconst 1) := by decide +kernel
set_option maxRecDepth 100000 in
theorem f_96_4 : xft 96 4 = some (.isub) := by decide +kernel
set_option maxRecDepth 100000 in
theorem f_96_5 : xft 96 5 = some (.bipush 8) := by decide +kernel
set_option maxRecDepth 100000 in
theorem f_96_7 : xft 96 7 = some (.irem) := by decide +kernel
set_option maxRecDepth 100000 in
theorem f_96_8 : xft 96 8 = some (.istore 5) := by decide +kernel
set_option maxRecDepth 100000 in
theorem f_96_10 : xft 96 10 = some (.aload_n 0) := by decide +kernel
set_option maxRecDepth 100000 in
theorem f_96_11 : xft 96 11 = some (.iload_n 2) := by decide +kernel
set_option maxRecDepth 100000 in
theorem f_96_12 : xft 96 12 = some (.iaload) := by decide +kernel
set_option maxRecDepth 100000 in
theorem f_96_13 : xft 96 13 = some (.iconst 1) := by decide +kernel
set_option maxRecDepth 100000 in
theorem f_96_14 : xft 96 14 = some (.isub) := by decide +kernel
set_option maxRecDepth 100000 in
theorem f_96_15 : xft 96 15 = some (.bipush 8) := by decide +kernel
set_option maxRecDepth 100000 in
theorem f_96_17 : xft 96 17 = some (.idiv) := by decide +kernel
set_option maxRecDepth 100000 in
theorem f_96_18 : xft 96 18 = some (.bipush 8) := by decide +kernel
set_option maxRecDepth 100000 in
theorem f_96_20 : xft 96 20 = some (.irem) := by decide +kernel
set_option maxRecDepth 100000 in
theorem f_96_21 : xft 96 21 = some (.istore 6) := by decide +kernel
set_option maxRecDepth 100000 in
theorem f_96_23 : xft 96 23 = some (.aload_n 0) := by decide +kernel
set_option maxRecDepth 100000 in
theorem f_96_24 : xft 96 24 = some (.iload_n 2) := by decide +kernel
set_option maxRecDepth 100000 in
theorem f_96_25 : xft 96 25 = some (.iaload) := by decide +kernel
set_option maxRecDepth 100000 in
theorem f_96_26 : xft 96 26 = some (.ifCond .le 52) := by decide +kernel
set_option maxRecDepth 100000 in
theorem f_96_29 : xft 96 29 = some (.iload 5) := by decide +kernel
set_option maxRecDepth 100000 in
theorem f_96_31 : xft 96 31 = some (.iload_n 3) := by decide +kernel
set_option maxRecDepth 100000 in
theorem f_96_32 : xft 96 32 = some (.if_icmp .ne 10) := by decide +kernel
set_option maxRecDepth 100000 in
theorem f_96_35 : xft 96 35 = some (.iload 6) := by decide +kernel
set_option maxRecDepth 100000 in
theorem f_96_37 : xft 96 37 = some (.iload 4) := by decide +kernel
set_option maxRecDepth 100000 in
theorem f_96_39 : xft 96 39 = some (.if_icmp .eq 16) := by decide +kernel
set_option maxRecDepth 100000 in
theorem f_96_42 : xft 96 42 = some (.iload 5) := by decide +kernel
set_option maxRecDepth 100000 in
theorem f_96_44 : xft 96 44 = some (.iload 4) := by decide +kernel
set_option maxRecDepth 100000 in
theorem f_96_46 : xft 96 46 = some (.if_icmp .ne 32) := by decide +kernel
set_option maxRecDepth 100000 in
theorem f_96_49 : xft 96 49 = some (.iload 6) := by decide +kernel
set_option maxRecDepth 100000 in
theorem f_96_51 : xft 96 51 = some (.iload_n 3) := by decide +kernel
set_option maxRecDepth 100000 in
theorem f_96_52 : xft 96 52 = some (.if_icmp .ne 26) := by decide +kernel
set_option maxRecDepth 100000 in
theorem f_96_55 : xft 96 55 = some (.aload_n 0) := by decide +kernel
set_option maxRecDepth 100000 in
theorem f_96_56 : xft 96 56 = some (.iload_n 2) := by decide +kernel
set_option maxRecDepth 100000 in
theorem f_96_57 : xft 96 57 = some (.iaload) := by decide +kernel
set_option maxRecDepth 100000 in
theorem f_96_58 : xft 96 58 = some (.iconst 1) := by decide +kernel
set_option maxRecDepth 100000 in
theorem f_96_59 : xft 96 59 = some (.isub) := by decide +kernel
set_option maxRecDepth 100000 in
theorem f_96_60 : xft 96 60 = some (.bipush 64) := by decide +kernel
set_option maxRecDepth 100000 in
theorem f_96_62 : xft 96 62 = some (.idiv) := by decide +kernel
set_option maxRecDepth 100000 in
theorem f_96_63 : xft 96 63 = some (.aload_n 0) := by decide +kernel
set_option maxRecDepth 100000 in
theorem f_96_64 : xft 96 64 = some (.aload_n 1) := by decide +kernel
set_option maxRecDepth 100000 in
theorem f_96_65 : xft 96 65 = some (.iload_n 3) := by decide +kernel
set_option maxRecDepth 100000 in
theorem f_96_66 : xft 96 66 = some (.iload 4) := by decide +kernel
set_option maxRecDepth 100000 in
theorem f_96_68 : xft 96 68 = some (.invokestatic 86) := by decide +kernel
set_option maxRecDepth 100000 in
theorem f_96_71 : xft 96 71 = some (.if_icmp .ne 7) := by decide +kernel
set_option maxRecDepth 100000 in
theorem f_96_74 : xft 96 74 = some (.iconst 1) := by decide +kernel
set_option maxRecDepth 100000 in
theorem f_96_75 : xft 96 75 = some (.goto 4) := by decide +kernel
set_option maxRecDepth 100000 in
theorem f_96_78 : xft 96 78 = some (.iconst 0) := by decide +kernel
set_option maxRecDepth 100000 in
theorem f_96_79 : xft 96 79 = some (.ireturn) := by decide +kernel
set_option maxRecDepth 100000 in
theorem f_97_0 : xft 97 0 = some (.iconst 0) := by decide +kernel
set_option maxRecDepth 100000 in
theorem f_97_1 : xft 97 1 = some (.istore 5) := by decide +kernel
set_option maxRecDepth 100000 in
theorem f_97_3 : xft 97 3 = some (.iload 5) := by decide +kernel
set_option maxRecDepth 100000 in
theorem f_97_5 : xft 97 5 = some (.bipush 8) := by decide +kernel
set_option maxRecDepth 100000 in
theorem f_97_7 : xft 97 7 = some (.if_icmp .ge 107) := by decide +kernel
set_option maxRecDepth 100000 in
theorem f_97_10 : xft 97 10 = some (.aload_n 2) := by decide +kernel
set_option maxRecDepth 100000 in
theorem f_97_11 : xft 97 11 = some (.iload 5) := by decide +kernel
set_option maxRecDepth 100000 in
theorem f_97_13 : xft 97 13 = some (.iconst 1) := by decide +kernel
set_option maxRecDepth 100000 in
theorem f_97_14 : xft 97 14 = some (.iadd) := by decide +kernel
set_option maxRecDepth 100000 in
theorem f_97_15 : xft 97 15 = some (.iaload) := by decide +kernel
set_option maxRecDepth 100000 in
theorem f_97_16 : xft 97 16 = some (.ifCond .lt 98) := by decide +kernel
set_option maxRecDepth 100000 in
theorem f_97_19 : xft 97 19 = some (.aload_n 0) := by decide +kernel
set_option maxRecDepth 100000 in
theorem f_97_20 : xft 97 20 = some (.aload_n 1) := by decide +kernel
set_option maxRecDepth 100000 in
theorem f_97_21 : xft 97 21 = some (.iload_n 3) := by decide +kernel
set_option maxRecDepth 100000 in
theorem f_97_22 : xft 97 22 = some (.aload_n 2) := by decide +kernel
set_option maxRecDepth 100000 in
theorem f_97_23 : xft 97 23 = some (.iload 5) := by decide +kernel
set_option maxRecDepth 100000 in
theorem f_97_25 : xft 97 25 = some (.iaload) := by decide +kernel
set_option maxRecDepth 100000 in
theorem f_97_26 : xft 97 26 = some (.aload_n 2) := by decide +kernel
set_option maxRecDepth 100000 in
theorem f_97_27 : xft 97 27 = some (.iload 5) := by decide +kernel
set_option maxRecDepth 100000 in
theorem f_97_29 : xft 97 29 = some (.iconst 1) := by decide +kernel
set_option maxRecDepth 100000 in
theorem f_97_30 : xft 97 30 = some (.iadd) := by decide +kernel
set_option maxRecDepth 100000 in
theorem f_97_31 : xft 97 31 = some (.iaload) := by decide +kernel
set_option maxRecDepth 100000 in
theorem f_97_32 : xft 97 32 = some (.invokestatic 92) := by decide +kernel
set_option maxRecDepth 100000 in
theorem f_97_35 : xft 97 35 = some (.ifCond .eq 73) := by decide +kernel
set_option maxRecDepth 100000 in
theorem f_97_38 : xft 97 38 = some (.iconst 0) := by decide +kernel
set_option maxRecDepth 100000 in
theorem f_97_39 : xft 97 39 = some (.istore 6) := by decide +kernel
set_option maxRecDepth 100000 in
theorem f_97_41 : xft 97 41 = some (.iconst 0) := by decide +kernel
set_option maxRecDepth 100000 in
theorem f_97_42 : xft 97 42 = some (.istore 7) := by decide +kernel
set_option maxRecDepth 100000 in
theorem f_97_44 : xft 97 44 = some (.iload 7) := by decide +kernel
set_option maxRecDepth 100000 in
theorem f_97_46 : xft 97 46 = some (.aload_n 1) := by decide +kernel
set_option maxRecDepth 100000 in
theorem f_97_47 : xft 97 47 = some (.iconst 1) := by decide +kernel
set_option maxRecDepth 100000 in
theorem f_97_48 : xft 97 48 = some (.iaload) := by decide +kernel
set_option maxRecDepth 100000 in
theorem f_97_49 : xft 97 49 = some (.if_icmp .ge 39) := by decide +kernel
set_option maxRecDepth 100000 in
theorem f_97_52 : xft 97 52 = some (.iload 6) := by decide +kernel
set_option maxRecDepth 100000 in
theorem f_97_54 : xft 97 54 = some (.aload_n 0) := by decide +kernel
set_option maxRecDepth 100000 in
theorem f_97_55 : xft 97 55 = some (.aload_n 1) := by decide +kernel
set_option maxRecDepth 100000 in
theorem f_97_56 : xft 97 56 = some (.iload 7) := by decide +kernel
set_option maxRecDepth 100000 in
theorem f_97_58 : xft 97 58 = some (.aload_n 2) := by decide +kernel
set_option maxRecDepth 100000 in
theorem f_97_59 : xft 97 59 = some (.iload 5) := by decide +kernel
set_option maxRecDepth 100000 in
theorem f_97_61 : xft 97 61 = some (.iaload) := by decide +kernel
set_option maxRecDepth 100000 in
theorem f_97_62 : xft 97 62 = some (.aload_n 2) := by decide +kernel
set_option maxRecDepth 100000 in
theorem f_97_63 : xft 97 63 = some (.iload 5) := by decide +kernel
set_option maxRecDepth 100000 in
theorem f_97_65 : xft 97 65 = some (.iconst 1) := by decide +kernel
set_option maxRecDepth 100000 in
theorem f_97_66 : xft 97 66 = some (.iadd) := by decide +kernel
set_option maxRecDepth 100000 in
theorem f_97_67 : xft 97 67 = some (.iaload) := by decide +kernel
set_option maxRecDepth 100000 in
theorem f_97_68 : xft 97 68 = some (.invokestatic 92) := by decide +kernel
set_option maxRecDepth 100000 in
theorem f_97_71 : xft 97 71 = some (.ifCond .eq 7) := by decide +kernel
set_option maxRecDepth 100000 in
theorem f_97_74 : xft 97 74 = some (.iconst 1) := by decide +kernel
set_option maxRecDepth 100000 in
theorem f_97_75 : xft 97 75 = some (.goto 4) := by decide +kernel
set_option maxRecDepth 100000 in
theorem f_97_78 : xft 97 78 = some (.iconst 0) := by decide +kernel
set_option maxRecDepth 100000 in
theorem f_97_79 : xft 97 79 = some (.iadd) := by decide +kernel
set_option maxRecDepth 100000 in
theorem f_97_80 : xft 97 80 = some (.istore 6) := by decide +kernel
set_option maxRecDepth 100000 in
theorem f_97_82 : xft 97 82 = some (.iinc 7 1) := by decide +kernel
set_option maxRecDepth 100000 in
theorem f_97_85 : xft 97 85 = some (.goto (-41)) := by decide +kernel
set_option maxRecDepth 100000 in
theorem f_97_88 : xft 97 88 = some (.iload 4) := by decide +kernel
set_option maxRecDepth 100000 in
theorem f_97_90 : xft 97 90 = some (.iload 6) := by decide +kernel
set_option maxRecDepth 100000 in
theorem f_97_92 : xft 97 92 = some (.idiv) := by decide +kernel
set_option maxRecDepth 100000 in
theorem f_97_93 : xft 97 93 = some (.iload 4) := by decide +kernel
set_option maxRecDepth 100000 in
theorem f_97_95 : xft 97 95 = some (.iload 6) := by decide +kernel
set_option maxRecDepth 100000 in
theorem f_97_97 : xft 97 97 = some (.irem) := by decide +kernel
set_option maxRecDepth 100000 in
theorem f_97_98 : xft 97 98 = some (.ifCond .le 7) := by decide +kernel
set_option maxRecDepth 100000 in
theorem f_97_101 : xft 97 101 = some (.iconst 1) := by decide +kernel
set_option maxRecDepth 100000 in
theorem f_97_102 : xft 97 102 = some (.goto 4) := by decide +kernel
set_option maxRecDepth 100000 in
theorem f_97_105 : xft 97 105 = some (.iconst 0) := by decide +kernel
set_option maxRecDepth 100000 in
theorem f_97_106 : xft 97 106 = some (.iadd) := by decide +kernel
set_option maxRecDepth 100000 in
theorem f_97_107 : xft 97 107 = some (.ireturn) := by decide +kernel
set_option maxRecDepth 100000 in
theorem f_97_108 : xft 97 108 = some (.iinc 5 1) := by decide +kernel
set_option maxRecDepth 100000 in
theorem f_97_111 : xft 97 111 = some (.goto (-108)) := by decide +kernel
set_option maxRecDepth 100000 in
theorem f_97_114 : xft 97 114 = some (.iconst 0) := by decide +kernel
set_option maxRecDepth 100000 in
theorem f_97_115 : xft 97 115 = some (.ireturn) := by decide +kernel
set_option maxRecDepth 100000 in
theorem f_98_0 : xft 98 0 = some (.iconst 0) := by decide +kernel
set_option maxRecDepth 100000 in
theorem f_98_1 : xft 98 1 = some (.istore 7) := by decide +kernel
set_option maxRecDepth 100000 in
theorem f_98_3 : xft 98 3 = some (.iload 7) := by decide +kernel
set_option maxRecDepth 100000 in
theorem f_98_5 : xft 98 5 = some (.aload 4) := by decide +kernel
set_option maxRecDepth 100000 in
theorem f_98_7 : xft 98 7 = some (.iconst 1) := by decide +kernel
set_option maxRecDepth 100000 in
theorem f_98_8 : xft 98 8 = some (.iaload) := by decide +kernel
set_option maxRecDepth 100000 in
theorem f_98_9 : xft 98 9 = some (.if_icmp .ge 35) := by decide +kernel
set_option maxRecDepth 100000 in
theorem f_98_12 : xft 98 12 = some (.aload_n 3) := by decide +kernel
set_option maxRecDepth 100000 in
theorem f_98_13 : xft 98 13 = some (.aload 4) := by decide +kernel
set_option maxRecDepth 100000 in
theorem f_98_15 : xft 98 15 = some (.aload 5) := by decide +kernel
set_option maxRecDepth 100000 in
theorem f_98_17 : xft 98 17 = some (.iload 7) := by decide +kernel
set_option maxRecDepth 100000 in
theorem f_98_19 : xft 98 19 = some (.iload 6) := by decide +kernel
set_option maxRecDepth 100000 in
theorem f_98_21 : xft 98 21 = some (.invokestatic 96) := by decide +kernel
set_option maxRecDepth 100000 in
theorem f_98_24 : xft 98 24 = some (.aload_n 0) := by decide +kernel
set_option maxRecDepth 100000 in
theorem f_98_25 : xft 98 25 = some (.aload_n 1) := by decide +kernel
set_option maxRecDepth 100000 in
theorem f_98_26 : xft 98 26 = some (.aload_n 2) := by decide +kernel
set_option maxRecDepth 100000 in
theorem f_98_27 : xft 98 27 = some (.iload 7) := by decide +kernel
set_option maxRecDepth 100000 in
theorem f_98_29 : xft 98 29 = some (.invokestatic 99) := by decide +kernel
set_option maxRecDepth 100000 in
theorem f_98_32 : xft 98 32 = some (.if_icmp .le 6) := by decide +kernel
set_option maxRecDepth 100000 in
theorem f_98_35 : xft 98 35 = some (.iload 7) := by decide +kernel
set_option maxRecDepth 100000 in
theorem f_98_37 : xft 98 37 = some (.ireturn) := by decide +kernel
set_option maxRecDepth 100000 in
theorem f_98_38 : xft 98 38 = some (.iinc 7 1) := by decide +kernel
set_option maxRecDepth 100000 in
theorem f_98_41 : xft 98 41 = some (.goto (-38)) := by decide +kernel
set_option maxRecDepth 100000 in
theorem f_98_44 : xft 98 44 = some (.iconst (-1)) := by decide +kernel
set_option maxRecDepth 100000 in
theorem f_98_45 : xft 98 45 = some (.ireturn) := by decide +kernel
set_option maxRecDepth 100000 in
theorem f_99_0 : xft 99 0 = some (.bipush 9) := by decide +kernel
set_option maxRecDepth 100000 in
theorem f_99_2 : xft 99 2 = some (.newarray .int) := by decide +kernel
set_option maxRecDepth 100000 in
theorem f_99_4 : xft 99 4 = some (.astore 8) := by decide +kernel
set_option maxRecDepth 100000 in
theorem f_99_6 : xft 99 6 = some (.iconst 0) := by decide +kernel
set_option maxRecDepth 100000 in
theorem f_99_7 : xft 99 7 = some (.istore 9) := by decide +kernel
set_option maxRecDepth 100000 in
theorem f_99_9 : xft 99 9 = some (.aload_n 3) := by decide +kernel
set_option maxRecDepth 100000 in
theorem f_99_10 : xft 99 10 = some (.aload 4) := by decide +kernel
set_option maxRecDepth 100000 in
theorem f_99_12 : xft 99 12 = some (.iload 5) := by decide +kernel
set_option maxRecDepth 100000 in
theorem f_99_14 : xft 99 14 = some (.iload 6) := by decide +kernel
set_option maxRecDepth 100000 in
theorem f_99_16 : xft 99 16 = some (.aload 8) := by decide +kernel
set_option maxRecDepth 100000 in
theorem f_99_18 : xft 99 18 = some (.invokestatic 103) := by decide +kernel
set_option maxRecDepth 100000 in
theorem f_99_21 : xft 99 21 = some (.istore 10) := by decide +kernel
set_option maxRecDepth 100000 in
theorem f_99_23 : xft 99 23 = some (.iload 10) := by decide +kernel
set_option maxRecDepth 100000 in
theorem f_99_25 : xft 99 25 = some (.ifCond .eq 19) := by decide +kernel
set_option maxRecDepth 100000 in
theorem f_99_28 : xft 99 28 = some (.aload_n 0) := by decide +kernel
set_option maxRecDepth 100000 in
theorem f_99_29 : xft 99 29 = some (.aload_n 1) := by decide +kernel
set_option maxRecDepth 100000 in
theorem f_99_30 : xft 99 30 = some (.aload_n 2) := by decide +kernel
set_option maxRecDepth 100000 in
theorem f_99_31 : xft 99 31 = some (.aload_n 3) := by decide +kernel
set_option maxRecDepth 100000 in
theorem f_99_32 : xft 99 32 = some (.aload 4) := by decide +kernel
set_option maxRecDepth 100000 in
theorem f_99_34 : xft 99 34 = some (.aload 8) := by decide +kernel
set_option maxRecDepth 100000 in
theorem f_99_36 : xft 99 36 = some (.iload 7) := by decide +kernel
set_option maxRecDepth 100000 in
theorem f_99_38 : xft 99 38 = some (.invokestatic 107) := by decide +kernel
set_option maxRecDepth 100000 in
theorem f_99_41 : xft 99 41 = some (.goto 4) := by decide +kernel
set_option maxRecDepth 100000 in
theorem f_99_44 : xft 99 44 = some (.iconst (-1)) := by decide +kernel
set_option maxRecDepth 100000 in
theorem f_99_45 : xft 99 45 = some (.istore 11) := by decide +kernel
set_option maxRecDepth 100000 in
theorem f_99_47 : xft 99 47 = some (.iload 11) := by decide +kernel
set_option maxRecDepth 100000 in
theorem f_99_49 : xft 99 49 = some (.ifCond .lt 61) := by decide +kernel
set_option maxRecDepth 100000 in
theorem f_99_52 : xft 99 52 = some (.aload_n 0) := by decide +kernel
set_option maxRecDepth 100000 in
theorem f_99_53 : xft 99 53 = some (.iload 11) := by decide +kernel
set_option maxRecDepth 100000 in
theorem f_99_55 : xft 99 55 = some (.dup2) := by decide +kernel
set_option maxRecDepth 100000 in
theorem f_99_56 : xft 99 56 = some (.iaload) := by decide +kernel
set_option maxRecDepth 100000 in
theorem f_99_57 : xft 99 57 = some (.ldc 111) := by decide +kernel
set_option maxRecDepth 100000 in
theorem f_99_59 : xft 99 59 = some (.iadd) := by decide +kernel
set_option maxRecDepth 100000 in
theorem f_99_60 : xft 99 60 = some (.iastore) := by decide +kernel
set_option maxRecDepth 100000 in
theorem f_99_61 : xft 99 61 = some (.aload_n 3) := by decide +kernel
set_option maxRecDepth 100000 in
theorem f_99_62 : xft 99 62 = some (.iload 11) := by decide +kernel
set_option maxRecDepth 100000 in
theorem f_99_64 : xft 99 64 = some (.iconst 0) := by decide +kernel
set_option maxRecDepth 100000 in
theorem f_99_65 : xft 99 65 = some (.iastore) := by decide +kernel
set_option maxRecDepth 100000 in
theorem f_99_66 : xft 99 66 = some (.iinc 9 1) := by decide +kernel
set_option maxRecDepth 100000 in
theorem f_99_69 : xft 99 69 = some (.aload_n 3) := by decide +kernel
set_option maxRecDepth 100000 in
theorem f_99_70 : xft 99 70 = some (.aload 4) := by decide +kernel
set_option maxRecDepth 100000 in
theorem f_99_72 : xft 99 72 = some (.iload 5) := by decide +kernel
set_option maxRecDepth 100000 in
theorem f_99_74 : xft 99 74 = some (.iload 6) := by decide +kernel
set_option maxRecDepth 100000 in
theorem f_99_76 : xft 99 76 = some (.aload 8) := by decide +kernel
set_option maxRecDepth 100000 in
theorem f_99_78 : xft 99 78 = some (.invokestatic 103) := by decide +kernel
set_option maxRecDepth 100000 in
theorem f_99_81 : xft 99 81 = some (.istore 10) := by decide +kernel
set_option maxRecDepth 100000 in
theorem f_99_83 : xft 99 83 = some (.iload 10) := by decide +kernel
set_option maxRecDepth 100000 in
theorem f_99_85 : xft 99 85 = some (.ifCond .eq 19) := by decide +kernel
set_option maxRecDepth 100000 in
theorem f_99_88 : xft 99 88 = some (.aload_n 0) := by decide +kernel
set_option maxRecDepth 100000 in
theorem f_99_89 : xft 99 89 = some (.aload_n 1) := by decide +kernel
set_option maxRecDepth 100000 in
theorem f_99_90 : xft 99 90 = some (.aload_n 2) := by decide +kernel
set_option maxRecDepth 100000 in
theorem f_99_91 : xft 99 91 = some (.aload_n 3) := by decide +kernel
set_option maxRecDepth 100000 in
theorem f_99_92 : xft 99 92 = some (.aload 4) := by decide +kernel
set_option maxRecDepth 100000 in
theorem f_99_94 : xft 99 94 = some (.aload 8) := by decide +kernel
set_option maxRecDepth 100000 in
theorem f_99_96 : xft 99 96 = some (.iload 7) := by decide +kernel
set_option maxRecDepth 100000 in
theorem f_99_98 : xft 99 98 = some (.invokestatic 107) := by decide +kernel
set_option maxRecDepth 100000 in
theorem f_99_101 : xft 99 101 = some (.goto 4) := by decide +kernel
set_option maxRecDepth 100000 in
theorem f_99_104 : xft 99 104 = some (.iconst (-1)) := by decide +kernel
set_option maxRecDepth 100000 in
theorem f_99_105 : xft 99 105 = some (.istore 11) := by decide +kernel
set_option maxRecDepth 100000 in
theorem f_99_107 : xft 99 107 = some (.goto (-60)) := by decide +kernel
set_option maxRecDepth 100000 in
theorem f_99_110 : xft 99 110 = some (.iconst 0) := by decide +kernel
set_option maxRecDepth 100000 in
theorem f_99_111 : xft 99 111 = some (.istore 12) := by decide +kernel
set_option maxRecDepth 100000 in
theorem f_99_113 : xft 99 113 = some (.iload 12) := by decide +kernel
set_option maxRecDepth 100000 in
theorem f_99_115 : xft 99 115 = some (.aload 4) := by decide +kernel
set_option maxRecDepth 100000 in
theorem f_99_117 : xft 99 117 = some (.iconst 1) := by decide +kernel
set_option maxRecDepth 100000 in
theorem f_99_118 : xft 99 118 = some (.iaload) := by decide +kernel
set_option maxRecDepth 100000 in
theorem f_99_119 : xft 99 119 = some (.if_icmp .ge 36) := by decide +kernel
set_option maxRecDepth 100000 in
theorem f_99_122 : xft 99 122 = some (.iload 10) := by decide +kernel
set_option maxRecDepth 100000 in
theorem f_99_124 : xft 99 124 = some (.ifCond .eq 31) := by decide +kernel
set_option maxRecDepth 100000 in
theorem f_99_127 : xft 99 127 = some (.aload_n 1) := by decide +kernel
set_option maxRecDepth 100000 in
theorem f_99_128 : xft 99 128 = some (.iload 12) := by decide +kernel
set_option maxRecDepth 100000 in
theorem f_99_130 : xft 99 130 = some (.dup2) := by decide +kernel
set_option maxRecDepth 100000 in
theorem f_99_131 : xft 99 131 = some (.iaload) := by decide +kernel
set_option maxRecDepth 100000 in
theorem f_99_132 : xft 99 132 = some (.aload_n 3) := by decide +kernel
set_option maxRecDepth 100000 in
theorem f_99_133 : xft 99 133 = some (.aload 4) := by decide +kernel
set_option maxRecDepth 100000 in
theorem f_99_135 : xft 99 135 = some (.aload 8) := by decide +kernel
set_option maxRecDepth 100000 in
theorem f_99_137 : xft 99 137 = some (.iload 12) := by decide +kernel
set_option maxRecDepth 100000 in
theorem f_99_139 : xft 99 139 = some (.iload 7) := by decide +kernel
set_option maxRecDepth 100000 in
theorem f_99_141 : xft 99 141 = some (.invokestatic 96) := by decide +kernel
set_option maxRecDepth 100000 in
theorem f_99_144 : xft 99 144 = some (.bipush 10) := by decide +kernel
set_option maxRecDepth 100000 in
theorem f_99_146 : xft 99 146 = some (.idiv) := by decide +kernel
set_option maxRecDepth 100000 in
theorem f_99_147 : xft 99 147 = some (.iadd) := by decide +kernel
set_option maxRecDepth 100000 in
theorem f_99_148 : xft 99 148 = some (.iastore) := by decide +kernel
set_option maxRecDepth 100000 in
theorem f_99_149 : xft 99 149 = some (.iinc 12 1) := by decide +kernel
set_option maxRecDepth 100000 in
theorem f_99_152 : xft 99 152 = some (.goto (-39)) := by decide +kernel
set_option maxRecDepth 100000 in
theorem f_99_155 : xft 99 155 = some (.iload 9) := by decide +kernel
set_option maxRecDepth 100000 in
theorem f_99_157 : xft 99 157 = some (.ireturn) := by decide +kernel
/-! blocks, by program (gen2.py) -/
section BLK
variable {sc : xS} {d : Nat} {T : Nat → Nat × Nat} {z : Nat × Nat} {V : Nat → Nat → Int} {J : Nat → Nat → Int64} {R : Nat → Nat → Option Nat}
theorem eL_finds {x2 x3 : Int} {a0 a1 a4 : Nat} : X sc (d + 1) 95 [.ref a0, .ref a1, xw x2, xw x3, .ref a4] (T, z, xv V, J, R) = XR sc d 95 0 [some (.ref a0), some (.ref a1), some (xw x2), some (xw x3), some (.ref a4), none, none, none, none, none, none, none, none, none, none] [] (T, z, xv V, J, R) :=
  (X_eq ⟨jl_95, by rw [mn_95]; rfl, rfl, by rw [lm_95]; exact Nat.le_of_ble_eq_true rfl⟩).trans (by unfold xent; rw [lm_95]; rfl)
theorem bL_finds_0 {o0 o1 o3 o4 o5 o6 o7 o8 o9 o10 o11 o12 o13 o14 : Option Value} {x2 : Int} (g1 : (va_up (va_up (va_up T z.1 (32, 9)) (z.1 + 1) (32, 9)) (z.1 + 2) (32, 9)) z.1 = (32, ((va_up (va_up (va_up T z.1 (32, 9)) (z.1 + 1) (32, 9)) (z.1 + 2) (32, 9)) z.1).2)) (g2 : (0 : Int) ≤ 0 ∧ 0 < (((va_up (va_up (va_up T z.1 (32, 9)) (z.1 + 1) (32, 9)) (z.1 + 2) (32, 9)) z.1).2 : Int) ∧ ((va_up (va_up (va_up T z.1 (32, 9)) (z.1 + 1) (32, 9)) (z.1 + 2) (32, 9)) z.1).2 ≤ 3584) : XR sc d 95 0 [o0, o1, some (xw x2), o3, o4, o5, o6, o7, o8, o9, o10, o11, o12, o13, o14] [] (T, z, xv V, J, R) = XR sc d 95 32 [o0, o1, some (xw x2), o3, o4, some (.ref z.1), some (.ref (z.1 + 1)), some (.ref (z.1 + 2)), some (xw (-1)), some (xw 0), some (xw 0), o11, o12, o13, o14] [] ((va_up (va_up (va_up T z.1 (32, 9)) (z.1 + 1) (32, 9)) (z.1 + 2) (32, 9)), (z.1 + 3, z.2 + 9 + 9 + 9), xv (xup2 (va_up (va_up (va_up V z.1 (fun _ => 0)) (z.1 + 1) (fun _ => 0)) (z.1 + 2) (fun _ => 0)) z.1 0 x2), (va_up (va_up (va_up J z.1 (fun _ => 0)) (z.1 + 1) (fun _ => 0)) (z.1 + 2) (fun _ => 0)), (va_up (va_up (va_up R z.1 (fun _ => none)) (z.1 + 1) (fun _ => none)) (z.1 + 2) (fun _ => none))) :=
  (sw_bipush f_95_0 c8_9).trans ((sw_newI 9 f_95_2 ⟨rfl, by decide⟩).trans ((st_astore (L' := [o0, o1, some (xw x2), o3, o4, some (.ref z.1), o6, o7, o8, o9, o10, o11, o12, o13, o14]) f_95_4 (Nat.le_of_ble_eq_true rfl) rfl).trans ((sw_bipush f_95_6 c8_9).trans ((sw_newI 9 f_95_8 ⟨rfl, by decide⟩).trans ((st_astore (L' := [o0, o1, some (xw x2), o3, o4, some (.ref z.1), some (.ref (z.1 + 1)), o7, o8, o9, o10, o11, o12, o13, o14]) f_95_10 (Nat.le_of_ble_eq_true rfl) rfl).trans ((sw_bipush f_95_12 c8_9).trans ((sw_newI 9 f_95_14 ⟨rfl, by decide⟩).trans ((st_astore (L' := [o0, o1, some (xw x2), o3, o4, some (.ref z.1), some (.ref (z.1 + 1)), some (.ref (z.1 + 2)), o8, o9, o10, o11, o12, o13, o14]) f_95_16 (Nat.le_of_ble_eq_true rfl) rfl).trans ((sw_iconst f_95_18).trans ((sw_istore (L' := [o0, o1, some (xw x2), o3, o4, some (.ref z.1), some (.ref (z.1 + 1)), some (.ref (z.1 + 2)), some (xw (-1)), o9, o10, o11, o12, o13, o14]) f_95_19 (Nat.le_of_ble_eq_true rfl) rfl).trans ((sw_iconst f_95_21).trans ((sw_istore (L' := [o0, o1, some (xw x2), o3, o4, some (.ref z.1), some (.ref (z.1 + 1)), some (.ref (z.1 + 2)), some (xw (-1)), some (xw 0), o10, o11, o12, o13, o14]) f_95_22 (Nat.le_of_ble_eq_true rfl) rfl).trans ((st_aload f_95_24 rfl).trans ((sw_iconst f_95_26).trans ((sw_iload_n f_95_27 rfl).trans ((sw_iastore f_95_28 g1 g2).trans ((sw_iconst f_95_29).trans (sw_istore (L' := [o0, o1, some (xw x2), o3, o4, some (.ref z.1), some (.ref (z.1 + 1)), some (.ref (z.1 + 2)), some (xw (-1)), some (xw 0), some (xw 0), o11, o12, o13, o14]) f_95_30 (Nat.le_of_ble_eq_true rfl) rfl))))))))))))))))))
theorem bL_finds_32 {o0 o1 o2 o3 o4 o5 o6 o7 o8 o9 o11 o12 o13 o14 : Option Value} {x10 : Int} (g1 : -2147483648 ≤ x10 ∧ x10 ≤ 2147483647) : XR sc d 95 32 [o0, o1, o2, o3, o4, o5, o6, o7, o8, o9, some (xw x10), o11, o12, o13, o14] [] (T, z, xv V, J, R) = if 9 ≤ x10 then XR sc d 95 51 [o0, o1, o2, o3, o4, o5, o6, o7, o8, o9, some (xw x10), o11, o12, o13, o14] [] (T, z, xv V, J, R) else XR sc d 95 39 [o0, o1, o2, o3, o4, o5, o6, o7, o8, o9, some (xw x10), o11, o12, o13, o14] [] (T, z, xv V, J, R) :=
  (sw_iload f_95_32 rfl).trans ((sw_bipush f_95_34 c8_9).trans (sw_icmp_ge (t := 51) f_95_36 ⟨by decide, rfl⟩ g1 ⟨by decide, by decide⟩))
theorem bL_finds_39 {o0 o1 o2 o3 o5 o6 o7 o8 o9 o11 o12 o13 o14 : Option Value} {x10 : Int} {a4 : Nat} (g1 : T a4 = (32, (T a4).2)) (g2 : (0 : Int) ≤ x10 ∧ x10 < ((T a4).2 : Int) ∧ (T a4).2 ≤ 3584) : XR sc d 95 39 [o0, o1, o2, o3, some (.ref a4), o5, o6, o7, o8, o9, some (xw x10), o11, o12, o13, o14] [] (T, z, xv V, J, R) = XR sc d 95 32 [o0, o1, o2, o3, some (.ref a4), o5, o6, o7, o8, o9, some (xw (x10 + 1)), o11, o12, o13, o14] [] (T, z, xv (xup2 V a4 x10.toNat (-1)), J, R) :=
  (st_aload f_95_39 rfl).trans ((sw_iload f_95_41 rfl).trans ((sw_iconst f_95_43).trans ((sw_iastore f_95_44 g1 g2).trans ((sw_iinc (L' := [o0, o1, o2, o3, some (.ref a4), o5, o6, o7, o8, o9, some (xw (x10 + 1)), o11, o12, o13, o14]) f_95_45 rfl (Nat.le_of_ble_eq_true rfl) rfl).trans (st_goto (t := 32) f_95_48 ⟨by decide, rfl⟩)))))
theorem bL_finds_51 {o0 o1 o2 o3 o4 o5 o6 o7 o8 o10 o11 o12 o13 o14 : Option Value} {x9 : Int} (g1 : -2147483648 ≤ x9 ∧ x9 ≤ 2147483647) : XR sc d 95 51 [o0, o1, o2, o3, o4, o5, o6, o7, o8, some (xw x9), o10, o11, o12, o13, o14] [] (T, z, xv V, J, R) = if x9 < 0 then XR sc d 95 290 [o0, o1, o2, o3, o4, o5, o6, o7, o8, some (xw x9), o10, o11, o12, o13, o14] [] (T, z, xv V, J, R) else XR sc d 95 56 [o0, o1, o2, o3, o4, o5, o6, o7, o8, some (xw x9), o10, o11, o12, o13, o14] [] (T, z, xv V, J, R) :=
  (sw_iload f_95_51 rfl).trans (sw_if_lt (t := 290) f_95_53 ⟨by decide, rfl⟩ g1)
theorem bL_finds_56 {o0 o1 o2 o4 o6 o8 o10 o11 o12 o13 o14 : Option Value} {x9 x3 : Int} {a7 a5 : Nat} (g1 : T a7 = (32, (T a7).2)) (g2 : (0 : Int) ≤ x9 ∧ x9 < ((T a7).2 : Int) ∧ (T a7).2 ≤ 3584) (g3 : T a5 = (32, (T a5).2)) (g4 : (0 : Int) ≤ x9 ∧ x9 < ((T a5).2 : Int) ∧ (T a5).2 ≤ 3584) (g5 : -2147483648 ≤ (V a5 x9.toNat) ∧ (V a5 x9.toNat) ≤ 2147483647) (g6 : -2147483648 ≤ x3 ∧ x3 ≤ 2147483647) : XR sc d 95 56 [o0, o1, o2, some (xw x3), o4, some (.ref a5), o6, some (.ref a7), o8, some (xw x9), o10, o11, o12, o13, o14] [] (T, z, xv V, J, R) = if (V a5 x9.toNat) = x3 then XR sc d 95 78 [o0, o1, o2, some (xw x3), o4, some (.ref a5), o6, some (.ref a7), o8, some (xw x9), some (xw ((16 * (V a7 x9.toNat)) + x9)), o11, o12, o13, o14] [] (T, z, xv V, J, R) else XR sc d 95 131 [o0, o1, o2, some (xw x3), o4, some (.ref a5), o6, some (.ref a7), o8, some (xw x9), some (xw ((16 * (V a7 x9.toNat)) + x9)), o11, o12, o13, o14] [] (T, z, xv V, J, R) :=
  (sw_bipush f_95_56 c8_16).trans ((st_aload f_95_58 rfl).trans ((sw_iload f_95_60 rfl).trans ((sw_iaload f_95_62 g1 g2).trans ((sw_imul f_95_63).trans ((sw_iload f_95_64 rfl).trans ((sw_iadd f_95_66).trans ((sw_istore (L' := [o0, o1, o2, some (xw x3), o4, some (.ref a5), o6, some (.ref a7), o8, some (xw x9), some (xw ((16 * (V a7 x9.toNat)) + x9)), o11, o12, o13, o14]) f_95_67 (Nat.le_of_ble_eq_true rfl) rfl).trans ((st_aload f_95_69 rfl).trans ((sw_iload f_95_71 rfl).trans ((sw_iaload f_95_73 g3 g4).trans ((sw_iload_n f_95_74 rfl).trans (sw_icmp_ne (t := 131) f_95_75 ⟨by decide, rfl⟩ g5 g6))))))))))))
theorem bL_finds_78 {o0 o1 o2 o3 o4 o5 o6 o7 o9 o10 o11 o12 o13 o14 : Option Value} {x8 : Int} (g1 : -2147483648 ≤ x8 ∧ x8 ≤ 2147483647) : XR sc d 95 78 [o0, o1, o2, o3, o4, o5, o6, o7, some (xw x8), o9, o10, o11, o12, o13, o14] [] (T, z, xv V, J, R) = if x8 < 0 then XR sc d 95 90 [o0, o1, o2, o3, o4, o5, o6, o7, some (xw x8), o9, o10, o11, o12, o13, o14] [] (T, z, xv V, J, R) else XR sc d 95 83 [o0, o1, o2, o3, o4, o5, o6, o7, some (xw x8), o9, o10, o11, o12, o13, o14] [] (T, z, xv V, J, R) :=
  (sw_iload f_95_78 rfl).trans (sw_if_lt (t := 90) f_95_80 ⟨by decide, rfl⟩ g1)
theorem bL_finds_83 {o0 o1 o2 o3 o4 o5 o6 o7 o9 o11 o12 o13 o14 : Option Value} {x10 x8 : Int} (g1 : -2147483648 ≤ x10 ∧ x10 ≤ 2147483647) (g2 : -2147483648 ≤ x8 ∧ x8 ≤ 2147483647) : XR sc d 95 83 [o0, o1, o2, o3, o4, o5, o6, o7, some (xw x8), o9, some (xw x10), o11, o12, o13, o14] [] (T, z, xv V, J, R) = if x8 ≤ x10 then XR sc d 95 131 [o0, o1, o2, o3, o4, o5, o6, o7, some (xw x8), o9, some (xw x10), o11, o12, o13, o14] [] (T, z, xv V, J, R) else XR sc d 95 90 [o0, o1, o2, o3, o4, o5, o6, o7, some (xw x8), o9, some (xw x10), o11, o12, o13, o14] [] (T, z, xv V, J, R) :=
  (sw_iload f_95_83 rfl).trans ((sw_iload f_95_85 rfl).trans (sw_icmp_ge (t := 131) f_95_87 ⟨by decide, rfl⟩ g1 g2))
theorem bL_finds_90 {o0 o1 o2 o3 o4 o5 o6 o7 o8 o9 o11 o12 o13 o14 : Option Value} {x10 : Int} : XR sc d 95 90 [o0, o1, o2, o3, o4, o5, o6, o7, o8, o9, some (xw x10), o11, o12, o13, o14] [] (T, z, xv V, J, R) = XR sc d 95 97 [o0, o1, o2, o3, o4, o5, o6, o7, some (xw x10), o9, some (xw x10), some (xw 0), o12, o13, o14] [] (T, z, xv V, J, R) :=
  (sw_iload f_95_90 rfl).trans ((sw_istore (L' := [o0, o1, o2, o3, o4, o5, o6, o7, some (xw x10), o9, some (xw x10), o11, o12, o13, o14]) f_95_92 (Nat.le_of_ble_eq_true rfl) rfl).trans ((sw_iconst f_95_94).trans (sw_istore (L' := [o0, o1, o2, o3, o4, o5, o6, o7, some (xw x10), o9, some (xw x10), some (xw 0), o12, o13, o14]) f_95_95 (Nat.le_of_ble_eq_true rfl) rfl)))
theorem bL_finds_97 {o0 o1 o2 o3 o4 o5 o6 o7 o8 o9 o10 o12 o13 o14 : Option Value} {x11 : Int} (g1 : -2147483648 ≤ x11 ∧ x11 ≤ 2147483647) : XR sc d 95 97 [o0, o1, o2, o3, o4, o5, o6, o7, o8, o9, o10, some (xw x11), o12, o13, o14] [] (T, z, xv V, J, R) = if 9 ≤ x11 then XR sc d 95 131 [o0, o1, o2, o3, o4, o5, o6, o7, o8, o9, o10, some (xw x11), o12, o13, o14] [] (T, z, xv V, J, R) else XR sc d 95 104 [o0, o1, o2, o3, o4, o5, o6, o7, o8, o9, o10, some (xw x11), o12, o13, o14] [] (T, z, xv V, J, R) :=
  (sw_iload f_95_97 rfl).trans ((sw_bipush f_95_99 c8_9).trans (sw_icmp_ge (t := 131) f_95_101 ⟨by decide, rfl⟩ g1 ⟨by decide, by decide⟩))
theorem bL_finds_104 {o0 o1 o2 o3 o5 o6 o7 o8 o10 o12 o13 o14 : Option Value} {x11 x9 : Int} {a4 : Nat} (g1 : -2147483648 ≤ x11 ∧ x11 ≤ 2147483647) (g2 : -2147483648 ≤ x9 ∧ x9 ≤ 2147483647) : XR sc d 95 104 [o0, o1, o2, o3, some (.ref a4), o5, o6, o7, o8, some (xw x9), o10, some (xw x11), o12, o13, o14] [] (T, z, xv V, J, R) = if x9 < x11 then XR sc d 95 123 [o0, o1, o2, o3, some (.ref a4), o5, o6, o7, o8, some (xw x9), o10, some (xw x11), o12, o13, o14] [xw x11, .ref a4] (T, z, xv V, J, R) else XR sc d 95 115 [o0, o1, o2, o3, some (.ref a4), o5, o6, o7, o8, some (xw x9), o10, some (xw x11), o12, o13, o14] [xw x11, .ref a4] (T, z, xv V, J, R) :=
  (st_aload f_95_104 rfl).trans ((sw_iload f_95_106 rfl).trans ((sw_iload f_95_108 rfl).trans ((sw_iload f_95_110 rfl).trans (sw_icmp_gt (t := 123) f_95_112 ⟨by decide, rfl⟩ g1 g2))))
theorem bL_finds_115 {o0 o1 o2 o3 o4 o6 o7 o8 o9 o10 o12 o13 o14 : Option Value} {s0 s1 : Value} {x11 : Int} {a5 : Nat} (g1 : T a5 = (32, (T a5).2)) (g2 : (0 : Int) ≤ x11 ∧ x11 < ((T a5).2 : Int) ∧ (T a5).2 ≤ 3584) : XR sc d 95 115 [o0, o1, o2, o3, o4, some (.ref a5), o6, o7, o8, o9, o10, some (xw x11), o12, o13, o14] [s0, s1] (T, z, xv V, J, R) = XR sc d 95 124 [o0, o1, o2, o3, o4, some (.ref a5), o6, o7, o8, o9, o10, some (xw x11), o12, o13, o14] [xw (V a5 x11.toNat), s0, s1] (T, z, xv V, J, R) :=
  (st_aload f_95_115 rfl).trans ((sw_iload f_95_117 rfl).trans ((sw_iaload f_95_119 g1 g2).trans (st_goto (t := 124) f_95_120 ⟨by decide, rfl⟩)))
theorem bL_finds_123 {o0 o1 o2 o3 o4 o5 o6 o7 o8 o9 o10 o11 o12 o13 o14 : Option Value} {s0 s1 : Value} : XR sc d 95 123 [o0, o1, o2, o3, o4, o5, o6, o7, o8, o9, o10, o11, o12, o13, o14] [s0, s1] (T, z, xv V, J, R) = XR sc d 95 124 [o0, o1, o2, o3, o4, o5, o6, o7, o8, o9, o10, o11, o12, o13, o14] [xw (-1), s0, s1] (T, z, xv V, J, R) :=
  sw_iconst f_95_123
theorem bL_finds_124 {o0 o1 o2 o3 o4 o5 o6 o7 o8 o9 o10 o12 o13 o14 : Option Value} {y0 y1 x11 : Int} {b2 : Nat} (g1 : T b2 = (32, (T b2).2)) (g2 : (0 : Int) ≤ y1 ∧ y1 < ((T b2).2 : Int) ∧ (T b2).2 ≤ 3584) : XR sc d 95 124 [o0, o1, o2, o3, o4, o5, o6, o7, o8, o9, o10, some (xw x11), o12, o13, o14] [xw y0, xw y1, .ref b2] (T, z, xv V, J, R) = XR sc d 95 97 [o0, o1, o2, o3, o4, o5, o6, o7, o8, o9, o10, some (xw (x11 + 1)), o12, o13, o14] [] (T, z, xv (xup2 V b2 y1.toNat y0), J, R) :=
  (sw_iastore f_95_124 g1 g2).trans ((sw_iinc (L' := [o0, o1, o2, o3, o4, o5, o6, o7, o8, o9, o10, some (xw (x11 + 1)), o12, o13, o14]) f_95_125 rfl (Nat.le_of_ble_eq_true rfl) rfl).trans (st_goto (t := 97) f_95_128 ⟨by decide, rfl⟩))
theorem bL_finds_131 {o0 o1 o2 o4 o6 o7 o8 o10 o11 o12 o13 o14 : Option Value} {x9 x3 : Int} {a5 : Nat} (g1 : T a5 = (32, (T a5).2)) (g2 : (0 : Int) ≤ x9 ∧ x9 < ((T a5).2 : Int) ∧ (T a5).2 ≤ 3584) (g3 : -2147483648 ≤ (V a5 x9.toNat) ∧ (V a5 x9.toNat) ≤ 2147483647) (g4 : -2147483648 ≤ x3 ∧ x3 ≤ 2147483647) : XR sc d 95 131 [o0, o1, o2, some (xw x3), o4, some (.ref a5), o6, o7, o8, some (xw x9), o10, o11, o12, o13, o14] [] (T, z, xv V, J, R) = if (V a5 x9.toNat) = x3 then XR sc d 95 162 [o0, o1, o2, some (xw x3), o4, some (.ref a5), o6, o7, o8, some (xw x9), o10, o11, o12, o13, o14] [] (T, z, xv V, J, R) else XR sc d 95 140 [o0, o1, o2, some (xw x3), o4, some (.ref a5), o6, o7, o8, some (xw x9), o10, o11, o12, o13, o14] [] (T, z, xv V, J, R) :=
  (st_aload f_95_131 rfl).trans ((sw_iload f_95_133 rfl).trans ((sw_iaload f_95_135 g1 g2).trans ((sw_iload_n f_95_136 rfl).trans (sw_icmp_eq (t := 162) f_95_137 ⟨by decide, rfl⟩ g3 g4))))
theorem bL_finds_140 {o0 o1 o2 o3 o4 o5 o7 o8 o10 o11 o12 o13 o14 : Option Value} {x9 : Int} {a6 : Nat} (g1 : T a6 = (32, (T a6).2)) (g2 : (0 : Int) ≤ x9 ∧ x9 < ((T a6).2 : Int) ∧ (T a6).2 ≤ 3584) (g3 : -2147483648 ≤ (V a6 x9.toNat) ∧ (V a6 x9.toNat) ≤ 2147483647) : XR sc d 95 140 [o0, o1, o2, o3, o4, o5, some (.ref a6), o7, o8, some (xw x9), o10, o11, o12, o13, o14] [] (T, z, xv V, J, R) = if (V a6 x9.toNat) = 8 then XR sc d 95 162 [o0, o1, o2, o3, o4, o5, some (.ref a6), o7, o8, some (xw x9), o10, o11, o12, o13, o14] [] (T, z, xv V, J, R) else XR sc d 95 150 [o0, o1, o2, o3, o4, o5, some (.ref a6), o7, o8, some (xw x9), o10, o11, o12, o13, o14] [] (T, z, xv V, J, R) :=
  (st_aload f_95_140 rfl).trans ((sw_iload f_95_142 rfl).trans ((sw_iaload f_95_144 g1 g2).trans ((sw_bipush f_95_145 c8_8).trans (sw_icmp_eq (t := 162) f_95_147 ⟨by decide, rfl⟩ g3 ⟨by decide, by decide⟩))))
theorem bL_finds_150 {o0 o1 o2 o3 o4 o5 o6 o7 o9 o10 o11 o12 o13 o14 : Option Value} {x8 : Int} (g1 : -2147483648 ≤ x8 ∧ x8 ≤ 2147483647) : XR sc d 95 150 [o0, o1, o2, o3, o4, o5, o6, o7, some (xw x8), o9, o10, o11, o12, o13, o14] [] (T, z, xv V, J, R) = if x8 < 0 then XR sc d 95 168 [o0, o1, o2, o3, o4, o5, o6, o7, some (xw x8), o9, o10, o11, o12, o13, o14] [] (T, z, xv V, J, R) else XR sc d 95 155 [o0, o1, o2, o3, o4, o5, o6, o7, some (xw x8), o9, o10, o11, o12, o13, o14] [] (T, z, xv V, J, R) :=
  (sw_iload f_95_150 rfl).trans (sw_if_lt (t := 168) f_95_152 ⟨by decide, rfl⟩ g1)
theorem bL_finds_155 {o0 o1 o2 o3 o4 o5 o6 o7 o9 o11 o12 o13 o14 : Option Value} {x10 x8 : Int} (g1 : -2147483648 ≤ x10 ∧ x10 ≤ 2147483647) (g2 : -2147483648 ≤ x8 ∧ x8 ≤ 2147483647) : XR sc d 95 155 [o0, o1, o2, o3, o4, o5, o6, o7, some (xw x8), o9, some (xw x10), o11, o12, o13, o14] [] (T, z, xv V, J, R) = if x10 < x8 then XR sc d 95 168 [o0, o1, o2, o3, o4, o5, o6, o7, some (xw x8), o9, some (xw x10), o11, o12, o13, o14] [] (T, z, xv V, J, R) else XR sc d 95 162 [o0, o1, o2, o3, o4, o5, o6, o7, some (xw x8), o9, some (xw x10), o11, o12, o13, o14] [] (T, z, xv V, J, R) :=
  (sw_iload f_95_155 rfl).trans ((sw_iload f_95_157 rfl).trans (sw_icmp_lt (t := 168) f_95_159 ⟨by decide, rfl⟩ g1 g2))
theorem bL_finds_162 {o0 o1 o2 o3 o4 o5 o6 o7 o8 o10 o11 o12 o13 o14 : Option Value} {x9 : Int} : XR sc d 95 162 [o0, o1, o2, o3, o4, o5, o6, o7, o8, some (xw x9), o10, o11, o12, o13, o14] [] (T, z, xv V, J, R) = XR sc d 95 51 [o0, o1, o2, o3, o4, o5, o6, o7, o8, some (xw (x9 + (-1))), o10, o11, o12, o13, o14] [] (T, z, xv V, J, R) :=
  (sw_iinc (L' := [o0, o1, o2, o3, o4, o5, o6, o7, o8, some (xw (x9 + (-1))), o10, o11, o12, o13, o14]) f_95_162 rfl (Nat.le_of_ble_eq_true rfl) rfl).trans (st_goto (t := 51) f_95_165 ⟨by decide, rfl⟩)
theorem bL_finds_168 {o2 o3 o4 o7 o8 o10 o11 o12 o13 o14 : Option Value} {x9 : Int} {a6 a0 a1 a5 : Nat} (g1 : T a6 = (32, (T a6).2)) (g2 : (0 : Int) ≤ x9 ∧ x9 < ((T a6).2 : Int) ∧ (T a6).2 ≤ 3584) (g3 : T a5 = (32, (T a5).2)) (g4 : (0 : Int) ≤ x9 ∧ x9 < ((T a5).2 : Int) ∧ (T a5).2 ≤ 3584) : XR sc d 95 168 [some (.ref a0), some (.ref a1), o2, o3, o4, some (.ref a5), some (.ref a6), o7, o8, some (xw x9), o10, o11, o12, o13, o14] [] (T, z, xv V, J, R) = xret 95 (XR sc d 95) 193 196 [some (.ref a0), some (.ref a1), o2, o3, o4, some (.ref a5), some (.ref a6), o7, o8, some (xw x9), o10, some (xw (V a6 x9.toNat)), o12, o13, o14] [] (X sc d 94 [.ref a0, .ref a1, xw ((xup2 V a6 x9.toNat ((V a6 x9.toNat) + 1)) a5 x9.toNat), xw (V a6 x9.toNat)] (T, z, xv (xup2 V a6 x9.toNat ((V a6 x9.toNat) + 1)), J, R)) :=
  (st_aload f_95_168 rfl).trans ((sw_iload f_95_170 rfl).trans ((sw_iaload f_95_172 g1 g2).trans ((sw_istore (L' := [some (.ref a0), some (.ref a1), o2, o3, o4, some (.ref a5), some (.ref a6), o7, o8, some (xw x9), o10, some (xw (V a6 x9.toNat)), o12, o13, o14]) f_95_173 (Nat.le_of_ble_eq_true rfl) rfl).trans ((st_aload f_95_175 rfl).trans ((sw_iload f_95_177 rfl).trans ((st_dup2 f_95_179 rfl rfl).trans ((sw_iaload f_95_180 g1 g2).trans ((sw_iconst f_95_181).trans ((sw_iadd f_95_182).trans ((sw_iastore f_95_183 g1 g2).trans ((st_aload_n f_95_184 rfl).trans ((st_aload_n f_95_185 rfl).trans ((st_aload f_95_186 rfl).trans ((sw_iload f_95_188 rfl).trans ((sw_iaload f_95_190 g3 g4).trans ((sw_iload f_95_191 rfl).trans (st_callS' f_95_193 h_95_86 mn_94 rfl rfl rfl rfl)))))))))))))))))
theorem bL_finds_196 {o0 o1 o2 o3 o4 o5 o6 o7 o8 o9 o10 o11 o12 o13 o14 : Option Value} {y0 : Int} (g1 : -2147483648 ≤ y0 ∧ y0 ≤ 2147483647) : XR sc d 95 196 [o0, o1, o2, o3, o4, o5, o6, o7, o8, o9, o10, o11, o12, o13, o14] [xw y0] (T, z, xv V, J, R) = if 1000 ≤ y0 then XR sc d 95 210 [o0, o1, o2, o3, o4, o5, o6, o7, o8, o9, o10, o11, some (xw y0), o13, o14] [] (T, z, xv V, J, R) else XR sc d 95 206 [o0, o1, o2, o3, o4, o5, o6, o7, o8, o9, o10, o11, some (xw y0), o13, o14] [] (T, z, xv V, J, R) :=
  (sw_istore (L' := [o0, o1, o2, o3, o4, o5, o6, o7, o8, o9, o10, o11, some (xw y0), o13, o14]) f_95_196 (Nat.le_of_ble_eq_true rfl) rfl).trans ((sw_iload f_95_198 rfl).trans ((sw_sipush f_95_200 c16_1000).trans (sw_icmp_ge (t := 210) f_95_203 ⟨by decide, rfl⟩ g1 ⟨by decide, by decide⟩)))
theorem bL_finds_206 {o0 o1 o2 o3 o4 o5 o6 o7 o8 o9 o10 o11 o12 o13 o14 : Option Value} : XR sc d 95 206 [o0, o1, o2, o3, o4, o5, o6, o7, o8, o9, o10, o11, o12, o13, o14] [] (T, z, xv V, J, R) = XR sc d 95 211 [o0, o1, o2, o3, o4, o5, o6, o7, o8, o9, o10, o11, o12, o13, o14] [xw 1] (T, z, xv V, J, R) :=
  (sw_iconst f_95_206).trans (st_goto (t := 211) f_95_207 ⟨by decide, rfl⟩)
theorem bL_finds_210 {o0 o1 o2 o3 o4 o5 o6 o7 o8 o9 o10 o11 o12 o13 o14 : Option Value} : XR sc d 95 210 [o0, o1, o2, o3, o4, o5, o6, o7, o8, o9, o10, o11, o12, o13, o14] [] (T, z, xv V, J, R) = XR sc d 95 211 [o0, o1, o2, o3, o4, o5, o6, o7, o8, o9, o10, o11, o12, o13, o14] [xw 0] (T, z, xv V, J, R) :=
  sw_iconst f_95_210
theorem bL_finds_211 {o0 o1 o2 o3 o4 o5 o6 o7 o8 o9 o10 o11 o12 o13 o14 : Option Value} {y0 : Int} : XR sc d 95 211 [o0, o1, o2, o3, o4, o5, o6, o7, o8, o9, o10, o11, o12, o13, o14] [xw y0] (T, z, xv V, J, R) = XR sc d 95 216 [o0, o1, o2, o3, o4, o5, o6, o7, o8, o9, o10, o11, o12, some (xw y0), some (xw 0)] [] (T, z, xv V, J, R) :=
  (sw_istore (L' := [o0, o1, o2, o3, o4, o5, o6, o7, o8, o9, o10, o11, o12, some (xw y0), o14]) f_95_211 (Nat.le_of_ble_eq_true rfl) rfl).trans ((sw_iconst f_95_213).trans (sw_istore (L' := [o0, o1, o2, o3, o4, o5, o6, o7, o8, o9, o10, o11, o12, some (xw y0), some (xw 0)]) f_95_214 (Nat.le_of_ble_eq_true rfl) rfl))
theorem bL_finds_216 {o0 o1 o2 o3 o4 o5 o6 o7 o8 o10 o11 o12 o13 : Option Value} {x14 x9 : Int} (g1 : -2147483648 ≤ x14 ∧ x14 ≤ 2147483647) (g2 : -2147483648 ≤ x9 ∧ x9 ≤ 2147483647) : XR sc d 95 216 [o0, o1, o2, o3, o4, o5, o6, o7, o8, some (xw x9), o10, o11, o12, o13, some (xw x14)] [] (T, z, xv V, J, R) = if x9 < x14 then XR sc d 95 251 [o0, o1, o2, o3, o4, o5, o6, o7, o8, some (xw x9), o10, o11, o12, o13, some (xw x14)] [] (T, z, xv V, J, R) else XR sc d 95 223 [o0, o1, o2, o3, o4, o5, o6, o7, o8, some (xw x9), o10, o11, o12, o13, some (xw x14)] [] (T, z, xv V, J, R) :=
  (sw_iload f_95_216 rfl).trans ((sw_iload f_95_218 rfl).trans (sw_icmp_gt (t := 251) f_95_220 ⟨by decide, rfl⟩ g1 g2))
theorem bL_finds_223 {o0 o1 o2 o3 o4 o5 o6 o7 o8 o9 o10 o11 o12 o14 : Option Value} {x13 : Int} (g1 : -2147483648 ≤ x13 ∧ x13 ≤ 2147483647) : XR sc d 95 223 [o0, o1, o2, o3, o4, o5, o6, o7, o8, o9, o10, o11, o12, some (xw x13), o14] [] (T, z, xv V, J, R) = if x13 = 0 then XR sc d 95 242 [o0, o1, o2, o3, o4, o5, o6, o7, o8, o9, o10, o11, o12, some (xw x13), o14] [] (T, z, xv V, J, R) else XR sc d 95 228 [o0, o1, o2, o3, o4, o5, o6, o7, o8, o9, o10, o11, o12, some (xw x13), o14] [] (T, z, xv V, J, R) :=
  (sw_iload f_95_223 rfl).trans (sw_if_eq (t := 242) f_95_225 ⟨by decide, rfl⟩ g1)
theorem bL_finds_228 {o0 o1 o2 o3 o4 o6 o7 o8 o9 o10 o12 o13 : Option Value} {x14 x11 : Int} {a5 : Nat} (g1 : T a5 = (32, (T a5).2)) (g2 : (0 : Int) ≤ x14 ∧ x14 < ((T a5).2 : Int) ∧ (T a5).2 ≤ 3584) (g3 : -2147483648 ≤ (V a5 x14.toNat) ∧ (V a5 x14.toNat) ≤ 2147483647) (g4 : -2147483648 ≤ x11 ∧ x11 ≤ 2147483647) : XR sc d 95 228 [o0, o1, o2, o3, o4, some (.ref a5), o6, o7, o8, o9, o10, some (xw x11), o12, o13, some (xw x14)] [] (T, z, xv V, J, R) = if (V a5 x14.toNat) = x11 then XR sc d 95 242 [o0, o1, o2, o3, o4, some (.ref a5), o6, o7, o8, o9, o10, some (xw x11), o12, o13, some (xw x14)] [] (T, z, xv V, J, R) else XR sc d 95 238 [o0, o1, o2, o3, o4, some (.ref a5), o6, o7, o8, o9, o10, some (xw x11), o12, o13, some (xw x14)] [] (T, z, xv V, J, R) :=
  (st_aload f_95_228 rfl).trans ((sw_iload f_95_230 rfl).trans ((sw_iaload f_95_232 g1 g2).trans ((sw_iload f_95_233 rfl).trans (sw_icmp_eq (t := 242) f_95_235 ⟨by decide, rfl⟩ g3 g4))))
theorem bL_finds_238 {o0 o1 o2 o3 o4 o5 o6 o7 o8 o9 o10 o11 o12 o13 o14 : Option Value} : XR sc d 95 238 [o0, o1, o2, o3, o4, o5, o6, o7, o8, o9, o10, o11, o12, o13, o14] [] (T, z, xv V, J, R) = XR sc d 95 243 [o0, o1, o2, o3, o4, o5, o6, o7, o8, o9, o10, o11, o12, o13, o14] [xw 1] (T, z, xv V, J, R) :=
  (sw_iconst f_95_238).trans (st_goto (t := 243) f_95_239 ⟨by decide, rfl⟩)
theorem bL_finds_242 {o0 o1 o2 o3 o4 o5 o6 o7 o8 o9 o10 o11 o12 o13 o14 : Option Value} : XR sc d 95 242 [o0, o1, o2, o3, o4, o5, o6, o7, o8, o9, o10, o11, o12, o13, o14] [] (T, z, xv V, J, R) = XR sc d 95 243 [o0, o1, o2, o3, o4, o5, o6, o7, o8, o9, o10, o11, o12, o13, o14] [xw 0] (T, z, xv V, J, R) :=
  sw_iconst f_95_242
theorem bL_finds_243 {o0 o1 o2 o3 o4 o5 o6 o7 o8 o9 o10 o11 o12 o13 : Option Value} {y0 x14 : Int} : XR sc d 95 243 [o0, o1, o2, o3, o4, o5, o6, o7, o8, o9, o10, o11, o12, o13, some (xw x14)] [xw y0] (T, z, xv V, J, R) = XR sc d 95 216 [o0, o1, o2, o3, o4, o5, o6, o7, o8, o9, o10, o11, o12, some (xw y0), some (xw (x14 + 1))] [] (T, z, xv V, J, R) :=
  (sw_istore (L' := [o0, o1, o2, o3, o4, o5, o6, o7, o8, o9, o10, o11, o12, some (xw y0), some (xw x14)]) f_95_243 (Nat.le_of_ble_eq_true rfl) rfl).trans ((sw_iinc (L' := [o0, o1, o2, o3, o4, o5, o6, o7, o8, o9, o10, o11, o12, some (xw y0), some (xw (x14 + 1))]) f_95_245 rfl (Nat.le_of_ble_eq_true rfl) rfl).trans (st_goto (t := 216) f_95_248 ⟨by decide, rfl⟩))
theorem bL_finds_251 {o0 o1 o2 o3 o4 o5 o6 o7 o8 o9 o10 o11 o12 o14 : Option Value} {x13 : Int} (g1 : -2147483648 ≤ x13 ∧ x13 ≤ 2147483647) : XR sc d 95 251 [o0, o1, o2, o3, o4, o5, o6, o7, o8, o9, o10, o11, o12, some (xw x13), o14] [] (T, z, xv V, J, R) = if x13 = 0 then XR sc d 95 287 [o0, o1, o2, o3, o4, o5, o6, o7, o8, o9, o10, o11, o12, some (xw x13), o14] [] (T, z, xv V, J, R) else XR sc d 95 256 [o0, o1, o2, o3, o4, o5, o6, o7, o8, o9, o10, o11, o12, some (xw x13), o14] [] (T, z, xv V, J, R) :=
  (sw_iload f_95_251 rfl).trans (sw_if_eq (t := 287) f_95_253 ⟨by decide, rfl⟩ g1)
theorem bL_finds_256 {o0 o1 o2 o3 o4 o8 o10 o13 o14 : Option Value} {x9 x12 x11 : Int} {a7 a5 a6 : Nat} (g1 : T a7 = (32, (T a7).2)) (g2 : (0 : Int) ≤ x9 ∧ x9 < ((T a7).2 : Int) ∧ (T a7).2 ≤ 3584) (g3 : (0 : Int) ≤ (x9 + 1) ∧ (x9 + 1) < ((T a7).2 : Int) ∧ (T a7).2 ≤ 3584) (g4 : T a5 = (32, (T a5).2)) (g5 : (0 : Int) ≤ (x9 + 1) ∧ (x9 + 1) < ((T a5).2 : Int) ∧ (T a5).2 ≤ 3584) (g6 : T a6 = (32, (T a6).2)) (g7 : (0 : Int) ≤ (x9 + 1) ∧ (x9 + 1) < ((T a6).2 : Int) ∧ (T a6).2 ≤ 3584) : XR sc d 95 256 [o0, o1, o2, o3, o4, some (.ref a5), some (.ref a6), some (.ref a7), o8, some (xw x9), o10, some (xw x11), some (xw x12), o13, o14] [] (T, z, xv V, J, R) = XR sc d 95 287 [o0, o1, o2, o3, o4, some (.ref a5), some (.ref a6), some (.ref a7), o8, some (xw (x9 + 1)), o10, some (xw x11), some (xw x12), o13, o14] [] (T, z, xv (xup2 (xup2 (xup2 V a7 (x9 + 1).toNat ((V a7 x9.toNat) + x12)) a5 (x9 + 1).toNat x11) a6 (x9 + 1).toNat 0), J, R) :=
  (st_aload f_95_256 rfl).trans ((sw_iload f_95_258 rfl).trans ((sw_iconst f_95_260).trans ((sw_iadd f_95_261).trans ((st_aload f_95_262 rfl).trans ((sw_iload f_95_264 rfl).trans ((sw_iaload f_95_266 g1 g2).trans ((sw_iload f_95_267 rfl).trans ((sw_iadd f_95_269).trans ((sw_iastore f_95_270 g1 g3).trans ((sw_iinc (L' := [o0, o1, o2, o3, o4, some (.ref a5), some (.ref a6), some (.ref a7), o8, some (xw (x9 + 1)), o10, some (xw x11), some (xw x12), o13, o14]) f_95_271 rfl (Nat.le_of_ble_eq_true rfl) rfl).trans ((st_aload f_95_274 rfl).trans ((sw_iload f_95_276 rfl).trans ((sw_iload f_95_278 rfl).trans ((sw_iastore f_95_280 g4 g5).trans ((st_aload f_95_281 rfl).trans ((sw_iload f_95_283 rfl).trans ((sw_iconst f_95_285).trans (sw_iastore f_95_286 g6 g7))))))))))))))))))
theorem bL_finds_287 {o0 o1 o2 o3 o4 o5 o6 o7 o8 o9 o10 o11 o12 o13 o14 : Option Value} : XR sc d 95 287 [o0, o1, o2, o3, o4, o5, o6, o7, o8, o9, o10, o11, o12, o13, o14] [] (T, z, xv V, J, R) = XR sc d 95 51 [o0, o1, o2, o3, o4, o5, o6, o7, o8, o9, o10, o11, o12, o13, o14] [] (T, z, xv V, J, R) :=
  st_goto (t := 51) f_95_287 ⟨by decide, rfl⟩
theorem bL_finds_290 {o0 o1 o2 o3 o4 o5 o6 o7 o9 o10 o11 o12 o13 o14 : Option Value} {x8 : Int} (g1 : -2147483648 ≤ x8 ∧ x8 ≤ 2147483647) : XR sc d 95 290 [o0, o1, o2, o3, o4, o5, o6, o7, some (xw x8), o9, o10, o11, o12, o13, o14] [] (T, z, xv V, J, R) = if x8 < 0 then XR sc d 95 299 [o0, o1, o2, o3, o4, o5, o6, o7, some (xw x8), o9, o10, o11, o12, o13, o14] [] (T, z, xv V, J, R) else XR sc d 95 295 [o0, o1, o2, o3, o4, o5, o6, o7, some (xw x8), o9, o10, o11, o12, o13, o14] [] (T, z, xv V, J, R) :=
  (sw_iload f_95_290 rfl).trans (sw_if_lt (t := 299) f_95_292 ⟨by decide, rfl⟩ g1)
theorem bL_finds_295 {o0 o1 o2 o3 o4 o5 o6 o7 o8 o9 o10 o11 o12 o13 o14 : Option Value} : XR sc d 95 295 [o0, o1, o2, o3, o4, o5, o6, o7, o8, o9, o10, o11, o12, o13, o14] [] (T, z, xv V, J, R) = XR sc d 95 300 [o0, o1, o2, o3, o4, o5, o6, o7, o8, o9, o10, o11, o12, o13, o14] [xw 1] (T, z, xv V, J, R) :=
  (sw_iconst f_95_295).trans (st_goto (t := 300) f_95_296 ⟨by decide, rfl⟩)
theorem bL_finds_299 {o0 o1 o2 o3 o4 o5 o6 o7 o8 o9 o10 o11 o12 o13 o14 : Option Value} : XR sc d 95 299 [o0, o1, o2, o3, o4, o5, o6, o7, o8, o9, o10, o11, o12, o13, o14] [] (T, z, xv V, J, R) = XR sc d 95 300 [o0, o1, o2, o3, o4, o5, o6, o7, o8, o9, o10, o11, o12, o13, o14] [xw 0] (T, z, xv V, J, R) :=
  sw_iconst f_95_299
theorem bL_finds_300 {o0 o1 o2 o3 o4 o5 o6 o7 o8 o9 o10 o11 o12 o13 o14 : Option Value} {y0 : Int} (g1 : y0 = 0 ∨ y0 = 1) : XR sc d 95 300 [o0, o1, o2, o3, o4, o5, o6, o7, o8, o9, o10, o11, o12, o13, o14] [xw y0] (T, z, xv V, J, R) = some (.inl (some (xw y0)), (T, z, xv V, J, R)) :=
  sw_zreturn f_95_300 mr_95 g1
theorem eL_isOn {x2 x3 x4 : Int} {a0 a1 : Nat} : X sc (d + 1) 96 [.ref a0, .ref a1, xw x2, xw x3, xw x4] (T, z, xv V, J, R) = XR sc d 96 0 [some (.ref a0), some (.ref a1), some (xw x2), some (xw x3), some (xw x4), none, none] [] (T, z, xv V, J, R) :=
  (X_eq ⟨jl_96, by rw [mn_96]; rfl, rfl, by rw [lm_96]; exact Nat.le_of_ble_eq_true rfl⟩).trans (by unfold xent; rw [lm_96]; rfl)
theorem bL_isOn_0 {o1 o3 o4 o5 o6 : Option Value} {x2 : Int} {a0 : Nat} (g1 : T a0 = (32, (T a0).2)) (g2 : (0 : Int) ≤ x2 ∧ x2 < ((T a0).2 : Int) ∧ (T a0).2 ≤ 3584) (g3 : ¬ (8 : Int) = 0 ∧ ¬ (((V a0 x2.toNat) - 1) = -2147483648 ∧ (8 : Int) = -1) ∧ (-2147483648 ≤ ((V a0 x2.toNat) - 1) ∧ ((V a0 x2.toNat) - 1) ≤ 2147483647) ∧ -2147483648 ≤ (8 : Int) ∧ (8 : Int) ≤ 2147483647) (g4 : ¬ (8 : Int) = 0 ∧ ¬ ((((V a0 x2.toNat) - 1).tdiv (8 : Int)) = -2147483648 ∧ (8 : Int) = -1) ∧ (-2147483648 ≤ (((V a0 x2.toNat) - 1).tdiv (8 : Int)) ∧ (((V a0 x2.toNat) - 1).tdiv (8 : Int)) ≤ 2147483647) ∧ -2147483648 ≤ (8 : Int) ∧ (8 : Int) ≤ 2147483647) (g5 : -2147483648 ≤ (V a0 x2.toNat) ∧ (V a0 x2.toNat) ≤ 2147483647) : XR sc d 96 0 [some (.ref a0), o1, some (xw x2), o3, o4, o5, o6] [] (T, z, xv V, J, R) = if (V a0 x2.toNat) ≤ 0 then XR sc d 96 78 [some (.ref a0), o1, some (xw x2), o3, o4, some (xw (((V a0 x2.toNat) - 1) - ((V a0 x2.toNat) - 1).tdiv (8 : Int) * (8 : Int))), some (xw ((((V a0 x2.toNat) - 1).tdiv (8 : Int)) - (((V a0 x2.toNat) - 1).tdiv (8 : Int)).tdiv (8 : Int) * (8 : Int)))] [] (T, z, xv V, J, R) else XR sc d 96 29 [some (.ref a0), o1, some (xw x2), o3, o4, some (xw (((V a0 x2.toNat) - 1) - ((V a0 x2.toNat) - 1).tdiv (8 : Int) * (8 : Int))), some (xw ((((V a0 x2.toNat) - 1).tdiv (8 : Int)) - (((V a0 x2.toNat) - 1).tdiv (8 : Int)).tdiv (8 : Int) * (8 : Int)))] [] (T, z, xv V, J, R) :=
  (st_aload_n f_96_0 rfl).trans ((sw_iload_n f_96_1 rfl).trans ((sw_iaload f_96_2 g1 g2).trans ((sw_iconst f_96_3).trans ((sw_isub f_96_4).trans ((sw_bipush f_96_5 c8_8).trans ((sw_iremT f_96_7 g3).trans ((sw_istore (L' := [some (.ref a0), o1, some (xw x2), o3, o4, some (xw (((V a0 x2.toNat) - 1) - ((V a0 x2.toNat) - 1).tdiv (8 : Int) * (8 : Int))), o6]) f_96_8 (Nat.le_of_ble_eq_true rfl) rfl).trans ((st_aload_n f_96_10 rfl).trans ((sw_iload_n f_96_11 rfl).trans ((sw_iaload f_96_12 g1 g2).trans ((sw_iconst f_96_13).trans ((sw_isub f_96_14).trans ((sw_bipush f_96_15 c8_8).trans ((sw_idivT f_96_17 g3).trans ((sw_bipush f_96_18 c8_8).trans ((sw_iremT f_96_20 g4).trans ((sw_istore (L' := [some (.ref a0), o1, some (xw x2), o3, o4, some (xw (((V a0 x2.toNat) - 1) - ((V a0 x2.toNat) - 1).tdiv (8 : Int) * (8 : Int))), some (xw ((((V a0 x2.toNat) - 1).tdiv (8 : Int)) - (((V a0 x2.toNat) - 1).tdiv (8 : Int)).tdiv (8 : Int) * (8 : Int)))]) f_96_21 (Nat.le_of_ble_eq_true rfl) rfl).trans ((st_aload_n f_96_23 rfl).trans ((sw_iload_n f_96_24 rfl).trans ((sw_iaload f_96_25 g1 g2).trans (sw_if_le (t := 78) f_96_26 ⟨by decide, rfl⟩ g5)))))))))))))))))))))
theorem bL_isOn_29 {o0 o1 o2 o4 o6 : Option Value} {x5 x3 : Int} (g1 : -2147483648 ≤ x5 ∧ x5 ≤ 2147483647) (g2 : -2147483648 ≤ x3 ∧ x3 ≤ 2147483647) : XR sc d 96 29 [o0, o1, o2, some (xw x3), o4, some (xw x5), o6] [] (T, z, xv V, J, R) = if x5 = x3 then XR sc d 96 35 [o0, o1, o2, some (xw x3), o4, some (xw x5), o6] [] (T, z, xv V, J, R) else XR sc d 96 42 [o0, o1, o2, some (xw x3), o4, some (xw x5), o6] [] (T, z, xv V, J, R) :=
  (sw_iload f_96_29 rfl).trans ((sw_iload_n f_96_31 rfl).trans (sw_icmp_ne (t := 42) f_96_32 ⟨by decide, rfl⟩ g1 g2))
theorem bL_isOn_35 {o0 o1 o2 o3 o5 : Option Value} {x6 x4 : Int} (g1 : -2147483648 ≤ x6 ∧ x6 ≤ 2147483647) (g2 : -2147483648 ≤ x4 ∧ x4 ≤ 2147483647) : XR sc d 96 35 [o0, o1, o2, o3, some (xw x4), o5, some (xw x6)] [] (T, z, xv V, J, R) = if x6 = x4 then XR sc d 96 55 [o0, o1, o2, o3, some (xw x4), o5, some (xw x6)] [] (T, z, xv V, J, R) else XR sc d 96 42 [o0, o1, o2, o3, some (xw x4), o5, some (xw x6)] [] (T, z, xv V, J, R) :=
  (sw_iload f_96_35 rfl).trans ((sw_iload f_96_37 rfl).trans (sw_icmp_eq (t := 55) f_96_39 ⟨by decide, rfl⟩ g1 g2))
theorem bL_isOn_42 {o0 o1 o2 o3 o6 : Option Value} {x5 x4 : Int} (g1 : -2147483648 ≤ x5 ∧ x5 ≤ 2147483647) (g2 : -2147483648 ≤ x4 ∧ x4 ≤ 2147483647) : XR sc d 96 42 [o0, o1, o2, o3, some (xw x4), some (xw x5), o6] [] (T, z, xv V, J, R) = if x5 = x4 then XR sc d 96 49 [o0, o1, o2, o3, some (xw x4), some (xw x5), o6] [] (T, z, xv V, J, R) else XR sc d 96 78 [o0, o1, o2, o3, some (xw x4), some (xw x5), o6] [] (T, z, xv V, J, R) :=
  (sw_iload f_96_42 rfl).trans ((sw_iload f_96_44 rfl).trans (sw_icmp_ne (t := 78) f_96_46 ⟨by decide, rfl⟩ g1 g2))
theorem bL_isOn_49 {o0 o1 o2 o4 o5 : Option Value} {x6 x3 : Int} (g1 : -2147483648 ≤ x6 ∧ x6 ≤ 2147483647) (g2 : -2147483648 ≤ x3 ∧ x3 ≤ 2147483647) : XR sc d 96 49 [o0, o1, o2, some (xw x3), o4, o5, some (xw x6)] [] (T, z, xv V, J, R) = if x6 = x3 then XR sc d 96 55 [o0, o1, o2, some (xw x3), o4, o5, some (xw x6)] [] (T, z, xv V, J, R) else XR sc d 96 78 [o0, o1, o2, some (xw x3), o4, o5, some (xw x6)] [] (T, z, xv V, J, R) :=
  (sw_iload f_96_49 rfl).trans ((sw_iload_n f_96_51 rfl).trans (sw_icmp_ne (t := 78) f_96_52 ⟨by decide, rfl⟩ g1 g2))
theorem bL_isOn_55 {o5 o6 : Option Value} {x2 x3 x4 : Int} {a0 a1 : Nat} (g1 : T a0 = (32, (T a0).2)) (g2 : (0 : Int) ≤ x2 ∧ x2 < ((T a0).2 : Int) ∧ (T a0).2 ≤ 3584) (g3 : ¬ (64 : Int) = 0 ∧ ¬ (((V a0 x2.toNat) - 1) = -2147483648 ∧ (64 : Int) = -1) ∧ (-2147483648 ≤ ((V a0 x2.toNat) - 1) ∧ ((V a0 x2.toNat) - 1) ≤ 2147483647) ∧ -2147483648 ≤ (64 : Int) ∧ (64 : Int) ≤ 2147483647) : XR sc d 96 55 [some (.ref a0), some (.ref a1), some (xw x2), some (xw x3), some (xw x4), o5, o6] [] (T, z, xv V, J, R) = xret 96 (XR sc d 96) 68 71 [some (.ref a0), some (.ref a1), some (xw x2), some (xw x3), some (xw x4), o5, o6] [xw (((V a0 x2.toNat) - 1).tdiv (64 : Int))] (X sc d 94 [.ref a0, .ref a1, xw x3, xw x4] (T, z, xv V, J, R)) :=
  (st_aload_n f_96_55 rfl).trans ((sw_iload_n f_96_56 rfl).trans ((sw_iaload f_96_57 g1 g2).trans ((sw_iconst f_96_58).trans ((sw_isub f_96_59).trans ((sw_bipush f_96_60 c8_64).trans ((sw_idivT f_96_62 g3).trans ((st_aload_n f_96_63 rfl).trans ((st_aload_n f_96_64 rfl).trans ((sw_iload_n f_96_65 rfl).trans ((sw_iload f_96_66 rfl).trans (st_callS' f_96_68 h_96_86 mn_94 rfl rfl rfl rfl)))))))))))
theorem bL_isOn_71 {o0 o1 o2 o3 o4 o5 o6 : Option Value} {y0 y1 : Int} (g1 : -2147483648 ≤ y1 ∧ y1 ≤ 2147483647) (g2 : -2147483648 ≤ y0 ∧ y0 ≤ 2147483647) : XR sc d 96 71 [o0, o1, o2, o3, o4, o5, o6] [xw y0, xw y1] (T, z, xv V, J, R) = if y1 = y0 then XR sc d 96 74 [o0, o1, o2, o3, o4, o5, o6] [] (T, z, xv V, J, R) else XR sc d 96 78 [o0, o1, o2, o3, o4, o5, o6] [] (T, z, xv V, J, R) :=
  sw_icmp_ne (t := 78) f_96_71 ⟨by decide, rfl⟩ g1 g2
theorem bL_isOn_74 {o0 o1 o2 o3 o4 o5 o6 : Option Value} : XR sc d 96 74 [o0, o1, o2, o3, o4, o5, o6] [] (T, z, xv V, J, R) = XR sc d 96 79 [o0, o1, o2, o3, o4, o5, o6] [xw 1] (T, z, xv V, J, R) :=
  (sw_iconst f_96_74).trans (st_goto (t := 79) f_96_75 ⟨by decide, rfl⟩)
theorem bL_isOn_78 {o0 o1 o2 o3 o4 o5 o6 : Option Value} : XR sc d 96 78 [o0, o1, o2, o3, o4, o5, o6] [] (T, z, xv V, J, R) = XR sc d 96 79 [o0, o1, o2, o3, o4, o5, o6] [xw 0] (T, z, xv V, J, R) :=
  sw_iconst f_96_78
theorem bL_isOn_79 {o0 o1 o2 o3 o4 o5 o6 : Option Value} {y0 : Int} (g1 : y0 = 0 ∨ y0 = 1) : XR sc d 96 79 [o0, o1, o2, o3, o4, o5, o6] [xw y0] (T, z, xv V, J, R) = some (.inl (some (xw y0)), (T, z, xv V, J, R)) :=
  sw_zreturn f_96_79 mr_96 g1
theorem eL_bears {x3 x4 : Int} {a0 a1 a2 : Nat} : X sc (d + 1) 97 [.ref a0, .ref a1, .ref a2, xw x3, xw x4] (T, z, xv V, J, R) = XR sc d 97 0 [some (.ref a0), some (.ref a1), some (.ref a2), some (xw x3), some (xw x4), none, none, none] [] (T, z, xv V, J, R) :=
  (X_eq ⟨jl_97, by rw [mn_97]; rfl, rfl, by rw [lm_97]; exact Nat.le_of_ble_eq_true rfl⟩).trans (by unfold xent; rw [lm_97]; rfl)
theorem bL_bears_0 {o0 o1 o2 o3 o4 o5 o6 o7 : Option Value} : XR sc d 97 0 [o0, o1, o2, o3, o4, o5, o6, o7] [] (T, z, xv V, J, R) = XR sc d 97 3 [o0, o1, o2, o3, o4, some (xw 0), o6, o7] [] (T, z, xv V, J, R) :=
  (sw_iconst f_97_0).trans (sw_istore (L' := [o0, o1, o2, o3, o4, some (xw 0), o6, o7]) f_97_1 (Nat.le_of_ble_eq_true rfl) rfl)
theorem bL_bears_3 {o0 o1 o2 o3 o4 o6 o7 : Option Value} {x5 : Int} (g1 : -2147483648 ≤ x5 ∧ x5 ≤ 2147483647) : XR sc d 97 3 [o0, o1, o2, o3, o4, some (xw x5), o6, o7] [] (T, z, xv V, J, R) = if 8 ≤ x5 then XR sc d 97 114 [o0, o1, o2, o3, o4, some (xw x5), o6, o7] [] (T, z, xv V, J, R) else XR sc d 97 10 [o0, o1, o2, o3, o4, some (xw x5), o6, o7] [] (T, z, xv V, J, R) :=
  (sw_iload f_97_3 rfl).trans ((sw_bipush f_97_5 c8_8).trans (sw_icmp_ge (t := 114) f_97_7 ⟨by decide, rfl⟩ g1 ⟨by decide, by decide⟩))
theorem bL_bears_10 {o0 o1 o3 o4 o6 o7 : Option Value} {x5 : Int} {a2 : Nat} (g1 : T a2 = (32, (T a2).2)) (g2 : (0 : Int) ≤ (x5 + 1) ∧ (x5 + 1) < ((T a2).2 : Int) ∧ (T a2).2 ≤ 3584) (g3 : -2147483648 ≤ (V a2 (x5 + 1).toNat) ∧ (V a2 (x5 + 1).toNat) ≤ 2147483647) : XR sc d 97 10 [o0, o1, some (.ref a2), o3, o4, some (xw x5), o6, o7] [] (T, z, xv V, J, R) = if (V a2 (x5 + 1).toNat) < 0 then XR sc d 97 114 [o0, o1, some (.ref a2), o3, o4, some (xw x5), o6, o7] [] (T, z, xv V, J, R) else XR sc d 97 19 [o0, o1, some (.ref a2), o3, o4, some (xw x5), o6, o7] [] (T, z, xv V, J, R) :=
  (st_aload_n f_97_10 rfl).trans ((sw_iload f_97_11 rfl).trans ((sw_iconst f_97_13).trans ((sw_iadd f_97_14).trans ((sw_iaload f_97_15 g1 g2).trans (sw_if_lt (t := 114) f_97_16 ⟨by decide, rfl⟩ g3)))))
theorem bL_bears_19 {o4 o6 o7 : Option Value} {x3 x5 : Int} {a0 a1 a2 : Nat} (g1 : T a2 = (32, (T a2).2)) (g2 : (0 : Int) ≤ x5 ∧ x5 < ((T a2).2 : Int) ∧ (T a2).2 ≤ 3584) (g3 : (0 : Int) ≤ (x5 + 1) ∧ (x5 + 1) < ((T a2).2 : Int) ∧ (T a2).2 ≤ 3584) : XR sc d 97 19 [some (.ref a0), some (.ref a1), some (.ref a2), some (xw x3), o4, some (xw x5), o6, o7] [] (T, z, xv V, J, R) = xret 97 (XR sc d 97) 32 35 [some (.ref a0), some (.ref a1), some (.ref a2), some (xw x3), o4, some (xw x5), o6, o7] [] (X sc d 96 [.ref a0, .ref a1, xw x3, xw (V a2 x5.toNat), xw (V a2 (x5 + 1).toNat)] (T, z, xv V, J, R)) :=
  (st_aload_n f_97_19 rfl).trans ((st_aload_n f_97_20 rfl).trans ((sw_iload_n f_97_21 rfl).trans ((st_aload_n f_97_22 rfl).trans ((sw_iload f_97_23 rfl).trans ((sw_iaload f_97_25 g1 g2).trans ((st_aload_n f_97_26 rfl).trans ((sw_iload f_97_27 rfl).trans ((sw_iconst f_97_29).trans ((sw_iadd f_97_30).trans ((sw_iaload f_97_31 g1 g3).trans (st_callS' f_97_32 h_97_92 mn_96 rfl rfl rfl rfl)))))))))))
theorem bL_bears_35 {o0 o1 o2 o3 o4 o5 o6 o7 : Option Value} {y0 : Int} (g1 : -2147483648 ≤ y0 ∧ y0 ≤ 2147483647) : XR sc d 97 35 [o0, o1, o2, o3, o4, o5, o6, o7] [xw y0] (T, z, xv V, J, R) = if y0 = 0 then XR sc d 97 108 [o0, o1, o2, o3, o4, o5, o6, o7] [] (T, z, xv V, J, R) else XR sc d 97 38 [o0, o1, o2, o3, o4, o5, o6, o7] [] (T, z, xv V, J, R) :=
  sw_if_eq (t := 108) f_97_35 ⟨by decide, rfl⟩ g1
theorem bL_bears_38 {o0 o1 o2 o3 o4 o5 o6 o7 : Option Value} : XR sc d 97 38 [o0, o1, o2, o3, o4, o5, o6, o7] [] (T, z, xv V, J, R) = XR sc d 97 44 [o0, o1, o2, o3, o4, o5, some (xw 0), some (xw 0)] [] (T, z, xv V, J, R) :=
  (sw_iconst f_97_38).trans ((sw_istore (L' := [o0, o1, o2, o3, o4, o5, some (xw 0), o7]) f_97_39 (Nat.le_of_ble_eq_true rfl) rfl).trans ((sw_iconst f_97_41).trans (sw_istore (L' := [o0, o1, o2, o3, o4, o5, some (xw 0), some (xw 0)]) f_97_42 (Nat.le_of_ble_eq_true rfl) rfl)))
theorem bL_bears_44 {o0 o2 o3 o4 o5 o6 : Option Value} {x7 : Int} {a1 : Nat} (g1 : T a1 = (32, (T a1).2)) (g2 : (0 : Int) ≤ 1 ∧ 1 < ((T a1).2 : Int) ∧ (T a1).2 ≤ 3584) (g3 : -2147483648 ≤ x7 ∧ x7 ≤ 2147483647) (g4 : -2147483648 ≤ (V a1 1) ∧ (V a1 1) ≤ 2147483647) : XR sc d 97 44 [o0, some (.ref a1), o2, o3, o4, o5, o6, some (xw x7)] [] (T, z, xv V, J, R) = if (V a1 1) ≤ x7 then XR sc d 97 88 [o0, some (.ref a1), o2, o3, o4, o5, o6, some (xw x7)] [] (T, z, xv V, J, R) else XR sc d 97 52 [o0, some (.ref a1), o2, o3, o4, o5, o6, some (xw x7)] [] (T, z, xv V, J, R) :=
  (sw_iload f_97_44 rfl).trans ((st_aload_n f_97_46 rfl).trans ((sw_iconst f_97_47).trans ((sw_iaload f_97_48 g1 g2).trans (sw_icmp_ge (t := 88) f_97_49 ⟨by decide, rfl⟩ g3 g4))))
theorem bL_bears_52 {o3 o4 : Option Value} {x6 x7 x5 : Int} {a0 a1 a2 : Nat} (g1 : T a2 = (32, (T a2).2)) (g2 : (0 : Int) ≤ x5 ∧ x5 < ((T a2).2 : Int) ∧ (T a2).2 ≤ 3584) (g3 : (0 : Int) ≤ (x5 + 1) ∧ (x5 + 1) < ((T a2).2 : Int) ∧ (T a2).2 ≤ 3584) : XR sc d 97 52 [some (.ref a0), some (.ref a1), some (.ref a2), o3, o4, some (xw x5), some (xw x6), some (xw x7)] [] (T, z, xv V, J, R) = xret 97 (XR sc d 97) 68 71 [some (.ref a0), some (.ref a1), some (.ref a2), o3, o4, some (xw x5), some (xw x6), some (xw x7)] [xw x6] (X sc d 96 [.ref a0, .ref a1, xw x7, xw (V a2 x5.toNat), xw (V a2 (x5 + 1).toNat)] (T, z, xv V, J, R)) :=
  (sw_iload f_97_52 rfl).trans ((st_aload_n f_97_54 rfl).trans ((st_aload_n f_97_55 rfl).trans ((sw_iload f_97_56 rfl).trans ((st_aload_n f_97_58 rfl).trans ((sw_iload f_97_59 rfl).trans ((sw_iaload f_97_61 g1 g2).trans ((st_aload_n f_97_62 rfl).trans ((sw_iload f_97_63 rfl).trans ((sw_iconst f_97_65).trans ((sw_iadd f_97_66).trans ((sw_iaload f_97_67 g1 g3).trans (st_callS' f_97_68 h_97_92 mn_96 rfl rfl rfl rfl))))))))))))
theorem bL_bears_71 {o0 o1 o2 o3 o4 o5 o6 o7 : Option Value} {s1 : Value} {y0 : Int} (g1 : -2147483648 ≤ y0 ∧ y0 ≤ 2147483647) : XR sc d 97 71 [o0, o1, o2, o3, o4, o5, o6, o7] [xw y0, s1] (T, z, xv V, J, R) = if y0 = 0 then XR sc d 97 78 [o0, o1, o2, o3, o4, o5, o6, o7] [s1] (T, z, xv V, J, R) else XR sc d 97 74 [o0, o1, o2, o3, o4, o5, o6, o7] [s1] (T, z, xv V, J, R) :=
  sw_if_eq (t := 78) f_97_71 ⟨by decide, rfl⟩ g1
theorem bL_bears_74 {o0 o1 o2 o3 o4 o5 o6 o7 : Option Value} {s0 : Value} : XR sc d 97 74 [o0, o1, o2, o3, o4, o5, o6, o7] [s0] (T, z, xv V, J, R) = XR sc d 97 79 [o0, o1, o2, o3, o4, o5, o6, o7] [xw 1, s0] (T, z, xv V, J, R) :=
  (sw_iconst f_97_74).trans (st_goto (t := 79) f_97_75 ⟨by decide, rfl⟩)
theorem bL_bears_78 {o0 o1 o2 o3 o4 o5 o6 o7 : Option Value} {s0 : Value} : XR sc d 97 78 [o0, o1, o2, o3, o4, o5, o6, o7] [s0] (T, z, xv V, J, R) = XR sc d 97 79 [o0, o1, o2, o3, o4, o5, o6, o7] [xw 0, s0] (T, z, xv V, J, R) :=
  sw_iconst f_97_78
theorem bL_bears_79 {o0 o1 o2 o3 o4 o5 o6 : Option Value} {y0 y1 x7 : Int} : XR sc d 97 79 [o0, o1, o2, o3, o4, o5, o6, some (xw x7)] [xw y0, xw y1] (T, z, xv V, J, R) = XR sc d 97 44 [o0, o1, o2, o3, o4, o5, some (xw (y1 + y0)), some (xw (x7 + 1))] [] (T, z, xv V, J, R) :=
  (sw_iadd f_97_79).trans ((sw_istore (L' := [o0, o1, o2, o3, o4, o5, some (xw (y1 + y0)), some (xw x7)]) f_97_80 (Nat.le_of_ble_eq_true rfl) rfl).trans ((sw_iinc (L' := [o0, o1, o2, o3, o4, o5, some (xw (y1 + y0)), some (xw (x7 + 1))]) f_97_82 rfl (Nat.le_of_ble_eq_true rfl) rfl).trans (st_goto (t := 44) f_97_85 ⟨by decide, rfl⟩)))
theorem bL_bears_88 {o0 o1 o2 o3 o5 o7 : Option Value} {x4 x6 : Int} (g1 : 0 < x6 ∧ x6 ≤ 2147483647 ∧ 0 ≤ x4 ∧ x4 ≤ 2147483647) (g2 : -2147483648 ≤ (x4 % x6) ∧ (x4 % x6) ≤ 2147483647) : XR sc d 97 88 [o0, o1, o2, o3, some (xw x4), o5, some (xw x6), o7] [] (T, z, xv V, J, R) = if (x4 % x6) ≤ 0 then XR sc d 97 105 [o0, o1, o2, o3, some (xw x4), o5, some (xw x6), o7] [xw (x4 / x6)] (T, z, xv V, J, R) else XR sc d 97 101 [o0, o1, o2, o3, some (xw x4), o5, some (xw x6), o7] [xw (x4 / x6)] (T, z, xv V, J, R) :=
  (sw_iload f_97_88 rfl).trans ((sw_iload f_97_90 rfl).trans ((sw_idiv f_97_92 g1).trans ((sw_iload f_97_93 rfl).trans ((sw_iload f_97_95 rfl).trans ((sw_irem f_97_97 g1).trans (sw_if_le (t := 105) f_97_98 ⟨by decide, rfl⟩ g2))))))
theorem bL_bears_101 {o0 o1 o2 o3 o4 o5 o6 o7 : Option Value} {s0 : Value} : XR sc d 97 101 [o0, o1, o2, o3, o4, o5, o6, o7] [s0] (T, z, xv V, J, R) = XR sc d 97 106 [o0, o1, o2, o3, o4, o5, o6, o7] [xw 1, s0] (T, z, xv V, J, R) :=
  (sw_iconst f_97_101).trans (st_goto (t := 106) f_97_102 ⟨by decide, rfl⟩)
theorem bL_bears_105 {o0 o1 o2 o3 o4 o5 o6 o7 : Option Value} {s0 : Value} : XR sc d 97 105 [o0, o1, o2, o3, o4, o5, o6, o7] [s0] (T, z, xv V, J, R) = XR sc d 97 106 [o0, o1, o2, o3, o4, o5, o6, o7] [xw 0, s0] (T, z, xv V, J, R) :=
  sw_iconst f_97_105
theorem bL_bears_106 {o0 o1 o2 o3 o4 o5 o6 o7 : Option Value} {y0 y1 : Int} : XR sc d 97 106 [o0, o1, o2, o3, o4, o5, o6, o7] [xw y0, xw y1] (T, z, xv V, J, R) = some (.inl (some (xw (y1 + y0))), (T, z, xv V, J, R)) :=
  (sw_iadd f_97_106).trans (sw_ireturn f_97_107 mr_97)
theorem bL_bears_108 {o0 o1 o2 o3 o4 o6 o7 : Option Value} {x5 : Int} : XR sc d 97 108 [o0, o1, o2, o3, o4, some (xw x5), o6, o7] [] (T, z, xv V, J, R) = XR sc d 97 3 [o0, o1, o2, o3, o4, some (xw (x5 + 1)), o6, o7] [] (T, z, xv V, J, R) :=
  (sw_iinc (L' := [o0, o1, o2, o3, o4, some (xw (x5 + 1)), o6, o7]) f_97_108 rfl (Nat.le_of_ble_eq_true rfl) rfl).trans (st_goto (t := 3) f_97_111 ⟨by decide, rfl⟩)
theorem bL_bears_114 {o0 o1 o2 o3 o4 o5 o6 o7 : Option Value} : XR sc d 97 114 [o0, o1, o2, o3, o4, o5, o6, o7] [] (T, z, xv V, J, R) = some (.inl (some (xw 0)), (T, z, xv V, J, R)) :=
  (sw_iconst f_97_114).trans (sw_ireturn f_97_115 mr_97)
theorem eL_breaks {x6 : Int} {a0 a1 a2 a3 a4 a5 : Nat} : X sc (d + 1) 98 [.ref a0, .ref a1, .ref a2, .ref a3, .ref a4, .ref a5, xw x6] (T, z, xv V, J, R) = XR sc d 98 0 [some (.ref a0), some (.ref a1), some (.ref a2), some (.ref a3), some (.ref a4), some (.ref a5), some (xw x6), none] [] (T, z, xv V, J, R) :=
  (X_eq ⟨jl_98, by rw [mn_98]; rfl, rfl, by rw [lm_98]; exact Nat.le_of_ble_eq_true rfl⟩).trans (by unfold xent; rw [lm_98]; rfl)
theorem bL_breaks_0 {o0 o1 o2 o3 o4 o5 o6 o7 : Option Value} : XR sc d 98 0 [o0, o1, o2, o3, o4, o5, o6, o7] [] (T, z, xv V, J, R) = XR sc d 98 3 [o0, o1, o2, o3, o4, o5, o6, some (xw 0)] [] (T, z, xv V, J, R) :=
  (sw_iconst f_98_0).trans (sw_istore (L' := [o0, o1, o2, o3, o4, o5, o6, some (xw 0)]) f_98_1 (Nat.le_of_ble_eq_true rfl) rfl)
theorem bL_breaks_3 {o0 o1 o2 o3 o5 o6 : Option Value} {x7 : Int} {a4 : Nat} (g1 : T a4 = (32, (T a4).2)) (g2 : (0 : Int) ≤ 1 ∧ 1 < ((T a4).2 : Int) ∧ (T a4).2 ≤ 3584) (g3 : -2147483648 ≤ x7 ∧ x7 ≤ 2147483647) (g4 : -2147483648 ≤ (V a4 1) ∧ (V a4 1) ≤ 2147483647) : XR sc d 98 3 [o0, o1, o2, o3, some (.ref a4), o5, o6, some (xw x7)] [] (T, z, xv V, J, R) = if (V a4 1) ≤ x7 then XR sc d 98 44 [o0, o1, o2, o3, some (.ref a4), o5, o6, some (xw x7)] [] (T, z, xv V, J, R) else XR sc d 98 12 [o0, o1, o2, o3, some (.ref a4), o5, o6, some (xw x7)] [] (T, z, xv V, J, R) :=
  (sw_iload f_98_3 rfl).trans ((st_aload f_98_5 rfl).trans ((sw_iconst f_98_7).trans ((sw_iaload f_98_8 g1 g2).trans (sw_icmp_ge (t := 44) f_98_9 ⟨by decide, rfl⟩ g3 g4))))
theorem bL_breaks_12 {o0 o1 o2 : Option Value} {x7 x6 : Int} {a3 a4 a5 : Nat} : XR sc d 98 12 [o0, o1, o2, some (.ref a3), some (.ref a4), some (.ref a5), some (xw x6), some (xw x7)] [] (T, z, xv V, J, R) = xret 98 (XR sc d 98) 21 24 [o0, o1, o2, some (.ref a3), some (.ref a4), some (.ref a5), some (xw x6), some (xw x7)] [] (X sc d 97 [.ref a3, .ref a4, .ref a5, xw x7, xw x6] (T, z, xv V, J, R)) :=
  (st_aload_n f_98_12 rfl).trans ((st_aload f_98_13 rfl).trans ((st_aload f_98_15 rfl).trans ((sw_iload f_98_17 rfl).trans ((sw_iload f_98_19 rfl).trans (st_callS' f_98_21 h_98_96 mn_97 rfl rfl rfl rfl)))))
theorem bL_breaks_24 {o3 o4 o5 o6 : Option Value} {s0 : Value} {x7 : Int} {a0 a1 a2 : Nat} : XR sc d 98 24 [some (.ref a0), some (.ref a1), some (.ref a2), o3, o4, o5, o6, some (xw x7)] [s0] (T, z, xv V, J, R) = xret 98 (XR sc d 98) 29 32 [some (.ref a0), some (.ref a1), some (.ref a2), o3, o4, o5, o6, some (xw x7)] [s0] (X sc d 93 [.ref a0, .ref a1, .ref a2, xw x7] (T, z, xv V, J, R)) :=
  (st_aload_n f_98_24 rfl).trans ((st_aload_n f_98_25 rfl).trans ((st_aload_n f_98_26 rfl).trans ((sw_iload f_98_27 rfl).trans (st_callS' f_98_29 h_98_99 mn_93 rfl rfl rfl rfl))))
theorem bL_breaks_32 {o0 o1 o2 o3 o4 o5 o6 o7 : Option Value} {y0 y1 : Int} (g1 : -2147483648 ≤ y1 ∧ y1 ≤ 2147483647) (g2 : -2147483648 ≤ y0 ∧ y0 ≤ 2147483647) : XR sc d 98 32 [o0, o1, o2, o3, o4, o5, o6, o7] [xw y0, xw y1] (T, z, xv V, J, R) = if y1 ≤ y0 then XR sc d 98 38 [o0, o1, o2, o3, o4, o5, o6, o7] [] (T, z, xv V, J, R) else XR sc d 98 35 [o0, o1, o2, o3, o4, o5, o6, o7] [] (T, z, xv V, J, R) :=
  sw_icmp_le (t := 38) f_98_32 ⟨by decide, rfl⟩ g1 g2
theorem bL_breaks_35 {o0 o1 o2 o3 o4 o5 o6 : Option Value} {x7 : Int} : XR sc d 98 35 [o0, o1, o2, o3, o4, o5, o6, some (xw x7)] [] (T, z, xv V, J, R) = some (.inl (some (xw x7)), (T, z, xv V, J, R)) :=
  (sw_iload f_98_35 rfl).trans (sw_ireturn f_98_37 mr_98)
theorem bL_breaks_38 {o0 o1 o2 o3 o4 o5 o6 : Option Value} {x7 : Int} : XR sc d 98 38 [o0, o1, o2, o3, o4, o5, o6, some (xw x7)] [] (T, z, xv V, J, R) = XR sc d 98 3 [o0, o1, o2, o3, o4, o5, o6, some (xw (x7 + 1))] [] (T, z, xv V, J, R) :=
  (sw_iinc (L' := [o0, o1, o2, o3, o4, o5, o6, some (xw (x7 + 1))]) f_98_38 rfl (Nat.le_of_ble_eq_true rfl) rfl).trans (st_goto (t := 3) f_98_41 ⟨by decide, rfl⟩)
theorem bL_breaks_44 {o0 o1 o2 o3 o4 o5 o6 o7 : Option Value} : XR sc d 98 44 [o0, o1, o2, o3, o4, o5, o6, o7] [] (T, z, xv V, J, R) = some (.inl (some (xw (-1))), (T, z, xv V, J, R)) :=
  (sw_iconst f_98_44).trans (sw_ireturn f_98_45 mr_98)
theorem eL_pulls {x5 x6 x7 : Int} {a0 a1 a2 a3 a4 : Nat} : X sc (d + 1) 99 [.ref a0, .ref a1, .ref a2, .ref a3, .ref a4, xw x5, xw x6, xw x7] (T, z, xv V, J, R) = XR sc d 99 0 [some (.ref a0), some (.ref a1), some (.ref a2), some (.ref a3), some (.ref a4), some (xw x5), some (xw x6), some (xw x7), none, none, none, none, none] [] (T, z, xv V, J, R) :=
  (X_eq ⟨jl_99, by rw [mn_99]; rfl, rfl, by rw [lm_99]; exact Nat.le_of_ble_eq_true rfl⟩).trans (by unfold xent; rw [lm_99]; rfl)
theorem bL_pulls_0 {o0 o1 o2 o7 o8 o9 o10 o11 o12 : Option Value} {x5 x6 : Int} {a3 a4 : Nat} : XR sc d 99 0 [o0, o1, o2, some (.ref a3), some (.ref a4), some (xw x5), some (xw x6), o7, o8, o9, o10, o11, o12] [] (T, z, xv V, J, R) = xret 99 (XR sc d 99) 18 21 [o0, o1, o2, some (.ref a3), some (.ref a4), some (xw x5), some (xw x6), o7, some (.ref z.1), some (xw 0), o10, o11, o12] [] (X sc d 95 [.ref a3, .ref a4, xw x5, xw x6, .ref z.1] ((va_up T z.1 (32, 9)), (z.1 + 1, z.2 + 9), xv (va_up V z.1 (fun _ => 0)), (va_up J z.1 (fun _ => 0)), (va_up R z.1 (fun _ => none)))) :=
  (sw_bipush f_99_0 c8_9).trans ((sw_newI 9 f_99_2 ⟨rfl, by decide⟩).trans ((st_astore (L' := [o0, o1, o2, some (.ref a3), some (.ref a4), some (xw x5), some (xw x6), o7, some (.ref z.1), o9, o10, o11, o12]) f_99_4 (Nat.le_of_ble_eq_true rfl) rfl).trans ((sw_iconst f_99_6).trans ((sw_istore (L' := [o0, o1, o2, some (.ref a3), some (.ref a4), some (xw x5), some (xw x6), o7, some (.ref z.1), some (xw 0), o10, o11, o12]) f_99_7 (Nat.le_of_ble_eq_true rfl) rfl).trans ((st_aload_n f_99_9 rfl).trans ((st_aload f_99_10 rfl).trans ((sw_iload f_99_12 rfl).trans ((sw_iload f_99_14 rfl).trans ((st_aload f_99_16 rfl).trans (st_callS' f_99_18 h_99_103 mn_95 rfl rfl rfl rfl))))))))))
theorem bL_pulls_21 {o0 o1 o2 o3 o4 o5 o6 o7 o8 o9 o10 o11 o12 : Option Value} {y0 : Int} (g1 : -2147483648 ≤ y0 ∧ y0 ≤ 2147483647) : XR sc d 99 21 [o0, o1, o2, o3, o4, o5, o6, o7, o8, o9, o10, o11, o12] [xw y0] (T, z, xv V, J, R) = if y0 = 0 then XR sc d 99 44 [o0, o1, o2, o3, o4, o5, o6, o7, o8, o9, some (xw y0), o11, o12] [] (T, z, xv V, J, R) else XR sc d 99 28 [o0, o1, o2, o3, o4, o5, o6, o7, o8, o9, some (xw y0), o11, o12] [] (T, z, xv V, J, R) :=
  (sw_istore (L' := [o0, o1, o2, o3, o4, o5, o6, o7, o8, o9, some (xw y0), o11, o12]) f_99_21 (Nat.le_of_ble_eq_true rfl) rfl).trans ((sw_iload f_99_23 rfl).trans (sw_if_eq (t := 44) f_99_25 ⟨by decide, rfl⟩ g1))
theorem bL_pulls_28 {o5 o6 o9 o10 o11 o12 : Option Value} {x7 : Int} {a0 a1 a2 a3 a4 a8 : Nat} : XR sc d 99 28 [some (.ref a0), some (.ref a1), some (.ref a2), some (.ref a3), some (.ref a4), o5, o6, some (xw x7), some (.ref a8), o9, o10, o11, o12] [] (T, z, xv V, J, R) = xret 99 (XR sc d 99) 38 41 [some (.ref a0), some (.ref a1), some (.ref a2), some (.ref a3), some (.ref a4), o5, o6, some (xw x7), some (.ref a8), o9, o10, o11, o12] [] (X sc d 98 [.ref a0, .ref a1, .ref a2, .ref a3, .ref a4, .ref a8, xw x7] (T, z, xv V, J, R)) :=
  (st_aload_n f_99_28 rfl).trans ((st_aload_n f_99_29 rfl).trans ((st_aload_n f_99_30 rfl).trans ((st_aload_n f_99_31 rfl).trans ((st_aload f_99_32 rfl).trans ((st_aload f_99_34 rfl).trans ((sw_iload f_99_36 rfl).trans (st_callS' f_99_38 h_99_107 mn_98 rfl rfl rfl rfl)))))))
theorem bL_pulls_41 {o0 o1 o2 o3 o4 o5 o6 o7 o8 o9 o10 o11 o12 : Option Value} {s0 : Value} : XR sc d 99 41 [o0, o1, o2, o3, o4, o5, o6, o7, o8, o9, o10, o11, o12] [s0] (T, z, xv V, J, R) = XR sc d 99 45 [o0, o1, o2, o3, o4, o5, o6, o7, o8, o9, o10, o11, o12] [s0] (T, z, xv V, J, R) :=
  st_goto (t := 45) f_99_41 ⟨by decide, rfl⟩
theorem bL_pulls_44 {o0 o1 o2 o3 o4 o5 o6 o7 o8 o9 o10 o11 o12 : Option Value} : XR sc d 99 44 [o0, o1, o2, o3, o4, o5, o6, o7, o8, o9, o10, o11, o12] [] (T, z, xv V, J, R) = XR sc d 99 45 [o0, o1, o2, o3, o4, o5, o6, o7, o8, o9, o10, o11, o12] [xw (-1)] (T, z, xv V, J, R) :=
  sw_iconst f_99_44
theorem bL_pulls_45 {o0 o1 o2 o3 o4 o5 o6 o7 o8 o9 o10 o11 o12 : Option Value} {y0 : Int} : XR sc d 99 45 [o0, o1, o2, o3, o4, o5, o6, o7, o8, o9, o10, o11, o12] [xw y0] (T, z, xv V, J, R) = XR sc d 99 47 [o0, o1, o2, o3, o4, o5, o6, o7, o8, o9, o10, some (xw y0), o12] [] (T, z, xv V, J, R) :=
  sw_istore (L' := [o0, o1, o2, o3, o4, o5, o6, o7, o8, o9, o10, some (xw y0), o12]) f_99_45 (Nat.le_of_ble_eq_true rfl) rfl
theorem bL_pulls_47 {o0 o1 o2 o3 o4 o5 o6 o7 o8 o9 o10 o12 : Option Value} {x11 : Int} (g1 : -2147483648 ≤ x11 ∧ x11 ≤ 2147483647) : XR sc d 99 47 [o0, o1, o2, o3, o4, o5, o6, o7, o8, o9, o10, some (xw x11), o12] [] (T, z, xv V, J, R) = if x11 < 0 then XR sc d 99 110 [o0, o1, o2, o3, o4, o5, o6, o7, o8, o9, o10, some (xw x11), o12] [] (T, z, xv V, J, R) else XR sc d 99 52 [o0, o1, o2, o3, o4, o5, o6, o7, o8, o9, o10, some (xw x11), o12] [] (T, z, xv V, J, R) :=
  (sw_iload f_99_47 rfl).trans (sw_if_lt (t := 110) f_99_49 ⟨by decide, rfl⟩ g1)
theorem bL_pulls_52 {o1 o2 o7 o10 o12 : Option Value} {x11 x9 x5 x6 : Int} {a0 a3 a4 a8 : Nat} (g1 : T a0 = (32, (T a0).2)) (g2 : (0 : Int) ≤ x11 ∧ x11 < ((T a0).2 : Int) ∧ (T a0).2 ≤ 3584) (g3 : T a3 = (32, (T a3).2)) (g4 : (0 : Int) ≤ x11 ∧ x11 < ((T a3).2 : Int) ∧ (T a3).2 ≤ 3584) : XR sc d 99 52 [some (.ref a0), o1, o2, some (.ref a3), some (.ref a4), some (xw x5), some (xw x6), o7, some (.ref a8), some (xw x9), o10, some (xw x11), o12] [] (T, z, xv V, J, R) = xret 99 (XR sc d 99) 78 81 [some (.ref a0), o1, o2, some (.ref a3), some (.ref a4), some (xw x5), some (xw x6), o7, some (.ref a8), some (xw (x9 + 1)), o10, some (xw x11), o12] [] (X sc d 95 [.ref a3, .ref a4, xw x5, xw x6, .ref a8] (T, z, xv (xup2 (xup2 V a0 x11.toNat ((V a0 x11.toNat) + 524288)) a3 x11.toNat 0), J, R)) :=
  (st_aload_n f_99_52 rfl).trans ((sw_iload f_99_53 rfl).trans ((st_dup2 f_99_55 rfl rfl).trans ((sw_iaload f_99_56 g1 g2).trans ((sw_ldc 524288 f_99_57 k_99_111 rfl).trans ((sw_iadd f_99_59).trans ((sw_iastore f_99_60 g1 g2).trans ((st_aload_n f_99_61 rfl).trans ((sw_iload f_99_62 rfl).trans ((sw_iconst f_99_64).trans ((sw_iastore f_99_65 g3 g4).trans ((sw_iinc (L' := [some (.ref a0), o1, o2, some (.ref a3), some (.ref a4), some (xw x5), some (xw x6), o7, some (.ref a8), some (xw (x9 + 1)), o10, some (xw x11), o12]) f_99_66 rfl (Nat.le_of_ble_eq_true rfl) rfl).trans ((st_aload_n f_99_69 rfl).trans ((st_aload f_99_70 rfl).trans ((sw_iload f_99_72 rfl).trans ((sw_iload f_99_74 rfl).trans ((st_aload f_99_76 rfl).trans (st_callS' f_99_78 h_99_103 mn_95 rfl rfl rfl rfl)))))))))))))))))
theorem bL_pulls_81 {o0 o1 o2 o3 o4 o5 o6 o7 o8 o9 o10 o11 o12 : Option Value} {y0 : Int} (g1 : -2147483648 ≤ y0 ∧ y0 ≤ 2147483647) : XR sc d 99 81 [o0, o1, o2, o3, o4, o5, o6, o7, o8, o9, o10, o11, o12] [xw y0] (T, z, xv V, J, R) = if y0 = 0 then XR sc d 99 104 [o0, o1, o2, o3, o4, o5, o6, o7, o8, o9, some (xw y0), o11, o12] [] (T, z, xv V, J, R) else XR sc d 99 88 [o0, o1, o2, o3, o4, o5, o6, o7, o8, o9, some (xw y0), o11, o12] [] (T, z, xv V, J, R) :=
  (sw_istore (L' := [o0, o1, o2, o3, o4, o5, o6, o7, o8, o9, some (xw y0), o11, o12]) f_99_81 (Nat.le_of_ble_eq_true rfl) rfl).trans ((sw_iload f_99_83 rfl).trans (sw_if_eq (t := 104) f_99_85 ⟨by decide, rfl⟩ g1))
theorem bL_pulls_88 {o5 o6 o9 o10 o11 o12 : Option Value} {x7 : Int} {a0 a1 a2 a3 a4 a8 : Nat} : XR sc d 99 88 [some (.ref a0), some (.ref a1), some (.ref a2), some (.ref a3), some (.ref a4), o5, o6, some (xw x7), some (.ref a8), o9, o10, o11, o12] [] (T, z, xv V, J, R) = xret 99 (XR sc d 99) 98 101 [some (.ref a0), some (.ref a1), some (.ref a2), some (.ref a3), some (.ref a4), o5, o6, some (xw x7), some (.ref a8), o9, o10, o11, o12] [] (X sc d 98 [.ref a0, .ref a1, .ref a2, .ref a3, .ref a4, .ref a8, xw x7] (T, z, xv V, J, R)) :=
  (st_aload_n f_99_88 rfl).trans ((st_aload_n f_99_89 rfl).trans ((st_aload_n f_99_90 rfl).trans ((st_aload_n f_99_91 rfl).trans ((st_aload f_99_92 rfl).trans ((st_aload f_99_94 rfl).trans ((sw_iload f_99_96 rfl).trans (st_callS' f_99_98 h_99_107 mn_98 rfl rfl rfl rfl)))))))
theorem bL_pulls_101 {o0 o1 o2 o3 o4 o5 o6 o7 o8 o9 o10 o11 o12 : Option Value} {s0 : Value} : XR sc d 99 101 [o0, o1, o2, o3, o4, o5, o6, o7, o8, o9, o10, o11, o12] [s0] (T, z, xv V, J, R) = XR sc d 99 105 [o0, o1, o2, o3, o4, o5, o6, o7, o8, o9, o10, o11, o12] [s0] (T, z, xv V, J, R) :=
  st_goto (t := 105) f_99_101 ⟨by decide, rfl⟩
theorem bL_pulls_104 {o0 o1 o2 o3 o4 o5 o6 o7 o8 o9 o10 o11 o12 : Option Value} : XR sc d 99 104 [o0, o1, o2, o3, o4, o5, o6, o7, o8, o9, o10, o11, o12] [] (T, z, xv V, J, R) = XR sc d 99 105 [o0, o1, o2, o3, o4, o5, o6, o7, o8, o9, o10, o11, o12] [xw (-1)] (T, z, xv V, J, R) :=
  sw_iconst f_99_104
theorem bL_pulls_105 {o0 o1 o2 o3 o4 o5 o6 o7 o8 o9 o10 o11 o12 : Option Value} {y0 : Int} : XR sc d 99 105 [o0, o1, o2, o3, o4, o5, o6, o7, o8, o9, o10, o11, o12] [xw y0] (T, z, xv V, J, R) = XR sc d 99 47 [o0, o1, o2, o3, o4, o5, o6, o7, o8, o9, o10, some (xw y0), o12] [] (T, z, xv V, J, R) :=
  (sw_istore (L' := [o0, o1, o2, o3, o4, o5, o6, o7, o8, o9, o10, some (xw y0), o12]) f_99_105 (Nat.le_of_ble_eq_true rfl) rfl).trans (st_goto (t := 47) f_99_107 ⟨by decide, rfl⟩)
theorem bL_pulls_110 {o0 o1 o2 o3 o4 o5 o6 o7 o8 o9 o10 o11 o12 : Option Value} : XR sc d 99 110 [o0, o1, o2, o3, o4, o5, o6, o7, o8, o9, o10, o11, o12] [] (T, z, xv V, J, R) = XR sc d 99 113 [o0, o1, o2, o3, o4, o5, o6, o7, o8, o9, o10, o11, some (xw 0)] [] (T, z, xv V, J, R) :=
  (sw_iconst f_99_110).trans (sw_istore (L' := [o0, o1, o2, o3, o4, o5, o6, o7, o8, o9, o10, o11, some (xw 0)]) f_99_111 (Nat.le_of_ble_eq_true rfl) rfl)
theorem bL_pulls_113 {o0 o1 o2 o3 o5 o6 o7 o8 o9 o10 o11 : Option Value} {x12 : Int} {a4 : Nat} (g1 : T a4 = (32, (T a4).2)) (g2 : (0 : Int) ≤ 1 ∧ 1 < ((T a4).2 : Int) ∧ (T a4).2 ≤ 3584) (g3 : -2147483648 ≤ x12 ∧ x12 ≤ 2147483647) (g4 : -2147483648 ≤ (V a4 1) ∧ (V a4 1) ≤ 2147483647) : XR sc d 99 113 [o0, o1, o2, o3, some (.ref a4), o5, o6, o7, o8, o9, o10, o11, some (xw x12)] [] (T, z, xv V, J, R) = if (V a4 1) ≤ x12 then XR sc d 99 155 [o0, o1, o2, o3, some (.ref a4), o5, o6, o7, o8, o9, o10, o11, some (xw x12)] [] (T, z, xv V, J, R) else XR sc d 99 122 [o0, o1, o2, o3, some (.ref a4), o5, o6, o7, o8, o9, o10, o11, some (xw x12)] [] (T, z, xv V, J, R) :=
  (sw_iload f_99_113 rfl).trans ((st_aload f_99_115 rfl).trans ((sw_iconst f_99_117).trans ((sw_iaload f_99_118 g1 g2).trans (sw_icmp_ge (t := 155) f_99_119 ⟨by decide, rfl⟩ g3 g4))))
theorem bL_pulls_122 {o0 o1 o2 o3 o4 o5 o6 o7 o8 o9 o11 o12 : Option Value} {x10 : Int} (g1 : -2147483648 ≤ x10 ∧ x10 ≤ 2147483647) : XR sc d 99 122 [o0, o1, o2, o3, o4, o5, o6, o7, o8, o9, some (xw x10), o11, o12] [] (T, z, xv V, J, R) = if x10 = 0 then XR sc d 99 155 [o0, o1, o2, o3, o4, o5, o6, o7, o8, o9, some (xw x10), o11, o12] [] (T, z, xv V, J, R) else XR sc d 99 127 [o0, o1, o2, o3, o4, o5, o6, o7, o8, o9, some (xw x10), o11, o12] [] (T, z, xv V, J, R) :=
  (sw_iload f_99_122 rfl).trans (sw_if_eq (t := 155) f_99_124 ⟨by decide, rfl⟩ g1)
theorem bL_pulls_127 {o0 o2 o5 o6 o9 o10 o11 : Option Value} {x12 x7 : Int} {a1 a3 a4 a8 : Nat} (g1 : T a1 = (32, (T a1).2)) (g2 : (0 : Int) ≤ x12 ∧ x12 < ((T a1).2 : Int) ∧ (T a1).2 ≤ 3584) : XR sc d 99 127 [o0, some (.ref a1), o2, some (.ref a3), some (.ref a4), o5, o6, some (xw x7), some (.ref a8), o9, o10, o11, some (xw x12)] [] (T, z, xv V, J, R) = xret 99 (XR sc d 99) 141 144 [o0, some (.ref a1), o2, some (.ref a3), some (.ref a4), o5, o6, some (xw x7), some (.ref a8), o9, o10, o11, some (xw x12)] [xw (V a1 x12.toNat), xw x12, .ref a1] (X sc d 97 [.ref a3, .ref a4, .ref a8, xw x12, xw x7] (T, z, xv V, J, R)) :=
  (st_aload_n f_99_127 rfl).trans ((sw_iload f_99_128 rfl).trans ((st_dup2 f_99_130 rfl rfl).trans ((sw_iaload f_99_131 g1 g2).trans ((st_aload_n f_99_132 rfl).trans ((st_aload f_99_133 rfl).trans ((st_aload f_99_135 rfl).trans ((sw_iload f_99_137 rfl).trans ((sw_iload f_99_139 rfl).trans (st_callS' f_99_141 h_99_96 mn_97 rfl rfl rfl rfl)))))))))
theorem bL_pulls_144 {o0 o1 o2 o3 o4 o5 o6 o7 o8 o9 o10 o11 : Option Value} {y0 y1 y2 x12 : Int} {b3 : Nat} (g1 : 0 ≤ y0 ∧ y0 ≤ 2147483647) (g2 : T b3 = (32, (T b3).2)) (g3 : (0 : Int) ≤ y2 ∧ y2 < ((T b3).2 : Int) ∧ (T b3).2 ≤ 3584) : XR sc d 99 144 [o0, o1, o2, o3, o4, o5, o6, o7, o8, o9, o10, o11, some (xw x12)] [xw y0, xw y1, xw y2, .ref b3] (T, z, xv V, J, R) = XR sc d 99 113 [o0, o1, o2, o3, o4, o5, o6, o7, o8, o9, o10, o11, some (xw (x12 + 1))] [] (T, z, xv (xup2 V b3 y2.toNat (y1 + (y0 / 10))), J, R) :=
  (sw_bipush f_99_144 c8_10).trans ((sw_idiv f_99_146 ⟨by decide, by decide, g1⟩).trans ((sw_iadd f_99_147).trans ((sw_iastore f_99_148 g2 g3).trans ((sw_iinc (L' := [o0, o1, o2, o3, o4, o5, o6, o7, o8, o9, o10, o11, some (xw (x12 + 1))]) f_99_149 rfl (Nat.le_of_ble_eq_true rfl) rfl).trans (st_goto (t := 113) f_99_152 ⟨by decide, rfl⟩)))))
theorem bL_pulls_155 {o0 o1 o2 o3 o4 o5 o6 o7 o8 o10 o11 o12 : Option Value} {x9 : Int} : XR sc d 99 155 [o0, o1, o2, o3, o4, o5, o6, o7, o8, some (xw x9), o10, o11, o12] [] (T, z, xv V, J, R) = some (.inl (some (xw x9)), (T, z, xv V, J, R)) :=
  (sw_iload f_99_155 rfl).trans (sw_ireturn f_99_157 mr_99)
end BLK
