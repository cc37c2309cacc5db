/-! instructions, by program (gen2.py) -/
set_option maxRecDepth 100000 in
theorem f_91_0 : xft 91 0 = some (.aload_n 0) := by decide +kernel
set_option maxRecDepth 100000 in
theorem f_91_1 : xft 91 1 = some (.invokespecial 1) := by decide +kernel
set_option maxRecDepth 100000 in
theorem f_91_4 : xft 91 4 = some (.aload_n 0) := by decide +kernel
set_option maxRecDepth 100000 in
theorem f_91_5 : xft 91 5 = some (.bipush 8) := by decide +kernel
set_option maxRecDepth 100000 in
theorem f_91_7 : xft 91 7 = some (.newarray .int) := by decide +kernel
set_option maxRecDepth 100000 in
theorem f_91_9 : xft 91 9 = some (.putfield 7) := by decide +kernel
set_option maxRecDepth 100000 in
theorem f_91_12 : xft 91 12 = some (.aload_n 0) := by decide +kernel
set_option maxRecDepth 100000 in
theorem f_91_13 : xft 91 13 = some (.bipush 64) := by decide +kernel
set_option maxRecDepth 100000 in
theorem f_91_15 : xft 91 15 = some (.newarray .int) := by decide +kernel
set_option maxRecDepth 100000 in
theorem f_91_17 : xft 91 17 = some (.putfield 13) := by decide +kernel
set_option maxRecDepth 100000 in
theorem f_91_20 : xft 91 20 = some (.aload_n 0) := by decide +kernel
set_option maxRecDepth 100000 in
theorem f_91_21 : xft 91 21 = some (.bipush 40) := by decide +kernel
set_option maxRecDepth 100000 in
theorem f_91_23 : xft 91 23 = some (.newarray .int) := by decide +kernel
set_option maxRecDepth 100000 in
theorem f_91_25 : xft 91 25 = some (.putfield 16) := by decide +kernel
set_option maxRecDepth 100000 in
theorem f_91_28 : xft 91 28 = some (.aload_n 0) := by decide +kernel
set_option maxRecDepth 100000 in
theorem f_91_29 : xft 91 29 = some (.bipush 40) := by decide +kernel
set_option maxRecDepth 100000 in
theorem f_91_31 : xft 91 31 = some (.newarray .int) := by decide +kernel
set_option maxRecDepth 100000 in
theorem f_91_33 : xft 91 33 = some (.putfield 19) := by decide +kernel
set_option maxRecDepth 100000 in
theorem f_91_36 : xft 91 36 = some (.aload_n 0) := by decide +kernel
set_option maxRecDepth 100000 in
theorem f_91_37 : xft 91 37 = some (.bipush 40) := by decide +kernel
set_option maxRecDepth 100000 in
theorem f_91_39 : xft 91 39 = some (.newarray .int) := by decide +kernel
set_option maxRecDepth 100000 in
theorem f_91_41 : xft 91 41 = some (.putfield 22) := by decide +kernel
set_option maxRecDepth 100000 in
theorem f_91_44 : xft 91 44 = some (.aload_n 0) := by decide +kernel
set_option maxRecDepth 100000 in
theorem f_91_45 : xft 91 45 = some (.bipush 40) := by decide +kernel
set_option maxRecDepth 100000 in
theorem f_91_47 : xft 91 47 = some (.newarray .int) := by decide +kernel
set_option maxRecDepth 100000 in
theorem f_91_49 : xft 91 49 = some (.putfield 25) := by decide +kernel
set_option maxRecDepth 100000 in
theorem f_91_52 : xft 91 52 = some (.aload_n 0) := by decide +kernel
set_option maxRecDepth 100000 in
theorem f_91_53 : xft 91 53 = some (.bipush 40) := by decide +kernel
set_option maxRecDepth 100000 in
theorem f_91_55 : xft 91 55 = some (.newarray .boolean) := by decide +kernel
set_option maxRecDepth 100000 in
theorem f_91_57 : xft 91 57 = some (.putfield 28) := by decide +kernel
set_option maxRecDepth 100000 in
theorem f_91_60 : xft 91 60 = some (.aload_n 0) := by decide +kernel
set_option maxRecDepth 100000 in
theorem f_91_61 : xft 91 61 = some (.bipush 40) := by decide +kernel
set_option maxRecDepth 100000 in
theorem f_91_63 : xft 91 63 = some (.newarray .long) := by decide +kernel
set_option maxRecDepth 100000 in
theorem f_91_65 : xft 91 65 = some (.putfield 32) := by decide +kernel
set_option maxRecDepth 100000 in
theorem f_91_68 : xft 91 68 = some (.aload_n 0) := by decide +kernel
set_option maxRecDepth 100000 in
theorem f_91_69 : xft 91 69 = some (.bipush 40) := by decide +kernel
set_option maxRecDepth 100000 in
theorem f_91_71 : xft 91 71 = some (.newarray .int) := by decide +kernel
set_option maxRecDepth 100000 in
theorem f_91_73 : xft 91 73 = some (.putfield 36) := by decide +kernel
set_option maxRecDepth 100000 in
theorem f_91_76 : xft 91 76 = some (.aload_n 0) := by decide +kernel
set_option maxRecDepth 100000 in
theorem f_91_77 : xft 91 77 = some (.bipush 40) := by decide +kernel
set_option maxRecDepth 100000 in
theorem f_91_79 : xft 91 79 = some (.newarray .int) := by decide +kernel
set_option maxRecDepth 100000 in
theorem f_91_81 : xft 91 81 = some (.putfield 39) := by decide +kernel
set_option maxRecDepth 100000 in
theorem f_91_84 : xft 91 84 = some (.aload_n 0) := by decide +kernel
set_option maxRecDepth 100000 in
theorem f_91_85 : xft 91 85 = some (.bipush 40) := by decide +kernel
set_option maxRecDepth 100000 in
theorem f_91_87 : xft 91 87 = some (.newarray .boolean) := by decide +kernel
set_option maxRecDepth 100000 in
theorem f_91_89 : xft 91 89 = some (.putfield 42) := by decide +kernel
set_option maxRecDepth 100000 in
theorem f_91_92 : xft 91 92 = some (.aload_n 0) := by decide +kernel
set_option maxRecDepth 100000 in
theorem f_91_93 : xft 91 93 = some (.bipush 40) := by decide +kernel
set_option maxRecDepth 100000 in
theorem f_91_95 : xft 91 95 = some (.newarray .int) := by decide +kernel
set_option maxRecDepth 100000 in
theorem f_91_97 : xft 91 97 = some (.putfield 45) := by decide +kernel
set_option maxRecDepth 100000 in
theorem f_91_100 : xft 91 100 = some (.aload_n 0) := by decide +kernel
set_option maxRecDepth 100000 in
theorem f_91_101 : xft 91 101 = some (.bipush 40) := by decide +kernel
set_option maxRecDepth 100000 in
theorem f_91_103 : xft 91 103 = some (.newarray .int) := by decide +kernel
set_option maxRecDepth 100000 in
theorem f_91_105 : xft 91 105 = some (.putfield 48) := by decide +kernel
set_option maxRecDepth 100000 in
theorem f_91_108 : xft 91 108 = some (.aload_n 0) := by decide +kernel
set_option maxRecDepth 100000 in
theorem f_91_109 : xft 91 109 = some (.bipush 40) := by decide +kernel
set_option maxRecDepth 100000 in
theorem f_91_111 : xft 91 111 = some (.newarray .int) := by decide +kernel
set_option maxRecDepth 100000 in
theorem f_91_113 : xft 91 113 = some (.putfield 51) := by decide +kernel
set_option maxRecDepth 100000 in
theorem f_91_116 : xft 91 116 = some (.aload_n 0) := by decide +kernel
set_option maxRecDepth 100000 in
theorem f_91_117 : xft 91 117 = some (.bipush 8) := by decide +kernel
set_option maxRecDepth 100000 in
theorem f_91_119 : xft 91 119 = some (.newarray .int) := by decide +kernel
set_option maxRecDepth 100000 in
theorem f_91_121 : xft 91 121 = some (.putfield 54) := by decide +kernel
set_option maxRecDepth 100000 in
theorem f_91_124 : xft 91 124 = some (.aload_n 0) := by decide +kernel
set_option maxRecDepth 100000 in
theorem f_91_125 : xft 91 125 = some (.bipush 8) := by decide +kernel
set_option maxRecDepth 100000 in
theorem f_91_127 : xft 91 127 = some (.newarray .int) := by decide +kernel
set_option maxRecDepth 100000 in
theorem f_91_129 : xft 91 129 = some (.putfield 57) := by decide +kernel
set_option maxRecDepth 100000 in
theorem f_91_132 : xft 91 132 = some (.aload_n 0) := by decide +kernel
set_option maxRecDepth 100000 in
theorem f_91_133 : xft 91 133 = some (.bipush 40) := by decide +kernel
set_option maxRecDepth 100000 in
theorem f_91_135 : xft 91 135 = some (.newarray .int) := by decide +kernel
set_option maxRecDepth 100000 in
theorem f_91_137 : xft 91 137 = some (.putfield 60) := by decide +kernel
set_option maxRecDepth 100000 in
theorem f_91_140 : xft 91 140 = some (.aload_n 0) := by decide +kernel
set_option maxRecDepth 100000 in
theorem f_91_141 : xft 91 141 = some (.bipush 42) := by decide +kernel
set_option maxRecDepth 100000 in
theorem f_91_143 : xft 91 143 = some (.newarray .int) := by decide +kernel
set_option maxRecDepth 100000 in
theorem f_91_145 : xft 91 145 = some (.putfield 63) := by decide +kernel
set_option maxRecDepth 100000 in
theorem f_91_148 : xft 91 148 = some (.aload_n 0) := by decide +kernel
set_option maxRecDepth 100000 in
theorem f_91_149 : xft 91 149 = some (.bipush 42) := by decide +kernel
set_option maxRecDepth 100000 in
theorem f_91_151 : xft 91 151 = some (.newarray .int) := by decide +kernel
set_option maxRecDepth 100000 in
theorem f_91_153 : xft 91 153 = some (.putfield 66) := by decide +kernel
set_option maxRecDepth 100000 in
theorem f_91_156 : xft 91 156 = some (.aload_n 0) := by decide +kernel
set_option maxRecDepth 100000 in
theorem f_91_157 : xft 91 157 = some (.bipush 42) := by decide +kernel
set_option maxRecDepth 100000 in
theorem f_91_159 : xft 91 159 = some (.newarray .int) := by decide +kernel
set_option maxRecDepth 100000 in
theorem f_91_161 : xft 91 161 = some (.putfield 69) := by decide +kernel
set_option maxRecDepth 100000 in
theorem f_91_164 : xft 91 164 = some (.aload_n 0) := by decide +kernel
set_option maxRecDepth 100000 in
theorem f_91_165 : xft 91 165 = some (.bipush 42) := by decide +kernel
set_option maxRecDepth 100000 in
theorem f_91_167 : xft 91 167 = some (.newarray .int) := by decide +kernel
set_option maxRecDepth 100000 in
theorem f_91_169 : xft 91 169 = some (.putfield 72) := by decide +kernel
set_option maxRecDepth 100000 in
theorem f_91_172 : xft 91 172 = some (.aload_n 0) := by decide +kernel
set_option maxRecDepth 100000 in
theorem f_91_173 : xft 91 173 = some (.sipush 252) := by decide +kernel
set_option maxRecDepth 100000 in
theorem f_91_176 : xft 91 176 = some (.newarray .int) := by decide +kernel
set_option maxRecDepth 100000 in
theorem f_91_178 : xft 91 178 = some (.putfield 75) := by decide +kernel
set_option maxRecDepth 100000 in
theorem f_91_181 : xft 91 181 = some (.aload_n 0) := by decide +kernel
set_option maxRecDepth 100000 in
theorem f_91_182 : xft 91 182 = some (.sipush 168) := by decide +kernel
set_option maxRecDepth 100000 in
theorem f_91_185 : xft 91 185 = some (.newarray .int) := by decide +kernel
set_option maxRecDepth 100000 in
theorem f_91_187 : xft 91 187 = some (.putfield 78) := by decide +kernel
set_option maxRecDepth 100000 in
theorem f_91_190 : xft 91 190 = some (.aload_n 0) := by decide +kernel
set_option maxRecDepth 100000 in
theorem f_91_191 : xft 91 191 = some (.sipush 168) := by decide +kernel
set_option maxRecDepth 100000 in
theorem f_91_194 : xft 91 194 = some (.newarray .int) := by decide +kernel
set_option maxRecDepth 100000 in
theorem f_91_196 : xft 91 196 = some (.putfield 81) := by decide +kernel
set_option maxRecDepth 100000 in
theorem f_91_199 : xft 91 199 = some (.return_) := by decide +kernel
set_option maxRecDepth 100000 in
theorem f_92_0 : xft 92 0 = some (.aload_n 0) := by decide +kernel
set_option maxRecDepth 100000 in
theorem f_92_1 : xft 92 1 = some (.getfield 84) := by decide +kernel
set_option maxRecDepth 100000 in
theorem f_92_4 : xft 92 4 = some (.ireturn) := by decide +kernel
set_option maxRecDepth 100000 in
theorem f_93_0 : xft 93 0 = some (.aload_n 0) := by decide +kernel
set_option maxRecDepth 100000 in
theorem f_93_1 : xft 93 1 = some (.iload_n 1) := by decide +kernel
set_option maxRecDepth 100000 in
theorem f_93_2 : xft 93 2 = some (.putfield 84) := by decide +kernel
set_option maxRecDepth 100000 in
theorem f_93_5 : xft 93 5 = some (.iload_n 1) := by decide +kernel
set_option maxRecDepth 100000 in
theorem f_93_6 : xft 93 6 = some (.ifCond .le 7) := by decide +kernel
set_option maxRecDepth 100000 in
theorem f_93_9 : xft 93 9 = some (.iconst 1) := by decide +kernel
set_option maxRecDepth 100000 in
theorem f_93_10 : xft 93 10 = some (.goto 4) := by decide +kernel
set_option maxRecDepth 100000 in
theorem f_93_13 : xft 93 13 = some (.iconst 0) := by decide +kernel
set_option maxRecDepth 100000 in
theorem f_93_14 : xft 93 14 = some (.ireturn) := by decide +kernel
set_option maxRecDepth 100000 in
theorem f_94_0 : xft 94 0 = some (.iload_n 0) := by decide +kernel
set_option maxRecDepth 100000 in
theorem f_94_1 : xft 94 1 = some (.iload_n 1) := by decide +kernel
set_option maxRecDepth 100000 in
theorem f_94_2 : xft 94 2 = some (.if_icmp .lt 12) := by decide +kernel
set_option maxRecDepth 100000 in
theorem f_94_5 : xft 94 5 = some (.iload_n 0) := by decide +kernel
set_option maxRecDepth 100000 in
theorem f_94_6 : xft 94 6 = some (.iload_n 2) := by decide +kernel
set_option maxRecDepth 100000 in
theorem f_94_7 : xft 94 7 = some (.if_icmp .gt 7) := by decide +kernel
set_option maxRecDepth 100000 in
theorem f_94_10 : xft 94 10 = some (.iconst 1) := by decide +kernel
set_option maxRecDepth 100000 in
theorem f_94_11 : xft 94 11 = some (.goto 4) := by decide +kernel
set_option maxRecDepth 100000 in
theorem f_94_14 : xft 94 14 = some (.iconst 0) := by decide +kernel
set_option maxRecDepth 100000 in
theorem f_94_15 : xft 94 15 = some (.ireturn) := by decide +kernel
set_option maxRecDepth 100000 in
theorem f_95_0 : xft 95 0 = some (.iload_n 1) := by decide +kernel
set_option maxRecDepth 100000 in
theorem f_95_1 : xft 95 1 = some (.iconst 0) := by decide +kernel
set_option maxRecDepth 100000 in
theorem f_95_2 : xft 95 2 = some (.aload_n 0) := by decide +kernel
set_option maxRecDepth 100000 in
theorem f_95_3 : xft 95 3 = some (.getfield 88) := by decide +kernel
set_option maxRecDepth 100000 in
theorem f_95_6 : xft 95 6 = some (.iconst 1) := by decide +kernel
set_option maxRecDepth 100000 in
theorem f_95_7 : xft 95 7 = some (.isub) := by decide +kernel
set_option maxRecDepth 100000 in
theorem f_95_8 : xft 95 8 = some (.invokestatic 91) := by decide +kernel
set_option maxRecDepth 100000 in
theorem f_95_11 : xft 95 11 = some (.ireturn) := by decide +kernel
set_option maxRecDepth 100000 in
theorem f_96_0 : xft 96 0 = some (.iload_n 1) := by decide +kernel
set_option maxRecDepth 100000 in
theorem f_96_1 : xft 96 1 = some (.iconst 0) := by decide +kernel
set_option maxRecDepth 100000 in
theorem f_96_2 : xft 96 2 = some (.aload_n 0) := by decide +kernel
set_option maxRecDepth 100000 in
theorem f_96_3 : xft 96 3 = some (.getfield 95) := by decide +kernel
set_option maxRecDepth 100000 in
theorem f_96_6 : xft 96 6 = some (.iconst 1) := by decide +kernel
set_option maxRecDepth 100000 in
theorem f_96_7 : xft 96 7 = some (.isub) := by decide +kernel
set_option maxRecDepth 100000 in
theorem f_96_8 : xft 96 8 = some (.invokestatic 91) := by decide +kernel
set_option maxRecDepth 100000 in
theorem f_96_11 : xft 96 11 = some (.ireturn) := by decide +kernel
set_option maxRecDepth 100000 in
theorem f_97_0 : xft 97 0 = some (.iload_n 0) := by decide +kernel
set_option maxRecDepth 100000 in
theorem f_97_1 : xft 97 1 = some (.iconst 0) := by decide +kernel
set_option maxRecDepth 100000 in
theorem f_97_2 : xft 97 2 = some (.bipush 7) := by decide +kernel
set_option maxRecDepth 100000 in
theorem f_97_4 : xft 97 4 = some (.invokestatic 91) := by decide +kernel
set_option maxRecDepth 100000 in
theorem f_97_7 : xft 97 7 = some (.ireturn) := by decide +kernel
set_option maxRecDepth 100000 in
theorem f_98_0 : xft 98 0 = some (.iload_n 0) := by decide +kernel
set_option maxRecDepth 100000 in
theorem f_98_1 : xft 98 1 = some (.iconst 0) := by decide +kernel
set_option maxRecDepth 100000 in
theorem f_98_2 : xft 98 2 = some (.bipush 11) := by decide +kernel
set_option maxRecDepth 100000 in
theorem f_98_4 : xft 98 4 = some (.invokestatic 91) := by decide +kernel
set_option maxRecDepth 100000 in
theorem f_98_7 : xft 98 7 = some (.ifCond .eq 17) := by decide +kernel
set_option maxRecDepth 100000 in
theorem f_98_10 : xft 98 10 = some (.iload_n 1) := by decide +kernel
set_option maxRecDepth 100000 in
theorem f_98_11 : xft 98 11 = some (.iconst 0) := by decide +kernel
set_option maxRecDepth 100000 in
theorem f_98_12 : xft 98 12 = some (.bipush 7) := by decide +kernel
set_option maxRecDepth 100000 in
theorem f_98_14 : xft 98 14 = some (.invokestatic 91) := by decide +kernel
set_option maxRecDepth 100000 in
theorem f_98_17 : xft 98 17 = some (.ifCond .eq 7) := by decide +kernel
set_option maxRecDepth 100000 in
theorem f_98_20 : xft 98 20 = some (.iconst 1) := by decide +kernel
set_option maxRecDepth 100000 in
theorem f_98_21 : xft 98 21 = some (.goto 4) := by decide +kernel
set_option maxRecDepth 100000 in
theorem f_98_24 : xft 98 24 = some (.iconst 0) := by decide +kernel
set_option maxRecDepth 100000 in
theorem f_98_25 : xft 98 25 = some (.ireturn) := by decide +kernel
set_option maxRecDepth 100000 in
theorem f_99_0 : xft 99 0 = some (.aload_n 0) := by decide +kernel
set_option maxRecDepth 100000 in
theorem f_99_1 : xft 99 1 = some (.iload_n 1) := by decide +kernel
set_option maxRecDepth 100000 in
theorem f_99_2 : xft 99 2 = some (.iconst 2) := by decide +kernel
set_option maxRecDepth 100000 in
theorem f_99_3 : xft 99 3 = some (.bipush 9) := by decide +kernel
set_option maxRecDepth 100000 in
theorem f_99_5 : xft 99 5 = some (.invokestatic 91) := by decide +kernel
set_option maxRecDepth 100000 in
theorem f_99_8 : xft 99 8 = some (.ifCond .ne 7) := by decide +kernel
set_option maxRecDepth 100000 in
theorem f_99_11 : xft 99 11 = some (.iconst 1) := by decide +kernel
set_option maxRecDepth 100000 in
theorem f_99_12 : xft 99 12 = some (.goto 17) := by decide +kernel
set_option maxRecDepth 100000 in
theorem f_99_15 : xft 99 15 = some (.aload_n 0) := by decide +kernel
set_option maxRecDepth 100000 in
theorem f_99_16 : xft 99 16 = some (.getfield 88) := by decide +kernel
set_option maxRecDepth 100000 in
theorem f_99_19 : xft 99 19 = some (.bipush 8) := by decide +kernel
set_option maxRecDepth 100000 in
theorem f_99_21 : xft 99 21 = some (.if_icmp .ne 7) := by decide +kernel
set_option maxRecDepth 100000 in
theorem f_99_24 : xft 99 24 = some (.iconst 2) := by decide +kernel
set_option maxRecDepth 100000 in
theorem f_99_25 : xft 99 25 = some (.goto 4) := by decide +kernel
set_option maxRecDepth 100000 in
theorem f_99_28 : xft 99 28 = some (.iconst 0) := by decide +kernel
set_option maxRecDepth 100000 in
theorem f_99_29 : xft 99 29 = some (.invokevirtual 98) := by decide +kernel
set_option maxRecDepth 100000 in
theorem f_99_32 : xft 99 32 = some (.ifCond .eq 5) := by decide +kernel
set_option maxRecDepth 100000 in
theorem f_99_35 : xft 99 35 = some (.iconst 0) := by decide +kernel
set_option maxRecDepth 100000 in
theorem f_99_36 : xft 99 36 = some (.ireturn) := by decide +kernel
set_option maxRecDepth 100000 in
theorem f_99_37 : xft 99 37 = some (.aload_n 0) := by decide +kernel
set_option maxRecDepth 100000 in
theorem f_99_38 : xft 99 38 = some (.getfield 7) := by decide +kernel
set_option maxRecDepth 100000 in
theorem f_99_41 : xft 99 41 = some (.aload_n 0) := by decide +kernel
set_option maxRecDepth 100000 in
theorem f_99_42 : xft 99 42 = some (.getfield 88) := by decide +kernel
set_option maxRecDepth 100000 in
theorem f_99_45 : xft 99 45 = some (.iload_n 1) := by decide +kernel
set_option maxRecDepth 100000 in
theorem f_99_46 : xft 99 46 = some (.iastore) := by decide +kernel
set_option maxRecDepth 100000 in
theorem f_99_47 : xft 99 47 = some (.aload_n 0) := by decide +kernel
set_option maxRecDepth 100000 in
theorem f_99_48 : xft 99 48 = some (.dup) := by decide +kernel
set_option maxRecDepth 100000 in
theorem f_99_49 : xft 99 49 = some (.getfield 88) := by decide +kernel
set_option maxRecDepth 100000 in
theorem f_99_52 : xft 99 52 = some (.iconst 1) := by decide +kernel
set_option maxRecDepth 100000 in
theorem f_99_53 : xft 99 53 = some (.iadd) := by decide +kernel
set_option maxRecDepth 100000 in
theorem f_99_54 : xft 99 54 = some (.putfield 88) := by decide +kernel
set_option maxRecDepth 100000 in
theorem f_99_57 : xft 99 57 = some (.aload_n 0) := by decide +kernel
set_option maxRecDepth 100000 in
theorem f_99_58 : xft 99 58 = some (.getfield 88) := by decide +kernel
set_option maxRecDepth 100000 in
theorem f_99_61 : xft 99 61 = some (.iconst 1) := by decide +kernel
set_option maxRecDepth 100000 in
theorem f_99_62 : xft 99 62 = some (.isub) := by decide +kernel
set_option maxRecDepth 100000 in
theorem f_99_63 : xft 99 63 = some (.ireturn) := by decide +kernel
set_option maxRecDepth 100000 in
theorem f_100_0 : xft 100 0 = some (.aload_n 0) := by decide +kernel
set_option maxRecDepth 100000 in
theorem f_100_1 : xft 100 1 = some (.aload_n 0) := by decide +kernel
set_option maxRecDepth 100000 in
theorem f_100_2 : xft 100 2 = some (.iload_n 1) := by decide +kernel
set_option maxRecDepth 100000 in
theorem f_100_3 : xft 100 3 = some (.invokevirtual 102) := by decide +kernel
set_option maxRecDepth 100000 in
theorem f_100_6 : xft 100 6 = some (.ifCond .eq 15) := by decide +kernel
set_option maxRecDepth 100000 in
theorem f_100_9 : xft 100 9 = some (.iload_n 2) := by decide +kernel
set_option maxRecDepth 100000 in
theorem f_100_10 : xft 100 10 = some (.iload_n 3) := by decide +kernel
set_option maxRecDepth 100000 in
theorem f_100_11 : xft 100 11 = some (.invokestatic 105) := by decide +kernel
set_option maxRecDepth 100000 in
theorem f_100_14 : xft 100 14 = some (.ifCond .eq 7) := by decide +kernel
set_option maxRecDepth 100000 in
theorem f_100_17 : xft 100 17 = some (.iconst 0) := by decide +kernel
set_option maxRecDepth 100000 in
theorem f_100_18 : xft 100 18 = some (.goto 4) := by decide +kernel
set_option maxRecDepth 100000 in
theorem f_100_21 : xft 100 21 = some (.iconst 1) := by decide +kernel
set_option maxRecDepth 100000 in
theorem f_100_22 : xft 100 22 = some (.invokevirtual 98) := by decide +kernel
set_option maxRecDepth 100000 in
theorem f_100_25 : xft 100 25 = some (.ifCond .eq 5) := by decide +kernel
set_option maxRecDepth 100000 in
theorem f_100_28 : xft 100 28 = some (.iconst 0) := by decide +kernel
set_option maxRecDepth 100000 in
theorem f_100_29 : xft 100 29 = some (.ireturn) := by decide +kernel
set_option maxRecDepth 100000 in
theorem f_100_30 : xft 100 30 = some (.aload_n 0) := by decide +kernel
set_option maxRecDepth 100000 in
theorem f_100_31 : xft 100 31 = some (.getfield 13) := by decide +kernel
set_option maxRecDepth 100000 in
theorem f_100_34 : xft 100 34 = some (.bipush 8) := by decide +kernel
set_option maxRecDepth 100000 in
theorem f_100_36 : xft 100 36 = some (.iload_n 1) := by decide +kernel
set_option maxRecDepth 100000 in
theorem f_100_37 : xft 100 37 = some (.imul) := by decide +kernel
set_option maxRecDepth 100000 in
theorem f_100_38 : xft 100 38 = some (.iload_n 3) := by decide +kernel
set_option maxRecDepth 100000 in
theorem f_100_39 : xft 100 39 = some (.iadd) := by decide +kernel
set_option maxRecDepth 100000 in
theorem f_100_40 : xft 100 40 = some (.dup2) := by decide +kernel
set_option maxRecDepth 100000 in
theorem f_100_41 : xft 100 41 = some (.iaload) := by decide +kernel
set_option maxRecDepth 100000 in
theorem f_100_42 : xft 100 42 = some (.iconst 1) := by decide +kernel
set_option maxRecDepth 100000 in
theorem f_100_43 : xft 100 43 = some (.iload_n 2) := by decide +kernel
set_option maxRecDepth 100000 in
theorem f_100_44 : xft 100 44 = some (.ishl) := by decide +kernel
set_option maxRecDepth 100000 in
theorem f_100_45 : xft 100 45 = some (.ior) := by decide +kernel
set_option maxRecDepth 100000 in
theorem f_100_46 : xft 100 46 = some (.iastore) := by decide +kernel
set_option maxRecDepth 100000 in
theorem f_100_47 : xft 100 47 = some (.iconst 0) := by decide +kernel
set_option maxRecDepth 100000 in
theorem f_100_48 : xft 100 48 = some (.istore 4) := by decide +kernel
set_option maxRecDepth 100000 in
theorem f_100_50 : xft 100 50 = some (.iconst 0) := by decide +kernel
set_option maxRecDepth 100000 in
theorem f_100_51 : xft 100 51 = some (.istore 5) := by decide +kernel
set_option maxRecDepth 100000 in
theorem f_100_53 : xft 100 53 = some (.iload 5) := by decide +kernel
set_option maxRecDepth 100000 in
theorem f_100_55 : xft 100 55 = some (.bipush 96) := by decide +kernel
set_option maxRecDepth 100000 in
theorem f_100_57 : xft 100 57 = some (.if_icmp .ge 37) := by decide +kernel
set_option maxRecDepth 100000 in
theorem f_100_60 : xft 100 60 = some (.iload 4) := by decide +kernel
set_option maxRecDepth 100000 in
theorem f_100_62 : xft 100 62 = some (.aload_n 0) := by decide +kernel
set_option maxRecDepth 100000 in
theorem f_100_63 : xft 100 63 = some (.getfield 13) := by decide +kernel
set_option maxRecDepth 100000 in
theorem f_100_66 : xft 100 66 = some (.bipush 8) := by decide +kernel
set_option maxRecDepth 100000 in
theorem f_100_68 : xft 100 68 = some (.iload_n 1) := by decide +kernel
set_option maxRecDepth 100000 in
theorem f_100_69 : xft 100 69 = some (.imul) := by decide +kernel
set_option maxRecDepth 100000 in
theorem f_100_70 : xft 100 70 = some (.iload 5) := by decide +kernel
set_option maxRecDepth 100000 in
theorem f_100_72 : xft 100 72 = some (.bipush 12) := by decide +kernel
set_option maxRecDepth 100000 in
theorem f_100_74 : xft 100 74 = some (.idiv) := by decide +kernel
set_option maxRecDepth 100000 in
theorem f_100_75 : xft 100 75 = some (.iadd) := by decide +kernel
set_option maxRecDepth 100000 in
theorem f_100_76 : xft 100 76 = some (.iaload) := by decide +kernel
set_option maxRecDepth 100000 in
theorem f_100_77 : xft 100 77 = some (.iload 5) := by decide +kernel
set_option maxRecDepth 100000 in
theorem f_100_79 : xft 100 79 = some (.bipush 12) := by decide +kernel
set_option maxRecDepth 100000 in
theorem f_100_81 : xft 100 81 = some (.irem) := by decide +kernel
set_option maxRecDepth 100000 in
theorem f_100_82 : xft 100 82 = some (.ishr) := by decide +kernel
set_option maxRecDepth 100000 in
theorem f_100_83 : xft 100 83 = some (.iconst 1) := by decide +kernel
set_option maxRecDepth 100000 in
theorem f_100_84 : xft 100 84 = some (.iand) := by decide +kernel
set_option maxRecDepth 100000 in
theorem f_100_85 : xft 100 85 = some (.iadd) := by decide +kernel
set_option maxRecDepth 100000 in
theorem f_100_86 : xft 100 86 = some (.istore 4) := by decide +kernel
set_option maxRecDepth 100000 in
theorem f_100_88 : xft 100 88 = some (.iinc 5 1) := by decide +kernel
set_option maxRecDepth 100000 in
theorem f_100_91 : xft 100 91 = some (.goto (-38)) := by decide +kernel
set_option maxRecDepth 100000 in
theorem f_100_94 : xft 100 94 = some (.bipush 96) := by decide +kernel
set_option maxRecDepth 100000 in
theorem f_100_96 : xft 100 96 = some (.iload 4) := by decide +kernel
set_option maxRecDepth 100000 in
theorem f_100_98 : xft 100 98 = some (.isub) := by decide +kernel
set_option maxRecDepth 100000 in
theorem f_100_99 : xft 100 99 = some (.ireturn) := by decide +kernel
set_option maxRecDepth 100000 in
theorem f_101_0 : xft 101 0 = some (.iload_n 0) := by decide +kernel
set_option maxRecDepth 100000 in
theorem f_101_1 : xft 101 1 = some (.iconst 1) := by decide +kernel
set_option maxRecDepth 100000 in
theorem f_101_2 : xft 101 2 = some (.bipush 12) := by decide +kernel
set_option maxRecDepth 100000 in
theorem f_101_4 : xft 101 4 = some (.invokestatic 91) := by decide +kernel
set_option maxRecDepth 100000 in
theorem f_101_7 : xft 101 7 = some (.ifCond .eq 17) := by decide +kernel
set_option maxRecDepth 100000 in
theorem f_101_10 : xft 101 10 = some (.iload_n 1) := by decide +kernel
set_option maxRecDepth 100000 in
theorem f_101_11 : xft 101 11 = some (.iconst 1) := by decide +kernel
set_option maxRecDepth 100000 in
theorem f_101_12 : xft 101 12 = some (.bipush 8) := by decide +kernel
set_option maxRecDepth 100000 in
theorem f_101_14 : xft 101 14 = some (.invokestatic 91) := by decide +kernel
set_option maxRecDepth 100000 in
theorem f_101_17 : xft 101 17 = some (.ifCond .eq 7) := by decide +kernel
set_option maxRecDepth 100000 in
theorem f_101_20 : xft 101 20 = some (.iconst 1) := by decide +kernel
set_option maxRecDepth 100000 in
theorem f_101_21 : xft 101 21 = some (.goto 4) := by decide +kernel
set_option maxRecDepth 100000 in
theorem f_101_24 : xft 101 24 = some (.iconst 0) := by decide +kernel
set_option maxRecDepth 100000 in
theorem f_101_25 : xft 101 25 = some (.ireturn) := by decide +kernel
set_option maxRecDepth 100000 in
theorem f_102_0 : xft 102 0 = some (.iconst 1) := by decide +kernel
set_option maxRecDepth 100000 in
theorem f_102_1 : xft 102 1 = some (.iload 4) := by decide +kernel
set_option maxRecDepth 100000 in
theorem f_102_3 : xft 102 3 = some (.ishl) := by decide +kernel
set_option maxRecDepth 100000 in
theorem f_102_4 : xft 102 4 = some (.iconst 1) := by decide +kernel
set_option maxRecDepth 100000 in
theorem f_102_5 : xft 102 5 = some (.isub) := by decide +kernel
set_option maxRecDepth 100000 in
theorem f_102_6 : xft 102 6 = some (.iload_n 2) := by decide +kernel
set_option maxRecDepth 100000 in
theorem f_102_7 : xft 102 7 = some (.ishl) := by decide +kernel
set_option maxRecDepth 100000 in
theorem f_102_8 : xft 102 8 = some (.istore 7) := by decide +kernel
set_option maxRecDepth 100000 in
theorem f_102_10 : xft 102 10 = some (.iload 6) := by decide +kernel
set_option maxRecDepth 100000 in
theorem f_102_12 : xft 102 12 = some (.ifCond .eq 11) := by decide +kernel
set_option maxRecDepth 100000 in
theorem f_102_15 : xft 102 15 = some (.iload_n 3) := by decide +kernel
set_option maxRecDepth 100000 in
theorem f_102_16 : xft 102 16 = some (.iload 5) := by decide +kernel
set_option maxRecDepth 100000 in
theorem f_102_18 : xft 102 18 = some (.iadd) := by decide +kernel
set_option maxRecDepth 100000 in
theorem f_102_19 : xft 102 19 = some (.iconst 5) := by decide +kernel
set_option maxRecDepth 100000 in
theorem f_102_20 : xft 102 20 = some (.if_icmp .gt 7) := by decide +kernel
set_option maxRecDepth 100000 in
theorem f_102_23 : xft 102 23 = some (.iconst 1) := by decide +kernel
set_option maxRecDepth 100000 in
theorem f_102_24 : xft 102 24 = some (.goto 4) := by decide +kernel
set_option maxRecDepth 100000 in
theorem f_102_27 : xft 102 27 = some (.iconst 0) := by decide +kernel
set_option maxRecDepth 100000 in
theorem f_102_28 : xft 102 28 = some (.istore 8) := by decide +kernel
set_option maxRecDepth 100000 in
theorem f_102_30 : xft 102 30 = some (.iload_n 3) := by decide +kernel
set_option maxRecDepth 100000 in
theorem f_102_31 : xft 102 31 = some (.istore 9) := by decide +kernel
set_option maxRecDepth 100000 in
theorem f_102_33 : xft 102 33 = some (.iload 9) := by decide +kernel
set_option maxRecDepth 100000 in
theorem f_102_35 : xft 102 35 = some (.iload_n 3) := by decide +kernel
set_option maxRecDepth 100000 in
theorem f_102_36 : xft 102 36 = some (.iload 5) := by decide +kernel
set_option maxRecDepth 100000 in
theorem f_102_38 : xft 102 38 = some (.iadd) := by decide +kernel
set_option maxRecDepth 100000 in
theorem f_102_39 : xft 102 39 = some (.if_icmp .ge 39) := by decide +kernel
set_option maxRecDepth 100000 in
theorem f_102_42 : xft 102 42 = some (.iload 8) := by decide +kernel
set_option maxRecDepth 100000 in
theorem f_102_44 : xft 102 44 = some (.ifCond .eq 25) := by decide +kernel
set_option maxRecDepth 100000 in
theorem f_102_47 : xft 102 47 = some (.aload_n 0) := by decide +kernel
set_option maxRecDepth 100000 in
theorem f_102_48 : xft 102 48 = some (.getfield 13) := by decide +kernel
set_option maxRecDepth 100000 in
theorem f_102_51 : xft 102 51 = some (.bipush 8) := by decide +kernel
set_option maxRecDepth 100000 in
theorem f_102_53 : xft 102 53 = some (.iload_n 1) := by decide +kernel
set_option maxRecDepth 100000 in
theorem f_102_54 : xft 102 54 = some (.imul) := by decide +kernel
set_option maxRecDepth 100000 in
theorem f_102_55 : xft 102 55 = some (.iload 9) := by decide +kernel
set_option maxRecDepth 100000 in
theorem f_102_57 : xft 102 57 = some (.iadd) := by decide +kernel
set_option maxRecDepth 100000 in
theorem f_102_58 : xft 102 58 = some (.iaload) := by decide +kernel
set_option maxRecDepth 100000 in
theorem f_102_59 : xft 102 59 = some (.iload 7) := by decide +kernel
set_option maxRecDepth 100000 in
theorem f_102_61 : xft 102 61 = some (.iand) := by decide +kernel
set_option maxRecDepth 100000 in
theorem f_102_62 : xft 102 62 = some (.ifCond .ne 7) := by decide +kernel
set_option maxRecDepth 100000 in
theorem f_102_65 : xft 102 65 = some (.iconst 1) := by decide +kernel
set_option maxRecDepth 100000 in
theorem f_102_66 : xft 102 66 = some (.goto 4) := by decide +kernel
set_option maxRecDepth 100000 in
theorem f_102_69 : xft 102 69 = some (.iconst 0) := by decide +kernel
set_option maxRecDepth 100000 in
theorem f_102_70 : xft 102 70 = some (.istore 8) := by decide +kernel
set_option maxRecDepth 100000 in
theorem f_102_72 : xft 102 72 = some (.iinc 9 1) := by decide +kernel
set_option maxRecDepth 100000 in
theorem f_102_75 : xft 102 75 = some (.goto (-42)) := by decide +kernel
set_option maxRecDepth 100000 in
theorem f_102_78 : xft 102 78 = some (.iload 8) := by decide +kernel
set_option maxRecDepth 100000 in
theorem f_102_80 : xft 102 80 = some (.ireturn) := by decide +kernel
set_option maxRecDepth 100000 in
theorem f_103_0 : xft 103 0 = some (.aload_n 0) := by decide +kernel
set_option maxRecDepth 100000 in
theorem f_103_1 : xft 103 1 = some (.getfield 7) := by decide +kernel
set_option maxRecDepth 100000 in
theorem f_103_4 : xft 103 4 = some (.iload_n 1) := by decide +kernel
set_option maxRecDepth 100000 in
theorem f_103_5 : xft 103 5 = some (.iaload) := by decide +kernel
set_option maxRecDepth 100000 in
theorem f_103_6 : xft 103 6 = some (.iload_n 2) := by decide +kernel
set_option maxRecDepth 100000 in
theorem f_103_7 : xft 103 7 = some (.iload_n 3) := by decide +kernel
set_option maxRecDepth 100000 in
theorem f_103_8 : xft 103 8 = some (.iadd) := by decide +kernel
set_option maxRecDepth 100000 in
theorem f_103_9 : xft 103 9 = some (.iconst 5) := by decide +kernel
set_option maxRecDepth 100000 in
theorem f_103_10 : xft 103 10 = some (.if_icmp .le 7) := by decide +kernel
set_option maxRecDepth 100000 in
theorem f_103_13 : xft 103 13 = some (.iconst 1) := by decide +kernel
set_option maxRecDepth 100000 in
theorem f_103_14 : xft 103 14 = some (.goto 4) := by decide +kernel
set_option maxRecDepth 100000 in
theorem f_103_17 : xft 103 17 = some (.iconst 0) := by decide +kernel
set_option maxRecDepth 100000 in
theorem f_103_18 : xft 103 18 = some (.isub) := by decide +kernel
set_option maxRecDepth 100000 in
theorem f_103_19 : xft 103 19 = some (.ireturn) := by decide +kernel
set_option maxRecDepth 100000 in
theorem f_104_0 : xft 104 0 = some (.aload_n 0) := by decide +kernel
set_option maxRecDepth 100000 in
theorem f_104_1 : xft 104 1 = some (.iload_n 1) := by decide +kernel
set_option maxRecDepth 100000 in
theorem f_104_2 : xft 104 2 = some (.invokevirtual 102) := by decide +kernel
set_option maxRecDepth 100000 in
theorem f_104_5 : xft 104 5 = some (.ifCond .eq 15) := by decide +kernel
set_option maxRecDepth 100000 in
theorem f_104_8 : xft 104 8 = some (.iload_n 2) := by decide +kernel
set_option maxRecDepth 100000 in
theorem f_104_9 : xft 104 9 = some (.iload_n 3) := by decide +kernel
set_option maxRecDepth 100000 in
theorem f_104_10 : xft 104 10 = some (.invokestatic 105) := by decide +kernel
set_option maxRecDepth 100000 in
theorem f_104_13 : xft 104 13 = some (.ifCond .eq 7) := by decide +kernel
set_option maxRecDepth 100000 in
theorem f_104_16 : xft 104 16 = some (.iconst 1) := by decide +kernel
set_option maxRecDepth 100000 in
theorem f_104_17 : xft 104 17 = some (.goto 4) := by decide +kernel
set_option maxRecDepth 100000 in
theorem f_104_20 : xft 104 20 = some (.iconst 0) := by decide +kernel
set_option maxRecDepth 100000 in
theorem f_104_21 : xft 104 21 = some (.istore 7) := by decide +kernel
set_option maxRecDepth 100000 in
theorem f_104_23 : xft 104 23 = some (.iload 4) := by decide +kernel
set_option maxRecDepth 100000 in
theorem f_104_25 : xft 104 25 = some (.iload 5) := by decide +kernel
set_option maxRecDepth 100000 in
theorem f_104_27 : xft 104 27 = some (.invokestatic 109) := by decide +kernel
set_option maxRecDepth 100000 in
theorem f_104_30 : xft 104 30 = some (.ifCond .eq 30) := by decide +kernel
set_option maxRecDepth 100000 in
theorem f_104_33 : xft 104 33 = some (.iload 7) := by decide +kernel
set_option maxRecDepth 100000 in
theorem f_104_35 : xft 104 35 = some (.ifCond .eq 25) := by decide +kernel
set_option maxRecDepth 100000 in
theorem f_104_38 : xft 104 38 = some (.iload_n 2) := by decide +kernel
set_option maxRecDepth 100000 in
theorem f_104_39 : xft 104 39 = some (.iload 4) := by decide +kernel
set_option maxRecDepth 100000 in
theorem f_104_41 : xft 104 41 = some (.iadd) := by decide +kernel
set_option maxRecDepth 100000 in
theorem f_104_42 : xft 104 42 = some (.bipush 12) := by decide +kernel
set_option maxRecDepth 100000 in
theorem f_104_44 : xft 104 44 = some (.if_icmp .gt 16) := by decide +kernel
set_option maxRecDepth 100000 in
theorem f_104_47 : xft 104 47 = some (.iload_n 3) := by decide +kernel
set_option maxRecDepth 100000 in
theorem f_104_48 : xft 104 48 = some (.iload 5) := by decide +kernel
set_option maxRecDepth 100000 in
theorem f_104_50 : xft 104 50 = some (.iadd) := by decide +kernel
set_option maxRecDepth 100000 in
theorem f_104_51 : xft 104 51 = some (.bipush 8) := by decide +kernel
set_option maxRecDepth 100000 in
theorem f_104_53 : xft 104 53 = some (.if_icmp .gt 7) := by decide +kernel
set_option maxRecDepth 100000 in
theorem f_104_56 : xft 104 56 = some (.iconst 1) := by decide +kernel
set_option maxRecDepth 100000 in
theorem f_104_57 : xft 104 57 = some (.goto 4) := by decide +kernel
set_option maxRecDepth 100000 in
theorem f_104_60 : xft 104 60 = some (.iconst 0) := by decide +kernel
set_option maxRecDepth 100000 in
theorem f_104_61 : xft 104 61 = some (.istore 8) := by decide +kernel
set_option maxRecDepth 100000 in
theorem f_104_63 : xft 104 63 = some (.iload 8) := by decide +kernel
set_option maxRecDepth 100000 in
theorem f_104_65 : xft 104 65 = some (.ifCond .eq 32) := by decide +kernel
set_option maxRecDepth 100000 in
theorem f_104_68 : xft 104 68 = some (.aload_n 0) := by decide +kernel
set_option maxRecDepth 100000 in
theorem f_104_69 : xft 104 69 = some (.iload_n 1) := by decide +kernel
set_option maxRecDepth 100000 in
theorem f_104_70 : xft 104 70 = some (.iload_n 2) := by decide +kernel
set_option maxRecDepth 100000 in
theorem f_104_71 : xft 104 71 = some (.iload_n 3) := by decide +kernel
set_option maxRecDepth 100000 in
theorem f_104_72 : xft 104 72 = some (.iload 4) := by decide +kernel
set_option maxRecDepth 100000 in
theorem f_104_74 : xft 104 74 = some (.iload 5) := by decide +kernel
set_option maxRecDepth 100000 in
theorem f_104_76 : xft 104 76 = some (.iload 6) := by decide +kernel
set_option maxRecDepth 100000 in
theorem f_104_78 : xft 104 78 = some (.invokevirtual 112) := by decide +kernel
set_option maxRecDepth 100000 in
theorem f_104_81 : xft 104 81 = some (.ifCond .eq 16) := by decide +kernel
set_option maxRecDepth 100000 in
theorem f_104_84 : xft 104 84 = some (.aload_n 0) := by decide +kernel
set_option maxRecDepth 100000 in
theorem f_104_85 : xft 104 85 = some (.getfield 95) := by decide +kernel
set_option maxRecDepth 100000 in
theorem f_104_88 : xft 104 88 = some (.bipush 40) := by decide +kernel
set_option maxRecDepth 100000 in
theorem f_104_90 : xft 104 90 = some (.if_icmp .ge 7) := by decide +kernel
set_option maxRecDepth 100000 in
theorem f_104_93 : xft 104 93 = some (.iconst 1) := by decide +kernel
set_option maxRecDepth 100000 in
theorem f_104_94 : xft 104 94 = some (.goto 4) := by decide +kernel
set_option maxRecDepth 100000 in
theorem f_104_97 : xft 104 97 = some (.iconst 0) := by decide +kernel
set_option maxRecDepth 100000 in
theorem f_104_98 : xft 104 98 = some (.istore 9) := by decide +kernel
set_option maxRecDepth 100000 in
theorem f_104_100 : xft 104 100 = some (.aload_n 0) := by decide +kernel
set_option maxRecDepth 100000 in
theorem f_104_101 : xft 104 101 = some (.iload 7) := by decide +kernel
set_option maxRecDepth 100000 in
theorem f_104_103 : xft 104 103 = some (.ifCond .ne 7) := by decide +kernel
set_option maxRecDepth 100000 in
theorem f_104_106 : xft 104 106 = some (.iconst 1) := by decide +kernel
set_option maxRecDepth 100000 in
theorem f_104_107 : xft 104 107 = some (.goto 22) := by decide +kernel
set_option maxRecDepth 100000 in
theorem f_104_110 : xft 104 110 = some (.iload 8) := by decide +kernel
set_option maxRecDepth 100000 in
theorem f_104_112 : xft 104 112 = some (.ifCond .ne 7) := by decide +kernel
set_option maxRecDepth 100000 in
theorem f_104_115 : xft 104 115 = some (.iconst 2) := by decide +kernel
set_option maxRecDepth 100000 in
theorem f_104_116 : xft 104 116 = some (.goto 13) := by decide +kernel
set_option maxRecDepth 100000 in
theorem f_104_119 : xft 104 119 = some (.iload 9) := by decide +kernel
set_option maxRecDepth 100000 in
theorem f_104_121 : xft 104 121 = some (.ifCond .eq 7) := by decide +kernel
set_option maxRecDepth 100000 in
theorem f_104_124 : xft 104 124 = some (.iconst 0) := by decide +kernel
set_option maxRecDepth 100000 in
theorem f_104_125 : xft 104 125 = some (.goto 4) := by decide +kernel
set_option maxRecDepth 100000 in
theorem f_104_128 : xft 104 128 = some (.iconst 3) := by decide +kernel
set_option maxRecDepth 100000 in
theorem f_104_129 : xft 104 129 = some (.invokevirtual 98) := by decide +kernel
set_option maxRecDepth 100000 in
theorem f_104_132 : xft 104 132 = some (.ifCond .eq 5) := by decide +kernel
set_option maxRecDepth 100000 in
theorem f_104_135 : xft 104 135 = some (.iconst 0) := by decide +kernel
set_option maxRecDepth 100000 in
theorem f_104_136 : xft 104 136 = some (.ireturn) := by decide +kernel
set_option maxRecDepth 100000 in
theorem f_104_137 : xft 104 137 = some (.iload_n 3) := by decide +kernel
set_option maxRecDepth 100000 in
theorem f_104_138 : xft 104 138 = some (.istore 10) := by decide +kernel
set_option maxRecDepth 100000 in
theorem f_104_140 : xft 104 140 = some (.iload 10) := by decide +kernel
set_option maxRecDepth 100000 in
theorem f_104_142 : xft 104 142 = some (.iload_n 3) := by decide +kernel
set_option maxRecDepth 100000 in
theorem f_104_143 : xft 104 143 = some (.iload 5) := by decide +kernel
set_option maxRecDepth 100000 in
theorem f_104_145 : xft 104 145 = some (.iadd) := by decide +kernel
set_option maxRecDepth 100000 in
theorem f_104_146 : xft 104 146 = some (.if_icmp .ge 32) := by decide +kernel
set_option maxRecDepth 100000 in
theorem f_104_149 : xft 104 149 = some (.aload_n 0) := by decide +kernel
set_option maxRecDepth 100000 in
theorem f_104_150 : xft 104 150 = some (.getfield 13) := by decide +kernel
set_option maxRecDepth 100000 in
theorem f_104_153 : xft 104 153 = some (.bipush 8) := by decide +kernel
set_option maxRecDepth 100000 in
theorem f_104_155 : xft 104 155 = some (.iload_n 1) := by decide +kernel
set_option maxRecDepth 100000 in
theorem f_104_156 : xft 104 156 = some (.imul) := by decide +kernel
set_option maxRecDepth 100000 in
theorem f_104_157 : xft 104 157 = some (.iload 10) := by decide +kernel
set_option maxRecDepth 100000 in
theorem f_104_159 : xft 104 159 = some (.iadd) := by decide +kernel
set_option maxRecDepth 100000 in
theorem f_104_160 : xft 104 160 = some (.dup2) := by decide +kernel
set_option maxRecDepth 100000 in
theorem f_104_161 : xft 104 161 = some (.iaload) := by decide +kernel
set_option maxRecDepth 100000 in
theorem f_104_162 : xft 104 162 = some (.iconst 1) := by decide +kernel
set_option maxRecDepth 100000 in
theorem f_104_163 : xft 104 163 = some (.iload 4) := by decide +kernel
set_option maxRecDepth 100000 in
theorem f_104_165 : xft 104 165 = some (.ishl) := by decide +kernel
set_option maxRecDepth 100000 in
theorem f_104_166 : xft 104 166 = some (.iconst 1) := by decide +kernel
set_option maxRecDepth 100000 in
theorem f_104_167 : xft 104 167 = some (.isub) := by decide +kernel
set_option maxRecDepth 100000 in
theorem f_104_168 : xft 104 168 = some (.iload_n 2) := by decide +kernel
set_option maxRecDepth 100000 in
theorem f_104_169 : xft 104 169 = some (.ishl) := by decide +kernel
set_option maxRecDepth 100000 in
theorem f_104_170 : xft 104 170 = some (.ior) := by decide +kernel
set_option maxRecDepth 100000 in
theorem f_104_171 : xft 104 171 = some (.iastore) := by decide +kernel
set_option maxRecDepth 100000 in
theorem f_104_172 : xft 104 172 = some (.iinc 10 1) := by decide +kernel
set_option maxRecDepth 100000 in
theorem f_104_175 : xft 104 175 = some (.goto (-35)) := by decide +kernel
set_option maxRecDepth 100000 in
theorem f_104_178 : xft 104 178 = some (.aload_n 0) := by decide +kernel
set_option maxRecDepth 100000 in
theorem f_104_179 : xft 104 179 = some (.getfield 16) := by decide +kernel
set_option maxRecDepth 100000 in
theorem f_104_182 : xft 104 182 = some (.aload_n 0) := by decide +kernel
set_option maxRecDepth 100000 in
theorem f_104_183 : xft 104 183 = some (.getfield 95) := by decide +kernel
set_option maxRecDepth 100000 in
theorem f_104_186 : xft 104 186 = some (.iload 4) := by decide +kernel
set_option maxRecDepth 100000 in
theorem f_104_188 : xft 104 188 = some (.iastore) := by decide +kernel
set_option maxRecDepth 100000 in
theorem f_104_189 : xft 104 189 = some (.aload_n 0) := by decide +kernel
set_option maxRecDepth 100000 in
theorem f_104_190 : xft 104 190 = some (.getfield 19) := by decide +kernel
set_option maxRecDepth 100000 in
theorem f_104_193 : xft 104 193 = some (.aload_n 0) := by decide +kernel
set_option maxRecDepth 100000 in
theorem f_104_194 : xft 104 194 = some (.getfield 95) := by decide +kernel
set_option maxRecDepth 100000 in
theorem f_104_197 : xft 104 197 = some (.iload 5) := by decide +kernel
set_option maxRecDepth 100000 in
theorem f_104_199 : xft 104 199 = some (.iastore) := by decide +kernel
set_option maxRecDepth 100000 in
theorem f_104_200 : xft 104 200 = some (.aload_n 0) := by decide +kernel
set_option maxRecDepth 100000 in
theorem f_104_201 : xft 104 201 = some (.getfield 22) := by decide +kernel
set_option maxRecDepth 100000 in
theorem f_104_204 : xft 104 204 = some (.aload_n 0) := by decide +kernel
set_option maxRecDepth 100000 in
theorem f_104_205 : xft 104 205 = some (.getfield 95) := by decide +kernel
set_option maxRecDepth 100000 in
theorem f_104_208 : xft 104 208 = some (.aload_n 0) := by decide +kernel
set_option maxRecDepth 100000 in
theorem f_104_209 : xft 104 209 = some (.iload_n 1) := by decide +kernel
set_option maxRecDepth 100000 in
theorem f_104_210 : xft 104 210 = some (.iload_n 3) := by decide +kernel
set_option maxRecDepth 100000 in
theorem f_104_211 : xft 104 211 = some (.iload 5) := by decide +kernel
set_option maxRecDepth 100000 in
theorem f_104_213 : xft 104 213 = some (.invokevirtual 116) := by decide +kernel
set_option maxRecDepth 100000 in
theorem f_104_216 : xft 104 216 = some (.iastore) := by decide +kernel
set_option maxRecDepth 100000 in
theorem f_104_217 : xft 104 217 = some (.aload_n 0) := by decide +kernel
set_option maxRecDepth 100000 in
theorem f_104_218 : xft 104 218 = some (.getfield 25) := by decide +kernel
set_option maxRecDepth 100000 in
theorem f_104_221 : xft 104 221 = some (.aload_n 0) := by decide +kernel
set_option maxRecDepth 100000 in
theorem f_104_222 : xft 104 222 = some (.getfield 95) := by decide +kernel
set_option maxRecDepth 100000 in
theorem f_104_225 : xft 104 225 = some (.iload_n 3) := by decide +kernel
set_option maxRecDepth 100000 in
theorem f_104_226 : xft 104 226 = some (.iastore) := by decide +kernel
set_option maxRecDepth 100000 in
theorem f_104_227 : xft 104 227 = some (.aload_n 0) := by decide +kernel
set_option maxRecDepth 100000 in
theorem f_104_228 : xft 104 228 = some (.getfield 28) := by decide +kernel
set_option maxRecDepth 100000 in
theorem f_104_231 : xft 104 231 = some (.aload_n 0) := by decide +kernel
set_option maxRecDepth 100000 in
theorem f_104_232 : xft 104 232 = some (.getfield 95) := by decide +kernel
set_option maxRecDepth 100000 in
theorem f_104_235 : xft 104 235 = some (.iload 6) := by decide +kernel
set_option maxRecDepth 100000 in
theorem f_104_237 : xft 104 237 = some (.bastore) := by decide +kernel
set_option maxRecDepth 100000 in
theorem f_104_238 : xft 104 238 = some (.aload_n 0) := by decide +kernel
set_option maxRecDepth 100000 in
theorem f_104_239 : xft 104 239 = some (.getfield 45) := by decide +kernel
set_option maxRecDepth 100000 in
theorem f_104_242 : xft 104 242 = some (.aload_n 0) := by decide +kernel
set_option maxRecDepth 100000 in
theorem f_104_243 : xft 104 243 = some (.getfield 95) := by decide +kernel
set_option maxRecDepth 100000 in
theorem f_104_246 : xft 104 246 = some (.iconst (-1)) := by decide +kernel
set_option maxRecDepth 100000 in
theorem f_104_247 : xft 104 247 = some (.iastore) := by decide +kernel
set_option maxRecDepth 100000 in
theorem f_104_248 : xft 104 248 = some (.aload_n 0) := by decide +kernel
set_option maxRecDepth 100000 in
theorem f_104_249 : xft 104 249 = some (.getfield 48) := by decide +kernel
set_option maxRecDepth 100000 in
theorem f_104_252 : xft 104 252 = some (.aload_n 0) := by decide +kernel
set_option maxRecDepth 100000 in
theorem f_104_253 : xft 104 253 = some (.getfield 95) := by decide +kernel
set_option maxRecDepth 100000 in
theorem f_104_256 : xft 104 256 = some (.iconst (-1)) := by decide +kernel
set_option maxRecDepth 100000 in
theorem f_104_257 : xft 104 257 = some (.iastore) := by decide +kernel
set_option maxRecDepth 100000 in
theorem f_104_258 : xft 104 258 = some (.aload_n 0) := by decide +kernel
set_option maxRecDepth 100000 in
theorem f_104_259 : xft 104 259 = some (.getfield 51) := by decide +kernel
set_option maxRecDepth 100000 in
theorem f_104_262 : xft 104 262 = some (.aload_n 0) := by decide +kernel
set_option maxRecDepth 100000 in
theorem f_104_263 : xft 104 263 = some (.getfield 95) := by decide +kernel
set_option maxRecDepth 100000 in
theorem f_104_266 : xft 104 266 = some (.iconst (-1)) := by decide +kernel
set_option maxRecDepth 100000 in
theorem f_104_267 : xft 104 267 = some (.iastore) := by decide +kernel
set_option maxRecDepth 100000 in
theorem f_104_268 : xft 104 268 = some (.aload_n 0) := by decide +kernel
set_option maxRecDepth 100000 in
theorem f_104_269 : xft 104 269 = some (.dup) := by decide +kernel
set_option maxRecDepth 100000 in
theorem f_104_270 : xft 104 270 = some (.getfield 95) := by decide +kernel
set_option maxRecDepth 100000 in
theorem f_104_273 : xft 104 273 = some (.iconst 1) := by decide +kernel
set_option maxRecDepth 100000 in
theorem f_104_274 : xft 104 274 = some (.iadd) := by decide +kernel
set_option maxRecDepth 100000 in
theorem f_104_275 : xft 104 275 = some (.putfield 95) := by decide +kernel
set_option maxRecDepth 100000 in
theorem f_104_278 : xft 104 278 = some (.aload_n 0) := by decide +kernel
set_option maxRecDepth 100000 in
theorem f_104_279 : xft 104 279 = some (.getfield 95) := by decide +kernel
set_option maxRecDepth 100000 in
theorem f_104_282 : xft 104 282 = some (.iconst 1) := by decide +kernel
set_option maxRecDepth 100000 in
theorem f_104_283 : xft 104 283 = some (.isub) := by decide +kernel
set_option maxRecDepth 100000 in
theorem f_104_284 : xft 104 284 = some (.ireturn) := by decide +kernel
set_option maxRecDepth 100000 in
theorem f_105_0 : xft 105 0 = some (.iconst 0) := by decide +kernel
set_option maxRecDepth 100000 in
theorem f_105_1 : xft 105 1 = some (.istore_n 3) := by decide +kernel
set_option maxRecDepth 100000 in
theorem f_105_2 : xft 105 2 = some (.iload_n 0) := by decide +kernel
set_option maxRecDepth 100000 in
theorem f_105_3 : xft 105 3 = some (.istore 4) := by decide +kernel
set_option maxRecDepth 100000 in
theorem f_105_5 : xft 105 5 = some (.iload 4) := by decide +kernel
set_option maxRecDepth 100000 in
theorem f_105_7 : xft 105 7 = some (.iload_n 0) := by decide +kernel
set_option maxRecDepth 100000 in
theorem f_105_8 : xft 105 8 = some (.iload_n 1) := by decide +kernel
set_option maxRecDepth 100000 in
theorem f_105_9 : xft 105 9 = some (.iadd) := by decide +kernel
set_option maxRecDepth 100000 in
theorem f_105_10 : xft 105 10 = some (.if_icmp .ge 35) := by decide +kernel
set_option maxRecDepth 100000 in
theorem f_105_13 : xft 105 13 = some (.iload_n 3) := by decide +kernel
set_option maxRecDepth 100000 in
theorem f_105_14 : xft 105 14 = some (.iload_n 2) := by decide +kernel
set_option maxRecDepth 100000 in
theorem f_105_15 : xft 105 15 = some (.iload 4) := by decide +kernel
set_option maxRecDepth 100000 in
theorem f_105_17 : xft 105 17 = some (.iconst 2) := by decide +kernel
set_option maxRecDepth 100000 in
theorem f_105_18 : xft 105 18 = some (.if_icmp .ge 7) := by decide +kernel
set_option maxRecDepth 100000 in
theorem f_105_21 : xft 105 21 = some (.iconst 3) := by decide +kernel
set_option maxRecDepth 100000 in
theorem f_105_22 : xft 105 22 = some (.goto 14) := by decide +kernel
set_option maxRecDepth 100000 in
theorem f_105_25 : xft 105 25 = some (.iload 4) := by decide +kernel
set_option maxRecDepth 100000 in
theorem f_105_27 : xft 105 27 = some (.iconst 5) := by decide +kernel
set_option maxRecDepth 100000 in
theorem f_105_28 : xft 105 28 = some (.if_icmp .ge 7) := by decide +kernel
set_option maxRecDepth 100000 in
theorem f_105_31 : xft 105 31 = some (.iconst 2) := by decide +kernel
set_option maxRecDepth 100000 in
theorem f_105_32 : xft 105 32 = some (.goto 4) := by decide +kernel
set_option maxRecDepth 100000 in
theorem f_105_35 : xft 105 35 = some (.iconst 1) := by decide +kernel
set_option maxRecDepth 100000 in
theorem f_105_36 : xft 105 36 = some (.imul) := by decide +kernel
set_option maxRecDepth 100000 in
theorem f_105_37 : xft 105 37 = some (.iadd) := by decide +kernel
set_option maxRecDepth 100000 in
theorem f_105_38 : xft 105 38 = some (.istore_n 3) := by decide +kernel
set_option maxRecDepth 100000 in
theorem f_105_39 : xft 105 39 = some (.iinc 4 1) := by decide +kernel
set_option maxRecDepth 100000 in
theorem f_105_42 : xft 105 42 = some (.goto (-37)) := by decide +kernel
set_option maxRecDepth 100000 in
theorem f_105_45 : xft 105 45 = some (.iload_n 3) := by decide +kernel
set_option maxRecDepth 100000 in
theorem f_105_46 : xft 105 46 = some (.ireturn) := by decide +kernel
set_option maxRecDepth 100000 in
theorem f_106_0 : xft 106 0 = some (.iload_n 2) := by decide +kernel
set_option maxRecDepth 100000 in
theorem f_106_1 : xft 106 1 = some (.iload_n 3) := by decide +kernel
set_option maxRecDepth 100000 in
theorem f_106_2 : xft 106 2 = some (.invokestatic 109) := by decide +kernel
set_option maxRecDepth 100000 in
theorem f_106_5 : xft 106 5 = some (.ifCond .eq 18) := by decide +kernel
set_option maxRecDepth 100000 in
theorem f_106_8 : xft 106 8 = some (.iload 5) := by decide +kernel
set_option maxRecDepth 100000 in
theorem f_106_10 : xft 106 10 = some (.iconst 1) := by decide +kernel
set_option maxRecDepth 100000 in
theorem f_106_11 : xft 106 11 = some (.bipush 9) := by decide +kernel
set_option maxRecDepth 100000 in
theorem f_106_13 : xft 106 13 = some (.invokestatic 91) := by decide +kernel
set_option maxRecDepth 100000 in
theorem f_106_16 : xft 106 16 = some (.ifCond .eq 7) := by decide +kernel
set_option maxRecDepth 100000 in
theorem f_106_19 : xft 106 19 = some (.iconst 1) := by decide +kernel
set_option maxRecDepth 100000 in
theorem f_106_20 : xft 106 20 = some (.goto 4) := by decide +kernel
set_option maxRecDepth 100000 in
theorem f_106_23 : xft 106 23 = some (.iconst 0) := by decide +kernel
set_option maxRecDepth 100000 in
theorem f_106_24 : xft 106 24 = some (.istore 6) := by decide +kernel
set_option maxRecDepth 100000 in
theorem f_106_26 : xft 106 26 = some (.aload_n 0) := by decide +kernel
set_option maxRecDepth 100000 in
theorem f_106_27 : xft 106 27 = some (.aload_n 0) := by decide +kernel
set_option maxRecDepth 100000 in
theorem f_106_28 : xft 106 28 = some (.iload_n 1) := by decide +kernel
set_option maxRecDepth 100000 in
theorem f_106_29 : xft 106 29 = some (.invokevirtual 102) := by decide +kernel
set_option maxRecDepth 100000 in
theorem f_106_32 : xft 106 32 = some (.ifCond .ne 7) := by decide +kernel
set_option maxRecDepth 100000 in
theorem f_106_35 : xft 106 35 = some (.iconst 1) := by decide +kernel
set_option maxRecDepth 100000 in
theorem f_106_36 : xft 106 36 = some (.goto 13) := by decide +kernel
set_option maxRecDepth 100000 in
theorem f_106_39 : xft 106 39 = some (.iload 6) := by decide +kernel
set_option maxRecDepth 100000 in
theorem f_106_41 : xft 106 41 = some (.ifCond .eq 7) := by decide +kernel
set_option maxRecDepth 100000 in
theorem f_106_44 : xft 106 44 = some (.iconst 0) := by decide +kernel
set_option maxRecDepth 100000 in
theorem f_106_45 : xft 106 45 = some (.goto 4) := by decide +kernel
set_option maxRecDepth 100000 in
theorem f_106_48 : xft 106 48 = some (.iconst 2) := by decide +kernel
set_option maxRecDepth 100000 in
theorem f_106_49 : xft 106 49 = some (.invokevirtual 98) := by decide +kernel
set_option maxRecDepth 100000 in
theorem f_106_52 : xft 106 52 = some (.ifCond .eq 5) := by decide +kernel
set_option maxRecDepth 100000 in
theorem f_106_55 : xft 106 55 = some (.iconst 0) := by decide +kernel
set_option maxRecDepth 100000 in
theorem f_106_56 : xft 106 56 = some (.ireturn) := by decide +kernel
set_option maxRecDepth 100000 in
theorem f_106_57 : xft 106 57 = some (.iconst (-1)) := by decide +kernel
set_option maxRecDepth 100000 in
theorem f_106_58 : xft 106 58 = some (.istore 7) := by decide +kernel
set_option maxRecDepth 100000 in
theorem f_106_60 : xft 106 60 = some (.iconst 0) := by decide +kernel
set_option maxRecDepth 100000 in
theorem f_106_61 : xft 106 61 = some (.istore 8) := by decide +kernel
set_option maxRecDepth 100000 in
theorem f_106_63 : xft 106 63 = some (.iload 8) := by decide +kernel
set_option maxRecDepth 100000 in
theorem f_106_65 : xft 106 65 = some (.iload_n 3) := by decide +kernel
set_option maxRecDepth 100000 in
theorem f_106_66 : xft 106 66 = some (.iadd) := by decide +kernel
set_option maxRecDepth 100000 in
theorem f_106_67 : xft 106 67 = some (.bipush 8) := by decide +kernel
set_option maxRecDepth 100000 in
theorem f_106_69 : xft 106 69 = some (.if_icmp .gt 121) := by decide +kernel
set_option maxRecDepth 100000 in
theorem f_106_72 : xft 106 72 = some (.iconst 0) := by decide +kernel
set_option maxRecDepth 100000 in
theorem f_106_73 : xft 106 73 = some (.istore 9) := by decide +kernel
set_option maxRecDepth 100000 in
theorem f_106_75 : xft 106 75 = some (.iload 9) := by decide +kernel
set_option maxRecDepth 100000 in
theorem f_106_77 : xft 106 77 = some (.iload_n 2) := by decide +kernel
set_option maxRecDepth 100000 in
theorem f_106_78 : xft 106 78 = some (.iadd) := by decide +kernel
set_option maxRecDepth 100000 in
theorem f_106_79 : xft 106 79 = some (.bipush 12) := by decide +kernel
set_option maxRecDepth 100000 in
theorem f_106_81 : xft 106 81 = some (.if_icmp .gt 103) := by decide +kernel
set_option maxRecDepth 100000 in
theorem f_106_84 : xft 106 84 = some (.aload_n 0) := by decide +kernel
set_option maxRecDepth 100000 in
theorem f_106_85 : xft 106 85 = some (.iload_n 1) := by decide +kernel
set_option maxRecDepth 100000 in
theorem f_106_86 : xft 106 86 = some (.iload 9) := by decide +kernel
set_option maxRecDepth 100000 in
theorem f_106_88 : xft 106 88 = some (.iload 8) := by decide +kernel
set_option maxRecDepth 100000 in
theorem f_106_90 : xft 106 90 = some (.iload_n 2) := by decide +kernel
set_option maxRecDepth 100000 in
theorem f_106_91 : xft 106 91 = some (.iload_n 3) := by decide +kernel
set_option maxRecDepth 100000 in
theorem f_106_92 : xft 106 92 = some (.iload 4) := by decide +kernel
set_option maxRecDepth 100000 in
theorem f_106_94 : xft 106 94 = some (.invokevirtual 112) := by decide +kernel
set_option maxRecDepth 100000 in
theorem f_106_97 : xft 106 97 = some (.ifCond .eq 20) := by decide +kernel
set_option maxRecDepth 100000 in
theorem f_106_100 : xft 106 100 = some (.aload_n 0) := by decide +kernel
set_option maxRecDepth 100000 in
theorem f_106_101 : xft 106 101 = some (.iload_n 1) := by decide +kernel
set_option maxRecDepth 100000 in
theorem f_106_102 : xft 106 102 = some (.iload 8) := by decide +kernel
set_option maxRecDepth 100000 in
theorem f_106_104 : xft 106 104 = some (.iload_n 3) := by decide +kernel
set_option maxRecDepth 100000 in
theorem f_106_105 : xft 106 105 = some (.invokevirtual 116) := by decide +kernel
set_option maxRecDepth 100000 in
theorem f_106_108 : xft 106 108 = some (.iload 5) := by decide +kernel
set_option maxRecDepth 100000 in
theorem f_106_110 : xft 106 110 = some (.if_icmp .lt 7) := by decide +kernel
set_option maxRecDepth 100000 in
theorem f_106_113 : xft 106 113 = some (.iconst 1) := by decide +kernel
set_option maxRecDepth 100000 in
theorem f_106_114 : xft 106 114 = some (.goto 4) := by decide +kernel
set_option maxRecDepth 100000 in
theorem f_106_117 : xft 106 117 = some (.iconst 0) := by decide +kernel
set_option maxRecDepth 100000 in
theorem f_106_118 : xft 106 118 = some (.istore 10) := by decide +kernel
set_option maxRecDepth 100000 in
theorem f_106_120 : xft 106 120 = some (.iload 7) := by decide +kernel
set_option maxRecDepth 100000 in
theorem f_106_122 : xft 106 122 = some (.iconst (-1)) := by decide +kernel
set_option maxRecDepth 100000 in
theorem f_106_123 : xft 106 123 = some (.if_icmp .eq 23) := by decide +kernel
set_option maxRecDepth 100000 in
theorem f_106_126 : xft 106 126 = some (.iload 8) := by decide +kernel
set_option maxRecDepth 100000 in
theorem f_106_128 : xft 106 128 = some (.iload_n 3) := by decide +kernel
set_option maxRecDepth 100000 in
theorem f_106_129 : xft 106 129 = some (.iload_n 2) := by decide +kernel
set_option maxRecDepth 100000 in
theorem f_106_130 : xft 106 130 = some (.invokestatic 120) := by decide +kernel
set_option maxRecDepth 100000 in
theorem f_106_133 : xft 106 133 = some (.iload 7) := by decide +kernel
set_option maxRecDepth 100000 in
theorem f_106_135 : xft 106 135 = some (.bipush 12) := by decide +kernel
set_option maxRecDepth 100000 in
theorem f_106_137 : xft 106 137 = some (.idiv) := by decide +kernel
set_option maxRecDepth 100000 in
theorem f_106_138 : xft 106 138 = some (.iload_n 3) := by decide +kernel
set_option maxRecDepth 100000 in
theorem f_106_139 : xft 106 139 = some (.iload_n 2) := by decide +kernel
set_option maxRecDepth 100000 in
theorem f_106_140 : xft 106 140 = some (.invokestatic 120) := by decide +kernel
set_option maxRecDepth 100000 in
theorem f_106_143 : xft 106 143 = some (.if_icmp .ge 7) := by decide +kernel
set_option maxRecDepth 100000 in
theorem f_106_146 : xft 106 146 = some (.iconst 1) := by decide +kernel
set_option maxRecDepth 100000 in
theorem f_106_147 : xft 106 147 = some (.goto 4) := by decide +kernel
set_option maxRecDepth 100000 in
theorem f_106_150 : xft 106 150 = some (.iconst 0) := by decide +kernel
set_option maxRecDepth 100000 in
theorem f_106_151 : xft 106 151 = some (.istore 11) := by decide +kernel
set_option maxRecDepth 100000 in
theorem f_106_153 : xft 106 153 = some (.iload 10) := by decide +kernel
set_option maxRecDepth 100000 in
theorem f_106_155 : xft 106 155 = some (.ifCond .eq 19) := by decide +kernel
set_option maxRecDepth 100000 in
theorem f_106_158 : xft 106 158 = some (.iload 11) := by decide +kernel
set_option maxRecDepth 100000 in
theorem f_106_160 : xft 106 160 = some (.ifCond .eq 14) := by decide +kernel
set_option maxRecDepth 100000 in
theorem f_106_163 : xft 106 163 = some (.bipush 12) := by decide +kernel
set_option maxRecDepth 100000 in
theorem f_106_165 : xft 106 165 = some (.iload 8) := by decide +kernel
set_option maxRecDepth 100000 in
theorem f_106_167 : xft 106 167 = some (.imul) := by decide +kernel
set_option maxRecDepth 100000 in
theorem f_106_168 : xft 106 168 = some (.iload 9) := by decide +kernel
set_option maxRecDepth 100000 in
theorem f_106_170 : xft 106 170 = some (.iadd) := by decide +kernel
set_option maxRecDepth 100000 in
theorem f_106_171 : xft 106 171 = some (.goto 5) := by decide +kernel
set_option maxRecDepth 100000 in
theorem f_106_174 : xft 106 174 = some (.iload 7) := by decide +kernel
set_option maxRecDepth 100000 in
theorem f_106_176 : xft 106 176 = some (.istore 7) := by decide +kernel
set_option maxRecDepth 100000 in
theorem f_106_178 : xft 106 178 = some (.iinc 9 1) := by decide +kernel
set_option maxRecDepth 100000 in
theorem f_106_181 : xft 106 181 = some (.goto (-106)) := by decide +kernel
set_option maxRecDepth 100000 in
theorem f_106_184 : xft 106 184 = some (.iinc 8 1) := by decide +kernel
set_option maxRecDepth 100000 in
theorem f_106_187 : xft 106 187 = some (.goto (-124)) := by decide +kernel
set_option maxRecDepth 100000 in
theorem f_106_190 : xft 106 190 = some (.iload 7) := by decide +kernel
set_option maxRecDepth 100000 in
theorem f_106_192 : xft 106 192 = some (.ireturn) := by decide +kernel
set_option maxRecDepth 100000 in
theorem f_107_0 : xft 107 0 = some (.aload_n 0) := by decide +kernel
set_option maxRecDepth 100000 in
theorem f_107_1 : xft 107 1 = some (.aload_n 0) := by decide +kernel
set_option maxRecDepth 100000 in
theorem f_107_2 : xft 107 2 = some (.iload_n 1) := by decide +kernel
set_option maxRecDepth 100000 in
theorem f_107_3 : xft 107 3 = some (.invokevirtual 123) := by decide +kernel
set_option maxRecDepth 100000 in
theorem f_107_6 : xft 107 6 = some (.ifCond .ne 7) := by decide +kernel
set_option maxRecDepth 100000 in
theorem f_107_9 : xft 107 9 = some (.iconst 1) := by decide +kernel
set_option maxRecDepth 100000 in
theorem f_107_10 : xft 107 10 = some (.goto 41) := by decide +kernel
set_option maxRecDepth 100000 in
theorem f_107_13 : xft 107 13 = some (.iload_n 2) := by decide +kernel
set_option maxRecDepth 100000 in
theorem f_107_14 : xft 107 14 = some (.iconst 1) := by decide +kernel
set_option maxRecDepth 100000 in
theorem f_107_15 : xft 107 15 = some (.bipush 8) := by decide +kernel
set_option maxRecDepth 100000 in
theorem f_107_17 : xft 107 17 = some (.invokestatic 91) := by decide +kernel
set_option maxRecDepth 100000 in
theorem f_107_20 : xft 107 20 = some (.ifCond .eq 13) := by decide +kernel
set_option maxRecDepth 100000 in
theorem f_107_23 : xft 107 23 = some (.iload_n 2) := by decide +kernel
set_option maxRecDepth 100000 in
theorem f_107_24 : xft 107 24 = some (.aload_n 0) := by decide +kernel
set_option maxRecDepth 100000 in
theorem f_107_25 : xft 107 25 = some (.getfield 22) := by decide +kernel
set_option maxRecDepth 100000 in
theorem f_107_28 : xft 107 28 = some (.iload_n 1) := by decide +kernel
set_option maxRecDepth 100000 in
theorem f_107_29 : xft 107 29 = some (.iaload) := by decide +kernel
set_option maxRecDepth 100000 in
theorem f_107_30 : xft 107 30 = some (.if_icmp .lt 7) := by decide +kernel
set_option maxRecDepth 100000 in
theorem f_107_33 : xft 107 33 = some (.iconst 2) := by decide +kernel
set_option maxRecDepth 100000 in
theorem f_107_34 : xft 107 34 = some (.goto 17) := by decide +kernel
set_option maxRecDepth 100000 in
theorem f_107_37 : xft 107 37 = some (.aload_n 0) := by decide +kernel
set_option maxRecDepth 100000 in
theorem f_107_38 : xft 107 38 = some (.getfield 39) := by decide +kernel
set_option maxRecDepth 100000 in
theorem f_107_41 : xft 107 41 = some (.iload_n 1) := by decide +kernel
set_option maxRecDepth 100000 in
theorem f_107_42 : xft 107 42 = some (.iaload) := by decide +kernel
set_option maxRecDepth 100000 in
theorem f_107_43 : xft 107 43 = some (.ifCond .le 7) := by decide +kernel
set_option maxRecDepth 100000 in
theorem f_107_46 : xft 107 46 = some (.iconst 3) := by decide +kernel
set_option maxRecDepth 100000 in
theorem f_107_47 : xft 107 47 = some (.goto 4) := by decide +kernel
set_option maxRecDepth 100000 in
theorem f_107_50 : xft 107 50 = some (.iconst 0) := by decide +kernel
set_option maxRecDepth 100000 in
theorem f_107_51 : xft 107 51 = some (.invokevirtual 98) := by decide +kernel
set_option maxRecDepth 100000 in
theorem f_107_54 : xft 107 54 = some (.ifCond .eq 5) := by decide +kernel
set_option maxRecDepth 100000 in
theorem f_107_57 : xft 107 57 = some (.iconst 0) := by decide +kernel
set_option maxRecDepth 100000 in
theorem f_107_58 : xft 107 58 = some (.ireturn) := by decide +kernel
set_option maxRecDepth 100000 in
theorem f_107_59 : xft 107 59 = some (.aload_n 0) := by decide +kernel
set_option maxRecDepth 100000 in
theorem f_107_60 : xft 107 60 = some (.getfield 22) := by decide +kernel
set_option maxRecDepth 100000 in
theorem f_107_63 : xft 107 63 = some (.iload_n 1) := by decide +kernel
set_option maxRecDepth 100000 in
theorem f_107_64 : xft 107 64 = some (.iaload) := by decide +kernel
set_option maxRecDepth 100000 in
theorem f_107_65 : xft 107 65 = some (.istore_n 3) := by decide +kernel
set_option maxRecDepth 100000 in
theorem f_107_66 : xft 107 66 = some (.aload_n 0) := by decide +kernel
set_option maxRecDepth 100000 in
theorem f_107_67 : xft 107 67 = some (.getfield 22) := by decide +kernel
set_option maxRecDepth 100000 in
theorem f_107_70 : xft 107 70 = some (.iload_n 1) := by decide +kernel
set_option maxRecDepth 100000 in
theorem f_107_71 : xft 107 71 = some (.iload_n 2) := by decide +kernel
set_option maxRecDepth 100000 in
theorem f_107_72 : xft 107 72 = some (.iastore) := by decide +kernel
set_option maxRecDepth 100000 in
theorem f_107_73 : xft 107 73 = some (.iload_n 3) := by decide +kernel
set_option maxRecDepth 100000 in
theorem f_107_74 : xft 107 74 = some (.ireturn) := by decide +kernel
set_option maxRecDepth 100000 in
theorem f_108_0 : xft 108 0 = some (.aload_n 0) := by decide +kernel
set_option maxRecDepth 100000 in
theorem f_108_1 : xft 108 1 = some (.getfield 45) := by decide +kernel
set_option maxRecDepth 100000 in
theorem f_108_4 : xft 108 4 = some (.iload_n 1) := by decide +kernel
set_option maxRecDepth 100000 in
theorem f_108_5 : xft 108 5 = some (.iaload) := by decide +kernel
set_option maxRecDepth 100000 in
theorem f_108_6 : xft 108 6 = some (.iconst (-1)) := by decide +kernel
set_option maxRecDepth 100000 in
theorem f_108_7 : xft 108 7 = some (.if_icmp .eq 7) := by decide +kernel
set_option maxRecDepth 100000 in
theorem f_108_10 : xft 108 10 = some (.iconst 1) := by decide +kernel
set_option maxRecDepth 100000 in
theorem f_108_11 : xft 108 11 = some (.goto 4) := by decide +kernel
set_option maxRecDepth 100000 in
theorem f_108_14 : xft 108 14 = some (.iconst 0) := by decide +kernel
set_option maxRecDepth 100000 in
theorem f_108_15 : xft 108 15 = some (.ireturn) := by decide +kernel
set_option maxRecDepth 100000 in
theorem f_109_0 : xft 109 0 = some (.aload_n 0) := by decide +kernel
set_option maxRecDepth 100000 in
theorem f_109_1 : xft 109 1 = some (.iload_n 1) := by decide +kernel
set_option maxRecDepth 100000 in
theorem f_109_2 : xft 109 2 = some (.invokevirtual 123) := by decide +kernel
set_option maxRecDepth 100000 in
theorem f_109_5 : xft 109 5 = some (.istore_n 3) := by decide +kernel
set_option maxRecDepth 100000 in
theorem f_109_6 : xft 109 6 = some (.iload_n 3) := by decide +kernel
set_option maxRecDepth 100000 in
theorem f_109_7 : xft 109 7 = some (.ifCond .eq 25) := by decide +kernel
set_option maxRecDepth 100000 in
theorem f_109_10 : xft 109 10 = some (.iload_n 2) := by decide +kernel
set_option maxRecDepth 100000 in
theorem f_109_11 : xft 109 11 = some (.iconst 3) := by decide +kernel
set_option maxRecDepth 100000 in
theorem f_109_12 : xft 109 12 = some (.iconst 4) := by decide +kernel
set_option maxRecDepth 100000 in
theorem f_109_13 : xft 109 13 = some (.aload_n 0) := by decide +kernel
set_option maxRecDepth 100000 in
theorem f_109_14 : xft 109 14 = some (.getfield 16) := by decide +kernel
set_option maxRecDepth 100000 in
theorem f_109_17 : xft 109 17 = some (.iload_n 1) := by decide +kernel
set_option maxRecDepth 100000 in
theorem f_109_18 : xft 109 18 = some (.iaload) := by decide +kernel
set_option maxRecDepth 100000 in
theorem f_109_19 : xft 109 19 = some (.imul) := by decide +kernel
set_option maxRecDepth 100000 in
theorem f_109_20 : xft 109 20 = some (.iconst 3) := by decide +kernel
set_option maxRecDepth 100000 in
theorem f_109_21 : xft 109 21 = some (.isub) := by decide +kernel
set_option maxRecDepth 100000 in
theorem f_109_22 : xft 109 22 = some (.invokestatic 91) := by decide +kernel
set_option maxRecDepth 100000 in
theorem f_109_25 : xft 109 25 = some (.ifCond .eq 7) := by decide +kernel
set_option maxRecDepth 100000 in
theorem f_109_28 : xft 109 28 = some (.iconst 1) := by decide +kernel
set_option maxRecDepth 100000 in
theorem f_109_29 : xft 109 29 = some (.goto 4) := by decide +kernel
set_option maxRecDepth 100000 in
theorem f_109_32 : xft 109 32 = some (.iconst 0) := by decide +kernel
set_option maxRecDepth 100000 in
theorem f_109_33 : xft 109 33 = some (.istore 4) := by decide +kernel
set_option maxRecDepth 100000 in
theorem f_109_35 : xft 109 35 = some (.iload 4) := by decide +kernel
set_option maxRecDepth 100000 in
theorem f_109_37 : xft 109 37 = some (.ifCond .eq 52) := by decide +kernel
set_option maxRecDepth 100000 in
theorem f_109_40 : xft 109 40 = some (.aload_n 0) := by decide +kernel
set_option maxRecDepth 100000 in
theorem f_109_41 : xft 109 41 = some (.getfield 32) := by decide +kernel
set_option maxRecDepth 100000 in
theorem f_109_44 : xft 109 44 = some (.iload_n 1) := by decide +kernel
set_option maxRecDepth 100000 in
theorem f_109_45 : xft 109 45 = some (.laload) := by decide +kernel
set_option maxRecDepth 100000 in
theorem f_109_46 : xft 109 46 = some (.iload_n 2) := by decide +kernel
set_option maxRecDepth 100000 in
theorem f_109_47 : xft 109 47 = some (.iconst 1) := by decide +kernel
set_option maxRecDepth 100000 in
theorem f_109_48 : xft 109 48 = some (.isub) := by decide +kernel
set_option maxRecDepth 100000 in
theorem f_109_49 : xft 109 49 = some (.lshr) := by decide +kernel
set_option maxRecDepth 100000 in
theorem f_109_50 : xft 109 50 = some (.ldc2_w 126) := by decide +kernel
set_option maxRecDepth 100000 in
theorem f_109_53 : xft 109 53 = some (.land) := by decide +kernel
set_option maxRecDepth 100000 in
theorem f_109_54 : xft 109 54 = some (.lconst 0) := by decide +kernel
set_option maxRecDepth 100000 in
theorem f_109_55 : xft 109 55 = some (.lcmp) := by decide +kernel
set_option maxRecDepth 100000 in
theorem f_109_56 : xft 109 56 = some (.ifCond .ne 33) := by decide +kernel
set_option maxRecDepth 100000 in
theorem f_109_59 : xft 109 59 = some (.aload_n 0) := by decide +kernel
set_option maxRecDepth 100000 in
theorem f_109_60 : xft 109 60 = some (.getfield 39) := by decide +kernel
set_option maxRecDepth 100000 in
theorem f_109_63 : xft 109 63 = some (.iload_n 1) := by decide +kernel
set_option maxRecDepth 100000 in
theorem f_109_64 : xft 109 64 = some (.iaload) := by decide +kernel
set_option maxRecDepth 100000 in
theorem f_109_65 : xft 109 65 = some (.ifCond .ne 24) := by decide +kernel
set_option maxRecDepth 100000 in
theorem f_109_68 : xft 109 68 = some (.aload_n 0) := by decide +kernel
set_option maxRecDepth 100000 in
theorem f_109_69 : xft 109 69 = some (.iload_n 1) := by decide +kernel
set_option maxRecDepth 100000 in
theorem f_109_70 : xft 109 70 = some (.invokevirtual 128) := by decide +kernel
set_option maxRecDepth 100000 in
theorem f_109_73 : xft 109 73 = some (.ifCond .ne 16) := by decide +kernel
set_option maxRecDepth 100000 in
theorem f_109_76 : xft 109 76 = some (.aload_n 0) := by decide +kernel
set_option maxRecDepth 100000 in
theorem f_109_77 : xft 109 77 = some (.getfield 42) := by decide +kernel
set_option maxRecDepth 100000 in
theorem f_109_80 : xft 109 80 = some (.iload_n 1) := by decide +kernel
set_option maxRecDepth 100000 in
theorem f_109_81 : xft 109 81 = some (.baload) := by decide +kernel
set_option maxRecDepth 100000 in
theorem f_109_82 : xft 109 82 = some (.ifCond .ne 7) := by decide +kernel
set_option maxRecDepth 100000 in
theorem f_109_85 : xft 109 85 = some (.iconst 1) := by decide +kernel
set_option maxRecDepth 100000 in
theorem f_109_86 : xft 109 86 = some (.goto 4) := by decide +kernel
set_option maxRecDepth 100000 in
theorem f_109_89 : xft 109 89 = some (.iconst 0) := by decide +kernel
set_option maxRecDepth 100000 in
theorem f_109_90 : xft 109 90 = some (.istore 5) := by decide +kernel
set_option maxRecDepth 100000 in
theorem f_109_92 : xft 109 92 = some (.aload_n 0) := by decide +kernel
set_option maxRecDepth 100000 in
theorem f_109_93 : xft 109 93 = some (.iload_n 3) := by decide +kernel
set_option maxRecDepth 100000 in
theorem f_109_94 : xft 109 94 = some (.ifCond .ne 7) := by decide +kernel
set_option maxRecDepth 100000 in
theorem f_109_97 : xft 109 97 = some (.iconst 1) := by decide +kernel
set_option maxRecDepth 100000 in
theorem f_109_98 : xft 109 98 = some (.goto 22) := by decide +kernel
set_option maxRecDepth 100000 in
theorem f_109_101 : xft 109 101 = some (.iload 4) := by decide +kernel
set_option maxRecDepth 100000 in
theorem f_109_103 : xft 109 103 = some (.ifCond .ne 7) := by decide +kernel
set_option maxRecDepth 100000 in
theorem f_109_106 : xft 109 106 = some (.iconst 2) := by decide +kernel
set_option maxRecDepth 100000 in
theorem f_109_107 : xft 109 107 = some (.goto 13) := by decide +kernel
set_option maxRecDepth 100000 in
theorem f_109_110 : xft 109 110 = some (.iload 5) := by decide +kernel
set_option maxRecDepth 100000 in
theorem f_109_112 : xft 109 112 = some (.ifCond .eq 7) := by decide +kernel
set_option maxRecDepth 100000 in
theorem f_109_115 : xft 109 115 = some (.iconst 0) := by decide +kernel
set_option maxRecDepth 100000 in
theorem f_109_116 : xft 109 116 = some (.goto 4) := by decide +kernel
set_option maxRecDepth 100000 in
theorem f_109_119 : xft 109 119 = some (.iconst 3) := by decide +kernel
set_option maxRecDepth 100000 in
theorem f_109_120 : xft 109 120 = some (.invokevirtual 98) := by decide +kernel
set_option maxRecDepth 100000 in
theorem f_109_123 : xft 109 123 = some (.ifCond .eq 5) := by decide +kernel
set_option maxRecDepth 100000 in
theorem f_109_126 : xft 109 126 = some (.iconst 0) := by decide +kernel
set_option maxRecDepth 100000 in
theorem f_109_127 : xft 109 127 = some (.ireturn) := by decide +kernel
set_option maxRecDepth 100000 in
theorem f_109_128 : xft 109 128 = some (.aload_n 0) := by decide +kernel
set_option maxRecDepth 100000 in
theorem f_109_129 : xft 109 129 = some (.getfield 32) := by decide +kernel
set_option maxRecDepth 100000 in
theorem f_109_132 : xft 109 132 = some (.iload_n 1) := by decide +kernel
set_option maxRecDepth 100000 in
theorem f_109_133 : xft 109 133 = some (.dup2) := by decide +kernel
set_option maxRecDepth 100000 in
theorem f_109_134 : xft 109 134 = some (.laload) := by decide +kernel
set_option maxRecDepth 100000 in
theorem f_109_135 : xft 109 135 = some (.lconst 1) := by decide +kernel
set_option maxRecDepth 100000 in
theorem f_109_136 : xft 109 136 = some (.iload_n 2) := by decide +kernel
set_option maxRecDepth 100000 in
theorem f_109_137 : xft 109 137 = some (.lshl) := by decide +kernel
set_option maxRecDepth 100000 in
theorem f_109_138 : xft 109 138 = some (.lor) := by decide +kernel
set_option maxRecDepth 100000 in
theorem f_109_139 : xft 109 139 = some (.lastore) := by decide +kernel
set_option maxRecDepth 100000 in
theorem f_109_140 : xft 109 140 = some (.iconst 0) := by decide +kernel
set_option maxRecDepth 100000 in
theorem f_109_141 : xft 109 141 = some (.istore 6) := by decide +kernel
set_option maxRecDepth 100000 in
theorem f_109_143 : xft 109 143 = some (.iconst 0) := by decide +kernel
set_option maxRecDepth 100000 in
theorem f_109_144 : xft 109 144 = some (.istore 7) := by decide +kernel
set_option maxRecDepth 100000 in
theorem f_109_146 : xft 109 146 = some (.iload 7) := by decide +kernel
set_option maxRecDepth 100000 in
theorem f_109_148 : xft 109 148 = some (.iload_n 2) := by decide +kernel
set_option maxRecDepth 100000 in
theorem f_109_149 : xft 109 149 = some (.if_icmp .ge 26) := by decide +kernel
set_option maxRecDepth 100000 in
theorem f_109_152 : xft 109 152 = some (.iload 6) := by decide +kernel
set_option maxRecDepth 100000 in
theorem f_109_154 : xft 109 154 = some (.aload_n 0) := by decide +kernel
set_option maxRecDepth 100000 in
theorem f_109_155 : xft 109 155 = some (.getfield 32) := by decide +kernel
set_option maxRecDepth 100000 in
theorem f_109_158 : xft 109 158 = some (.iload_n 1) := by decide +kernel
set_option maxRecDepth 100000 in
theorem f_109_159 : xft 109 159 = some (.laload) := by decide +kernel
set_option maxRecDepth 100000 in
theorem f_109_160 : xft 109 160 = some (.iload 7) := by decide +kernel
set_option maxRecDepth 100000 in
theorem f_109_162 : xft 109 162 = some (.lshr) := by decide +kernel
set_option maxRecDepth 100000 in
theorem f_109_163 : xft 109 163 = some (.lconst 1) := by decide +kernel
set_option maxRecDepth 100000 in
theorem f_109_164 : xft 109 164 = some (.land) := by decide +kernel
set_option maxRecDepth 100000 in
theorem f_109_165 : xft 109 165 = some (.l2i) := by decide +kernel
set_option maxRecDepth 100000 in
theorem f_109_166 : xft 109 166 = some (.iadd) := by decide +kernel
set_option maxRecDepth 100000 in
theorem f_109_167 : xft 109 167 = some (.istore 6) := by decide +kernel
set_option maxRecDepth 100000 in
theorem f_109_169 : xft 109 169 = some (.iinc 7 1) := by decide +kernel
set_option maxRecDepth 100000 in
theorem f_109_172 : xft 109 172 = some (.goto (-26)) := by decide +kernel
set_option maxRecDepth 100000 in
theorem f_109_175 : xft 109 175 = some (.iload 6) := by decide +kernel
set_option maxRecDepth 100000 in
theorem f_109_177 : xft 109 177 = some (.ireturn) := by decide +kernel
set_option maxRecDepth 100000 in
theorem f_110_0 : xft 110 0 = some (.iconst 0) := by decide +kernel
set_option maxRecDepth 100000 in
theorem f_110_1 : xft 110 1 = some (.istore_n 2) := by decide +kernel
set_option maxRecDepth 100000 in
theorem f_110_2 : xft 110 2 = some (.iconst 0) := by decide +kernel
set_option maxRecDepth 100000 in
theorem f_110_3 : xft 110 3 = some (.istore_n 3) := by decide +kernel
set_option maxRecDepth 100000 in
theorem f_110_4 : xft 110 4 = some (.iload_n 3) := by decide +kernel
set_option maxRecDepth 100000 in
theorem f_110_5 : xft 110 5 = some (.iconst 4) := by decide +kernel
set_option maxRecDepth 100000 in
theorem f_110_6 : xft 110 6 = some (.aload_n 0) := by decide +kernel
set_option maxRecDepth 100000 in
theorem f_110_7 : xft 110 7 = some (.getfield 16) := by decide +kernel
set_option maxRecDepth 100000 in
theorem f_110_10 : xft 110 10 = some (.iload_n 1) := by decide +kernel
set_option maxRecDepth 100000 in
theorem f_110_11 : xft 110 11 = some (.iaload) := by decide +kernel
set_option maxRecDepth 100000 in
theorem f_110_12 : xft 110 12 = some (.imul) := by decide +kernel
set_option maxRecDepth 100000 in
theorem f_110_13 : xft 110 13 = some (.if_icmp .gt 23) := by decide +kernel
set_option maxRecDepth 100000 in
theorem f_110_16 : xft 110 16 = some (.iload_n 2) := by decide +kernel
set_option maxRecDepth 100000 in
theorem f_110_17 : xft 110 17 = some (.aload_n 0) := by decide +kernel
set_option maxRecDepth 100000 in
theorem f_110_18 : xft 110 18 = some (.getfield 32) := by decide +kernel
set_option maxRecDepth 100000 in
theorem f_110_21 : xft 110 21 = some (.iload_n 1) := by decide +kernel
set_option maxRecDepth 100000 in
theorem f_110_22 : xft 110 22 = some (.laload) := by decide +kernel
set_option maxRecDepth 100000 in
theorem f_110_23 : xft 110 23 = some (.iload_n 3) := by decide +kernel
set_option maxRecDepth 100000 in
theorem f_110_24 : xft 110 24 = some (.lshr) := by decide +kernel
set_option maxRecDepth 100000 in
theorem f_110_25 : xft 110 25 = some (.lconst 1) := by decide +kernel
set_option maxRecDepth 100000 in
theorem f_110_26 : xft 110 26 = some (.land) := by decide +kernel
set_option maxRecDepth 100000 in
theorem f_110_27 : xft 110 27 = some (.l2i) := by decide +kernel
set_option maxRecDepth 100000 in
theorem f_110_28 : xft 110 28 = some (.iadd) := by decide +kernel
set_option maxRecDepth 100000 in
theorem f_110_29 : xft 110 29 = some (.istore_n 2) := by decide +kernel
set_option maxRecDepth 100000 in
theorem f_110_30 : xft 110 30 = some (.iinc 3 1) := by decide +kernel
set_option maxRecDepth 100000 in
theorem f_110_33 : xft 110 33 = some (.goto (-29)) := by decide +kernel
set_option maxRecDepth 100000 in
theorem f_110_36 : xft 110 36 = some (.iload_n 2) := by decide +kernel
set_option maxRecDepth 100000 in
theorem f_110_37 : xft 110 37 = some (.ireturn) := by decide +kernel
set_option maxRecDepth 100000 in
theorem f_111_0 : xft 111 0 = some (.aload_n 0) := by decide +kernel
set_option maxRecDepth 100000 in
theorem f_111_1 : xft 111 1 = some (.iload_n 1) := by decide +kernel
set_option maxRecDepth 100000 in
theorem f_111_2 : xft 111 2 = some (.invokevirtual 123) := by decide +kernel
set_option maxRecDepth 100000 in
theorem f_111_5 : xft 111 5 = some (.ifCond .eq 15) := by decide +kernel
set_option maxRecDepth 100000 in
theorem f_111_8 : xft 111 8 = some (.aload_n 0) := by decide +kernel
set_option maxRecDepth 100000 in
theorem f_111_9 : xft 111 9 = some (.iload_n 2) := by decide +kernel
set_option maxRecDepth 100000 in
theorem f_111_10 : xft 111 10 = some (.invokevirtual 123) := by decide +kernel
set_option maxRecDepth 100000 in
theorem f_111_13 : xft 111 13 = some (.ifCond .eq 7) := by decide +kernel
set_option maxRecDepth 100000 in
theorem f_111_16 : xft 111 16 = some (.iconst 1) := by decide +kernel
set_option maxRecDepth 100000 in
theorem f_111_17 : xft 111 17 = some (.goto 4) := by decide +kernel
set_option maxRecDepth 100000 in
theorem f_111_20 : xft 111 20 = some (.iconst 0) := by decide +kernel
set_option maxRecDepth 100000 in
theorem f_111_21 : xft 111 21 = some (.istore_n 3) := by decide +kernel
set_option maxRecDepth 100000 in
theorem f_111_22 : xft 111 22 = some (.aload_n 0) := by decide +kernel
set_option maxRecDepth 100000 in
theorem f_111_23 : xft 111 23 = some (.iload_n 3) := by decide +kernel
set_option maxRecDepth 100000 in
theorem f_111_24 : xft 111 24 = some (.ifCond .eq 7) := by decide +kernel
set_option maxRecDepth 100000 in
theorem f_111_27 : xft 111 27 = some (.iconst 0) := by decide +kernel
set_option maxRecDepth 100000 in
theorem f_111_28 : xft 111 28 = some (.goto 4) := by decide +kernel
set_option maxRecDepth 100000 in
theorem f_111_31 : xft 111 31 = some (.iconst 1) := by decide +kernel
set_option maxRecDepth 100000 in
theorem f_111_32 : xft 111 32 = some (.invokevirtual 98) := by decide +kernel
set_option maxRecDepth 100000 in
theorem f_111_35 : xft 111 35 = some (.ifCond .ne 82) := by decide +kernel
set_option maxRecDepth 100000 in
theorem f_111_38 : xft 111 38 = some (.aload_n 0) := by decide +kernel
set_option maxRecDepth 100000 in
theorem f_111_39 : xft 111 39 = some (.getfield 28) := by decide +kernel
set_option maxRecDepth 100000 in
theorem f_111_42 : xft 111 42 = some (.iload_n 1) := by decide +kernel
set_option maxRecDepth 100000 in
theorem f_111_43 : xft 111 43 = some (.baload) := by decide +kernel
set_option maxRecDepth 100000 in
theorem f_111_44 : xft 111 44 = some (.aload_n 0) := by decide +kernel
set_option maxRecDepth 100000 in
theorem f_111_45 : xft 111 45 = some (.getfield 28) := by decide +kernel
set_option maxRecDepth 100000 in
theorem f_111_48 : xft 111 48 = some (.iload_n 2) := by decide +kernel
set_option maxRecDepth 100000 in
theorem f_111_49 : xft 111 49 = some (.baload) := by decide +kernel
set_option maxRecDepth 100000 in
theorem f_111_50 : xft 111 50 = some (.if_icmp .ne 67) := by decide +kernel
set_option maxRecDepth 100000 in
theorem f_111_53 : xft 111 53 = some (.aload_n 0) := by decide +kernel
set_option maxRecDepth 100000 in
theorem f_111_54 : xft 111 54 = some (.getfield 16) := by decide +kernel
set_option maxRecDepth 100000 in
theorem f_111_57 : xft 111 57 = some (.iload_n 1) := by decide +kernel
set_option maxRecDepth 100000 in
theorem f_111_58 : xft 111 58 = some (.iaload) := by decide +kernel
set_option maxRecDepth 100000 in
theorem f_111_59 : xft 111 59 = some (.aload_n 0) := by decide +kernel
set_option maxRecDepth 100000 in
theorem f_111_60 : xft 111 60 = some (.getfield 16) := by decide +kernel
set_option maxRecDepth 100000 in
theorem f_111_63 : xft 111 63 = some (.iload_n 2) := by decide +kernel
set_option maxRecDepth 100000 in
theorem f_111_64 : xft 111 64 = some (.iaload) := by decide +kernel
set_option maxRecDepth 100000 in
theorem f_111_65 : xft 111 65 = some (.if_icmp .ne 52) := by decide +kernel
set_option maxRecDepth 100000 in
theorem f_111_68 : xft 111 68 = some (.aload_n 0) := by decide +kernel
set_option maxRecDepth 100000 in
theorem f_111_69 : xft 111 69 = some (.getfield 19) := by decide +kernel
set_option maxRecDepth 100000 in
theorem f_111_72 : xft 111 72 = some (.iload_n 1) := by decide +kernel
set_option maxRecDepth 100000 in
theorem f_111_73 : xft 111 73 = some (.iaload) := by decide +kernel
set_option maxRecDepth 100000 in
theorem f_111_74 : xft 111 74 = some (.aload_n 0) := by decide +kernel
set_option maxRecDepth 100000 in
theorem f_111_75 : xft 111 75 = some (.getfield 19) := by decide +kernel
set_option maxRecDepth 100000 in
theorem f_111_78 : xft 111 78 = some (.iload_n 2) := by decide +kernel
set_option maxRecDepth 100000 in
theorem f_111_79 : xft 111 79 = some (.iaload) := by decide +kernel
set_option maxRecDepth 100000 in
theorem f_111_80 : xft 111 80 = some (.if_icmp .ne 37) := by decide +kernel
set_option maxRecDepth 100000 in
theorem f_111_83 : xft 111 83 = some (.aload_n 0) := by decide +kernel
set_option maxRecDepth 100000 in
theorem f_111_84 : xft 111 84 = some (.getfield 22) := by decide +kernel
set_option maxRecDepth 100000 in
theorem f_111_87 : xft 111 87 = some (.iload_n 1) := by decide +kernel
set_option maxRecDepth 100000 in
theorem f_111_88 : xft 111 88 = some (.iaload) := by decide +kernel
set_option maxRecDepth 100000 in
theorem f_111_89 : xft 111 89 = some (.aload_n 0) := by decide +kernel
set_option maxRecDepth 100000 in
theorem f_111_90 : xft 111 90 = some (.getfield 22) := by decide +kernel
set_option maxRecDepth 100000 in
theorem f_111_93 : xft 111 93 = some (.iload_n 2) := by decide +kernel
set_option maxRecDepth 100000 in
theorem f_111_94 : xft 111 94 = some (.iaload) := by decide +kernel
set_option maxRecDepth 100000 in
theorem f_111_95 : xft 111 95 = some (.if_icmp .ne 22) := by decide +kernel
set_option maxRecDepth 100000 in
theorem f_111_98 : xft 111 98 = some (.aload_n 0) := by decide +kernel
set_option maxRecDepth 100000 in
theorem f_111_99 : xft 111 99 = some (.getfield 25) := by decide +kernel
set_option maxRecDepth 100000 in
theorem f_111_102 : xft 111 102 = some (.iload_n 1) := by decide +kernel
set_option maxRecDepth 100000 in
theorem f_111_103 : xft 111 103 = some (.iaload) := by decide +kernel
set_option maxRecDepth 100000 in
theorem f_111_104 : xft 111 104 = some (.aload_n 0) := by decide +kernel
set_option maxRecDepth 100000 in
theorem f_111_105 : xft 111 105 = some (.getfield 25) := by decide +kernel
set_option maxRecDepth 100000 in
theorem f_111_108 : xft 111 108 = some (.iload_n 2) := by decide +kernel
set_option maxRecDepth 100000 in
theorem f_111_109 : xft 111 109 = some (.iaload) := by decide +kernel
set_option maxRecDepth 100000 in
theorem f_111_110 : xft 111 110 = some (.if_icmp .ne 7) := by decide +kernel
set_option maxRecDepth 100000 in
theorem f_111_113 : xft 111 113 = some (.iconst 1) := by decide +kernel
set_option maxRecDepth 100000 in
theorem f_111_114 : xft 111 114 = some (.goto 4) := by decide +kernel
set_option maxRecDepth 100000 in
theorem f_111_117 : xft 111 117 = some (.iconst 0) := by decide +kernel
set_option maxRecDepth 100000 in
theorem f_111_118 : xft 111 118 = some (.ireturn) := by decide +kernel
set_option maxRecDepth 100000 in
theorem f_112_0 : xft 112 0 = some (.bipush 10) := by decide +kernel
set_option maxRecDepth 100000 in
theorem f_112_2 : xft 112 2 = some (.aload_n 0) := by decide +kernel
set_option maxRecDepth 100000 in
theorem f_112_3 : xft 112 3 = some (.getfield 19) := by decide +kernel
set_option maxRecDepth 100000 in
theorem f_112_6 : xft 112 6 = some (.iload_n 1) := by decide +kernel
set_option maxRecDepth 100000 in
theorem f_112_7 : xft 112 7 = some (.iaload) := by decide +kernel
set_option maxRecDepth 100000 in
theorem f_112_8 : xft 112 8 = some (.imul) := by decide +kernel
set_option maxRecDepth 100000 in
theorem f_112_9 : xft 112 9 = some (.aload_n 0) := by decide +kernel
set_option maxRecDepth 100000 in
theorem f_112_10 : xft 112 10 = some (.getfield 22) := by decide +kernel
set_option maxRecDepth 100000 in
theorem f_112_13 : xft 112 13 = some (.iload_n 1) := by decide +kernel
set_option maxRecDepth 100000 in
theorem f_112_14 : xft 112 14 = some (.iaload) := by decide +kernel
set_option maxRecDepth 100000 in
theorem f_112_15 : xft 112 15 = some (.imul) := by decide +kernel
set_option maxRecDepth 100000 in
theorem f_112_16 : xft 112 16 = some (.istore_n 2) := by decide +kernel
set_option maxRecDepth 100000 in
theorem f_112_17 : xft 112 17 = some (.aload_n 0) := by decide +kernel
set_option maxRecDepth 100000 in
theorem f_112_18 : xft 112 18 = some (.getfield 32) := by decide +kernel
set_option maxRecDepth 100000 in
theorem f_112_21 : xft 112 21 = some (.iload_n 1) := by decide +kernel
set_option maxRecDepth 100000 in
theorem f_112_22 : xft 112 22 = some (.laload) := by decide +kernel
set_option maxRecDepth 100000 in
theorem f_112_23 : xft 112 23 = some (.lconst 0) := by decide +kernel
set_option maxRecDepth 100000 in
theorem f_112_24 : xft 112 24 = some (.lcmp) := by decide +kernel
set_option maxRecDepth 100000 in
theorem f_112_25 : xft 112 25 = some (.ifCond .ne 7) := by decide +kernel
set_option maxRecDepth 100000 in
theorem f_112_28 : xft 112 28 = some (.iload_n 2) := by decide +kernel
set_option maxRecDepth 100000 in
theorem f_112_29 : xft 112 29 = some (.goto 8) := by decide +kernel
set_option maxRecDepth 100000 in
theorem f_112_32 : xft 112 32 = some (.iconst 3) := by decide +kernel
set_option maxRecDepth 100000 in
theorem f_112_33 : xft 112 33 = some (.iload_n 2) := by decide +kernel
set_option maxRecDepth 100000 in
theorem f_112_34 : xft 112 34 = some (.imul) := by decide +kernel
set_option maxRecDepth 100000 in
theorem f_112_35 : xft 112 35 = some (.iconst 4) := by decide +kernel
set_option maxRecDepth 100000 in
theorem f_112_36 : xft 112 36 = some (.idiv) := by decide +kernel
set_option maxRecDepth 100000 in
theorem f_112_37 : xft 112 37 = some (.aload_n 0) := by decide +kernel
set_option maxRecDepth 100000 in
theorem f_112_38 : xft 112 38 = some (.getfield 36) := by decide +kernel
set_option maxRecDepth 100000 in
theorem f_112_41 : xft 112 41 = some (.iload_n 1) := by decide +kernel
set_option maxRecDepth 100000 in
theorem f_112_42 : xft 112 42 = some (.iaload) := by decide +kernel
set_option maxRecDepth 100000 in
theorem f_112_43 : xft 112 43 = some (.isub) := by decide +kernel
set_option maxRecDepth 100000 in
theorem f_112_44 : xft 112 44 = some (.istore_n 2) := by decide +kernel
set_option maxRecDepth 100000 in
theorem f_112_45 : xft 112 45 = some (.iload_n 2) := by decide +kernel
set_option maxRecDepth 100000 in
theorem f_112_46 : xft 112 46 = some (.ifCond .ge 7) := by decide +kernel
set_option maxRecDepth 100000 in
theorem f_112_49 : xft 112 49 = some (.iconst 0) := by decide +kernel
set_option maxRecDepth 100000 in
theorem f_112_50 : xft 112 50 = some (.goto 4) := by decide +kernel
set_option maxRecDepth 100000 in
theorem f_112_53 : xft 112 53 = some (.iload_n 2) := by decide +kernel
set_option maxRecDepth 100000 in
theorem f_112_54 : xft 112 54 = some (.ireturn) := by decide +kernel
set_option maxRecDepth 100000 in
theorem f_113_0 : xft 113 0 = some (.aload_n 0) := by decide +kernel
set_option maxRecDepth 100000 in
theorem f_113_1 : xft 113 1 = some (.aload_n 0) := by decide +kernel
set_option maxRecDepth 100000 in
theorem f_113_2 : xft 113 2 = some (.iload_n 1) := by decide +kernel
set_option maxRecDepth 100000 in
theorem f_113_3 : xft 113 3 = some (.invokevirtual 123) := by decide +kernel
set_option maxRecDepth 100000 in
theorem f_113_6 : xft 113 6 = some (.ifCond .ne 7) := by decide +kernel
set_option maxRecDepth 100000 in
theorem f_113_9 : xft 113 9 = some (.iconst 1) := by decide +kernel
set_option maxRecDepth 100000 in
theorem f_113_10 : xft 113 10 = some (.goto 18) := by decide +kernel
set_option maxRecDepth 100000 in
theorem f_113_13 : xft 113 13 = some (.iload_n 2) := by decide +kernel
set_option maxRecDepth 100000 in
theorem f_113_14 : xft 113 14 = some (.iconst 0) := by decide +kernel
set_option maxRecDepth 100000 in
theorem f_113_15 : xft 113 15 = some (.bipush 10) := by decide +kernel
set_option maxRecDepth 100000 in
theorem f_113_17 : xft 113 17 = some (.invokestatic 91) := by decide +kernel
set_option maxRecDepth 100000 in
theorem f_113_20 : xft 113 20 = some (.ifCond .eq 7) := by decide +kernel
set_option maxRecDepth 100000 in
theorem f_113_23 : xft 113 23 = some (.iconst 0) := by decide +kernel
set_option maxRecDepth 100000 in
theorem f_113_24 : xft 113 24 = some (.goto 4) := by decide +kernel
set_option maxRecDepth 100000 in
theorem f_113_27 : xft 113 27 = some (.iconst 2) := by decide +kernel
set_option maxRecDepth 100000 in
theorem f_113_28 : xft 113 28 = some (.invokevirtual 98) := by decide +kernel
set_option maxRecDepth 100000 in
theorem f_113_31 : xft 113 31 = some (.ifCond .eq 5) := by decide +kernel
set_option maxRecDepth 100000 in
theorem f_113_34 : xft 113 34 = some (.iconst 0) := by decide +kernel
set_option maxRecDepth 100000 in
theorem f_113_35 : xft 113 35 = some (.ireturn) := by decide +kernel
set_option maxRecDepth 100000 in
theorem f_113_36 : xft 113 36 = some (.iload_n 2) := by decide +kernel
set_option maxRecDepth 100000 in
theorem f_113_37 : xft 113 37 = some (.tableswitch 171 0 9 #[55, 62, 69, 76, 83, 89, 96, 102, 133, 164]) := by decide +kernel
set_option maxRecDepth 100000 in
theorem f_113_92 : xft 113 92 = some (.aload_n 0) := by decide +kernel
set_option maxRecDepth 100000 in
theorem f_113_93 : xft 113 93 = some (.getfield 16) := by decide +kernel
set_option maxRecDepth 100000 in
theorem f_113_96 : xft 113 96 = some (.iload_n 1) := by decide +kernel
set_option maxRecDepth 100000 in
theorem f_113_97 : xft 113 97 = some (.iaload) := by decide +kernel
set_option maxRecDepth 100000 in
theorem f_113_98 : xft 113 98 = some (.ireturn) := by decide +kernel
set_option maxRecDepth 100000 in
theorem f_113_99 : xft 113 99 = some (.aload_n 0) := by decide +kernel
set_option maxRecDepth 100000 in
theorem f_113_100 : xft 113 100 = some (.getfield 19) := by decide +kernel
set_option maxRecDepth 100000 in
theorem f_113_103 : xft 113 103 = some (.iload_n 1) := by decide +kernel
set_option maxRecDepth 100000 in
theorem f_113_104 : xft 113 104 = some (.iaload) := by decide +kernel
set_option maxRecDepth 100000 in
theorem f_113_105 : xft 113 105 = some (.ireturn) := by decide +kernel
set_option maxRecDepth 100000 in
theorem f_113_106 : xft 113 106 = some (.aload_n 0) := by decide +kernel
set_option maxRecDepth 100000 in
theorem f_113_107 : xft 113 107 = some (.getfield 22) := by decide +kernel
set_option maxRecDepth 100000 in
theorem f_113_110 : xft 113 110 = some (.iload_n 1) := by decide +kernel
set_option maxRecDepth 100000 in
theorem f_113_111 : xft 113 111 = some (.iaload) := by decide +kernel
set_option maxRecDepth 100000 in
theorem f_113_112 : xft 113 112 = some (.ireturn) := by decide +kernel
set_option maxRecDepth 100000 in
theorem f_113_113 : xft 113 113 = some (.aload_n 0) := by decide +kernel
set_option maxRecDepth 100000 in
theorem f_113_114 : xft 113 114 = some (.getfield 25) := by decide +kernel
set_option maxRecDepth 100000 in
theorem f_113_117 : xft 113 117 = some (.iload_n 1) := by decide +kernel
set_option maxRecDepth 100000 in
theorem f_113_118 : xft 113 118 = some (.iaload) := by decide +kernel
set_option maxRecDepth 100000 in
theorem f_113_119 : xft 113 119 = some (.ireturn) := by decide +kernel
set_option maxRecDepth 100000 in
theorem f_113_120 : xft 113 120 = some (.aload_n 0) := by decide +kernel
set_option maxRecDepth 100000 in
theorem f_113_121 : xft 113 121 = some (.iload_n 1) := by decide +kernel
set_option maxRecDepth 100000 in
theorem f_113_122 : xft 113 122 = some (.invokevirtual 131) := by decide +kernel
set_option maxRecDepth 100000 in
theorem f_113_125 : xft 113 125 = some (.ireturn) := by decide +kernel
set_option maxRecDepth 100000 in
theorem f_113_126 : xft 113 126 = some (.aload_n 0) := by decide +kernel
set_option maxRecDepth 100000 in
theorem f_113_127 : xft 113 127 = some (.getfield 36) := by decide +kernel
set_option maxRecDepth 100000 in
theorem f_113_130 : xft 113 130 = some (.iload_n 1) := by decide +kernel
set_option maxRecDepth 100000 in
theorem f_113_131 : xft 113 131 = some (.iaload) := by decide +kernel
set_option maxRecDepth 100000 in
theorem f_113_132 : xft 113 132 = some (.ireturn) := by decide +kernel
set_option maxRecDepth 100000 in
theorem f_113_133 : xft 113 133 = some (.aload_n 0) := by decide +kernel
set_option maxRecDepth 100000 in
theorem f_113_134 : xft 113 134 = some (.iload_n 1) := by decide +kernel
set_option maxRecDepth 100000 in
theorem f_113_135 : xft 113 135 = some (.invokevirtual 135) := by decide +kernel
set_option maxRecDepth 100000 in
theorem f_113_138 : xft 113 138 = some (.ireturn) := by decide +kernel
set_option maxRecDepth 100000 in
theorem f_113_139 : xft 113 139 = some (.aload_n 0) := by decide +kernel
set_option maxRecDepth 100000 in
theorem f_113_140 : xft 113 140 = some (.getfield 45) := by decide +kernel
set_option maxRecDepth 100000 in
theorem f_113_143 : xft 113 143 = some (.iload_n 1) := by decide +kernel
set_option maxRecDepth 100000 in
theorem f_113_144 : xft 113 144 = some (.iaload) := by decide +kernel
set_option maxRecDepth 100000 in
theorem f_113_145 : xft 113 145 = some (.aload_n 0) := by decide +kernel
set_option maxRecDepth 100000 in
theorem f_113_146 : xft 113 146 = some (.getfield 48) := by decide +kernel
set_option maxRecDepth 100000 in
theorem f_113_149 : xft 113 149 = some (.iload_n 1) := by decide +kernel
set_option maxRecDepth 100000 in
theorem f_113_150 : xft 113 150 = some (.iaload) := by decide +kernel
set_option maxRecDepth 100000 in
theorem f_113_151 : xft 113 151 = some (.if_icmp .ge 12) := by decide +kernel
set_option maxRecDepth 100000 in
theorem f_113_154 : xft 113 154 = some (.aload_n 0) := by decide +kernel
set_option maxRecDepth 100000 in
theorem f_113_155 : xft 113 155 = some (.getfield 45) := by decide +kernel
set_option maxRecDepth 100000 in
theorem f_113_158 : xft 113 158 = some (.iload_n 1) := by decide +kernel
set_option maxRecDepth 100000 in
theorem f_113_159 : xft 113 159 = some (.iaload) := by decide +kernel
set_option maxRecDepth 100000 in
theorem f_113_160 : xft 113 160 = some (.goto 9) := by decide +kernel
set_option maxRecDepth 100000 in
theorem f_113_163 : xft 113 163 = some (.aload_n 0) := by decide +kernel
set_option maxRecDepth 100000 in
theorem f_113_164 : xft 113 164 = some (.getfield 48) := by decide +kernel
set_option maxRecDepth 100000 in
theorem f_113_167 : xft 113 167 = some (.iload_n 1) := by decide +kernel
set_option maxRecDepth 100000 in
theorem f_113_168 : xft 113 168 = some (.iaload) := by decide +kernel
set_option maxRecDepth 100000 in
theorem f_113_169 : xft 113 169 = some (.ireturn) := by decide +kernel
set_option maxRecDepth 100000 in
theorem f_113_170 : xft 113 170 = some (.aload_n 0) := by decide +kernel
set_option maxRecDepth 100000 in
theorem f_113_171 : xft 113 171 = some (.getfield 45) := by decide +kernel
set_option maxRecDepth 100000 in
theorem f_113_174 : xft 113 174 = some (.iload_n 1) := by decide +kernel
set_option maxRecDepth 100000 in
theorem f_113_175 : xft 113 175 = some (.iaload) := by decide +kernel
set_option maxRecDepth 100000 in
theorem f_113_176 : xft 113 176 = some (.aload_n 0) := by decide +kernel
set_option maxRecDepth 100000 in
theorem f_113_177 : xft 113 177 = some (.getfield 48) := by decide +kernel
set_option maxRecDepth 100000 in
theorem f_113_180 : xft 113 180 = some (.iload_n 1) := by decide +kernel
set_option maxRecDepth 100000 in
theorem f_113_181 : xft 113 181 = some (.iaload) := by decide +kernel
set_option maxRecDepth 100000 in
theorem f_113_182 : xft 113 182 = some (.if_icmp .ge 12) := by decide +kernel
set_option maxRecDepth 100000 in
theorem f_113_185 : xft 113 185 = some (.aload_n 0) := by decide +kernel
set_option maxRecDepth 100000 in
theorem f_113_186 : xft 113 186 = some (.getfield 48) := by decide +kernel
set_option maxRecDepth 100000 in
theorem f_113_189 : xft 113 189 = some (.iload_n 1) := by decide +kernel
set_option maxRecDepth 100000 in
theorem f_113_190 : xft 113 190 = some (.iaload) := by decide +kernel
set_option maxRecDepth 100000 in
theorem f_113_191 : xft 113 191 = some (.goto 9) := by decide +kernel
set_option maxRecDepth 100000 in
theorem f_113_194 : xft 113 194 = some (.aload_n 0) := by decide +kernel
set_option maxRecDepth 100000 in
theorem f_113_195 : xft 113 195 = some (.getfield 45) := by decide +kernel
set_option maxRecDepth 100000 in
theorem f_113_198 : xft 113 198 = some (.iload_n 1) := by decide +kernel
set_option maxRecDepth 100000 in
theorem f_113_199 : xft 113 199 = some (.iaload) := by decide +kernel
set_option maxRecDepth 100000 in
theorem f_113_200 : xft 113 200 = some (.ireturn) := by decide +kernel
set_option maxRecDepth 100000 in
theorem f_113_201 : xft 113 201 = some (.aload_n 0) := by decide +kernel
set_option maxRecDepth 100000 in
theorem f_113_202 : xft 113 202 = some (.getfield 51) := by decide +kernel
set_option maxRecDepth 100000 in
theorem f_113_205 : xft 113 205 = some (.iload_n 1) := by decide +kernel
set_option maxRecDepth 100000 in
theorem f_113_206 : xft 113 206 = some (.iaload) := by decide +kernel
set_option maxRecDepth 100000 in
theorem f_113_207 : xft 113 207 = some (.ireturn) := by decide +kernel
set_option maxRecDepth 100000 in
theorem f_113_208 : xft 113 208 = some (.aload_n 0) := by decide +kernel
set_option maxRecDepth 100000 in
theorem f_113_209 : xft 113 209 = some (.getfield 42) := by decide +kernel
set_option maxRecDepth 100000 in
theorem f_113_212 : xft 113 212 = some (.iload_n 1) := by decide +kernel
set_option maxRecDepth 100000 in
theorem f_113_213 : xft 113 213 = some (.baload) := by decide +kernel
set_option maxRecDepth 100000 in
theorem f_113_214 : xft 113 214 = some (.ifCond .eq 7) := by decide +kernel
set_option maxRecDepth 100000 in
theorem f_113_217 : xft 113 217 = some (.iconst 1) := by decide +kernel
set_option maxRecDepth 100000 in
theorem f_113_218 : xft 113 218 = some (.goto 4) := by decide +kernel
set_option maxRecDepth 100000 in
theorem f_113_221 : xft 113 221 = some (.iconst 0) := by decide +kernel
set_option maxRecDepth 100000 in
theorem f_113_222 : xft 113 222 = some (.ireturn) := by decide +kernel
set_option maxRecDepth 100000 in
theorem f_114_0 : xft 114 0 = some (.iload_n 2) := by decide +kernel
set_option maxRecDepth 100000 in
theorem f_114_1 : xft 114 1 = some (.istore_n 3) := by decide +kernel
set_option maxRecDepth 100000 in
theorem f_114_2 : xft 114 2 = some (.iconst 0) := by decide +kernel
set_option maxRecDepth 100000 in
theorem f_114_3 : xft 114 3 = some (.istore 4) := by decide +kernel
set_option maxRecDepth 100000 in
theorem f_114_5 : xft 114 5 = some (.iload 4) := by decide +kernel
set_option maxRecDepth 100000 in
theorem f_114_7 : xft 114 7 = some (.iconst 4) := by decide +kernel
set_option maxRecDepth 100000 in
theorem f_114_8 : xft 114 8 = some (.aload_n 0) := by decide +kernel
set_option maxRecDepth 100000 in
theorem f_114_9 : xft 114 9 = some (.getfield 16) := by decide +kernel
set_option maxRecDepth 100000 in
theorem f_114_12 : xft 114 12 = some (.iload_n 1) := by decide +kernel
set_option maxRecDepth 100000 in
theorem f_114_13 : xft 114 13 = some (.iaload) := by decide +kernel
set_option maxRecDepth 100000 in
theorem f_114_14 : xft 114 14 = some (.imul) := by decide +kernel
set_option maxRecDepth 100000 in
theorem f_114_15 : xft 114 15 = some (.if_icmp .gt 57) := by decide +kernel
set_option maxRecDepth 100000 in
theorem f_114_18 : xft 114 18 = some (.aload_n 0) := by decide +kernel
set_option maxRecDepth 100000 in
theorem f_114_19 : xft 114 19 = some (.getfield 32) := by decide +kernel
set_option maxRecDepth 100000 in
theorem f_114_22 : xft 114 22 = some (.iload_n 1) := by decide +kernel
set_option maxRecDepth 100000 in
theorem f_114_23 : xft 114 23 = some (.laload) := by decide +kernel
set_option maxRecDepth 100000 in
theorem f_114_24 : xft 114 24 = some (.iload 4) := by decide +kernel
set_option maxRecDepth 100000 in
theorem f_114_26 : xft 114 26 = some (.lshr) := by decide +kernel
set_option maxRecDepth 100000 in
theorem f_114_27 : xft 114 27 = some (.lconst 1) := by decide +kernel
set_option maxRecDepth 100000 in
theorem f_114_28 : xft 114 28 = some (.land) := by decide +kernel
set_option maxRecDepth 100000 in
theorem f_114_29 : xft 114 29 = some (.lconst 1) := by decide +kernel
set_option maxRecDepth 100000 in
theorem f_114_30 : xft 114 30 = some (.lcmp) := by decide +kernel
set_option maxRecDepth 100000 in
theorem f_114_31 : xft 114 31 = some (.ifCond .ne 7) := by decide +kernel
set_option maxRecDepth 100000 in
theorem f_114_34 : xft 114 34 = some (.iconst 1) := by decide +kernel
set_option maxRecDepth 100000 in
theorem f_114_35 : xft 114 35 = some (.goto 4) := by decide +kernel
set_option maxRecDepth 100000 in
theorem f_114_38 : xft 114 38 = some (.iconst 0) := by decide +kernel
set_option maxRecDepth 100000 in
theorem f_114_39 : xft 114 39 = some (.istore 5) := by decide +kernel
set_option maxRecDepth 100000 in
theorem f_114_41 : xft 114 41 = some (.iload 5) := by decide +kernel
set_option maxRecDepth 100000 in
theorem f_114_43 : xft 114 43 = some (.ifCond .eq 10) := by decide +kernel
set_option maxRecDepth 100000 in
theorem f_114_46 : xft 114 46 = some (.iload_n 3) := by decide +kernel
set_option maxRecDepth 100000 in
theorem f_114_47 : xft 114 47 = some (.ifCond .ne 6) := by decide +kernel
set_option maxRecDepth 100000 in
theorem f_114_50 : xft 114 50 = some (.iload 4) := by decide +kernel
set_option maxRecDepth 100000 in
theorem f_114_52 : xft 114 52 = some (.ireturn) := by decide +kernel
set_option maxRecDepth 100000 in
theorem f_114_53 : xft 114 53 = some (.iload_n 3) := by decide +kernel
set_option maxRecDepth 100000 in
theorem f_114_54 : xft 114 54 = some (.iload 5) := by decide +kernel
set_option maxRecDepth 100000 in
theorem f_114_56 : xft 114 56 = some (.ifCond .eq 7) := by decide +kernel
set_option maxRecDepth 100000 in
theorem f_114_59 : xft 114 59 = some (.iconst 1) := by decide +kernel
set_option maxRecDepth 100000 in
theorem f_114_60 : xft 114 60 = some (.goto 4) := by decide +kernel
set_option maxRecDepth 100000 in
theorem f_114_63 : xft 114 63 = some (.iconst 0) := by decide +kernel
set_option maxRecDepth 100000 in
theorem f_114_64 : xft 114 64 = some (.isub) := by decide +kernel
set_option maxRecDepth 100000 in
theorem f_114_65 : xft 114 65 = some (.istore_n 3) := by decide +kernel
set_option maxRecDepth 100000 in
theorem f_114_66 : xft 114 66 = some (.iinc 4 1) := by decide +kernel
set_option maxRecDepth 100000 in
theorem f_114_69 : xft 114 69 = some (.goto (-64)) := by decide +kernel
set_option maxRecDepth 100000 in
theorem f_114_72 : xft 114 72 = some (.iconst (-1)) := by decide +kernel
set_option maxRecDepth 100000 in
theorem f_114_73 : xft 114 73 = some (.ireturn) := by decide +kernel
set_option maxRecDepth 100000 in
theorem f_115_0 : xft 115 0 = some (.aload_n 0) := by decide +kernel
set_option maxRecDepth 100000 in
theorem f_115_1 : xft 115 1 = some (.getfield 45) := by decide +kernel
set_option maxRecDepth 100000 in
theorem f_115_4 : xft 115 4 = some (.iload_n 1) := by decide +kernel
set_option maxRecDepth 100000 in
theorem f_115_5 : xft 115 5 = some (.iconst (-1)) := by decide +kernel
set_option maxRecDepth 100000 in
theorem f_115_6 : xft 115 6 = some (.iastore) := by decide +kernel
set_option maxRecDepth 100000 in
theorem f_115_7 : xft 115 7 = some (.aload_n 0) := by decide +kernel
set_option maxRecDepth 100000 in
theorem f_115_8 : xft 115 8 = some (.getfield 48) := by decide +kernel
set_option maxRecDepth 100000 in
theorem f_115_11 : xft 115 11 = some (.iload_n 1) := by decide +kernel
set_option maxRecDepth 100000 in
theorem f_115_12 : xft 115 12 = some (.iconst (-1)) := by decide +kernel
set_option maxRecDepth 100000 in
theorem f_115_13 : xft 115 13 = some (.iastore) := by decide +kernel
set_option maxRecDepth 100000 in
theorem f_115_14 : xft 115 14 = some (.aload_n 0) := by decide +kernel
set_option maxRecDepth 100000 in
theorem f_115_15 : xft 115 15 = some (.getfield 51) := by decide +kernel
set_option maxRecDepth 100000 in
theorem f_115_18 : xft 115 18 = some (.iload_n 1) := by decide +kernel
set_option maxRecDepth 100000 in
theorem f_115_19 : xft 115 19 = some (.iconst (-1)) := by decide +kernel
set_option maxRecDepth 100000 in
theorem f_115_20 : xft 115 20 = some (.iastore) := by decide +kernel
set_option maxRecDepth 100000 in
theorem f_115_21 : xft 115 21 = some (.return_) := by decide +kernel
set_option maxRecDepth 100000 in
theorem f_116_0 : xft 116 0 = some (.aload_n 0) := by decide +kernel
set_option maxRecDepth 100000 in
theorem f_116_1 : xft 116 1 = some (.iload_n 1) := by decide +kernel
set_option maxRecDepth 100000 in
theorem f_116_2 : xft 116 2 = some (.invokevirtual 123) := by decide +kernel
set_option maxRecDepth 100000 in
theorem f_116_5 : xft 116 5 = some (.ifCond .eq 37) := by decide +kernel
set_option maxRecDepth 100000 in
theorem f_116_8 : xft 116 8 = some (.iload_n 2) := by decide +kernel
set_option maxRecDepth 100000 in
theorem f_116_9 : xft 116 9 = some (.invokestatic 138) := by decide +kernel
set_option maxRecDepth 100000 in
theorem f_116_12 : xft 116 12 = some (.ifCond .eq 30) := by decide +kernel
set_option maxRecDepth 100000 in
theorem f_116_15 : xft 116 15 = some (.iload_n 3) := by decide +kernel
set_option maxRecDepth 100000 in
theorem f_116_16 : xft 116 16 = some (.invokestatic 138) := by decide +kernel
set_option maxRecDepth 100000 in
theorem f_116_19 : xft 116 19 = some (.ifCond .eq 23) := by decide +kernel
set_option maxRecDepth 100000 in
theorem f_116_22 : xft 116 22 = some (.iload 4) := by decide +kernel
set_option maxRecDepth 100000 in
theorem f_116_24 : xft 116 24 = some (.ifCond .lt 18) := by decide +kernel
set_option maxRecDepth 100000 in
theorem f_116_27 : xft 116 27 = some (.aload_n 0) := by decide +kernel
set_option maxRecDepth 100000 in
theorem f_116_28 : xft 116 28 = some (.iload_n 1) := by decide +kernel
set_option maxRecDepth 100000 in
theorem f_116_29 : xft 116 29 = some (.iload 4) := by decide +kernel
set_option maxRecDepth 100000 in
theorem f_116_31 : xft 116 31 = some (.invokevirtual 141) := by decide +kernel
set_option maxRecDepth 100000 in
theorem f_116_34 : xft 116 34 = some (.iconst (-1)) := by decide +kernel
set_option maxRecDepth 100000 in
theorem f_116_35 : xft 116 35 = some (.if_icmp .eq 7) := by decide +kernel
set_option maxRecDepth 100000 in
theorem f_116_38 : xft 116 38 = some (.iconst 1) := by decide +kernel
set_option maxRecDepth 100000 in
theorem f_116_39 : xft 116 39 = some (.goto 4) := by decide +kernel
set_option maxRecDepth 100000 in
theorem f_116_42 : xft 116 42 = some (.iconst 0) := by decide +kernel
set_option maxRecDepth 100000 in
theorem f_116_43 : xft 116 43 = some (.istore 5) := by decide +kernel
set_option maxRecDepth 100000 in
theorem f_116_45 : xft 116 45 = some (.iload 5) := by decide +kernel
set_option maxRecDepth 100000 in
theorem f_116_47 : xft 116 47 = some (.ifCond .eq 33) := by decide +kernel
set_option maxRecDepth 100000 in
theorem f_116_50 : xft 116 50 = some (.aload_n 0) := by decide +kernel
set_option maxRecDepth 100000 in
theorem f_116_51 : xft 116 51 = some (.getfield 28) := by decide +kernel
set_option maxRecDepth 100000 in
theorem f_116_54 : xft 116 54 = some (.iload_n 1) := by decide +kernel
set_option maxRecDepth 100000 in
theorem f_116_55 : xft 116 55 = some (.baload) := by decide +kernel
set_option maxRecDepth 100000 in
theorem f_116_56 : xft 116 56 = some (.ifCond .eq 24) := by decide +kernel
set_option maxRecDepth 100000 in
theorem f_116_59 : xft 116 59 = some (.aload_n 0) := by decide +kernel
set_option maxRecDepth 100000 in
theorem f_116_60 : xft 116 60 = some (.iload_n 1) := by decide +kernel
set_option maxRecDepth 100000 in
theorem f_116_61 : xft 116 61 = some (.invokevirtual 128) := by decide +kernel
set_option maxRecDepth 100000 in
theorem f_116_64 : xft 116 64 = some (.ifCond .ne 16) := by decide +kernel
set_option maxRecDepth 100000 in
theorem f_116_67 : xft 116 67 = some (.aload_n 0) := by decide +kernel
set_option maxRecDepth 100000 in
theorem f_116_68 : xft 116 68 = some (.getfield 42) := by decide +kernel
set_option maxRecDepth 100000 in
theorem f_116_71 : xft 116 71 = some (.iload_n 1) := by decide +kernel
set_option maxRecDepth 100000 in
theorem f_116_72 : xft 116 72 = some (.baload) := by decide +kernel
set_option maxRecDepth 100000 in
theorem f_116_73 : xft 116 73 = some (.ifCond .ne 7) := by decide +kernel
set_option maxRecDepth 100000 in
theorem f_116_76 : xft 116 76 = some (.iconst 1) := by decide +kernel
set_option maxRecDepth 100000 in
theorem f_116_77 : xft 116 77 = some (.goto 4) := by decide +kernel
set_option maxRecDepth 100000 in
theorem f_116_80 : xft 116 80 = some (.iconst 0) := by decide +kernel
set_option maxRecDepth 100000 in
theorem f_116_81 : xft 116 81 = some (.istore 6) := by decide +kernel
set_option maxRecDepth 100000 in
theorem f_116_83 : xft 116 83 = some (.aload_n 0) := by decide +kernel
set_option maxRecDepth 100000 in
theorem f_116_84 : xft 116 84 = some (.iload 5) := by decide +kernel
set_option maxRecDepth 100000 in
theorem f_116_86 : xft 116 86 = some (.ifCond .ne 7) := by decide +kernel
set_option maxRecDepth 100000 in
theorem f_116_89 : xft 116 89 = some (.iconst 1) := by decide +kernel
set_option maxRecDepth 100000 in
theorem f_116_90 : xft 116 90 = some (.goto 22) := by decide +kernel
set_option maxRecDepth 100000 in
theorem f_116_93 : xft 116 93 = some (.iload_n 2) := by decide +kernel
set_option maxRecDepth 100000 in
theorem f_116_94 : xft 116 94 = some (.iload_n 3) := by decide +kernel
set_option maxRecDepth 100000 in
theorem f_116_95 : xft 116 95 = some (.if_icmp .ne 7) := by decide +kernel
set_option maxRecDepth 100000 in
theorem f_116_98 : xft 116 98 = some (.iconst 2) := by decide +kernel
set_option maxRecDepth 100000 in
theorem f_116_99 : xft 116 99 = some (.goto 13) := by decide +kernel
set_option maxRecDepth 100000 in
theorem f_116_102 : xft 116 102 = some (.iload 6) := by decide +kernel
set_option maxRecDepth 100000 in
theorem f_116_104 : xft 116 104 = some (.ifCond .eq 7) := by decide +kernel
set_option maxRecDepth 100000 in
theorem f_116_107 : xft 116 107 = some (.iconst 0) := by decide +kernel
set_option maxRecDepth 100000 in
theorem f_116_108 : xft 116 108 = some (.goto 4) := by decide +kernel
set_option maxRecDepth 100000 in
theorem f_116_111 : xft 116 111 = some (.iconst 3) := by decide +kernel
set_option maxRecDepth 100000 in
theorem f_116_112 : xft 116 112 = some (.invokevirtual 98) := by decide +kernel
set_option maxRecDepth 100000 in
theorem f_116_115 : xft 116 115 = some (.ifCond .eq 5) := by decide +kernel
set_option maxRecDepth 100000 in
theorem f_116_118 : xft 116 118 = some (.iconst 0) := by decide +kernel
set_option maxRecDepth 100000 in
theorem f_116_119 : xft 116 119 = some (.ireturn) := by decide +kernel
set_option maxRecDepth 100000 in
theorem f_116_120 : xft 116 120 = some (.aload_n 0) := by decide +kernel
set_option maxRecDepth 100000 in
theorem f_116_121 : xft 116 121 = some (.getfield 45) := by decide +kernel
set_option maxRecDepth 100000 in
theorem f_116_124 : xft 116 124 = some (.iload_n 1) := by decide +kernel
set_option maxRecDepth 100000 in
theorem f_116_125 : xft 116 125 = some (.iload_n 2) := by decide +kernel
set_option maxRecDepth 100000 in
theorem f_116_126 : xft 116 126 = some (.iastore) := by decide +kernel
set_option maxRecDepth 100000 in
theorem f_116_127 : xft 116 127 = some (.aload_n 0) := by decide +kernel
set_option maxRecDepth 100000 in
theorem f_116_128 : xft 116 128 = some (.getfield 48) := by decide +kernel
set_option maxRecDepth 100000 in
theorem f_116_131 : xft 116 131 = some (.iload_n 1) := by decide +kernel
set_option maxRecDepth 100000 in
theorem f_116_132 : xft 116 132 = some (.iload_n 3) := by decide +kernel
set_option maxRecDepth 100000 in
theorem f_116_133 : xft 116 133 = some (.iastore) := by decide +kernel
set_option maxRecDepth 100000 in
theorem f_116_134 : xft 116 134 = some (.aload_n 0) := by decide +kernel
set_option maxRecDepth 100000 in
theorem f_116_135 : xft 116 135 = some (.getfield 51) := by decide +kernel
set_option maxRecDepth 100000 in
theorem f_116_138 : xft 116 138 = some (.iload_n 1) := by decide +kernel
set_option maxRecDepth 100000 in
theorem f_116_139 : xft 116 139 = some (.aload_n 0) := by decide +kernel
set_option maxRecDepth 100000 in
theorem f_116_140 : xft 116 140 = some (.iload_n 1) := by decide +kernel
set_option maxRecDepth 100000 in
theorem f_116_141 : xft 116 141 = some (.iload 4) := by decide +kernel
set_option maxRecDepth 100000 in
theorem f_116_143 : xft 116 143 = some (.invokevirtual 141) := by decide +kernel
set_option maxRecDepth 100000 in
theorem f_116_146 : xft 116 146 = some (.iastore) := by decide +kernel
set_option maxRecDepth 100000 in
theorem f_116_147 : xft 116 147 = some (.aload_n 0) := by decide +kernel
set_option maxRecDepth 100000 in
theorem f_116_148 : xft 116 148 = some (.getfield 51) := by decide +kernel
set_option maxRecDepth 100000 in
theorem f_116_151 : xft 116 151 = some (.iload_n 1) := by decide +kernel
set_option maxRecDepth 100000 in
theorem f_116_152 : xft 116 152 = some (.iaload) := by decide +kernel
set_option maxRecDepth 100000 in
theorem f_116_153 : xft 116 153 = some (.ireturn) := by decide +kernel
set_option maxRecDepth 100000 in
theorem f_117_0 : xft 117 0 = some (.aload_n 0) := by decide +kernel
set_option maxRecDepth 100000 in
theorem f_117_1 : xft 117 1 = some (.aload_n 0) := by decide +kernel
set_option maxRecDepth 100000 in
theorem f_117_2 : xft 117 2 = some (.iload_n 1) := by decide +kernel
set_option maxRecDepth 100000 in
theorem f_117_3 : xft 117 3 = some (.invokevirtual 123) := by decide +kernel
set_option maxRecDepth 100000 in
theorem f_117_6 : xft 117 6 = some (.ifCond .ne 7) := by decide +kernel
set_option maxRecDepth 100000 in
theorem f_117_9 : xft 117 9 = some (.iconst 1) := by decide +kernel
set_option maxRecDepth 100000 in
theorem f_117_10 : xft 117 10 = some (.goto 16) := by decide +kernel
set_option maxRecDepth 100000 in
theorem f_117_13 : xft 117 13 = some (.aload_n 0) := by decide +kernel
set_option maxRecDepth 100000 in
theorem f_117_14 : xft 117 14 = some (.iload_n 1) := by decide +kernel
set_option maxRecDepth 100000 in
theorem f_117_15 : xft 117 15 = some (.invokevirtual 128) := by decide +kernel
set_option maxRecDepth 100000 in
theorem f_117_18 : xft 117 18 = some (.ifCond .eq 7) := by decide +kernel
set_option maxRecDepth 100000 in
theorem f_117_21 : xft 117 21 = some (.iconst 0) := by decide +kernel
set_option maxRecDepth 100000 in
theorem f_117_22 : xft 117 22 = some (.goto 4) := by decide +kernel
set_option maxRecDepth 100000 in
theorem f_117_25 : xft 117 25 = some (.iconst 2) := by decide +kernel
set_option maxRecDepth 100000 in
theorem f_117_26 : xft 117 26 = some (.invokevirtual 98) := by decide +kernel
set_option maxRecDepth 100000 in
theorem f_117_29 : xft 117 29 = some (.ifCond .eq 5) := by decide +kernel
set_option maxRecDepth 100000 in
theorem f_117_32 : xft 117 32 = some (.iconst 0) := by decide +kernel
set_option maxRecDepth 100000 in
theorem f_117_33 : xft 117 33 = some (.ireturn) := by decide +kernel
set_option maxRecDepth 100000 in
theorem f_117_34 : xft 117 34 = some (.aload_n 0) := by decide +kernel
set_option maxRecDepth 100000 in
theorem f_117_35 : xft 117 35 = some (.getfield 51) := by decide +kernel
set_option maxRecDepth 100000 in
theorem f_117_38 : xft 117 38 = some (.iload_n 1) := by decide +kernel
set_option maxRecDepth 100000 in
theorem f_117_39 : xft 117 39 = some (.iaload) := by decide +kernel
set_option maxRecDepth 100000 in
theorem f_117_40 : xft 117 40 = some (.istore_n 2) := by decide +kernel
set_option maxRecDepth 100000 in
theorem f_117_41 : xft 117 41 = some (.aload_n 0) := by decide +kernel
set_option maxRecDepth 100000 in
theorem f_117_42 : xft 117 42 = some (.iload_n 1) := by decide +kernel
set_option maxRecDepth 100000 in
theorem f_117_43 : xft 117 43 = some (.invokevirtual 145) := by decide +kernel
set_option maxRecDepth 100000 in
theorem f_117_46 : xft 117 46 = some (.iload_n 2) := by decide +kernel
set_option maxRecDepth 100000 in
theorem f_117_47 : xft 117 47 = some (.ireturn) := by decide +kernel
set_option maxRecDepth 100000 in
theorem f_118_0 : xft 118 0 = some (.aload_n 0) := by decide +kernel
set_option maxRecDepth 100000 in
theorem f_118_1 : xft 118 1 = some (.getfield 45) := by decide +kernel
set_option maxRecDepth 100000 in
theorem f_118_4 : xft 118 4 = some (.iload_n 1) := by decide +kernel
set_option maxRecDepth 100000 in
theorem f_118_5 : xft 118 5 = some (.iaload) := by decide +kernel
set_option maxRecDepth 100000 in
theorem f_118_6 : xft 118 6 = some (.iload_n 2) := by decide +kernel
set_option maxRecDepth 100000 in
theorem f_118_7 : xft 118 7 = some (.if_icmp .ne 13) := by decide +kernel
set_option maxRecDepth 100000 in
theorem f_118_10 : xft 118 10 = some (.aload_n 0) := by decide +kernel
set_option maxRecDepth 100000 in
theorem f_118_11 : xft 118 11 = some (.getfield 48) := by decide +kernel
set_option maxRecDepth 100000 in
theorem f_118_14 : xft 118 14 = some (.iload_n 1) := by decide +kernel
set_option maxRecDepth 100000 in
theorem f_118_15 : xft 118 15 = some (.iaload) := by decide +kernel
set_option maxRecDepth 100000 in
theorem f_118_16 : xft 118 16 = some (.iload_n 3) := by decide +kernel
set_option maxRecDepth 100000 in
theorem f_118_17 : xft 118 17 = some (.if_icmp .eq 23) := by decide +kernel
set_option maxRecDepth 100000 in
theorem f_118_20 : xft 118 20 = some (.aload_n 0) := by decide +kernel
set_option maxRecDepth 100000 in
theorem f_118_21 : xft 118 21 = some (.getfield 45) := by decide +kernel
set_option maxRecDepth 100000 in
theorem f_118_24 : xft 118 24 = some (.iload_n 1) := by decide +kernel
set_option maxRecDepth 100000 in
theorem f_118_25 : xft 118 25 = some (.iaload) := by decide +kernel
set_option maxRecDepth 100000 in
theorem f_118_26 : xft 118 26 = some (.iload_n 3) := by decide +kernel
set_option maxRecDepth 100000 in
theorem f_118_27 : xft 118 27 = some (.if_icmp .ne 17) := by decide +kernel
set_option maxRecDepth 100000 in
theorem f_118_30 : xft 118 30 = some (.aload_n 0) := by decide +kernel
set_option maxRecDepth 100000 in
theorem f_118_31 : xft 118 31 = some (.getfield 48) := by decide +kernel
set_option maxRecDepth 100000 in
theorem f_118_34 : xft 118 34 = some (.iload_n 1) := by decide +kernel
set_option maxRecDepth 100000 in
theorem f_118_35 : xft 118 35 = some (.iaload) := by decide +kernel
set_option maxRecDepth 100000 in
theorem f_118_36 : xft 118 36 = some (.iload_n 2) := by decide +kernel
set_option maxRecDepth 100000 in
theorem f_118_37 : xft 118 37 = some (.if_icmp .ne 7) := by decide +kernel
set_option maxRecDepth 100000 in
theorem f_118_40 : xft 118 40 = some (.iconst 1) := by decide +kernel
set_option maxRecDepth 100000 in
theorem f_118_41 : xft 118 41 = some (.goto 4) := by decide +kernel
set_option maxRecDepth 100000 in
theorem f_118_44 : xft 118 44 = some (.iconst 0) := by decide +kernel
set_option maxRecDepth 100000 in
theorem f_118_45 : xft 118 45 = some (.ireturn) := by decide +kernel
set_option maxRecDepth 100000 in
theorem f_119_0 : xft 119 0 = some (.ldc 149) := by decide +kernel
set_option maxRecDepth 100000 in
theorem f_119_2 : xft 119 2 = some (.istore_n 3) := by decide +kernel
set_option maxRecDepth 100000 in
theorem f_119_3 : xft 119 3 = some (.iconst 0) := by decide +kernel
set_option maxRecDepth 100000 in
theorem f_119_4 : xft 119 4 = some (.istore 4) := by decide +kernel
set_option maxRecDepth 100000 in
theorem f_119_6 : xft 119 6 = some (.iload 4) := by decide +kernel
set_option maxRecDepth 100000 in
theorem f_119_8 : xft 119 8 = some (.aload_n 0) := by decide +kernel
set_option maxRecDepth 100000 in
theorem f_119_9 : xft 119 9 = some (.getfield 95) := by decide +kernel
set_option maxRecDepth 100000 in
theorem f_119_12 : xft 119 12 = some (.if_icmp .ge 43) := by decide +kernel
set_option maxRecDepth 100000 in
theorem f_119_15 : xft 119 15 = some (.aload_n 0) := by decide +kernel
set_option maxRecDepth 100000 in
theorem f_119_16 : xft 119 16 = some (.iload 4) := by decide +kernel
set_option maxRecDepth 100000 in
theorem f_119_18 : xft 119 18 = some (.iload_n 1) := by decide +kernel
set_option maxRecDepth 100000 in
theorem f_119_19 : xft 119 19 = some (.iload_n 2) := by decide +kernel
set_option maxRecDepth 100000 in
theorem f_119_20 : xft 119 20 = some (.invokevirtual 150) := by decide +kernel
set_option maxRecDepth 100000 in
theorem f_119_23 : xft 119 23 = some (.ifCond .eq 24) := by decide +kernel
set_option maxRecDepth 100000 in
theorem f_119_26 : xft 119 26 = some (.aload_n 0) := by decide +kernel
set_option maxRecDepth 100000 in
theorem f_119_27 : xft 119 27 = some (.getfield 51) := by decide +kernel
set_option maxRecDepth 100000 in
theorem f_119_30 : xft 119 30 = some (.iload 4) := by decide +kernel
set_option maxRecDepth 100000 in
theorem f_119_32 : xft 119 32 = some (.iaload) := by decide +kernel
set_option maxRecDepth 100000 in
theorem f_119_33 : xft 119 33 = some (.iload_n 3) := by decide +kernel
set_option maxRecDepth 100000 in
theorem f_119_34 : xft 119 34 = some (.if_icmp .ge 13) := by decide +kernel
set_option maxRecDepth 100000 in
theorem f_119_37 : xft 119 37 = some (.aload_n 0) := by decide +kernel
set_option maxRecDepth 100000 in
theorem f_119_38 : xft 119 38 = some (.getfield 51) := by decide +kernel
set_option maxRecDepth 100000 in
theorem f_119_41 : xft 119 41 = some (.iload 4) := by decide +kernel
set_option maxRecDepth 100000 in
theorem f_119_43 : xft 119 43 = some (.iaload) := by decide +kernel
set_option maxRecDepth 100000 in
theorem f_119_44 : xft 119 44 = some (.goto 4) := by decide +kernel
set_option maxRecDepth 100000 in
theorem f_119_47 : xft 119 47 = some (.iload_n 3) := by decide +kernel
set_option maxRecDepth 100000 in
theorem f_119_48 : xft 119 48 = some (.istore_n 3) := by decide +kernel
set_option maxRecDepth 100000 in
theorem f_119_49 : xft 119 49 = some (.iinc 4 1) := by decide +kernel
set_option maxRecDepth 100000 in
theorem f_119_52 : xft 119 52 = some (.goto (-46)) := by decide +kernel
set_option maxRecDepth 100000 in
theorem f_119_55 : xft 119 55 = some (.iload_n 3) := by decide +kernel
set_option maxRecDepth 100000 in
theorem f_119_56 : xft 119 56 = some (.ireturn) := by decide +kernel
set_option maxRecDepth 100000 in
theorem f_120_0 : xft 120 0 = some (.iconst 0) := by decide +kernel
set_option maxRecDepth 100000 in
theorem f_120_1 : xft 120 1 = some (.istore_n 3) := by decide +kernel
set_option maxRecDepth 100000 in
theorem f_120_2 : xft 120 2 = some (.iload_n 3) := by decide +kernel
set_option maxRecDepth 100000 in
theorem f_120_3 : xft 120 3 = some (.bipush 8) := by decide +kernel
set_option maxRecDepth 100000 in
theorem f_120_5 : xft 120 5 = some (.if_icmp .ge 26) := by decide +kernel
set_option maxRecDepth 100000 in
theorem f_120_8 : xft 120 8 = some (.aload_n 0) := by decide +kernel
set_option maxRecDepth 100000 in
theorem f_120_9 : xft 120 9 = some (.getfield 54) := by decide +kernel
set_option maxRecDepth 100000 in
theorem f_120_12 : xft 120 12 = some (.iload_n 3) := by decide +kernel
set_option maxRecDepth 100000 in
theorem f_120_13 : xft 120 13 = some (.iload_n 3) := by decide +kernel
set_option maxRecDepth 100000 in
theorem f_120_14 : xft 120 14 = some (.iload_n 2) := by decide +kernel
set_option maxRecDepth 100000 in
theorem f_120_15 : xft 120 15 = some (.if_icmp .ne 7) := by decide +kernel
set_option maxRecDepth 100000 in
theorem f_120_18 : xft 120 18 = some (.iconst 0) := by decide +kernel
set_option maxRecDepth 100000 in
theorem f_120_19 : xft 120 19 = some (.goto 5) := by decide +kernel
set_option maxRecDepth 100000 in
theorem f_120_22 : xft 120 22 = some (.ldc 149) := by decide +kernel
set_option maxRecDepth 100000 in
theorem f_120_24 : xft 120 24 = some (.iastore) := by decide +kernel
set_option maxRecDepth 100000 in
theorem f_120_25 : xft 120 25 = some (.iinc 3 1) := by decide +kernel
set_option maxRecDepth 100000 in
theorem f_120_28 : xft 120 28 = some (.goto (-26)) := by decide +kernel
set_option maxRecDepth 100000 in
theorem f_120_31 : xft 120 31 = some (.iconst 1) := by decide +kernel
set_option maxRecDepth 100000 in
theorem f_120_32 : xft 120 32 = some (.istore_n 3) := by decide +kernel
set_option maxRecDepth 100000 in
theorem f_120_33 : xft 120 33 = some (.iload_n 3) := by decide +kernel
set_option maxRecDepth 100000 in
theorem f_120_34 : xft 120 34 = some (.bipush 8) := by decide +kernel
set_option maxRecDepth 100000 in
theorem f_120_36 : xft 120 36 = some (.if_icmp .ge 139) := by decide +kernel
set_option maxRecDepth 100000 in
theorem f_120_39 : xft 120 39 = some (.iconst 0) := by decide +kernel
set_option maxRecDepth 100000 in
theorem f_120_40 : xft 120 40 = some (.istore 4) := by decide +kernel
set_option maxRecDepth 100000 in
theorem f_120_42 : xft 120 42 = some (.iload 4) := by decide +kernel
set_option maxRecDepth 100000 in
theorem f_120_44 : xft 120 44 = some (.bipush 8) := by decide +kernel
set_option maxRecDepth 100000 in
theorem f_120_46 : xft 120 46 = some (.if_icmp .ge 123) := by decide +kernel
set_option maxRecDepth 100000 in
theorem f_120_49 : xft 120 49 = some (.iconst 0) := by decide +kernel
set_option maxRecDepth 100000 in
theorem f_120_50 : xft 120 50 = some (.istore 5) := by decide +kernel
set_option maxRecDepth 100000 in
theorem f_120_52 : xft 120 52 = some (.iload 5) := by decide +kernel
set_option maxRecDepth 100000 in
theorem f_120_54 : xft 120 54 = some (.bipush 8) := by decide +kernel
set_option maxRecDepth 100000 in
theorem f_120_56 : xft 120 56 = some (.if_icmp .ge 107) := by decide +kernel
set_option maxRecDepth 100000 in
theorem f_120_59 : xft 120 59 = some (.aload_n 0) := by decide +kernel
set_option maxRecDepth 100000 in
theorem f_120_60 : xft 120 60 = some (.iload 4) := by decide +kernel
set_option maxRecDepth 100000 in
theorem f_120_62 : xft 120 62 = some (.iload 5) := by decide +kernel
set_option maxRecDepth 100000 in
theorem f_120_64 : xft 120 64 = some (.invokevirtual 153) := by decide +kernel
set_option maxRecDepth 100000 in
theorem f_120_67 : xft 120 67 = some (.istore 6) := by decide +kernel
set_option maxRecDepth 100000 in
theorem f_120_69 : xft 120 69 = some (.iload 6) := by decide +kernel
set_option maxRecDepth 100000 in
theorem f_120_71 : xft 120 71 = some (.ldc 149) := by decide +kernel
set_option maxRecDepth 100000 in
theorem f_120_73 : xft 120 73 = some (.if_icmp .ge 44) := by decide +kernel
set_option maxRecDepth 100000 in
theorem f_120_76 : xft 120 76 = some (.aload_n 0) := by decide +kernel
set_option maxRecDepth 100000 in
theorem f_120_77 : xft 120 77 = some (.getfield 54) := by decide +kernel
set_option maxRecDepth 100000 in
theorem f_120_80 : xft 120 80 = some (.iload 5) := by decide +kernel
set_option maxRecDepth 100000 in
theorem f_120_82 : xft 120 82 = some (.iaload) := by decide +kernel
set_option maxRecDepth 100000 in
theorem f_120_83 : xft 120 83 = some (.ldc 149) := by decide +kernel
set_option maxRecDepth 100000 in
theorem f_120_85 : xft 120 85 = some (.if_icmp .ge 32) := by decide +kernel
set_option maxRecDepth 100000 in
theorem f_120_88 : xft 120 88 = some (.aload_n 0) := by decide +kernel
set_option maxRecDepth 100000 in
theorem f_120_89 : xft 120 89 = some (.getfield 54) := by decide +kernel
set_option maxRecDepth 100000 in
theorem f_120_92 : xft 120 92 = some (.iload 5) := by decide +kernel
set_option maxRecDepth 100000 in
theorem f_120_94 : xft 120 94 = some (.iaload) := by decide +kernel
set_option maxRecDepth 100000 in
theorem f_120_95 : xft 120 95 = some (.bipush 16) := by decide +kernel
set_option maxRecDepth 100000 in
theorem f_120_97 : xft 120 97 = some (.iload 6) := by decide +kernel
set_option maxRecDepth 100000 in
theorem f_120_99 : xft 120 99 = some (.imul) := by decide +kernel
set_option maxRecDepth 100000 in
theorem f_120_100 : xft 120 100 = some (.iadd) := by decide +kernel
set_option maxRecDepth 100000 in
theorem f_120_101 : xft 120 101 = some (.iconst 1) := by decide +kernel
set_option maxRecDepth 100000 in
theorem f_120_102 : xft 120 102 = some (.iadd) := by decide +kernel
set_option maxRecDepth 100000 in
theorem f_120_103 : xft 120 103 = some (.aload_n 0) := by decide +kernel
set_option maxRecDepth 100000 in
theorem f_120_104 : xft 120 104 = some (.getfield 54) := by decide +kernel
set_option maxRecDepth 100000 in
theorem f_120_107 : xft 120 107 = some (.iload 4) := by decide +kernel
set_option maxRecDepth 100000 in
theorem f_120_109 : xft 120 109 = some (.iaload) := by decide +kernel
set_option maxRecDepth 100000 in
theorem f_120_110 : xft 120 110 = some (.if_icmp .ge 7) := by decide +kernel
set_option maxRecDepth 100000 in
theorem f_120_113 : xft 120 113 = some (.iconst 1) := by decide +kernel
set_option maxRecDepth 100000 in
theorem f_120_114 : xft 120 114 = some (.goto 4) := by decide +kernel
set_option maxRecDepth 100000 in
theorem f_120_117 : xft 120 117 = some (.iconst 0) := by decide +kernel
set_option maxRecDepth 100000 in
theorem f_120_118 : xft 120 118 = some (.istore 7) := by decide +kernel
set_option maxRecDepth 100000 in
theorem f_120_120 : xft 120 120 = some (.aload_n 0) := by decide +kernel
set_option maxRecDepth 100000 in
theorem f_120_121 : xft 120 121 = some (.getfield 54) := by decide +kernel
set_option maxRecDepth 100000 in
theorem f_120_124 : xft 120 124 = some (.iload 4) := by decide +kernel
set_option maxRecDepth 100000 in
theorem f_120_126 : xft 120 126 = some (.iload 7) := by decide +kernel
set_option maxRecDepth 100000 in
theorem f_120_128 : xft 120 128 = some (.ifCond .eq 21) := by decide +kernel
set_option maxRecDepth 100000 in
theorem f_120_131 : xft 120 131 = some (.aload_n 0) := by decide +kernel
set_option maxRecDepth 100000 in
theorem f_120_132 : xft 120 132 = some (.getfield 54) := by decide +kernel
set_option maxRecDepth 100000 in
theorem f_120_135 : xft 120 135 = some (.iload 5) := by decide +kernel
set_option maxRecDepth 100000 in
theorem f_120_137 : xft 120 137 = some (.iaload) := by decide +kernel
set_option maxRecDepth 100000 in
theorem f_120_138 : xft 120 138 = some (.bipush 16) := by decide +kernel
set_option maxRecDepth 100000 in
theorem f_120_140 : xft 120 140 = some (.iload 6) := by decide +kernel
set_option maxRecDepth 100000 in
theorem f_120_142 : xft 120 142 = some (.imul) := by decide +kernel
set_option maxRecDepth 100000 in
theorem f_120_143 : xft 120 143 = some (.iadd) := by decide +kernel
set_option maxRecDepth 100000 in
theorem f_120_144 : xft 120 144 = some (.iconst 1) := by decide +kernel
set_option maxRecDepth 100000 in
theorem f_120_145 : xft 120 145 = some (.iadd) := by decide +kernel
set_option maxRecDepth 100000 in
theorem f_120_146 : xft 120 146 = some (.goto 10) := by decide +kernel
set_option maxRecDepth 100000 in
theorem f_120_149 : xft 120 149 = some (.aload_n 0) := by decide +kernel
set_option maxRecDepth 100000 in
theorem f_120_150 : xft 120 150 = some (.getfield 54) := by decide +kernel
set_option maxRecDepth 100000 in
theorem f_120_153 : xft 120 153 = some (.iload 4) := by decide +kernel
set_option maxRecDepth 100000 in
theorem f_120_155 : xft 120 155 = some (.iaload) := by decide +kernel
set_option maxRecDepth 100000 in
theorem f_120_156 : xft 120 156 = some (.iastore) := by decide +kernel
set_option maxRecDepth 100000 in
theorem f_120_157 : xft 120 157 = some (.iinc 5 1) := by decide +kernel
set_option maxRecDepth 100000 in
theorem f_120_160 : xft 120 160 = some (.goto (-108)) := by decide +kernel
set_option maxRecDepth 100000 in
theorem f_120_163 : xft 120 163 = some (.iinc 4 1) := by decide +kernel
set_option maxRecDepth 100000 in
theorem f_120_166 : xft 120 166 = some (.goto (-124)) := by decide +kernel
set_option maxRecDepth 100000 in
theorem f_120_169 : xft 120 169 = some (.iinc 3 1) := by decide +kernel
set_option maxRecDepth 100000 in
theorem f_120_172 : xft 120 172 = some (.goto (-139)) := by decide +kernel
set_option maxRecDepth 100000 in
theorem f_120_175 : xft 120 175 = some (.aload_n 0) := by decide +kernel
set_option maxRecDepth 100000 in
theorem f_120_176 : xft 120 176 = some (.iconst 0) := by decide +kernel
set_option maxRecDepth 100000 in
theorem f_120_177 : xft 120 177 = some (.putfield 156) := by decide +kernel
set_option maxRecDepth 100000 in
theorem f_120_180 : xft 120 180 = some (.iload_n 1) := by decide +kernel
set_option maxRecDepth 100000 in
theorem f_120_181 : xft 120 181 = some (.istore_n 3) := by decide +kernel
set_option maxRecDepth 100000 in
theorem f_120_182 : xft 120 182 = some (.aload_n 0) := by decide +kernel
set_option maxRecDepth 100000 in
theorem f_120_183 : xft 120 183 = some (.getfield 54) := by decide +kernel
set_option maxRecDepth 100000 in
theorem f_120_186 : xft 120 186 = some (.iload_n 1) := by decide +kernel
set_option maxRecDepth 100000 in
theorem f_120_187 : xft 120 187 = some (.iaload) := by decide +kernel
set_option maxRecDepth 100000 in
theorem f_120_188 : xft 120 188 = some (.ldc 149) := by decide +kernel
set_option maxRecDepth 100000 in
theorem f_120_190 : xft 120 190 = some (.if_icmp .ge 112) := by decide +kernel
set_option maxRecDepth 100000 in
theorem f_120_193 : xft 120 193 = some (.aload_n 0) := by decide +kernel
set_option maxRecDepth 100000 in
theorem f_120_194 : xft 120 194 = some (.getfield 156) := by decide +kernel
set_option maxRecDepth 100000 in
theorem f_120_197 : xft 120 197 = some (.bipush 8) := by decide +kernel
set_option maxRecDepth 100000 in
theorem f_120_199 : xft 120 199 = some (.if_icmp .ge 103) := by decide +kernel
set_option maxRecDepth 100000 in
theorem f_120_202 : xft 120 202 = some (.aload_n 0) := by decide +kernel
set_option maxRecDepth 100000 in
theorem f_120_203 : xft 120 203 = some (.getfield 57) := by decide +kernel
set_option maxRecDepth 100000 in
theorem f_120_206 : xft 120 206 = some (.aload_n 0) := by decide +kernel
set_option maxRecDepth 100000 in
theorem f_120_207 : xft 120 207 = some (.getfield 156) := by decide +kernel
set_option maxRecDepth 100000 in
theorem f_120_210 : xft 120 210 = some (.iload_n 3) := by decide +kernel
set_option maxRecDepth 100000 in
theorem f_120_211 : xft 120 211 = some (.iastore) := by decide +kernel
set_option maxRecDepth 100000 in
theorem f_120_212 : xft 120 212 = some (.aload_n 0) := by decide +kernel
set_option maxRecDepth 100000 in
theorem f_120_213 : xft 120 213 = some (.dup) := by decide +kernel
set_option maxRecDepth 100000 in
theorem f_120_214 : xft 120 214 = some (.getfield 156) := by decide +kernel
set_option maxRecDepth 100000 in
theorem f_120_217 : xft 120 217 = some (.iconst 1) := by decide +kernel
set_option maxRecDepth 100000 in
theorem f_120_218 : xft 120 218 = some (.iadd) := by decide +kernel
set_option maxRecDepth 100000 in
theorem f_120_219 : xft 120 219 = some (.putfield 156) := by decide +kernel
set_option maxRecDepth 100000 in
theorem f_120_222 : xft 120 222 = some (.iload_n 3) := by decide +kernel
set_option maxRecDepth 100000 in
theorem f_120_223 : xft 120 223 = some (.iload_n 2) := by decide +kernel
set_option maxRecDepth 100000 in
theorem f_120_224 : xft 120 224 = some (.if_icmp .ne 5) := by decide +kernel
set_option maxRecDepth 100000 in
theorem f_120_227 : xft 120 227 = some (.iconst 1) := by decide +kernel
set_option maxRecDepth 100000 in
theorem f_120_228 : xft 120 228 = some (.ireturn) := by decide +kernel
set_option maxRecDepth 100000 in
theorem f_120_229 : xft 120 229 = some (.iconst (-1)) := by decide +kernel
set_option maxRecDepth 100000 in
theorem f_120_230 : xft 120 230 = some (.istore 4) := by decide +kernel
set_option maxRecDepth 100000 in
theorem f_120_232 : xft 120 232 = some (.bipush 7) := by decide +kernel
set_option maxRecDepth 100000 in
theorem f_120_234 : xft 120 234 = some (.istore 5) := by decide +kernel
set_option maxRecDepth 100000 in
theorem f_120_236 : xft 120 236 = some (.iload 5) := by decide +kernel
set_option maxRecDepth 100000 in
theorem f_120_238 : xft 120 238 = some (.ifCond .lt 58) := by decide +kernel
set_option maxRecDepth 100000 in
theorem f_120_241 : xft 120 241 = some (.aload_n 0) := by decide +kernel
set_option maxRecDepth 100000 in
theorem f_120_242 : xft 120 242 = some (.iload_n 3) := by decide +kernel
set_option maxRecDepth 100000 in
theorem f_120_243 : xft 120 243 = some (.iload 5) := by decide +kernel
set_option maxRecDepth 100000 in
theorem f_120_245 : xft 120 245 = some (.invokevirtual 153) := by decide +kernel
set_option maxRecDepth 100000 in
theorem f_120_248 : xft 120 248 = some (.istore 6) := by decide +kernel
set_option maxRecDepth 100000 in
theorem f_120_250 : xft 120 250 = some (.iload 6) := by decide +kernel
set_option maxRecDepth 100000 in
theorem f_120_252 : xft 120 252 = some (.ldc 149) := by decide +kernel
set_option maxRecDepth 100000 in
theorem f_120_254 : xft 120 254 = some (.if_icmp .ge 32) := by decide +kernel
set_option maxRecDepth 100000 in
theorem f_120_257 : xft 120 257 = some (.aload_n 0) := by decide +kernel
set_option maxRecDepth 100000 in
theorem f_120_258 : xft 120 258 = some (.getfield 54) := by decide +kernel
set_option maxRecDepth 100000 in
theorem f_120_261 : xft 120 261 = some (.iload 5) := by decide +kernel
set_option maxRecDepth 100000 in
theorem f_120_263 : xft 120 263 = some (.iaload) := by decide +kernel
set_option maxRecDepth 100000 in
theorem f_120_264 : xft 120 264 = some (.bipush 16) := by decide +kernel
set_option maxRecDepth 100000 in
theorem f_120_266 : xft 120 266 = some (.iload 6) := by decide +kernel
set_option maxRecDepth 100000 in
theorem f_120_268 : xft 120 268 = some (.imul) := by decide +kernel
set_option maxRecDepth 100000 in
theorem f_120_269 : xft 120 269 = some (.iadd) := by decide +kernel
set_option maxRecDepth 100000 in
theorem f_120_270 : xft 120 270 = some (.iconst 1) := by decide +kernel
set_option maxRecDepth 100000 in
theorem f_120_271 : xft 120 271 = some (.iadd) := by decide +kernel
set_option maxRecDepth 100000 in
theorem f_120_272 : xft 120 272 = some (.aload_n 0) := by decide +kernel
set_option maxRecDepth 100000 in
theorem f_120_273 : xft 120 273 = some (.getfield 54) := by decide +kernel
/-! blocks, by program (gen2.py) -/
section BLK
variable {sc : xS} {d : Nat} {T : Nat → Nat × Nat} {z : Nat × Nat} {V : Nat → Nat → Int} {J : Nat → Nat → Int64} {R : Nat → Nat → Option Nat}

end BLK
