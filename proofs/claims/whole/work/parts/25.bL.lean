/-! instructions, by program (gen2.py) -/
set_option maxRecDepth 100000 in
theorem f_160_0 : xft 160 0 = some (.aload_n 2) := by decide +kernel
set_option maxRecDepth 100000 in
theorem f_160_1 : xft 160 1 = some (.iconst 0) := by decide +kernel
set_option maxRecDepth 100000 in
theorem f_160_2 : xft 160 2 = some (.aload_n 0) := by decide +kernel
set_option maxRecDepth 100000 in
theorem f_160_3 : xft 160 3 = some (.iload_n 1) := by decide +kernel
set_option maxRecDepth 100000 in
theorem f_160_4 : xft 160 4 = some (.invokevirtual 7) := by decide +kernel
set_option maxRecDepth 100000 in
theorem f_160_7 : xft 160 7 = some (.i2l) := by decide +kernel
set_option maxRecDepth 100000 in
theorem f_160_8 : xft 160 8 = some (.lastore) := by decide +kernel
set_option maxRecDepth 100000 in
theorem f_160_9 : xft 160 9 = some (.goto 9) := by decide +kernel
set_option maxRecDepth 100000 in
theorem f_160_12 : xft 160 12 = some (.astore_n 3) := by decide +kernel
set_option maxRecDepth 100000 in
theorem f_160_13 : xft 160 13 = some (.iconst 1) := by decide +kernel
set_option maxRecDepth 100000 in
theorem f_160_14 : xft 160 14 = some (.ireturn) := by decide +kernel
set_option maxRecDepth 100000 in
theorem f_160_15 : xft 160 15 = some (.astore_n 3) := by decide +kernel
set_option maxRecDepth 100000 in
theorem f_160_16 : xft 160 16 = some (.iconst 2) := by decide +kernel
set_option maxRecDepth 100000 in
theorem f_160_17 : xft 160 17 = some (.ireturn) := by decide +kernel
set_option maxRecDepth 100000 in
theorem f_160_18 : xft 160 18 = some (.iconst 0) := by decide +kernel
set_option maxRecDepth 100000 in
theorem f_160_19 : xft 160 19 = some (.ireturn) := by decide +kernel
set_option maxRecDepth 100000 in
theorem f_161_0 : xft 161 0 = some (.aload 4) := by decide +kernel
set_option maxRecDepth 100000 in
theorem f_161_2 : xft 161 2 = some (.iconst 0) := by decide +kernel
set_option maxRecDepth 100000 in
theorem f_161_3 : xft 161 3 = some (.aload_n 0) := by decide +kernel
set_option maxRecDepth 100000 in
theorem f_161_4 : xft 161 4 = some (.iload_n 1) := by decide +kernel
set_option maxRecDepth 100000 in
theorem f_161_5 : xft 161 5 = some (.iload_n 2) := by decide +kernel
set_option maxRecDepth 100000 in
theorem f_161_6 : xft 161 6 = some (.iload_n 3) := by decide +kernel
set_option maxRecDepth 100000 in
theorem f_161_7 : xft 161 7 = some (.invokevirtual 17) := by decide +kernel
set_option maxRecDepth 100000 in
theorem f_161_10 : xft 161 10 = some (.i2l) := by decide +kernel
set_option maxRecDepth 100000 in
theorem f_161_11 : xft 161 11 = some (.lastore) := by decide +kernel
set_option maxRecDepth 100000 in
theorem f_161_12 : xft 161 12 = some (.goto 7) := by decide +kernel
set_option maxRecDepth 100000 in
theorem f_161_15 : xft 161 15 = some (.astore 5) := by decide +kernel
set_option maxRecDepth 100000 in
theorem f_161_17 : xft 161 17 = some (.iconst 1) := by decide +kernel
set_option maxRecDepth 100000 in
theorem f_161_18 : xft 161 18 = some (.ireturn) := by decide +kernel
set_option maxRecDepth 100000 in
theorem f_161_19 : xft 161 19 = some (.iconst 0) := by decide +kernel
set_option maxRecDepth 100000 in
theorem f_161_20 : xft 161 20 = some (.ireturn) := by decide +kernel
set_option maxRecDepth 100000 in
theorem f_162_0 : xft 162 0 = some (.aload 7) := by decide +kernel
set_option maxRecDepth 100000 in
theorem f_162_2 : xft 162 2 = some (.iconst 0) := by decide +kernel
set_option maxRecDepth 100000 in
theorem f_162_3 : xft 162 3 = some (.aload_n 0) := by decide +kernel
set_option maxRecDepth 100000 in
theorem f_162_4 : xft 162 4 = some (.iload_n 1) := by decide +kernel
set_option maxRecDepth 100000 in
theorem f_162_5 : xft 162 5 = some (.iload_n 2) := by decide +kernel
set_option maxRecDepth 100000 in
theorem f_162_6 : xft 162 6 = some (.iload_n 3) := by decide +kernel
set_option maxRecDepth 100000 in
theorem f_162_7 : xft 162 7 = some (.iload 4) := by decide +kernel
set_option maxRecDepth 100000 in
theorem f_162_9 : xft 162 9 = some (.iload 5) := by decide +kernel
set_option maxRecDepth 100000 in
theorem f_162_11 : xft 162 11 = some (.iload 6) := by decide +kernel
set_option maxRecDepth 100000 in
theorem f_162_13 : xft 162 13 = some (.invokevirtual 23) := by decide +kernel
set_option maxRecDepth 100000 in
theorem f_162_16 : xft 162 16 = some (.i2l) := by decide +kernel
set_option maxRecDepth 100000 in
theorem f_162_17 : xft 162 17 = some (.lastore) := by decide +kernel
set_option maxRecDepth 100000 in
theorem f_162_18 : xft 162 18 = some (.goto 15) := by decide +kernel
set_option maxRecDepth 100000 in
theorem f_162_21 : xft 162 21 = some (.astore 8) := by decide +kernel
set_option maxRecDepth 100000 in
theorem f_162_23 : xft 162 23 = some (.iconst 1) := by decide +kernel
set_option maxRecDepth 100000 in
theorem f_162_24 : xft 162 24 = some (.ireturn) := by decide +kernel
set_option maxRecDepth 100000 in
theorem f_162_25 : xft 162 25 = some (.astore 8) := by decide +kernel
set_option maxRecDepth 100000 in
theorem f_162_27 : xft 162 27 = some (.iconst 2) := by decide +kernel
set_option maxRecDepth 100000 in
theorem f_162_28 : xft 162 28 = some (.ireturn) := by decide +kernel
set_option maxRecDepth 100000 in
theorem f_162_29 : xft 162 29 = some (.astore 8) := by decide +kernel
set_option maxRecDepth 100000 in
theorem f_162_31 : xft 162 31 = some (.iconst 3) := by decide +kernel
set_option maxRecDepth 100000 in
theorem f_162_32 : xft 162 32 = some (.ireturn) := by decide +kernel
set_option maxRecDepth 100000 in
theorem f_162_33 : xft 162 33 = some (.iconst 0) := by decide +kernel
set_option maxRecDepth 100000 in
theorem f_162_34 : xft 162 34 = some (.ireturn) := by decide +kernel
set_option maxRecDepth 100000 in
theorem f_163_0 : xft 163 0 = some (.aload 6) := by decide +kernel
set_option maxRecDepth 100000 in
theorem f_163_2 : xft 163 2 = some (.iconst 0) := by decide +kernel
set_option maxRecDepth 100000 in
theorem f_163_3 : xft 163 3 = some (.aload_n 0) := by decide +kernel
set_option maxRecDepth 100000 in
theorem f_163_4 : xft 163 4 = some (.iload_n 1) := by decide +kernel
set_option maxRecDepth 100000 in
theorem f_163_5 : xft 163 5 = some (.iload_n 2) := by decide +kernel
set_option maxRecDepth 100000 in
theorem f_163_6 : xft 163 6 = some (.iload_n 3) := by decide +kernel
set_option maxRecDepth 100000 in
theorem f_163_7 : xft 163 7 = some (.iload 4) := by decide +kernel
set_option maxRecDepth 100000 in
theorem f_163_9 : xft 163 9 = some (.iload 5) := by decide +kernel
set_option maxRecDepth 100000 in
theorem f_163_11 : xft 163 11 = some (.invokevirtual 27) := by decide +kernel
set_option maxRecDepth 100000 in
theorem f_163_14 : xft 163 14 = some (.i2l) := by decide +kernel
set_option maxRecDepth 100000 in
theorem f_163_15 : xft 163 15 = some (.lastore) := by decide +kernel
set_option maxRecDepth 100000 in
theorem f_163_16 : xft 163 16 = some (.goto 11) := by decide +kernel
set_option maxRecDepth 100000 in
theorem f_163_19 : xft 163 19 = some (.astore 7) := by decide +kernel
set_option maxRecDepth 100000 in
theorem f_163_21 : xft 163 21 = some (.iconst 1) := by decide +kernel
set_option maxRecDepth 100000 in
theorem f_163_22 : xft 163 22 = some (.ireturn) := by decide +kernel
set_option maxRecDepth 100000 in
theorem f_163_23 : xft 163 23 = some (.astore 7) := by decide +kernel
set_option maxRecDepth 100000 in
theorem f_163_25 : xft 163 25 = some (.iconst 2) := by decide +kernel
set_option maxRecDepth 100000 in
theorem f_163_26 : xft 163 26 = some (.ireturn) := by decide +kernel
set_option maxRecDepth 100000 in
theorem f_163_27 : xft 163 27 = some (.iconst 0) := by decide +kernel
set_option maxRecDepth 100000 in
theorem f_163_28 : xft 163 28 = some (.ireturn) := by decide +kernel
set_option maxRecDepth 100000 in
theorem f_164_0 : xft 164 0 = some (.aload_n 3) := by decide +kernel
set_option maxRecDepth 100000 in
theorem f_164_1 : xft 164 1 = some (.iconst 0) := by decide +kernel
set_option maxRecDepth 100000 in
theorem f_164_2 : xft 164 2 = some (.aload_n 0) := by decide +kernel
set_option maxRecDepth 100000 in
theorem f_164_3 : xft 164 3 = some (.iload_n 1) := by decide +kernel
set_option maxRecDepth 100000 in
theorem f_164_4 : xft 164 4 = some (.iload_n 2) := by decide +kernel
set_option maxRecDepth 100000 in
theorem f_164_5 : xft 164 5 = some (.invokevirtual 31) := by decide +kernel
set_option maxRecDepth 100000 in
theorem f_164_8 : xft 164 8 = some (.i2l) := by decide +kernel
set_option maxRecDepth 100000 in
theorem f_164_9 : xft 164 9 = some (.lastore) := by decide +kernel
set_option maxRecDepth 100000 in
theorem f_164_10 : xft 164 10 = some (.goto 15) := by decide +kernel
set_option maxRecDepth 100000 in
theorem f_164_13 : xft 164 13 = some (.astore 4) := by decide +kernel
set_option maxRecDepth 100000 in
theorem f_164_15 : xft 164 15 = some (.iconst 1) := by decide +kernel
set_option maxRecDepth 100000 in
theorem f_164_16 : xft 164 16 = some (.ireturn) := by decide +kernel
set_option maxRecDepth 100000 in
theorem f_164_17 : xft 164 17 = some (.astore 4) := by decide +kernel
set_option maxRecDepth 100000 in
theorem f_164_19 : xft 164 19 = some (.iconst 2) := by decide +kernel
set_option maxRecDepth 100000 in
theorem f_164_20 : xft 164 20 = some (.ireturn) := by decide +kernel
set_option maxRecDepth 100000 in
theorem f_164_21 : xft 164 21 = some (.astore 4) := by decide +kernel
set_option maxRecDepth 100000 in
theorem f_164_23 : xft 164 23 = some (.iconst 3) := by decide +kernel
set_option maxRecDepth 100000 in
theorem f_164_24 : xft 164 24 = some (.ireturn) := by decide +kernel
set_option maxRecDepth 100000 in
theorem f_164_25 : xft 164 25 = some (.iconst 0) := by decide +kernel
set_option maxRecDepth 100000 in
theorem f_164_26 : xft 164 26 = some (.ireturn) := by decide +kernel
set_option maxRecDepth 100000 in
theorem f_165_0 : xft 165 0 = some (.aload_n 3) := by decide +kernel
set_option maxRecDepth 100000 in
theorem f_165_1 : xft 165 1 = some (.iconst 0) := by decide +kernel
set_option maxRecDepth 100000 in
theorem f_165_2 : xft 165 2 = some (.aload_n 0) := by decide +kernel
set_option maxRecDepth 100000 in
theorem f_165_3 : xft 165 3 = some (.iload_n 1) := by decide +kernel
set_option maxRecDepth 100000 in
theorem f_165_4 : xft 165 4 = some (.iload_n 2) := by decide +kernel
set_option maxRecDepth 100000 in
theorem f_165_5 : xft 165 5 = some (.invokevirtual 35) := by decide +kernel
set_option maxRecDepth 100000 in
theorem f_165_8 : xft 165 8 = some (.i2l) := by decide +kernel
set_option maxRecDepth 100000 in
theorem f_165_9 : xft 165 9 = some (.lastore) := by decide +kernel
set_option maxRecDepth 100000 in
theorem f_165_10 : xft 165 10 = some (.goto 15) := by decide +kernel
set_option maxRecDepth 100000 in
theorem f_165_13 : xft 165 13 = some (.astore 4) := by decide +kernel
set_option maxRecDepth 100000 in
theorem f_165_15 : xft 165 15 = some (.iconst 1) := by decide +kernel
set_option maxRecDepth 100000 in
theorem f_165_16 : xft 165 16 = some (.ireturn) := by decide +kernel
set_option maxRecDepth 100000 in
theorem f_165_17 : xft 165 17 = some (.astore 4) := by decide +kernel
set_option maxRecDepth 100000 in
theorem f_165_19 : xft 165 19 = some (.iconst 2) := by decide +kernel
set_option maxRecDepth 100000 in
theorem f_165_20 : xft 165 20 = some (.ireturn) := by decide +kernel
set_option maxRecDepth 100000 in
theorem f_165_21 : xft 165 21 = some (.astore 4) := by decide +kernel
set_option maxRecDepth 100000 in
theorem f_165_23 : xft 165 23 = some (.iconst 3) := by decide +kernel
set_option maxRecDepth 100000 in
theorem f_165_24 : xft 165 24 = some (.ireturn) := by decide +kernel
set_option maxRecDepth 100000 in
theorem f_165_25 : xft 165 25 = some (.iconst 0) := by decide +kernel
set_option maxRecDepth 100000 in
theorem f_165_26 : xft 165 26 = some (.ireturn) := by decide +kernel
set_option maxRecDepth 100000 in
theorem f_166_0 : xft 166 0 = some (.aload_n 3) := by decide +kernel
set_option maxRecDepth 100000 in
theorem f_166_1 : xft 166 1 = some (.iconst 0) := by decide +kernel
set_option maxRecDepth 100000 in
theorem f_166_2 : xft 166 2 = some (.aload_n 0) := by decide +kernel
set_option maxRecDepth 100000 in
theorem f_166_3 : xft 166 3 = some (.iload_n 1) := by decide +kernel
set_option maxRecDepth 100000 in
theorem f_166_4 : xft 166 4 = some (.iload_n 2) := by decide +kernel
set_option maxRecDepth 100000 in
theorem f_166_5 : xft 166 5 = some (.invokevirtual 38) := by decide +kernel
set_option maxRecDepth 100000 in
theorem f_166_8 : xft 166 8 = some (.ifCond .eq 7) := by decide +kernel
set_option maxRecDepth 100000 in
theorem f_166_11 : xft 166 11 = some (.lconst 1) := by decide +kernel
set_option maxRecDepth 100000 in
theorem f_166_12 : xft 166 12 = some (.goto 4) := by decide +kernel
set_option maxRecDepth 100000 in
theorem f_166_15 : xft 166 15 = some (.lconst 0) := by decide +kernel
set_option maxRecDepth 100000 in
theorem f_166_16 : xft 166 16 = some (.lastore) := by decide +kernel
set_option maxRecDepth 100000 in
theorem f_166_17 : xft 166 17 = some (.goto 7) := by decide +kernel
set_option maxRecDepth 100000 in
theorem f_166_20 : xft 166 20 = some (.astore 4) := by decide +kernel
set_option maxRecDepth 100000 in
theorem f_166_22 : xft 166 22 = some (.iconst 1) := by decide +kernel
set_option maxRecDepth 100000 in
theorem f_166_23 : xft 166 23 = some (.ireturn) := by decide +kernel
set_option maxRecDepth 100000 in
theorem f_166_24 : xft 166 24 = some (.iconst 0) := by decide +kernel
set_option maxRecDepth 100000 in
theorem f_166_25 : xft 166 25 = some (.ireturn) := by decide +kernel
set_option maxRecDepth 100000 in
theorem f_167_0 : xft 167 0 = some (.aload_n 3) := by decide +kernel
set_option maxRecDepth 100000 in
theorem f_167_1 : xft 167 1 = some (.iconst 0) := by decide +kernel
set_option maxRecDepth 100000 in
theorem f_167_2 : xft 167 2 = some (.aload_n 0) := by decide +kernel
set_option maxRecDepth 100000 in
theorem f_167_3 : xft 167 3 = some (.iload_n 1) := by decide +kernel
set_option maxRecDepth 100000 in
theorem f_167_4 : xft 167 4 = some (.iload_n 2) := by decide +kernel
set_option maxRecDepth 100000 in
theorem f_167_5 : xft 167 5 = some (.invokevirtual 42) := by decide +kernel
set_option maxRecDepth 100000 in
theorem f_167_8 : xft 167 8 = some (.i2l) := by decide +kernel
set_option maxRecDepth 100000 in
theorem f_167_9 : xft 167 9 = some (.lastore) := by decide +kernel
set_option maxRecDepth 100000 in
theorem f_167_10 : xft 167 10 = some (.goto 11) := by decide +kernel
set_option maxRecDepth 100000 in
theorem f_167_13 : xft 167 13 = some (.astore 4) := by decide +kernel
set_option maxRecDepth 100000 in
theorem f_167_15 : xft 167 15 = some (.iconst 1) := by decide +kernel
set_option maxRecDepth 100000 in
theorem f_167_16 : xft 167 16 = some (.ireturn) := by decide +kernel
set_option maxRecDepth 100000 in
theorem f_167_17 : xft 167 17 = some (.astore 4) := by decide +kernel
set_option maxRecDepth 100000 in
theorem f_167_19 : xft 167 19 = some (.iconst 2) := by decide +kernel
set_option maxRecDepth 100000 in
theorem f_167_20 : xft 167 20 = some (.ireturn) := by decide +kernel
set_option maxRecDepth 100000 in
theorem f_167_21 : xft 167 21 = some (.iconst 0) := by decide +kernel
set_option maxRecDepth 100000 in
theorem f_167_22 : xft 167 22 = some (.ireturn) := by decide +kernel
set_option maxRecDepth 100000 in
theorem f_168_0 : xft 168 0 = some (.aload 5) := by decide +kernel
set_option maxRecDepth 100000 in
theorem f_168_2 : xft 168 2 = some (.iconst 0) := by decide +kernel
set_option maxRecDepth 100000 in
theorem f_168_3 : xft 168 3 = some (.aload_n 0) := by decide +kernel
set_option maxRecDepth 100000 in
theorem f_168_4 : xft 168 4 = some (.iload_n 1) := by decide +kernel
set_option maxRecDepth 100000 in
theorem f_168_5 : xft 168 5 = some (.iload_n 2) := by decide +kernel
set_option maxRecDepth 100000 in
theorem f_168_6 : xft 168 6 = some (.iload_n 3) := by decide +kernel
set_option maxRecDepth 100000 in
theorem f_168_7 : xft 168 7 = some (.iload 4) := by decide +kernel
set_option maxRecDepth 100000 in
theorem f_168_9 : xft 168 9 = some (.invokevirtual 45) := by decide +kernel
set_option maxRecDepth 100000 in
theorem f_168_12 : xft 168 12 = some (.i2l) := by decide +kernel
set_option maxRecDepth 100000 in
theorem f_168_13 : xft 168 13 = some (.lastore) := by decide +kernel
set_option maxRecDepth 100000 in
theorem f_168_14 : xft 168 14 = some (.goto 15) := by decide +kernel
set_option maxRecDepth 100000 in
theorem f_168_17 : xft 168 17 = some (.astore 6) := by decide +kernel
set_option maxRecDepth 100000 in
theorem f_168_19 : xft 168 19 = some (.iconst 1) := by decide +kernel
set_option maxRecDepth 100000 in
theorem f_168_20 : xft 168 20 = some (.ireturn) := by decide +kernel
set_option maxRecDepth 100000 in
theorem f_168_21 : xft 168 21 = some (.astore 6) := by decide +kernel
set_option maxRecDepth 100000 in
theorem f_168_23 : xft 168 23 = some (.iconst 2) := by decide +kernel
set_option maxRecDepth 100000 in
theorem f_168_24 : xft 168 24 = some (.ireturn) := by decide +kernel
set_option maxRecDepth 100000 in
theorem f_168_25 : xft 168 25 = some (.astore 6) := by decide +kernel
set_option maxRecDepth 100000 in
theorem f_168_27 : xft 168 27 = some (.iconst 3) := by decide +kernel
set_option maxRecDepth 100000 in
theorem f_168_28 : xft 168 28 = some (.ireturn) := by decide +kernel
set_option maxRecDepth 100000 in
theorem f_168_29 : xft 168 29 = some (.iconst 0) := by decide +kernel
set_option maxRecDepth 100000 in
theorem f_168_30 : xft 168 30 = some (.ireturn) := by decide +kernel
set_option maxRecDepth 100000 in
theorem f_169_0 : xft 169 0 = some (.aload_n 2) := by decide +kernel
set_option maxRecDepth 100000 in
theorem f_169_1 : xft 169 1 = some (.iconst 0) := by decide +kernel
set_option maxRecDepth 100000 in
theorem f_169_2 : xft 169 2 = some (.aload_n 0) := by decide +kernel
set_option maxRecDepth 100000 in
theorem f_169_3 : xft 169 3 = some (.iload_n 1) := by decide +kernel
set_option maxRecDepth 100000 in
theorem f_169_4 : xft 169 4 = some (.invokevirtual 49) := by decide +kernel
set_option maxRecDepth 100000 in
theorem f_169_7 : xft 169 7 = some (.i2l) := by decide +kernel
set_option maxRecDepth 100000 in
theorem f_169_8 : xft 169 8 = some (.lastore) := by decide +kernel
set_option maxRecDepth 100000 in
theorem f_169_9 : xft 169 9 = some (.goto 9) := by decide +kernel
set_option maxRecDepth 100000 in
theorem f_169_12 : xft 169 12 = some (.astore_n 3) := by decide +kernel
set_option maxRecDepth 100000 in
theorem f_169_13 : xft 169 13 = some (.iconst 1) := by decide +kernel
set_option maxRecDepth 100000 in
theorem f_169_14 : xft 169 14 = some (.ireturn) := by decide +kernel
set_option maxRecDepth 100000 in
theorem f_169_15 : xft 169 15 = some (.astore_n 3) := by decide +kernel
set_option maxRecDepth 100000 in
theorem f_169_16 : xft 169 16 = some (.iconst 2) := by decide +kernel
set_option maxRecDepth 100000 in
theorem f_169_17 : xft 169 17 = some (.ireturn) := by decide +kernel
set_option maxRecDepth 100000 in
theorem f_169_18 : xft 169 18 = some (.iconst 0) := by decide +kernel
set_option maxRecDepth 100000 in
theorem f_169_19 : xft 169 19 = some (.ireturn) := by decide +kernel
set_option maxRecDepth 100000 in
theorem f_170_0 : xft 170 0 = some (.aload 5) := by decide +kernel
set_option maxRecDepth 100000 in
theorem f_170_2 : xft 170 2 = some (.iconst 0) := by decide +kernel
set_option maxRecDepth 100000 in
theorem f_170_3 : xft 170 3 = some (.aload_n 0) := by decide +kernel
set_option maxRecDepth 100000 in
theorem f_170_4 : xft 170 4 = some (.iload_n 1) := by decide +kernel
set_option maxRecDepth 100000 in
theorem f_170_5 : xft 170 5 = some (.iload_n 2) := by decide +kernel
set_option maxRecDepth 100000 in
theorem f_170_6 : xft 170 6 = some (.iload_n 3) := by decide +kernel
set_option maxRecDepth 100000 in
theorem f_170_7 : xft 170 7 = some (.iload 4) := by decide +kernel
set_option maxRecDepth 100000 in
theorem f_170_9 : xft 170 9 = some (.invokevirtual 52) := by decide +kernel
set_option maxRecDepth 100000 in
theorem f_170_12 : xft 170 12 = some (.i2l) := by decide +kernel
set_option maxRecDepth 100000 in
theorem f_170_13 : xft 170 13 = some (.lastore) := by decide +kernel
set_option maxRecDepth 100000 in
theorem f_170_14 : xft 170 14 = some (.goto 11) := by decide +kernel
set_option maxRecDepth 100000 in
theorem f_170_17 : xft 170 17 = some (.astore 6) := by decide +kernel
set_option maxRecDepth 100000 in
theorem f_170_19 : xft 170 19 = some (.iconst 1) := by decide +kernel
set_option maxRecDepth 100000 in
theorem f_170_20 : xft 170 20 = some (.ireturn) := by decide +kernel
set_option maxRecDepth 100000 in
theorem f_170_21 : xft 170 21 = some (.astore 6) := by decide +kernel
set_option maxRecDepth 100000 in
theorem f_170_23 : xft 170 23 = some (.iconst 2) := by decide +kernel
set_option maxRecDepth 100000 in
theorem f_170_24 : xft 170 24 = some (.ireturn) := by decide +kernel
set_option maxRecDepth 100000 in
theorem f_170_25 : xft 170 25 = some (.iconst 0) := by decide +kernel
set_option maxRecDepth 100000 in
theorem f_170_26 : xft 170 26 = some (.ireturn) := by decide +kernel
set_option maxRecDepth 100000 in
theorem f_171_0 : xft 171 0 = some (.aload 4) := by decide +kernel
set_option maxRecDepth 100000 in
theorem f_171_2 : xft 171 2 = some (.iconst 0) := by decide +kernel
set_option maxRecDepth 100000 in
theorem f_171_3 : xft 171 3 = some (.aload_n 0) := by decide +kernel
set_option maxRecDepth 100000 in
theorem f_171_4 : xft 171 4 = some (.iload_n 1) := by decide +kernel
set_option maxRecDepth 100000 in
theorem f_171_5 : xft 171 5 = some (.iload_n 2) := by decide +kernel
set_option maxRecDepth 100000 in
theorem f_171_6 : xft 171 6 = some (.iload_n 3) := by decide +kernel
set_option maxRecDepth 100000 in
theorem f_171_7 : xft 171 7 = some (.invokevirtual 55) := by decide +kernel
set_option maxRecDepth 100000 in
theorem f_171_10 : xft 171 10 = some (.i2l) := by decide +kernel
set_option maxRecDepth 100000 in
theorem f_171_11 : xft 171 11 = some (.lastore) := by decide +kernel
set_option maxRecDepth 100000 in
theorem f_171_12 : xft 171 12 = some (.goto 11) := by decide +kernel
set_option maxRecDepth 100000 in
theorem f_171_15 : xft 171 15 = some (.astore 5) := by decide +kernel
set_option maxRecDepth 100000 in
theorem f_171_17 : xft 171 17 = some (.iconst 1) := by decide +kernel
set_option maxRecDepth 100000 in
theorem f_171_18 : xft 171 18 = some (.ireturn) := by decide +kernel
set_option maxRecDepth 100000 in
theorem f_171_19 : xft 171 19 = some (.astore 5) := by decide +kernel
set_option maxRecDepth 100000 in
theorem f_171_21 : xft 171 21 = some (.iconst 2) := by decide +kernel
set_option maxRecDepth 100000 in
theorem f_171_22 : xft 171 22 = some (.ireturn) := by decide +kernel
set_option maxRecDepth 100000 in
theorem f_171_23 : xft 171 23 = some (.iconst 0) := by decide +kernel
set_option maxRecDepth 100000 in
theorem f_171_24 : xft 171 24 = some (.ireturn) := by decide +kernel
set_option maxRecDepth 100000 in
theorem f_172_0 : xft 172 0 = some (.aload 4) := by decide +kernel
set_option maxRecDepth 100000 in
theorem f_172_2 : xft 172 2 = some (.iconst 0) := by decide +kernel
set_option maxRecDepth 100000 in
theorem f_172_3 : xft 172 3 = some (.aload_n 0) := by decide +kernel
set_option maxRecDepth 100000 in
theorem f_172_4 : xft 172 4 = some (.iload_n 1) := by decide +kernel
set_option maxRecDepth 100000 in
theorem f_172_5 : xft 172 5 = some (.iload_n 2) := by decide +kernel
set_option maxRecDepth 100000 in
theorem f_172_6 : xft 172 6 = some (.iload_n 3) := by decide +kernel
set_option maxRecDepth 100000 in
theorem f_172_7 : xft 172 7 = some (.invokevirtual 58) := by decide +kernel
set_option maxRecDepth 100000 in
theorem f_172_10 : xft 172 10 = some (.i2l) := by decide +kernel
set_option maxRecDepth 100000 in
theorem f_172_11 : xft 172 11 = some (.lastore) := by decide +kernel
set_option maxRecDepth 100000 in
theorem f_172_12 : xft 172 12 = some (.goto 15) := by decide +kernel
set_option maxRecDepth 100000 in
theorem f_172_15 : xft 172 15 = some (.astore 5) := by decide +kernel
set_option maxRecDepth 100000 in
theorem f_172_17 : xft 172 17 = some (.iconst 1) := by decide +kernel
set_option maxRecDepth 100000 in
theorem f_172_18 : xft 172 18 = some (.ireturn) := by decide +kernel
set_option maxRecDepth 100000 in
theorem f_172_19 : xft 172 19 = some (.astore 5) := by decide +kernel
set_option maxRecDepth 100000 in
theorem f_172_21 : xft 172 21 = some (.iconst 2) := by decide +kernel
set_option maxRecDepth 100000 in
theorem f_172_22 : xft 172 22 = some (.ireturn) := by decide +kernel
set_option maxRecDepth 100000 in
theorem f_172_23 : xft 172 23 = some (.astore 5) := by decide +kernel
set_option maxRecDepth 100000 in
theorem f_172_25 : xft 172 25 = some (.iconst 3) := by decide +kernel
set_option maxRecDepth 100000 in
theorem f_172_26 : xft 172 26 = some (.ireturn) := by decide +kernel
set_option maxRecDepth 100000 in
theorem f_172_27 : xft 172 27 = some (.iconst 0) := by decide +kernel
set_option maxRecDepth 100000 in
theorem f_172_28 : xft 172 28 = some (.ireturn) := by decide +kernel
set_option maxRecDepth 100000 in
theorem f_173_0 : xft 173 0 = some (.aload_n 3) := by decide +kernel
set_option maxRecDepth 100000 in
theorem f_173_1 : xft 173 1 = some (.iconst 0) := by decide +kernel
set_option maxRecDepth 100000 in
theorem f_173_2 : xft 173 2 = some (.aload_n 0) := by decide +kernel
set_option maxRecDepth 100000 in
theorem f_173_3 : xft 173 3 = some (.iload_n 1) := by decide +kernel
set_option maxRecDepth 100000 in
theorem f_173_4 : xft 173 4 = some (.iload_n 2) := by decide +kernel
set_option maxRecDepth 100000 in
theorem f_173_5 : xft 173 5 = some (.invokevirtual 61) := by decide +kernel
set_option maxRecDepth 100000 in
theorem f_173_8 : xft 173 8 = some (.i2l) := by decide +kernel
set_option maxRecDepth 100000 in
theorem f_173_9 : xft 173 9 = some (.lastore) := by decide +kernel
set_option maxRecDepth 100000 in
theorem f_173_10 : xft 173 10 = some (.goto 11) := by decide +kernel
set_option maxRecDepth 100000 in
theorem f_173_13 : xft 173 13 = some (.astore 4) := by decide +kernel
set_option maxRecDepth 100000 in
theorem f_173_15 : xft 173 15 = some (.iconst 1) := by decide +kernel
set_option maxRecDepth 100000 in
theorem f_173_16 : xft 173 16 = some (.ireturn) := by decide +kernel
set_option maxRecDepth 100000 in
theorem f_173_17 : xft 173 17 = some (.astore 4) := by decide +kernel
set_option maxRecDepth 100000 in
theorem f_173_19 : xft 173 19 = some (.iconst 2) := by decide +kernel
set_option maxRecDepth 100000 in
theorem f_173_20 : xft 173 20 = some (.ireturn) := by decide +kernel
set_option maxRecDepth 100000 in
theorem f_173_21 : xft 173 21 = some (.iconst 0) := by decide +kernel
set_option maxRecDepth 100000 in
theorem f_173_22 : xft 173 22 = some (.ireturn) := by decide +kernel
set_option maxRecDepth 100000 in
theorem f_174_0 : xft 174 0 = some (.aload_n 2) := by decide +kernel
set_option maxRecDepth 100000 in
theorem f_174_1 : xft 174 1 = some (.iconst 0) := by decide +kernel
set_option maxRecDepth 100000 in
theorem f_174_2 : xft 174 2 = some (.aload_n 0) := by decide +kernel
set_option maxRecDepth 100000 in
theorem f_174_3 : xft 174 3 = some (.iload_n 1) := by decide +kernel
set_option maxRecDepth 100000 in
theorem f_174_4 : xft 174 4 = some (.invokevirtual 64) := by decide +kernel
set_option maxRecDepth 100000 in
theorem f_174_7 : xft 174 7 = some (.i2l) := by decide +kernel
set_option maxRecDepth 100000 in
theorem f_174_8 : xft 174 8 = some (.lastore) := by decide +kernel
set_option maxRecDepth 100000 in
theorem f_174_9 : xft 174 9 = some (.goto 6) := by decide +kernel
set_option maxRecDepth 100000 in
theorem f_174_12 : xft 174 12 = some (.astore_n 3) := by decide +kernel
set_option maxRecDepth 100000 in
theorem f_174_13 : xft 174 13 = some (.iconst 1) := by decide +kernel
set_option maxRecDepth 100000 in
theorem f_174_14 : xft 174 14 = some (.ireturn) := by decide +kernel
set_option maxRecDepth 100000 in
theorem f_174_15 : xft 174 15 = some (.iconst 0) := by decide +kernel
set_option maxRecDepth 100000 in
theorem f_174_16 : xft 174 16 = some (.ireturn) := by decide +kernel
set_option maxRecDepth 100000 in
theorem f_175_0 : xft 175 0 = some (.aload 5) := by decide +kernel
set_option maxRecDepth 100000 in
theorem f_175_2 : xft 175 2 = some (.iconst 0) := by decide +kernel
set_option maxRecDepth 100000 in
theorem f_175_3 : xft 175 3 = some (.aload_n 0) := by decide +kernel
set_option maxRecDepth 100000 in
theorem f_175_4 : xft 175 4 = some (.iload_n 1) := by decide +kernel
set_option maxRecDepth 100000 in
theorem f_175_5 : xft 175 5 = some (.iload_n 2) := by decide +kernel
set_option maxRecDepth 100000 in
theorem f_175_6 : xft 175 6 = some (.iload_n 3) := by decide +kernel
set_option maxRecDepth 100000 in
theorem f_175_7 : xft 175 7 = some (.iload 4) := by decide +kernel
set_option maxRecDepth 100000 in
theorem f_175_9 : xft 175 9 = some (.invokevirtual 67) := by decide +kernel
set_option maxRecDepth 100000 in
theorem f_175_12 : xft 175 12 = some (.i2l) := by decide +kernel
set_option maxRecDepth 100000 in
theorem f_175_13 : xft 175 13 = some (.lastore) := by decide +kernel
set_option maxRecDepth 100000 in
theorem f_175_14 : xft 175 14 = some (.goto 15) := by decide +kernel
set_option maxRecDepth 100000 in
theorem f_175_17 : xft 175 17 = some (.astore 6) := by decide +kernel
set_option maxRecDepth 100000 in
theorem f_175_19 : xft 175 19 = some (.iconst 1) := by decide +kernel
set_option maxRecDepth 100000 in
theorem f_175_20 : xft 175 20 = some (.ireturn) := by decide +kernel
set_option maxRecDepth 100000 in
theorem f_175_21 : xft 175 21 = some (.astore 6) := by decide +kernel
set_option maxRecDepth 100000 in
theorem f_175_23 : xft 175 23 = some (.iconst 2) := by decide +kernel
set_option maxRecDepth 100000 in
theorem f_175_24 : xft 175 24 = some (.ireturn) := by decide +kernel
set_option maxRecDepth 100000 in
theorem f_175_25 : xft 175 25 = some (.astore 6) := by decide +kernel
set_option maxRecDepth 100000 in
theorem f_175_27 : xft 175 27 = some (.iconst 3) := by decide +kernel
set_option maxRecDepth 100000 in
theorem f_175_28 : xft 175 28 = some (.ireturn) := by decide +kernel
set_option maxRecDepth 100000 in
theorem f_175_29 : xft 175 29 = some (.iconst 0) := by decide +kernel
set_option maxRecDepth 100000 in
theorem f_175_30 : xft 175 30 = some (.ireturn) := by decide +kernel
set_option maxRecDepth 100000 in
theorem f_176_0 : xft 176 0 = some (.aload 4) := by decide +kernel
set_option maxRecDepth 100000 in
theorem f_176_2 : xft 176 2 = some (.iconst 0) := by decide +kernel
set_option maxRecDepth 100000 in
theorem f_176_3 : xft 176 3 = some (.aload_n 0) := by decide +kernel
set_option maxRecDepth 100000 in
theorem f_176_4 : xft 176 4 = some (.iload_n 1) := by decide +kernel
set_option maxRecDepth 100000 in
theorem f_176_5 : xft 176 5 = some (.iload_n 2) := by decide +kernel
set_option maxRecDepth 100000 in
theorem f_176_6 : xft 176 6 = some (.iload_n 3) := by decide +kernel
set_option maxRecDepth 100000 in
theorem f_176_7 : xft 176 7 = some (.invokevirtual 70) := by decide +kernel
set_option maxRecDepth 100000 in
theorem f_176_10 : xft 176 10 = some (.i2l) := by decide +kernel
set_option maxRecDepth 100000 in
theorem f_176_11 : xft 176 11 = some (.lastore) := by decide +kernel
set_option maxRecDepth 100000 in
theorem f_176_12 : xft 176 12 = some (.goto 11) := by decide +kernel
set_option maxRecDepth 100000 in
theorem f_176_15 : xft 176 15 = some (.astore 5) := by decide +kernel
set_option maxRecDepth 100000 in
theorem f_176_17 : xft 176 17 = some (.iconst 1) := by decide +kernel
set_option maxRecDepth 100000 in
theorem f_176_18 : xft 176 18 = some (.ireturn) := by decide +kernel
set_option maxRecDepth 100000 in
theorem f_176_19 : xft 176 19 = some (.astore 5) := by decide +kernel
set_option maxRecDepth 100000 in
theorem f_176_21 : xft 176 21 = some (.iconst 2) := by decide +kernel
set_option maxRecDepth 100000 in
theorem f_176_22 : xft 176 22 = some (.ireturn) := by decide +kernel
set_option maxRecDepth 100000 in
theorem f_176_23 : xft 176 23 = some (.iconst 0) := by decide +kernel
set_option maxRecDepth 100000 in
theorem f_176_24 : xft 176 24 = some (.ireturn) := by decide +kernel
set_option maxRecDepth 100000 in
theorem f_177_0 : xft 177 0 = some (.aload 4) := by decide +kernel
set_option maxRecDepth 100000 in
theorem f_177_2 : xft 177 2 = some (.iconst 0) := by decide +kernel
set_option maxRecDepth 100000 in
theorem f_177_3 : xft 177 3 = some (.aload_n 0) := by decide +kernel
set_option maxRecDepth 100000 in
theorem f_177_4 : xft 177 4 = some (.iload_n 1) := by decide +kernel
set_option maxRecDepth 100000 in
theorem f_177_5 : xft 177 5 = some (.iload_n 2) := by decide +kernel
set_option maxRecDepth 100000 in
theorem f_177_6 : xft 177 6 = some (.iload_n 3) := by decide +kernel
set_option maxRecDepth 100000 in
theorem f_177_7 : xft 177 7 = some (.invokevirtual 73) := by decide +kernel
set_option maxRecDepth 100000 in
theorem f_177_10 : xft 177 10 = some (.i2l) := by decide +kernel
set_option maxRecDepth 100000 in
theorem f_177_11 : xft 177 11 = some (.lastore) := by decide +kernel
set_option maxRecDepth 100000 in
theorem f_177_12 : xft 177 12 = some (.goto 11) := by decide +kernel
set_option maxRecDepth 100000 in
theorem f_177_15 : xft 177 15 = some (.astore 5) := by decide +kernel
set_option maxRecDepth 100000 in
theorem f_177_17 : xft 177 17 = some (.iconst 1) := by decide +kernel
set_option maxRecDepth 100000 in
theorem f_177_18 : xft 177 18 = some (.ireturn) := by decide +kernel
set_option maxRecDepth 100000 in
theorem f_177_19 : xft 177 19 = some (.astore 5) := by decide +kernel
set_option maxRecDepth 100000 in
theorem f_177_21 : xft 177 21 = some (.iconst 2) := by decide +kernel
set_option maxRecDepth 100000 in
theorem f_177_22 : xft 177 22 = some (.ireturn) := by decide +kernel
set_option maxRecDepth 100000 in
theorem f_177_23 : xft 177 23 = some (.iconst 0) := by decide +kernel
set_option maxRecDepth 100000 in
theorem f_177_24 : xft 177 24 = some (.ireturn) := by decide +kernel
set_option maxRecDepth 100000 in
theorem f_178_0 : xft 178 0 = some (.aload 4) := by decide +kernel
set_option maxRecDepth 100000 in
theorem f_178_2 : xft 178 2 = some (.iconst 0) := by decide +kernel
set_option maxRecDepth 100000 in
theorem f_178_3 : xft 178 3 = some (.aload_n 0) := by decide +kernel
set_option maxRecDepth 100000 in
theorem f_178_4 : xft 178 4 = some (.iload_n 1) := by decide +kernel
set_option maxRecDepth 100000 in
theorem f_178_5 : xft 178 5 = some (.iload_n 2) := by decide +kernel
set_option maxRecDepth 100000 in
theorem f_178_6 : xft 178 6 = some (.iload_n 3) := by decide +kernel
set_option maxRecDepth 100000 in
theorem f_178_7 : xft 178 7 = some (.invokevirtual 76) := by decide +kernel
set_option maxRecDepth 100000 in
theorem f_178_10 : xft 178 10 = some (.i2l) := by decide +kernel
set_option maxRecDepth 100000 in
theorem f_178_11 : xft 178 11 = some (.lastore) := by decide +kernel
set_option maxRecDepth 100000 in
theorem f_178_12 : xft 178 12 = some (.goto 11) := by decide +kernel
set_option maxRecDepth 100000 in
theorem f_178_15 : xft 178 15 = some (.astore 5) := by decide +kernel
set_option maxRecDepth 100000 in
theorem f_178_17 : xft 178 17 = some (.iconst 1) := by decide +kernel
set_option maxRecDepth 100000 in
theorem f_178_18 : xft 178 18 = some (.ireturn) := by decide +kernel
set_option maxRecDepth 100000 in
theorem f_178_19 : xft 178 19 = some (.astore 5) := by decide +kernel
set_option maxRecDepth 100000 in
theorem f_178_21 : xft 178 21 = some (.iconst 2) := by decide +kernel
set_option maxRecDepth 100000 in
theorem f_178_22 : xft 178 22 = some (.ireturn) := by decide +kernel
set_option maxRecDepth 100000 in
theorem f_178_23 : xft 178 23 = some (.iconst 0) := by decide +kernel
set_option maxRecDepth 100000 in
theorem f_178_24 : xft 178 24 = some (.ireturn) := by decide +kernel
set_option maxRecDepth 100000 in
theorem f_179_0 : xft 179 0 = some (.aload 4) := by decide +kernel
set_option maxRecDepth 100000 in
theorem f_179_2 : xft 179 2 = some (.iconst 0) := by decide +kernel
set_option maxRecDepth 100000 in
theorem f_179_3 : xft 179 3 = some (.aload_n 0) := by decide +kernel
set_option maxRecDepth 100000 in
theorem f_179_4 : xft 179 4 = some (.iload_n 1) := by decide +kernel
set_option maxRecDepth 100000 in
theorem f_179_5 : xft 179 5 = some (.iload_n 2) := by decide +kernel
set_option maxRecDepth 100000 in
theorem f_179_6 : xft 179 6 = some (.iload_n 3) := by decide +kernel
set_option maxRecDepth 100000 in
theorem f_179_7 : xft 179 7 = some (.invokevirtual 79) := by decide +kernel
set_option maxRecDepth 100000 in
theorem f_179_10 : xft 179 10 = some (.i2l) := by decide +kernel
set_option maxRecDepth 100000 in
theorem f_179_11 : xft 179 11 = some (.lastore) := by decide +kernel
set_option maxRecDepth 100000 in
theorem f_179_12 : xft 179 12 = some (.goto 11) := by decide +kernel
set_option maxRecDepth 100000 in
theorem f_179_15 : xft 179 15 = some (.astore 5) := by decide +kernel
set_option maxRecDepth 100000 in
theorem f_179_17 : xft 179 17 = some (.iconst 1) := by decide +kernel
set_option maxRecDepth 100000 in
theorem f_179_18 : xft 179 18 = some (.ireturn) := by decide +kernel
set_option maxRecDepth 100000 in
theorem f_179_19 : xft 179 19 = some (.astore 5) := by decide +kernel
set_option maxRecDepth 100000 in
theorem f_179_21 : xft 179 21 = some (.iconst 2) := by decide +kernel
set_option maxRecDepth 100000 in
theorem f_179_22 : xft 179 22 = some (.ireturn) := by decide +kernel
set_option maxRecDepth 100000 in
theorem f_179_23 : xft 179 23 = some (.iconst 0) := by decide +kernel
set_option maxRecDepth 100000 in
theorem f_179_24 : xft 179 24 = some (.ireturn) := by decide +kernel
set_option maxRecDepth 100000 in
theorem f_180_0 : xft 180 0 = some (.aload 4) := by decide +kernel
set_option maxRecDepth 100000 in
theorem f_180_2 : xft 180 2 = some (.iconst 0) := by decide +kernel
set_option maxRecDepth 100000 in
theorem f_180_3 : xft 180 3 = some (.aload_n 0) := by decide +kernel
set_option maxRecDepth 100000 in
theorem f_180_4 : xft 180 4 = some (.iload_n 1) := by decide +kernel
set_option maxRecDepth 100000 in
theorem f_180_5 : xft 180 5 = some (.iload_n 2) := by decide +kernel
set_option maxRecDepth 100000 in
theorem f_180_6 : xft 180 6 = some (.iload_n 3) := by decide +kernel
set_option maxRecDepth 100000 in
theorem f_180_7 : xft 180 7 = some (.invokevirtual 82) := by decide +kernel
set_option maxRecDepth 100000 in
theorem f_180_10 : xft 180 10 = some (.i2l) := by decide +kernel
set_option maxRecDepth 100000 in
theorem f_180_11 : xft 180 11 = some (.lastore) := by decide +kernel
set_option maxRecDepth 100000 in
theorem f_180_12 : xft 180 12 = some (.goto 11) := by decide +kernel
set_option maxRecDepth 100000 in
theorem f_180_15 : xft 180 15 = some (.astore 5) := by decide +kernel
set_option maxRecDepth 100000 in
theorem f_180_17 : xft 180 17 = some (.iconst 1) := by decide +kernel
set_option maxRecDepth 100000 in
theorem f_180_18 : xft 180 18 = some (.ireturn) := by decide +kernel
set_option maxRecDepth 100000 in
theorem f_180_19 : xft 180 19 = some (.astore 5) := by decide +kernel
set_option maxRecDepth 100000 in
theorem f_180_21 : xft 180 21 = some (.iconst 2) := by decide +kernel
set_option maxRecDepth 100000 in
theorem f_180_22 : xft 180 22 = some (.ireturn) := by decide +kernel
set_option maxRecDepth 100000 in
theorem f_180_23 : xft 180 23 = some (.iconst 0) := by decide +kernel
set_option maxRecDepth 100000 in
theorem f_180_24 : xft 180 24 = some (.ireturn) := by decide +kernel
set_option maxRecDepth 100000 in
theorem f_181_0 : xft 181 0 = some (.aload 5) := by decide +kernel
set_option maxRecDepth 100000 in
theorem f_181_2 : xft 181 2 = some (.iconst 0) := by decide +kernel
set_option maxRecDepth 100000 in
theorem f_181_3 : xft 181 3 = some (.aload_n 0) := by decide +kernel
set_option maxRecDepth 100000 in
theorem f_181_4 : xft 181 4 = some (.iload_n 1) := by decide +kernel
set_option maxRecDepth 100000 in
theorem f_181_5 : xft 181 5 = some (.iload_n 2) := by decide +kernel
set_option maxRecDepth 100000 in
theorem f_181_6 : xft 181 6 = some (.iload_n 3) := by decide +kernel
set_option maxRecDepth 100000 in
theorem f_181_7 : xft 181 7 = some (.iload 4) := by decide +kernel
set_option maxRecDepth 100000 in
theorem f_181_9 : xft 181 9 = some (.invokevirtual 85) := by decide +kernel
set_option maxRecDepth 100000 in
theorem f_181_12 : xft 181 12 = some (.i2l) := by decide +kernel
set_option maxRecDepth 100000 in
theorem f_181_13 : xft 181 13 = some (.lastore) := by decide +kernel
set_option maxRecDepth 100000 in
theorem f_181_14 : xft 181 14 = some (.goto 11) := by decide +kernel
set_option maxRecDepth 100000 in
theorem f_181_17 : xft 181 17 = some (.astore 6) := by decide +kernel
set_option maxRecDepth 100000 in
theorem f_181_19 : xft 181 19 = some (.iconst 1) := by decide +kernel
set_option maxRecDepth 100000 in
theorem f_181_20 : xft 181 20 = some (.ireturn) := by decide +kernel
set_option maxRecDepth 100000 in
theorem f_181_21 : xft 181 21 = some (.astore 6) := by decide +kernel
set_option maxRecDepth 100000 in
theorem f_181_23 : xft 181 23 = some (.iconst 2) := by decide +kernel
set_option maxRecDepth 100000 in
theorem f_181_24 : xft 181 24 = some (.ireturn) := by decide +kernel
set_option maxRecDepth 100000 in
theorem f_181_25 : xft 181 25 = some (.iconst 0) := by decide +kernel
set_option maxRecDepth 100000 in
theorem f_181_26 : xft 181 26 = some (.ireturn) := by decide +kernel
set_option maxRecDepth 100000 in
theorem f_182_0 : xft 182 0 = some (.aload 4) := by decide +kernel
set_option maxRecDepth 100000 in
theorem f_182_2 : xft 182 2 = some (.iconst 0) := by decide +kernel
set_option maxRecDepth 100000 in
theorem f_182_3 : xft 182 3 = some (.aload_n 0) := by decide +kernel
set_option maxRecDepth 100000 in
theorem f_182_4 : xft 182 4 = some (.iload_n 1) := by decide +kernel
set_option maxRecDepth 100000 in
theorem f_182_5 : xft 182 5 = some (.iload_n 2) := by decide +kernel
set_option maxRecDepth 100000 in
theorem f_182_6 : xft 182 6 = some (.iload_n 3) := by decide +kernel
set_option maxRecDepth 100000 in
theorem f_182_7 : xft 182 7 = some (.invokevirtual 88) := by decide +kernel
set_option maxRecDepth 100000 in
theorem f_182_10 : xft 182 10 = some (.i2l) := by decide +kernel
set_option maxRecDepth 100000 in
theorem f_182_11 : xft 182 11 = some (.lastore) := by decide +kernel
set_option maxRecDepth 100000 in
theorem f_182_12 : xft 182 12 = some (.goto 11) := by decide +kernel
set_option maxRecDepth 100000 in
theorem f_182_15 : xft 182 15 = some (.astore 5) := by decide +kernel
set_option maxRecDepth 100000 in
theorem f_182_17 : xft 182 17 = some (.iconst 1) := by decide +kernel
set_option maxRecDepth 100000 in
theorem f_182_18 : xft 182 18 = some (.ireturn) := by decide +kernel
set_option maxRecDepth 100000 in
theorem f_182_19 : xft 182 19 = some (.astore 5) := by decide +kernel
set_option maxRecDepth 100000 in
theorem f_182_21 : xft 182 21 = some (.iconst 2) := by decide +kernel
set_option maxRecDepth 100000 in
theorem f_182_22 : xft 182 22 = some (.ireturn) := by decide +kernel
set_option maxRecDepth 100000 in
theorem f_182_23 : xft 182 23 = some (.iconst 0) := by decide +kernel
set_option maxRecDepth 100000 in
theorem f_182_24 : xft 182 24 = some (.ireturn) := by decide +kernel
set_option maxRecDepth 100000 in
theorem f_183_0 : xft 183 0 = some (.aload 7) := by decide +kernel
set_option maxRecDepth 100000 in
theorem f_183_2 : xft 183 2 = some (.iconst 0) := by decide +kernel
set_option maxRecDepth 100000 in
theorem f_183_3 : xft 183 3 = some (.aload_n 0) := by decide +kernel
set_option maxRecDepth 100000 in
theorem f_183_4 : xft 183 4 = some (.iload_n 1) := by decide +kernel
set_option maxRecDepth 100000 in
theorem f_183_5 : xft 183 5 = some (.iload_n 2) := by decide +kernel
set_option maxRecDepth 100000 in
theorem f_183_6 : xft 183 6 = some (.iload_n 3) := by decide +kernel
set_option maxRecDepth 100000 in
theorem f_183_7 : xft 183 7 = some (.iload 4) := by decide +kernel
set_option maxRecDepth 100000 in
theorem f_183_9 : xft 183 9 = some (.iload 5) := by decide +kernel
set_option maxRecDepth 100000 in
theorem f_183_11 : xft 183 11 = some (.iload 6) := by decide +kernel
set_option maxRecDepth 100000 in
theorem f_183_13 : xft 183 13 = some (.invokevirtual 91) := by decide +kernel
set_option maxRecDepth 100000 in
theorem f_183_16 : xft 183 16 = some (.i2l) := by decide +kernel
set_option maxRecDepth 100000 in
theorem f_183_17 : xft 183 17 = some (.lastore) := by decide +kernel
set_option maxRecDepth 100000 in
theorem f_183_18 : xft 183 18 = some (.goto 15) := by decide +kernel
set_option maxRecDepth 100000 in
theorem f_183_21 : xft 183 21 = some (.astore 8) := by decide +kernel
set_option maxRecDepth 100000 in
theorem f_183_23 : xft 183 23 = some (.iconst 1) := by decide +kernel
set_option maxRecDepth 100000 in
theorem f_183_24 : xft 183 24 = some (.ireturn) := by decide +kernel
set_option maxRecDepth 100000 in
theorem f_183_25 : xft 183 25 = some (.astore 8) := by decide +kernel
set_option maxRecDepth 100000 in
theorem f_183_27 : xft 183 27 = some (.iconst 2) := by decide +kernel
set_option maxRecDepth 100000 in
theorem f_183_28 : xft 183 28 = some (.ireturn) := by decide +kernel
set_option maxRecDepth 100000 in
theorem f_183_29 : xft 183 29 = some (.astore 8) := by decide +kernel
set_option maxRecDepth 100000 in
theorem f_183_31 : xft 183 31 = some (.iconst 3) := by decide +kernel
set_option maxRecDepth 100000 in
theorem f_183_32 : xft 183 32 = some (.ireturn) := by decide +kernel
set_option maxRecDepth 100000 in
theorem f_183_33 : xft 183 33 = some (.iconst 0) := by decide +kernel
set_option maxRecDepth 100000 in
theorem f_183_34 : xft 183 34 = some (.ireturn) := by decide +kernel
set_option maxRecDepth 100000 in
theorem f_184_0 : xft 184 0 = some (.aload_n 2) := by decide +kernel
set_option maxRecDepth 100000 in
theorem f_184_1 : xft 184 1 = some (.iconst 0) := by decide +kernel
set_option maxRecDepth 100000 in
theorem f_184_2 : xft 184 2 = some (.aload_n 0) := by decide +kernel
set_option maxRecDepth 100000 in
theorem f_184_3 : xft 184 3 = some (.iload_n 1) := by decide +kernel
set_option maxRecDepth 100000 in
theorem f_184_4 : xft 184 4 = some (.invokevirtual 95) := by decide +kernel
set_option maxRecDepth 100000 in
theorem f_184_7 : xft 184 7 = some (.i2l) := by decide +kernel
set_option maxRecDepth 100000 in
theorem f_184_8 : xft 184 8 = some (.lastore) := by decide +kernel
set_option maxRecDepth 100000 in
theorem f_184_9 : xft 184 9 = some (.goto 6) := by decide +kernel
set_option maxRecDepth 100000 in
theorem f_184_12 : xft 184 12 = some (.astore_n 3) := by decide +kernel
set_option maxRecDepth 100000 in
theorem f_184_13 : xft 184 13 = some (.iconst 1) := by decide +kernel
set_option maxRecDepth 100000 in
theorem f_184_14 : xft 184 14 = some (.ireturn) := by decide +kernel
set_option maxRecDepth 100000 in
theorem f_184_15 : xft 184 15 = some (.iconst 0) := by decide +kernel
set_option maxRecDepth 100000 in
theorem f_184_16 : xft 184 16 = some (.ireturn) := by decide +kernel
set_option maxRecDepth 100000 in
theorem f_185_0 : xft 185 0 = some (.aload 4) := by decide +kernel
set_option maxRecDepth 100000 in
theorem f_185_2 : xft 185 2 = some (.iconst 0) := by decide +kernel
set_option maxRecDepth 100000 in
theorem f_185_3 : xft 185 3 = some (.aload_n 0) := by decide +kernel
set_option maxRecDepth 100000 in
theorem f_185_4 : xft 185 4 = some (.iload_n 1) := by decide +kernel
set_option maxRecDepth 100000 in
theorem f_185_5 : xft 185 5 = some (.iload_n 2) := by decide +kernel
set_option maxRecDepth 100000 in
theorem f_185_6 : xft 185 6 = some (.iload_n 3) := by decide +kernel
set_option maxRecDepth 100000 in
theorem f_185_7 : xft 185 7 = some (.invokevirtual 98) := by decide +kernel
set_option maxRecDepth 100000 in
theorem f_185_10 : xft 185 10 = some (.i2l) := by decide +kernel
set_option maxRecDepth 100000 in
theorem f_185_11 : xft 185 11 = some (.lastore) := by decide +kernel
set_option maxRecDepth 100000 in
theorem f_185_12 : xft 185 12 = some (.goto 11) := by decide +kernel
set_option maxRecDepth 100000 in
theorem f_185_15 : xft 185 15 = some (.astore 5) := by decide +kernel
set_option maxRecDepth 100000 in
theorem f_185_17 : xft 185 17 = some (.iconst 1) := by decide +kernel
set_option maxRecDepth 100000 in
theorem f_185_18 : xft 185 18 = some (.ireturn) := by decide +kernel
set_option maxRecDepth 100000 in
theorem f_185_19 : xft 185 19 = some (.astore 5) := by decide +kernel
set_option maxRecDepth 100000 in
theorem f_185_21 : xft 185 21 = some (.iconst 2) := by decide +kernel
set_option maxRecDepth 100000 in
theorem f_185_22 : xft 185 22 = some (.ireturn) := by decide +kernel
set_option maxRecDepth 100000 in
theorem f_185_23 : xft 185 23 = some (.iconst 0) := by decide +kernel
set_option maxRecDepth 100000 in
theorem f_185_24 : xft 185 24 = some (.ireturn) := by decide +kernel
set_option maxRecDepth 100000 in
theorem f_186_0 : xft 186 0 = some (.aload 5) := by decide +kernel
set_option maxRecDepth 100000 in
theorem f_186_2 : xft 186 2 = some (.iconst 0) := by decide +kernel
set_option maxRecDepth 100000 in
theorem f_186_3 : xft 186 3 = some (.aload_n 0) := by decide +kernel
set_option maxRecDepth 100000 in
theorem f_186_4 : xft 186 4 = some (.iload_n 1) := by decide +kernel
set_option maxRecDepth 100000 in
theorem f_186_5 : xft 186 5 = some (.iload_n 2) := by decide +kernel
set_option maxRecDepth 100000 in
theorem f_186_6 : xft 186 6 = some (.iload_n 3) := by decide +kernel
set_option maxRecDepth 100000 in
theorem f_186_7 : xft 186 7 = some (.iload 4) := by decide +kernel
set_option maxRecDepth 100000 in
theorem f_186_9 : xft 186 9 = some (.invokevirtual 101) := by decide +kernel
set_option maxRecDepth 100000 in
theorem f_186_12 : xft 186 12 = some (.i2l) := by decide +kernel
set_option maxRecDepth 100000 in
theorem f_186_13 : xft 186 13 = some (.lastore) := by decide +kernel
set_option maxRecDepth 100000 in
theorem f_186_14 : xft 186 14 = some (.goto 11) := by decide +kernel
set_option maxRecDepth 100000 in
theorem f_186_17 : xft 186 17 = some (.astore 6) := by decide +kernel
set_option maxRecDepth 100000 in
theorem f_186_19 : xft 186 19 = some (.iconst 1) := by decide +kernel
set_option maxRecDepth 100000 in
theorem f_186_20 : xft 186 20 = some (.ireturn) := by decide +kernel
set_option maxRecDepth 100000 in
theorem f_186_21 : xft 186 21 = some (.astore 6) := by decide +kernel
set_option maxRecDepth 100000 in
theorem f_186_23 : xft 186 23 = some (.iconst 2) := by decide +kernel
set_option maxRecDepth 100000 in
theorem f_186_24 : xft 186 24 = some (.ireturn) := by decide +kernel
set_option maxRecDepth 100000 in
theorem f_186_25 : xft 186 25 = some (.iconst 0) := by decide +kernel
set_option maxRecDepth 100000 in
theorem f_186_26 : xft 186 26 = some (.ireturn) := by decide +kernel
set_option maxRecDepth 100000 in
theorem f_187_0 : xft 187 0 = some (.aload 4) := by decide +kernel
set_option maxRecDepth 100000 in
theorem f_187_2 : xft 187 2 = some (.iconst 0) := by decide +kernel
set_option maxRecDepth 100000 in
theorem f_187_3 : xft 187 3 = some (.aload_n 0) := by decide +kernel
set_option maxRecDepth 100000 in
theorem f_187_4 : xft 187 4 = some (.iload_n 1) := by decide +kernel
set_option maxRecDepth 100000 in
theorem f_187_5 : xft 187 5 = some (.iload_n 2) := by decide +kernel
set_option maxRecDepth 100000 in
theorem f_187_6 : xft 187 6 = some (.iload_n 3) := by decide +kernel
set_option maxRecDepth 100000 in
theorem f_187_7 : xft 187 7 = some (.invokevirtual 104) := by decide +kernel
set_option maxRecDepth 100000 in
theorem f_187_10 : xft 187 10 = some (.i2l) := by decide +kernel
set_option maxRecDepth 100000 in
theorem f_187_11 : xft 187 11 = some (.lastore) := by decide +kernel
set_option maxRecDepth 100000 in
theorem f_187_12 : xft 187 12 = some (.goto 11) := by decide +kernel
set_option maxRecDepth 100000 in
theorem f_187_15 : xft 187 15 = some (.astore 5) := by decide +kernel
set_option maxRecDepth 100000 in
theorem f_187_17 : xft 187 17 = some (.iconst 1) := by decide +kernel
set_option maxRecDepth 100000 in
theorem f_187_18 : xft 187 18 = some (.ireturn) := by decide +kernel
set_option maxRecDepth 100000 in
theorem f_187_19 : xft 187 19 = some (.astore 5) := by decide +kernel
set_option maxRecDepth 100000 in
theorem f_187_21 : xft 187 21 = some (.iconst 2) := by decide +kernel
set_option maxRecDepth 100000 in
theorem f_187_22 : xft 187 22 = some (.ireturn) := by decide +kernel
set_option maxRecDepth 100000 in
theorem f_187_23 : xft 187 23 = some (.iconst 0) := by decide +kernel
set_option maxRecDepth 100000 in
theorem f_187_24 : xft 187 24 = some (.ireturn) := by decide +kernel
set_option maxRecDepth 100000 in
theorem f_188_0 : xft 188 0 = some (.new 8) := by decide +kernel
set_option maxRecDepth 100000 in
theorem f_188_3 : xft 188 3 = some (.dup) := by decide +kernel
set_option maxRecDepth 100000 in
theorem f_188_4 : xft 188 4 = some (.invokespecial 107) := by decide +kernel
set_option maxRecDepth 100000 in
theorem f_188_7 : xft 188 7 = some (.astore_n 1) := by decide +kernel
set_option maxRecDepth 100000 in
theorem f_188_8 : xft 188 8 = some (.new 108) := by decide +kernel
set_option maxRecDepth 100000 in
theorem f_188_11 : xft 188 11 = some (.dup) := by decide +kernel
set_option maxRecDepth 100000 in
theorem f_188_12 : xft 188 12 = some (.invokespecial 110) := by decide +kernel
set_option maxRecDepth 100000 in
theorem f_188_15 : xft 188 15 = some (.astore_n 2) := by decide +kernel
set_option maxRecDepth 100000 in
theorem f_188_16 : xft 188 16 = some (.iconst 1) := by decide +kernel
set_option maxRecDepth 100000 in
theorem f_188_17 : xft 188 17 = some (.newarray .long) := by decide +kernel
set_option maxRecDepth 100000 in
theorem f_188_19 : xft 188 19 = some (.astore_n 3) := by decide +kernel
set_option maxRecDepth 100000 in
theorem f_188_20 : xft 188 20 = some (.iconst 0) := by decide +kernel
set_option maxRecDepth 100000 in
theorem f_188_21 : xft 188 21 = some (.istore 4) := by decide +kernel
set_option maxRecDepth 100000 in
theorem f_188_23 : xft 188 23 = some (.iload 4) := by decide +kernel
set_option maxRecDepth 100000 in
theorem f_188_25 : xft 188 25 = some (.aload_n 0) := by decide +kernel
set_option maxRecDepth 100000 in
theorem f_188_26 : xft 188 26 = some (.arraylength) := by decide +kernel
set_option maxRecDepth 100000 in
theorem f_188_27 : xft 188 27 = some (.bipush 7) := by decide +kernel
set_option maxRecDepth 100000 in
theorem f_188_29 : xft 188 29 = some (.isub) := by decide +kernel
set_option maxRecDepth 100000 in
theorem f_188_30 : xft 188 30 = some (.if_icmp .gt 2444) := by decide +kernel
set_option maxRecDepth 100000 in
theorem f_188_33 : xft 188 33 = some (.aload_n 0) := by decide +kernel
set_option maxRecDepth 100000 in
theorem f_188_34 : xft 188 34 = some (.iload 4) := by decide +kernel
set_option maxRecDepth 100000 in
theorem f_188_36 : xft 188 36 = some (.iaload) := by decide +kernel
set_option maxRecDepth 100000 in
theorem f_188_37 : xft 188 37 = some (.bipush 31) := by decide +kernel
set_option maxRecDepth 100000 in
theorem f_188_39 : xft 188 39 = some (.iand) := by decide +kernel
set_option maxRecDepth 100000 in
theorem f_188_40 : xft 188 40 = some (.tableswitch 2428 0 28 #[132, 188, 268, 402, 522, 590, 658, 733, 801, 893, 949, 1041, 1121, 1201, 1269, 1325, 1417, 1497, 1577, 1657, 1737, 1817, 1909, 1989, 2107, 2163, 2243, 2335, 2415]) := by decide +kernel
set_option maxRecDepth 100000 in
theorem f_188_172 : xft 188 172 = some (.aload_n 1) := by decide +kernel
set_option maxRecDepth 100000 in
theorem f_188_173 : xft 188 173 = some (.aload_n 0) := by decide +kernel
set_option maxRecDepth 100000 in
theorem f_188_174 : xft 188 174 = some (.iload 4) := by decide +kernel
set_option maxRecDepth 100000 in
theorem f_188_176 : xft 188 176 = some (.iconst 1) := by decide +kernel
set_option maxRecDepth 100000 in
theorem f_188_177 : xft 188 177 = some (.iadd) := by decide +kernel
set_option maxRecDepth 100000 in
theorem f_188_178 : xft 188 178 = some (.iaload) := by decide +kernel
set_option maxRecDepth 100000 in
theorem f_188_179 : xft 188 179 = some (.aload_n 3) := by decide +kernel
set_option maxRecDepth 100000 in
theorem f_188_180 : xft 188 180 = some (.invokestatic 111) := by decide +kernel
set_option maxRecDepth 100000 in
theorem f_188_183 : xft 188 183 = some (.istore 5) := by decide +kernel
set_option maxRecDepth 100000 in
theorem f_188_185 : xft 188 185 = some (.aload_n 2) := by decide +kernel
set_option maxRecDepth 100000 in
theorem f_188_186 : xft 188 186 = some (.aload_n 0) := by decide +kernel
set_option maxRecDepth 100000 in
theorem f_188_187 : xft 188 187 = some (.iload 4) := by decide +kernel
set_option maxRecDepth 100000 in
theorem f_188_189 : xft 188 189 = some (.iconst 1) := by decide +kernel
set_option maxRecDepth 100000 in
theorem f_188_190 : xft 188 190 = some (.iadd) := by decide +kernel
set_option maxRecDepth 100000 in
theorem f_188_191 : xft 188 191 = some (.iaload) := by decide +kernel
set_option maxRecDepth 100000 in
theorem f_188_192 : xft 188 192 = some (.invokevirtual 116) := by decide +kernel
set_option maxRecDepth 100000 in
theorem f_188_195 : xft 188 195 = some (.istore 6) := by decide +kernel
set_option maxRecDepth 100000 in
theorem f_188_197 : xft 188 197 = some (.aload_n 2) := by decide +kernel
set_option maxRecDepth 100000 in
theorem f_188_198 : xft 188 198 = some (.invokevirtual 117) := by decide +kernel
set_option maxRecDepth 100000 in
theorem f_188_201 : xft 188 201 = some (.iload 5) := by decide +kernel
set_option maxRecDepth 100000 in
theorem f_188_203 : xft 188 203 = some (.if_icmp .eq 5) := by decide +kernel
set_option maxRecDepth 100000 in
theorem f_188_206 : xft 188 206 = some (.iconst 0) := by decide +kernel
set_option maxRecDepth 100000 in
theorem f_188_207 : xft 188 207 = some (.ireturn) := by decide +kernel
set_option maxRecDepth 100000 in
theorem f_188_208 : xft 188 208 = some (.iload 5) := by decide +kernel
set_option maxRecDepth 100000 in
theorem f_188_210 : xft 188 210 = some (.ifCond .ne 15) := by decide +kernel
set_option maxRecDepth 100000 in
theorem f_188_213 : xft 188 213 = some (.aload_n 3) := by decide +kernel
set_option maxRecDepth 100000 in
theorem f_188_214 : xft 188 214 = some (.iconst 0) := by decide +kernel
set_option maxRecDepth 100000 in
theorem f_188_215 : xft 188 215 = some (.laload) := by decide +kernel
set_option maxRecDepth 100000 in
theorem f_188_216 : xft 188 216 = some (.iload 6) := by decide +kernel
set_option maxRecDepth 100000 in
theorem f_188_218 : xft 188 218 = some (.i2l) := by decide +kernel
set_option maxRecDepth 100000 in
theorem f_188_219 : xft 188 219 = some (.lcmp) := by decide +kernel
set_option maxRecDepth 100000 in
theorem f_188_220 : xft 188 220 = some (.ifCond .eq 5) := by decide +kernel
set_option maxRecDepth 100000 in
theorem f_188_223 : xft 188 223 = some (.iconst 0) := by decide +kernel
set_option maxRecDepth 100000 in
theorem f_188_224 : xft 188 224 = some (.ireturn) := by decide +kernel
set_option maxRecDepth 100000 in
theorem f_188_225 : xft 188 225 = some (.goto 2243) := by decide +kernel
set_option maxRecDepth 100000 in
theorem f_188_228 : xft 188 228 = some (.aload_n 1) := by decide +kernel
set_option maxRecDepth 100000 in
theorem f_188_229 : xft 188 229 = some (.aload_n 0) := by decide +kernel
set_option maxRecDepth 100000 in
theorem f_188_230 : xft 188 230 = some (.iload 4) := by decide +kernel
set_option maxRecDepth 100000 in
theorem f_188_232 : xft 188 232 = some (.iconst 1) := by decide +kernel
set_option maxRecDepth 100000 in
theorem f_188_233 : xft 188 233 = some (.iadd) := by decide +kernel
set_option maxRecDepth 100000 in
theorem f_188_234 : xft 188 234 = some (.iaload) := by decide +kernel
set_option maxRecDepth 100000 in
theorem f_188_235 : xft 188 235 = some (.aload_n 0) := by decide +kernel
set_option maxRecDepth 100000 in
theorem f_188_236 : xft 188 236 = some (.iload 4) := by decide +kernel
set_option maxRecDepth 100000 in
theorem f_188_238 : xft 188 238 = some (.iconst 2) := by decide +kernel
set_option maxRecDepth 100000 in
theorem f_188_239 : xft 188 239 = some (.iadd) := by decide +kernel
set_option maxRecDepth 100000 in
theorem f_188_240 : xft 188 240 = some (.iaload) := by decide +kernel
set_option maxRecDepth 100000 in
theorem f_188_241 : xft 188 241 = some (.aload_n 0) := by decide +kernel
set_option maxRecDepth 100000 in
theorem f_188_242 : xft 188 242 = some (.iload 4) := by decide +kernel
set_option maxRecDepth 100000 in
theorem f_188_244 : xft 188 244 = some (.iconst 3) := by decide +kernel
set_option maxRecDepth 100000 in
theorem f_188_245 : xft 188 245 = some (.iadd) := by decide +kernel
set_option maxRecDepth 100000 in
theorem f_188_246 : xft 188 246 = some (.iaload) := by decide +kernel
set_option maxRecDepth 100000 in
theorem f_188_247 : xft 188 247 = some (.aload_n 3) := by decide +kernel
set_option maxRecDepth 100000 in
theorem f_188_248 : xft 188 248 = some (.invokestatic 121) := by decide +kernel
set_option maxRecDepth 100000 in
theorem f_188_251 : xft 188 251 = some (.istore 5) := by decide +kernel
set_option maxRecDepth 100000 in
theorem f_188_253 : xft 188 253 = some (.aload_n 2) := by decide +kernel
set_option maxRecDepth 100000 in
theorem f_188_254 : xft 188 254 = some (.aload_n 0) := by decide +kernel
set_option maxRecDepth 100000 in
theorem f_188_255 : xft 188 255 = some (.iload 4) := by decide +kernel
set_option maxRecDepth 100000 in
theorem f_188_257 : xft 188 257 = some (.iconst 1) := by decide +kernel
set_option maxRecDepth 100000 in
theorem f_188_258 : xft 188 258 = some (.iadd) := by decide +kernel
set_option maxRecDepth 100000 in
theorem f_188_259 : xft 188 259 = some (.iaload) := by decide +kernel
set_option maxRecDepth 100000 in
theorem f_188_260 : xft 188 260 = some (.aload_n 0) := by decide +kernel
set_option maxRecDepth 100000 in
theorem f_188_261 : xft 188 261 = some (.iload 4) := by decide +kernel
set_option maxRecDepth 100000 in
theorem f_188_263 : xft 188 263 = some (.iconst 2) := by decide +kernel
set_option maxRecDepth 100000 in
theorem f_188_264 : xft 188 264 = some (.iadd) := by decide +kernel
set_option maxRecDepth 100000 in
theorem f_188_265 : xft 188 265 = some (.iaload) := by decide +kernel
set_option maxRecDepth 100000 in
theorem f_188_266 : xft 188 266 = some (.aload_n 0) := by decide +kernel
set_option maxRecDepth 100000 in
theorem f_188_267 : xft 188 267 = some (.iload 4) := by decide +kernel
set_option maxRecDepth 100000 in
theorem f_188_269 : xft 188 269 = some (.iconst 3) := by decide +kernel
set_option maxRecDepth 100000 in
theorem f_188_270 : xft 188 270 = some (.iadd) := by decide +kernel
set_option maxRecDepth 100000 in
theorem f_188_271 : xft 188 271 = some (.iaload) := by decide +kernel
set_option maxRecDepth 100000 in
theorem f_188_272 : xft 188 272 = some (.invokevirtual 124) := by decide +kernel
set_option maxRecDepth 100000 in
theorem f_188_275 : xft 188 275 = some (.istore 6) := by decide +kernel
set_option maxRecDepth 100000 in
theorem f_188_277 : xft 188 277 = some (.aload_n 2) := by decide +kernel
set_option maxRecDepth 100000 in
theorem f_188_278 : xft 188 278 = some (.invokevirtual 117) := by decide +kernel
set_option maxRecDepth 100000 in
theorem f_188_281 : xft 188 281 = some (.iload 5) := by decide +kernel
set_option maxRecDepth 100000 in
theorem f_188_283 : xft 188 283 = some (.if_icmp .eq 5) := by decide +kernel
set_option maxRecDepth 100000 in
theorem f_188_286 : xft 188 286 = some (.iconst 0) := by decide +kernel
set_option maxRecDepth 100000 in
theorem f_188_287 : xft 188 287 = some (.ireturn) := by decide +kernel
set_option maxRecDepth 100000 in
theorem f_188_288 : xft 188 288 = some (.iload 5) := by decide +kernel
set_option maxRecDepth 100000 in
theorem f_188_290 : xft 188 290 = some (.ifCond .ne 15) := by decide +kernel
set_option maxRecDepth 100000 in
theorem f_188_293 : xft 188 293 = some (.aload_n 3) := by decide +kernel
set_option maxRecDepth 100000 in
theorem f_188_294 : xft 188 294 = some (.iconst 0) := by decide +kernel
set_option maxRecDepth 100000 in
theorem f_188_295 : xft 188 295 = some (.laload) := by decide +kernel
set_option maxRecDepth 100000 in
theorem f_188_296 : xft 188 296 = some (.iload 6) := by decide +kernel
set_option maxRecDepth 100000 in
theorem f_188_298 : xft 188 298 = some (.i2l) := by decide +kernel
set_option maxRecDepth 100000 in
theorem f_188_299 : xft 188 299 = some (.lcmp) := by decide +kernel
set_option maxRecDepth 100000 in
theorem f_188_300 : xft 188 300 = some (.ifCond .eq 5) := by decide +kernel
set_option maxRecDepth 100000 in
theorem f_188_303 : xft 188 303 = some (.iconst 0) := by decide +kernel
set_option maxRecDepth 100000 in
theorem f_188_304 : xft 188 304 = some (.ireturn) := by decide +kernel
set_option maxRecDepth 100000 in
theorem f_188_305 : xft 188 305 = some (.goto 2163) := by decide +kernel
set_option maxRecDepth 100000 in
theorem f_188_308 : xft 188 308 = some (.aload_n 1) := by decide +kernel
set_option maxRecDepth 100000 in
theorem f_188_309 : xft 188 309 = some (.aload_n 0) := by decide +kernel
set_option maxRecDepth 100000 in
theorem f_188_310 : xft 188 310 = some (.iload 4) := by decide +kernel
set_option maxRecDepth 100000 in
theorem f_188_312 : xft 188 312 = some (.iconst 1) := by decide +kernel
set_option maxRecDepth 100000 in
theorem f_188_313 : xft 188 313 = some (.iadd) := by decide +kernel
set_option maxRecDepth 100000 in
theorem f_188_314 : xft 188 314 = some (.iaload) := by decide +kernel
set_option maxRecDepth 100000 in
theorem f_188_315 : xft 188 315 = some (.aload_n 0) := by decide +kernel
set_option maxRecDepth 100000 in
theorem f_188_316 : xft 188 316 = some (.iload 4) := by decide +kernel
set_option maxRecDepth 100000 in
theorem f_188_318 : xft 188 318 = some (.iconst 2) := by decide +kernel
set_option maxRecDepth 100000 in
theorem f_188_319 : xft 188 319 = some (.iadd) := by decide +kernel
set_option maxRecDepth 100000 in
theorem f_188_320 : xft 188 320 = some (.iaload) := by decide +kernel
set_option maxRecDepth 100000 in
theorem f_188_321 : xft 188 321 = some (.aload_n 0) := by decide +kernel
set_option maxRecDepth 100000 in
theorem f_188_322 : xft 188 322 = some (.iload 4) := by decide +kernel
set_option maxRecDepth 100000 in
theorem f_188_324 : xft 188 324 = some (.iconst 3) := by decide +kernel
set_option maxRecDepth 100000 in
theorem f_188_325 : xft 188 325 = some (.iadd) := by decide +kernel
set_option maxRecDepth 100000 in
theorem f_188_326 : xft 188 326 = some (.iaload) := by decide +kernel
set_option maxRecDepth 100000 in
theorem f_188_327 : xft 188 327 = some (.aload_n 0) := by decide +kernel
set_option maxRecDepth 100000 in
theorem f_188_328 : xft 188 328 = some (.iload 4) := by decide +kernel
set_option maxRecDepth 100000 in
theorem f_188_330 : xft 188 330 = some (.iconst 4) := by decide +kernel
set_option maxRecDepth 100000 in
theorem f_188_331 : xft 188 331 = some (.iadd) := by decide +kernel
set_option maxRecDepth 100000 in
theorem f_188_332 : xft 188 332 = some (.iaload) := by decide +kernel
set_option maxRecDepth 100000 in
theorem f_188_333 : xft 188 333 = some (.aload_n 0) := by decide +kernel
set_option maxRecDepth 100000 in
theorem f_188_334 : xft 188 334 = some (.iload 4) := by decide +kernel
set_option maxRecDepth 100000 in
theorem f_188_336 : xft 188 336 = some (.iconst 5) := by decide +kernel
set_option maxRecDepth 100000 in
theorem f_188_337 : xft 188 337 = some (.iadd) := by decide +kernel
set_option maxRecDepth 100000 in
theorem f_188_338 : xft 188 338 = some (.iaload) := by decide +kernel
set_option maxRecDepth 100000 in
theorem f_188_339 : xft 188 339 = some (.aload_n 0) := by decide +kernel
set_option maxRecDepth 100000 in
theorem f_188_340 : xft 188 340 = some (.iload 4) := by decide +kernel
set_option maxRecDepth 100000 in
theorem f_188_342 : xft 188 342 = some (.bipush 6) := by decide +kernel
set_option maxRecDepth 100000 in
theorem f_188_344 : xft 188 344 = some (.iadd) := by decide +kernel
set_option maxRecDepth 100000 in
theorem f_188_345 : xft 188 345 = some (.iaload) := by decide +kernel
set_option maxRecDepth 100000 in
theorem f_188_346 : xft 188 346 = some (.ifCond .eq 7) := by decide +kernel
set_option maxRecDepth 100000 in
theorem f_188_349 : xft 188 349 = some (.iconst 1) := by decide +kernel
set_option maxRecDepth 100000 in
theorem f_188_350 : xft 188 350 = some (.goto 4) := by decide +kernel
set_option maxRecDepth 100000 in
theorem f_188_353 : xft 188 353 = some (.iconst 0) := by decide +kernel
set_option maxRecDepth 100000 in
theorem f_188_354 : xft 188 354 = some (.aload_n 3) := by decide +kernel
set_option maxRecDepth 100000 in
theorem f_188_355 : xft 188 355 = some (.invokestatic 125) := by decide +kernel
set_option maxRecDepth 100000 in
theorem f_188_358 : xft 188 358 = some (.istore 5) := by decide +kernel
set_option maxRecDepth 100000 in
theorem f_188_360 : xft 188 360 = some (.aload_n 2) := by decide +kernel
set_option maxRecDepth 100000 in
theorem f_188_361 : xft 188 361 = some (.aload_n 0) := by decide +kernel
set_option maxRecDepth 100000 in
theorem f_188_362 : xft 188 362 = some (.iload 4) := by decide +kernel
set_option maxRecDepth 100000 in
theorem f_188_364 : xft 188 364 = some (.iconst 1) := by decide +kernel
set_option maxRecDepth 100000 in
theorem f_188_365 : xft 188 365 = some (.iadd) := by decide +kernel
set_option maxRecDepth 100000 in
theorem f_188_366 : xft 188 366 = some (.iaload) := by decide +kernel
set_option maxRecDepth 100000 in
theorem f_188_367 : xft 188 367 = some (.aload_n 0) := by decide +kernel
set_option maxRecDepth 100000 in
theorem f_188_368 : xft 188 368 = some (.iload 4) := by decide +kernel
set_option maxRecDepth 100000 in
theorem f_188_370 : xft 188 370 = some (.iconst 2) := by decide +kernel
set_option maxRecDepth 100000 in
theorem f_188_371 : xft 188 371 = some (.iadd) := by decide +kernel
set_option maxRecDepth 100000 in
theorem f_188_372 : xft 188 372 = some (.iaload) := by decide +kernel
set_option maxRecDepth 100000 in
theorem f_188_373 : xft 188 373 = some (.aload_n 0) := by decide +kernel
set_option maxRecDepth 100000 in
theorem f_188_374 : xft 188 374 = some (.iload 4) := by decide +kernel
set_option maxRecDepth 100000 in
theorem f_188_376 : xft 188 376 = some (.iconst 3) := by decide +kernel
set_option maxRecDepth 100000 in
theorem f_188_377 : xft 188 377 = some (.iadd) := by decide +kernel
set_option maxRecDepth 100000 in
theorem f_188_378 : xft 188 378 = some (.iaload) := by decide +kernel
set_option maxRecDepth 100000 in
theorem f_188_379 : xft 188 379 = some (.aload_n 0) := by decide +kernel
set_option maxRecDepth 100000 in
theorem f_188_380 : xft 188 380 = some (.iload 4) := by decide +kernel
set_option maxRecDepth 100000 in
theorem f_188_382 : xft 188 382 = some (.iconst 4) := by decide +kernel
set_option maxRecDepth 100000 in
theorem f_188_383 : xft 188 383 = some (.iadd) := by decide +kernel
set_option maxRecDepth 100000 in
theorem f_188_384 : xft 188 384 = some (.iaload) := by decide +kernel
set_option maxRecDepth 100000 in
theorem f_188_385 : xft 188 385 = some (.aload_n 0) := by decide +kernel
set_option maxRecDepth 100000 in
theorem f_188_386 : xft 188 386 = some (.iload 4) := by decide +kernel
set_option maxRecDepth 100000 in
theorem f_188_388 : xft 188 388 = some (.iconst 5) := by decide +kernel
set_option maxRecDepth 100000 in
theorem f_188_389 : xft 188 389 = some (.iadd) := by decide +kernel
set_option maxRecDepth 100000 in
theorem f_188_390 : xft 188 390 = some (.iaload) := by decide +kernel
set_option maxRecDepth 100000 in
theorem f_188_391 : xft 188 391 = some (.aload_n 0) := by decide +kernel
set_option maxRecDepth 100000 in
theorem f_188_392 : xft 188 392 = some (.iload 4) := by decide +kernel
set_option maxRecDepth 100000 in
theorem f_188_394 : xft 188 394 = some (.bipush 6) := by decide +kernel
set_option maxRecDepth 100000 in
theorem f_188_396 : xft 188 396 = some (.iadd) := by decide +kernel
set_option maxRecDepth 100000 in
theorem f_188_397 : xft 188 397 = some (.iaload) := by decide +kernel
set_option maxRecDepth 100000 in
theorem f_188_398 : xft 188 398 = some (.ifCond .eq 7) := by decide +kernel
set_option maxRecDepth 100000 in
theorem f_188_401 : xft 188 401 = some (.iconst 1) := by decide +kernel
set_option maxRecDepth 100000 in
theorem f_188_402 : xft 188 402 = some (.goto 4) := by decide +kernel
set_option maxRecDepth 100000 in
theorem f_188_405 : xft 188 405 = some (.iconst 0) := by decide +kernel
set_option maxRecDepth 100000 in
theorem f_188_406 : xft 188 406 = some (.invokevirtual 128) := by decide +kernel
set_option maxRecDepth 100000 in
theorem f_188_409 : xft 188 409 = some (.istore 6) := by decide +kernel
set_option maxRecDepth 100000 in
theorem f_188_411 : xft 188 411 = some (.aload_n 2) := by decide +kernel
set_option maxRecDepth 100000 in
theorem f_188_412 : xft 188 412 = some (.invokevirtual 117) := by decide +kernel
set_option maxRecDepth 100000 in
theorem f_188_415 : xft 188 415 = some (.iload 5) := by decide +kernel
set_option maxRecDepth 100000 in
theorem f_188_417 : xft 188 417 = some (.if_icmp .eq 5) := by decide +kernel
set_option maxRecDepth 100000 in
theorem f_188_420 : xft 188 420 = some (.iconst 0) := by decide +kernel
set_option maxRecDepth 100000 in
theorem f_188_421 : xft 188 421 = some (.ireturn) := by decide +kernel
set_option maxRecDepth 100000 in
theorem f_188_422 : xft 188 422 = some (.iload 5) := by decide +kernel
set_option maxRecDepth 100000 in
theorem f_188_424 : xft 188 424 = some (.ifCond .ne 15) := by decide +kernel
set_option maxRecDepth 100000 in
theorem f_188_427 : xft 188 427 = some (.aload_n 3) := by decide +kernel
set_option maxRecDepth 100000 in
theorem f_188_428 : xft 188 428 = some (.iconst 0) := by decide +kernel
set_option maxRecDepth 100000 in
theorem f_188_429 : xft 188 429 = some (.laload) := by decide +kernel
set_option maxRecDepth 100000 in
theorem f_188_430 : xft 188 430 = some (.iload 6) := by decide +kernel
set_option maxRecDepth 100000 in
theorem f_188_432 : xft 188 432 = some (.i2l) := by decide +kernel
set_option maxRecDepth 100000 in
theorem f_188_433 : xft 188 433 = some (.lcmp) := by decide +kernel
set_option maxRecDepth 100000 in
theorem f_188_434 : xft 188 434 = some (.ifCond .eq 5) := by decide +kernel
set_option maxRecDepth 100000 in
theorem f_188_437 : xft 188 437 = some (.iconst 0) := by decide +kernel
set_option maxRecDepth 100000 in
theorem f_188_438 : xft 188 438 = some (.ireturn) := by decide +kernel
set_option maxRecDepth 100000 in
theorem f_188_439 : xft 188 439 = some (.goto 2029) := by decide +kernel
set_option maxRecDepth 100000 in
theorem f_188_442 : xft 188 442 = some (.aload_n 1) := by decide +kernel
set_option maxRecDepth 100000 in
theorem f_188_443 : xft 188 443 = some (.aload_n 0) := by decide +kernel
set_option maxRecDepth 100000 in
theorem f_188_444 : xft 188 444 = some (.iload 4) := by decide +kernel
set_option maxRecDepth 100000 in
theorem f_188_446 : xft 188 446 = some (.iconst 1) := by decide +kernel
set_option maxRecDepth 100000 in
theorem f_188_447 : xft 188 447 = some (.iadd) := by decide +kernel
set_option maxRecDepth 100000 in
theorem f_188_448 : xft 188 448 = some (.iaload) := by decide +kernel
set_option maxRecDepth 100000 in
theorem f_188_449 : xft 188 449 = some (.aload_n 0) := by decide +kernel
set_option maxRecDepth 100000 in
theorem f_188_450 : xft 188 450 = some (.iload 4) := by decide +kernel
set_option maxRecDepth 100000 in
theorem f_188_452 : xft 188 452 = some (.iconst 2) := by decide +kernel
set_option maxRecDepth 100000 in
theorem f_188_453 : xft 188 453 = some (.iadd) := by decide +kernel
set_option maxRecDepth 100000 in
theorem f_188_454 : xft 188 454 = some (.iaload) := by decide +kernel
set_option maxRecDepth 100000 in
theorem f_188_455 : xft 188 455 = some (.aload_n 0) := by decide +kernel
set_option maxRecDepth 100000 in
theorem f_188_456 : xft 188 456 = some (.iload 4) := by decide +kernel
set_option maxRecDepth 100000 in
theorem f_188_458 : xft 188 458 = some (.iconst 3) := by decide +kernel
set_option maxRecDepth 100000 in
theorem f_188_459 : xft 188 459 = some (.iadd) := by decide +kernel
set_option maxRecDepth 100000 in
theorem f_188_460 : xft 188 460 = some (.iaload) := by decide +kernel
set_option maxRecDepth 100000 in
theorem f_188_461 : xft 188 461 = some (.aload_n 0) := by decide +kernel
set_option maxRecDepth 100000 in
theorem f_188_462 : xft 188 462 = some (.iload 4) := by decide +kernel
set_option maxRecDepth 100000 in
theorem f_188_464 : xft 188 464 = some (.iconst 4) := by decide +kernel
set_option maxRecDepth 100000 in
theorem f_188_465 : xft 188 465 = some (.iadd) := by decide +kernel
set_option maxRecDepth 100000 in
theorem f_188_466 : xft 188 466 = some (.iaload) := by decide +kernel
set_option maxRecDepth 100000 in
theorem f_188_467 : xft 188 467 = some (.ifCond .eq 7) := by decide +kernel
set_option maxRecDepth 100000 in
theorem f_188_470 : xft 188 470 = some (.iconst 1) := by decide +kernel
set_option maxRecDepth 100000 in
theorem f_188_471 : xft 188 471 = some (.goto 4) := by decide +kernel
set_option maxRecDepth 100000 in
theorem f_188_474 : xft 188 474 = some (.iconst 0) := by decide +kernel
set_option maxRecDepth 100000 in
theorem f_188_475 : xft 188 475 = some (.aload_n 0) := by decide +kernel
set_option maxRecDepth 100000 in
theorem f_188_476 : xft 188 476 = some (.iload 4) := by decide +kernel
set_option maxRecDepth 100000 in
theorem f_188_478 : xft 188 478 = some (.iconst 5) := by decide +kernel
set_option maxRecDepth 100000 in
theorem f_188_479 : xft 188 479 = some (.iadd) := by decide +kernel
set_option maxRecDepth 100000 in
theorem f_188_480 : xft 188 480 = some (.iaload) := by decide +kernel
set_option maxRecDepth 100000 in
theorem f_188_481 : xft 188 481 = some (.aload_n 3) := by decide +kernel
set_option maxRecDepth 100000 in
theorem f_188_482 : xft 188 482 = some (.invokestatic 129) := by decide +kernel
set_option maxRecDepth 100000 in
theorem f_188_485 : xft 188 485 = some (.istore 5) := by decide +kernel
set_option maxRecDepth 100000 in
theorem f_188_487 : xft 188 487 = some (.aload_n 2) := by decide +kernel
set_option maxRecDepth 100000 in
theorem f_188_488 : xft 188 488 = some (.aload_n 0) := by decide +kernel
set_option maxRecDepth 100000 in
theorem f_188_489 : xft 188 489 = some (.iload 4) := by decide +kernel
set_option maxRecDepth 100000 in
theorem f_188_491 : xft 188 491 = some (.iconst 1) := by decide +kernel
set_option maxRecDepth 100000 in
theorem f_188_492 : xft 188 492 = some (.iadd) := by decide +kernel
set_option maxRecDepth 100000 in
theorem f_188_493 : xft 188 493 = some (.iaload) := by decide +kernel
set_option maxRecDepth 100000 in
theorem f_188_494 : xft 188 494 = some (.aload_n 0) := by decide +kernel
set_option maxRecDepth 100000 in
theorem f_188_495 : xft 188 495 = some (.iload 4) := by decide +kernel
set_option maxRecDepth 100000 in
theorem f_188_497 : xft 188 497 = some (.iconst 2) := by decide +kernel
set_option maxRecDepth 100000 in
theorem f_188_498 : xft 188 498 = some (.iadd) := by decide +kernel
set_option maxRecDepth 100000 in
theorem f_188_499 : xft 188 499 = some (.iaload) := by decide +kernel
set_option maxRecDepth 100000 in
theorem f_188_500 : xft 188 500 = some (.aload_n 0) := by decide +kernel
set_option maxRecDepth 100000 in
theorem f_188_501 : xft 188 501 = some (.iload 4) := by decide +kernel
set_option maxRecDepth 100000 in
theorem f_188_503 : xft 188 503 = some (.iconst 3) := by decide +kernel
set_option maxRecDepth 100000 in
theorem f_188_504 : xft 188 504 = some (.iadd) := by decide +kernel
set_option maxRecDepth 100000 in
theorem f_188_505 : xft 188 505 = some (.iaload) := by decide +kernel
set_option maxRecDepth 100000 in
theorem f_188_506 : xft 188 506 = some (.aload_n 0) := by decide +kernel
set_option maxRecDepth 100000 in
theorem f_188_507 : xft 188 507 = some (.iload 4) := by decide +kernel
set_option maxRecDepth 100000 in
theorem f_188_509 : xft 188 509 = some (.iconst 4) := by decide +kernel
set_option maxRecDepth 100000 in
theorem f_188_510 : xft 188 510 = some (.iadd) := by decide +kernel
set_option maxRecDepth 100000 in
theorem f_188_511 : xft 188 511 = some (.iaload) := by decide +kernel
set_option maxRecDepth 100000 in
theorem f_188_512 : xft 188 512 = some (.ifCond .eq 7) := by decide +kernel
set_option maxRecDepth 100000 in
theorem f_188_515 : xft 188 515 = some (.iconst 1) := by decide +kernel
set_option maxRecDepth 100000 in
theorem f_188_516 : xft 188 516 = some (.goto 4) := by decide +kernel
set_option maxRecDepth 100000 in
theorem f_188_519 : xft 188 519 = some (.iconst 0) := by decide +kernel
set_option maxRecDepth 100000 in
theorem f_188_520 : xft 188 520 = some (.aload_n 0) := by decide +kernel
set_option maxRecDepth 100000 in
theorem f_188_521 : xft 188 521 = some (.iload 4) := by decide +kernel
set_option maxRecDepth 100000 in
theorem f_188_523 : xft 188 523 = some (.iconst 5) := by decide +kernel
set_option maxRecDepth 100000 in
theorem f_188_524 : xft 188 524 = some (.iadd) := by decide +kernel
set_option maxRecDepth 100000 in
theorem f_188_525 : xft 188 525 = some (.iaload) := by decide +kernel
set_option maxRecDepth 100000 in
theorem f_188_526 : xft 188 526 = some (.invokevirtual 132) := by decide +kernel
set_option maxRecDepth 100000 in
theorem f_188_529 : xft 188 529 = some (.istore 6) := by decide +kernel
set_option maxRecDepth 100000 in
theorem f_188_531 : xft 188 531 = some (.aload_n 2) := by decide +kernel
set_option maxRecDepth 100000 in
theorem f_188_532 : xft 188 532 = some (.invokevirtual 117) := by decide +kernel
set_option maxRecDepth 100000 in
theorem f_188_535 : xft 188 535 = some (.iload 5) := by decide +kernel
set_option maxRecDepth 100000 in
theorem f_188_537 : xft 188 537 = some (.if_icmp .eq 5) := by decide +kernel
set_option maxRecDepth 100000 in
theorem f_188_540 : xft 188 540 = some (.iconst 0) := by decide +kernel
set_option maxRecDepth 100000 in
theorem f_188_541 : xft 188 541 = some (.ireturn) := by decide +kernel
set_option maxRecDepth 100000 in
theorem f_188_542 : xft 188 542 = some (.iload 5) := by decide +kernel
set_option maxRecDepth 100000 in
theorem f_188_544 : xft 188 544 = some (.ifCond .ne 15) := by decide +kernel
set_option maxRecDepth 100000 in
theorem f_188_547 : xft 188 547 = some (.aload_n 3) := by decide +kernel
set_option maxRecDepth 100000 in
theorem f_188_548 : xft 188 548 = some (.iconst 0) := by decide +kernel
set_option maxRecDepth 100000 in
theorem f_188_549 : xft 188 549 = some (.laload) := by decide +kernel
set_option maxRecDepth 100000 in
theorem f_188_550 : xft 188 550 = some (.iload 6) := by decide +kernel
set_option maxRecDepth 100000 in
theorem f_188_552 : xft 188 552 = some (.i2l) := by decide +kernel
set_option maxRecDepth 100000 in
theorem f_188_553 : xft 188 553 = some (.lcmp) := by decide +kernel
set_option maxRecDepth 100000 in
theorem f_188_554 : xft 188 554 = some (.ifCond .eq 5) := by decide +kernel
set_option maxRecDepth 100000 in
theorem f_188_557 : xft 188 557 = some (.iconst 0) := by decide +kernel
set_option maxRecDepth 100000 in
theorem f_188_558 : xft 188 558 = some (.ireturn) := by decide +kernel
set_option maxRecDepth 100000 in
theorem f_188_559 : xft 188 559 = some (.goto 1909) := by decide +kernel
set_option maxRecDepth 100000 in
theorem f_188_562 : xft 188 562 = some (.aload_n 1) := by decide +kernel
set_option maxRecDepth 100000 in
theorem f_188_563 : xft 188 563 = some (.aload_n 0) := by decide +kernel
set_option maxRecDepth 100000 in
theorem f_188_564 : xft 188 564 = some (.iload 4) := by decide +kernel
set_option maxRecDepth 100000 in
theorem f_188_566 : xft 188 566 = some (.iconst 1) := by decide +kernel
set_option maxRecDepth 100000 in
theorem f_188_567 : xft 188 567 = some (.iadd) := by decide +kernel
set_option maxRecDepth 100000 in
theorem f_188_568 : xft 188 568 = some (.iaload) := by decide +kernel
set_option maxRecDepth 100000 in
theorem f_188_569 : xft 188 569 = some (.aload_n 0) := by decide +kernel
set_option maxRecDepth 100000 in
theorem f_188_570 : xft 188 570 = some (.iload 4) := by decide +kernel
set_option maxRecDepth 100000 in
theorem f_188_572 : xft 188 572 = some (.iconst 2) := by decide +kernel
set_option maxRecDepth 100000 in
theorem f_188_573 : xft 188 573 = some (.iadd) := by decide +kernel
set_option maxRecDepth 100000 in
theorem f_188_574 : xft 188 574 = some (.iaload) := by decide +kernel
set_option maxRecDepth 100000 in
theorem f_188_575 : xft 188 575 = some (.aload_n 3) := by decide +kernel
set_option maxRecDepth 100000 in
theorem f_188_576 : xft 188 576 = some (.invokestatic 133) := by decide +kernel
set_option maxRecDepth 100000 in
theorem f_188_579 : xft 188 579 = some (.istore 5) := by decide +kernel
set_option maxRecDepth 100000 in
theorem f_188_581 : xft 188 581 = some (.aload_n 2) := by decide +kernel
set_option maxRecDepth 100000 in
theorem f_188_582 : xft 188 582 = some (.aload_n 0) := by decide +kernel
set_option maxRecDepth 100000 in
theorem f_188_583 : xft 188 583 = some (.iload 4) := by decide +kernel
set_option maxRecDepth 100000 in
theorem f_188_585 : xft 188 585 = some (.iconst 1) := by decide +kernel
set_option maxRecDepth 100000 in
theorem f_188_586 : xft 188 586 = some (.iadd) := by decide +kernel
set_option maxRecDepth 100000 in
theorem f_188_587 : xft 188 587 = some (.iaload) := by decide +kernel
set_option maxRecDepth 100000 in
theorem f_188_588 : xft 188 588 = some (.aload_n 0) := by decide +kernel
set_option maxRecDepth 100000 in
theorem f_188_589 : xft 188 589 = some (.iload 4) := by decide +kernel
set_option maxRecDepth 100000 in
theorem f_188_591 : xft 188 591 = some (.iconst 2) := by decide +kernel
set_option maxRecDepth 100000 in
theorem f_188_592 : xft 188 592 = some (.iadd) := by decide +kernel
set_option maxRecDepth 100000 in
theorem f_188_593 : xft 188 593 = some (.iaload) := by decide +kernel
set_option maxRecDepth 100000 in
theorem f_188_594 : xft 188 594 = some (.invokevirtual 136) := by decide +kernel
set_option maxRecDepth 100000 in
theorem f_188_597 : xft 188 597 = some (.istore 6) := by decide +kernel
set_option maxRecDepth 100000 in
theorem f_188_599 : xft 188 599 = some (.aload_n 2) := by decide +kernel
set_option maxRecDepth 100000 in
theorem f_188_600 : xft 188 600 = some (.invokevirtual 117) := by decide +kernel
set_option maxRecDepth 100000 in
theorem f_188_603 : xft 188 603 = some (.iload 5) := by decide +kernel
set_option maxRecDepth 100000 in
theorem f_188_605 : xft 188 605 = some (.if_icmp .eq 5) := by decide +kernel
set_option maxRecDepth 100000 in
theorem f_188_608 : xft 188 608 = some (.iconst 0) := by decide +kernel
set_option maxRecDepth 100000 in
theorem f_188_609 : xft 188 609 = some (.ireturn) := by decide +kernel
set_option maxRecDepth 100000 in
theorem f_188_610 : xft 188 610 = some (.iload 5) := by decide +kernel
set_option maxRecDepth 100000 in
theorem f_188_612 : xft 188 612 = some (.ifCond .ne 15) := by decide +kernel
set_option maxRecDepth 100000 in
theorem f_188_615 : xft 188 615 = some (.aload_n 3) := by decide +kernel
set_option maxRecDepth 100000 in
theorem f_188_616 : xft 188 616 = some (.iconst 0) := by decide +kernel
set_option maxRecDepth 100000 in
theorem f_188_617 : xft 188 617 = some (.laload) := by decide +kernel
set_option maxRecDepth 100000 in
theorem f_188_618 : xft 188 618 = some (.iload 6) := by decide +kernel
set_option maxRecDepth 100000 in
theorem f_188_620 : xft 188 620 = some (.i2l) := by decide +kernel
set_option maxRecDepth 100000 in
theorem f_188_621 : xft 188 621 = some (.lcmp) := by decide +kernel
set_option maxRecDepth 100000 in
theorem f_188_622 : xft 188 622 = some (.ifCond .eq 5) := by decide +kernel
set_option maxRecDepth 100000 in
theorem f_188_625 : xft 188 625 = some (.iconst 0) := by decide +kernel
set_option maxRecDepth 100000 in
theorem f_188_626 : xft 188 626 = some (.ireturn) := by decide +kernel
set_option maxRecDepth 100000 in
theorem f_188_627 : xft 188 627 = some (.goto 1841) := by decide +kernel
set_option maxRecDepth 100000 in
theorem f_188_630 : xft 188 630 = some (.aload_n 1) := by decide +kernel
set_option maxRecDepth 100000 in
theorem f_188_631 : xft 188 631 = some (.aload_n 0) := by decide +kernel
set_option maxRecDepth 100000 in
theorem f_188_632 : xft 188 632 = some (.iload 4) := by decide +kernel
set_option maxRecDepth 100000 in
theorem f_188_634 : xft 188 634 = some (.iconst 1) := by decide +kernel
set_option maxRecDepth 100000 in
theorem f_188_635 : xft 188 635 = some (.iadd) := by decide +kernel
set_option maxRecDepth 100000 in
theorem f_188_636 : xft 188 636 = some (.iaload) := by decide +kernel
set_option maxRecDepth 100000 in
theorem f_188_637 : xft 188 637 = some (.aload_n 0) := by decide +kernel
set_option maxRecDepth 100000 in
theorem f_188_638 : xft 188 638 = some (.iload 4) := by decide +kernel
set_option maxRecDepth 100000 in
theorem f_188_640 : xft 188 640 = some (.iconst 2) := by decide +kernel
set_option maxRecDepth 100000 in
theorem f_188_641 : xft 188 641 = some (.iadd) := by decide +kernel
set_option maxRecDepth 100000 in
theorem f_188_642 : xft 188 642 = some (.iaload) := by decide +kernel
set_option maxRecDepth 100000 in
theorem f_188_643 : xft 188 643 = some (.aload_n 3) := by decide +kernel
set_option maxRecDepth 100000 in
theorem f_188_644 : xft 188 644 = some (.invokestatic 137) := by decide +kernel
set_option maxRecDepth 100000 in
theorem f_188_647 : xft 188 647 = some (.istore 5) := by decide +kernel
set_option maxRecDepth 100000 in
theorem f_188_649 : xft 188 649 = some (.aload_n 2) := by decide +kernel
set_option maxRecDepth 100000 in
theorem f_188_650 : xft 188 650 = some (.aload_n 0) := by decide +kernel
set_option maxRecDepth 100000 in
theorem f_188_651 : xft 188 651 = some (.iload 4) := by decide +kernel
set_option maxRecDepth 100000 in
theorem f_188_653 : xft 188 653 = some (.iconst 1) := by decide +kernel
set_option maxRecDepth 100000 in
theorem f_188_654 : xft 188 654 = some (.iadd) := by decide +kernel
set_option maxRecDepth 100000 in
theorem f_188_655 : xft 188 655 = some (.iaload) := by decide +kernel
set_option maxRecDepth 100000 in
theorem f_188_656 : xft 188 656 = some (.aload_n 0) := by decide +kernel
set_option maxRecDepth 100000 in
theorem f_188_657 : xft 188 657 = some (.iload 4) := by decide +kernel
set_option maxRecDepth 100000 in
theorem f_188_659 : xft 188 659 = some (.iconst 2) := by decide +kernel
set_option maxRecDepth 100000 in
theorem f_188_660 : xft 188 660 = some (.iadd) := by decide +kernel
set_option maxRecDepth 100000 in
theorem f_188_661 : xft 188 661 = some (.iaload) := by decide +kernel
set_option maxRecDepth 100000 in
theorem f_188_662 : xft 188 662 = some (.invokevirtual 139) := by decide +kernel
set_option maxRecDepth 100000 in
theorem f_188_665 : xft 188 665 = some (.istore 6) := by decide +kernel
set_option maxRecDepth 100000 in
theorem f_188_667 : xft 188 667 = some (.aload_n 2) := by decide +kernel
set_option maxRecDepth 100000 in
theorem f_188_668 : xft 188 668 = some (.invokevirtual 117) := by decide +kernel
set_option maxRecDepth 100000 in
theorem f_188_671 : xft 188 671 = some (.iload 5) := by decide +kernel
set_option maxRecDepth 100000 in
theorem f_188_673 : xft 188 673 = some (.if_icmp .eq 5) := by decide +kernel
set_option maxRecDepth 100000 in
theorem f_188_676 : xft 188 676 = some (.iconst 0) := by decide +kernel
set_option maxRecDepth 100000 in
theorem f_188_677 : xft 188 677 = some (.ireturn) := by decide +kernel
set_option maxRecDepth 100000 in
theorem f_188_678 : xft 188 678 = some (.iload 5) := by decide +kernel
set_option maxRecDepth 100000 in
theorem f_188_680 : xft 188 680 = some (.ifCond .ne 15) := by decide +kernel
set_option maxRecDepth 100000 in
theorem f_188_683 : xft 188 683 = some (.aload_n 3) := by decide +kernel
set_option maxRecDepth 100000 in
theorem f_188_684 : xft 188 684 = some (.iconst 0) := by decide +kernel
set_option maxRecDepth 100000 in
theorem f_188_685 : xft 188 685 = some (.laload) := by decide +kernel
set_option maxRecDepth 100000 in
theorem f_188_686 : xft 188 686 = some (.iload 6) := by decide +kernel
set_option maxRecDepth 100000 in
theorem f_188_688 : xft 188 688 = some (.i2l) := by decide +kernel
set_option maxRecDepth 100000 in
theorem f_188_689 : xft 188 689 = some (.lcmp) := by decide +kernel
set_option maxRecDepth 100000 in
theorem f_188_690 : xft 188 690 = some (.ifCond .eq 5) := by decide +kernel
set_option maxRecDepth 100000 in
theorem f_188_693 : xft 188 693 = some (.iconst 0) := by decide +kernel
set_option maxRecDepth 100000 in
theorem f_188_694 : xft 188 694 = some (.ireturn) := by decide +kernel
set_option maxRecDepth 100000 in
theorem f_188_695 : xft 188 695 = some (.goto 1773) := by decide +kernel
set_option maxRecDepth 100000 in
theorem f_188_698 : xft 188 698 = some (.aload_n 1) := by decide +kernel
set_option maxRecDepth 100000 in
theorem f_188_699 : xft 188 699 = some (.aload_n 0) := by decide +kernel
set_option maxRecDepth 100000 in
theorem f_188_700 : xft 188 700 = some (.iload 4) := by decide +kernel
set_option maxRecDepth 100000 in
theorem f_188_702 : xft 188 702 = some (.iconst 1) := by decide +kernel
set_option maxRecDepth 100000 in
theorem f_188_703 : xft 188 703 = some (.iadd) := by decide +kernel
set_option maxRecDepth 100000 in
theorem f_188_704 : xft 188 704 = some (.iaload) := by decide +kernel
set_option maxRecDepth 100000 in
theorem f_188_705 : xft 188 705 = some (.aload_n 0) := by decide +kernel
set_option maxRecDepth 100000 in
theorem f_188_706 : xft 188 706 = some (.iload 4) := by decide +kernel
set_option maxRecDepth 100000 in
theorem f_188_708 : xft 188 708 = some (.iconst 2) := by decide +kernel
set_option maxRecDepth 100000 in
theorem f_188_709 : xft 188 709 = some (.iadd) := by decide +kernel
set_option maxRecDepth 100000 in
theorem f_188_710 : xft 188 710 = some (.iaload) := by decide +kernel
set_option maxRecDepth 100000 in
theorem f_188_711 : xft 188 711 = some (.aload_n 3) := by decide +kernel
set_option maxRecDepth 100000 in
theorem f_188_712 : xft 188 712 = some (.invokestatic 140) := by decide +kernel
set_option maxRecDepth 100000 in
theorem f_188_715 : xft 188 715 = some (.istore 5) := by decide +kernel
set_option maxRecDepth 100000 in
theorem f_188_717 : xft 188 717 = some (.aload_n 2) := by decide +kernel
set_option maxRecDepth 100000 in
theorem f_188_718 : xft 188 718 = some (.aload_n 0) := by decide +kernel
set_option maxRecDepth 100000 in
theorem f_188_719 : xft 188 719 = some (.iload 4) := by decide +kernel
set_option maxRecDepth 100000 in
theorem f_188_721 : xft 188 721 = some (.iconst 1) := by decide +kernel
set_option maxRecDepth 100000 in
theorem f_188_722 : xft 188 722 = some (.iadd) := by decide +kernel
set_option maxRecDepth 100000 in
theorem f_188_723 : xft 188 723 = some (.iaload) := by decide +kernel
set_option maxRecDepth 100000 in
theorem f_188_724 : xft 188 724 = some (.aload_n 0) := by decide +kernel
set_option maxRecDepth 100000 in
theorem f_188_725 : xft 188 725 = some (.iload 4) := by decide +kernel
set_option maxRecDepth 100000 in
theorem f_188_727 : xft 188 727 = some (.iconst 2) := by decide +kernel
set_option maxRecDepth 100000 in
theorem f_188_728 : xft 188 728 = some (.iadd) := by decide +kernel
set_option maxRecDepth 100000 in
theorem f_188_729 : xft 188 729 = some (.iaload) := by decide +kernel
set_option maxRecDepth 100000 in
theorem f_188_730 : xft 188 730 = some (.invokevirtual 142) := by decide +kernel
set_option maxRecDepth 100000 in
theorem f_188_733 : xft 188 733 = some (.istore 6) := by decide +kernel
set_option maxRecDepth 100000 in
theorem f_188_735 : xft 188 735 = some (.aload_n 2) := by decide +kernel
set_option maxRecDepth 100000 in
theorem f_188_736 : xft 188 736 = some (.invokevirtual 117) := by decide +kernel
set_option maxRecDepth 100000 in
theorem f_188_739 : xft 188 739 = some (.iload 5) := by decide +kernel
set_option maxRecDepth 100000 in
theorem f_188_741 : xft 188 741 = some (.if_icmp .eq 5) := by decide +kernel
set_option maxRecDepth 100000 in
theorem f_188_744 : xft 188 744 = some (.iconst 0) := by decide +kernel
set_option maxRecDepth 100000 in
theorem f_188_745 : xft 188 745 = some (.ireturn) := by decide +kernel
set_option maxRecDepth 100000 in
theorem f_188_746 : xft 188 746 = some (.iload 5) := by decide +kernel
set_option maxRecDepth 100000 in
theorem f_188_748 : xft 188 748 = some (.ifCond .ne 22) := by decide +kernel
set_option maxRecDepth 100000 in
theorem f_188_751 : xft 188 751 = some (.aload_n 3) := by decide +kernel
set_option maxRecDepth 100000 in
theorem f_188_752 : xft 188 752 = some (.iconst 0) := by decide +kernel
set_option maxRecDepth 100000 in
theorem f_188_753 : xft 188 753 = some (.laload) := by decide +kernel
set_option maxRecDepth 100000 in
theorem f_188_754 : xft 188 754 = some (.iload 6) := by decide +kernel
set_option maxRecDepth 100000 in
theorem f_188_756 : xft 188 756 = some (.ifCond .eq 7) := by decide +kernel
set_option maxRecDepth 100000 in
theorem f_188_759 : xft 188 759 = some (.lconst 1) := by decide +kernel
set_option maxRecDepth 100000 in
theorem f_188_760 : xft 188 760 = some (.goto 4) := by decide +kernel
set_option maxRecDepth 100000 in
theorem f_188_763 : xft 188 763 = some (.lconst 0) := by decide +kernel
set_option maxRecDepth 100000 in
theorem f_188_764 : xft 188 764 = some (.lcmp) := by decide +kernel
set_option maxRecDepth 100000 in
theorem f_188_765 : xft 188 765 = some (.ifCond .eq 5) := by decide +kernel
set_option maxRecDepth 100000 in
theorem f_188_768 : xft 188 768 = some (.iconst 0) := by decide +kernel
set_option maxRecDepth 100000 in
theorem f_188_769 : xft 188 769 = some (.ireturn) := by decide +kernel
set_option maxRecDepth 100000 in
theorem f_188_770 : xft 188 770 = some (.goto 1698) := by decide +kernel
set_option maxRecDepth 100000 in
theorem f_188_773 : xft 188 773 = some (.aload_n 1) := by decide +kernel
set_option maxRecDepth 100000 in
theorem f_188_774 : xft 188 774 = some (.aload_n 0) := by decide +kernel
set_option maxRecDepth 100000 in
theorem f_188_775 : xft 188 775 = some (.iload 4) := by decide +kernel
set_option maxRecDepth 100000 in
theorem f_188_777 : xft 188 777 = some (.iconst 1) := by decide +kernel
set_option maxRecDepth 100000 in
theorem f_188_778 : xft 188 778 = some (.iadd) := by decide +kernel
set_option maxRecDepth 100000 in
theorem f_188_779 : xft 188 779 = some (.iaload) := by decide +kernel
set_option maxRecDepth 100000 in
theorem f_188_780 : xft 188 780 = some (.aload_n 0) := by decide +kernel
set_option maxRecDepth 100000 in
theorem f_188_781 : xft 188 781 = some (.iload 4) := by decide +kernel
set_option maxRecDepth 100000 in
theorem f_188_783 : xft 188 783 = some (.iconst 2) := by decide +kernel
set_option maxRecDepth 100000 in
theorem f_188_784 : xft 188 784 = some (.iadd) := by decide +kernel
set_option maxRecDepth 100000 in
theorem f_188_785 : xft 188 785 = some (.iaload) := by decide +kernel
set_option maxRecDepth 100000 in
theorem f_188_786 : xft 188 786 = some (.aload_n 3) := by decide +kernel
set_option maxRecDepth 100000 in
theorem f_188_787 : xft 188 787 = some (.invokestatic 143) := by decide +kernel
set_option maxRecDepth 100000 in
theorem f_188_790 : xft 188 790 = some (.istore 5) := by decide +kernel
set_option maxRecDepth 100000 in
theorem f_188_792 : xft 188 792 = some (.aload_n 2) := by decide +kernel
set_option maxRecDepth 100000 in
theorem f_188_793 : xft 188 793 = some (.aload_n 0) := by decide +kernel
set_option maxRecDepth 100000 in
theorem f_188_794 : xft 188 794 = some (.iload 4) := by decide +kernel
set_option maxRecDepth 100000 in
theorem f_188_796 : xft 188 796 = some (.iconst 1) := by decide +kernel
set_option maxRecDepth 100000 in
theorem f_188_797 : xft 188 797 = some (.iadd) := by decide +kernel
set_option maxRecDepth 100000 in
theorem f_188_798 : xft 188 798 = some (.iaload) := by decide +kernel
set_option maxRecDepth 100000 in
theorem f_188_799 : xft 188 799 = some (.aload_n 0) := by decide +kernel
set_option maxRecDepth 100000 in
theorem f_188_800 : xft 188 800 = some (.iload 4) := by decide +kernel
set_option maxRecDepth 100000 in
theorem f_188_802 : xft 188 802 = some (.iconst 2) := by decide +kernel
set_option maxRecDepth 100000 in
theorem f_188_803 : xft 188 803 = some (.iadd) := by decide +kernel
set_option maxRecDepth 100000 in
theorem f_188_804 : xft 188 804 = some (.iaload) := by decide +kernel
set_option maxRecDepth 100000 in
theorem f_188_805 : xft 188 805 = some (.invokevirtual 145) := by decide +kernel
set_option maxRecDepth 100000 in
theorem f_188_808 : xft 188 808 = some (.istore 6) := by decide +kernel
set_option maxRecDepth 100000 in
theorem f_188_810 : xft 188 810 = some (.aload_n 2) := by decide +kernel
set_option maxRecDepth 100000 in
theorem f_188_811 : xft 188 811 = some (.invokevirtual 117) := by decide +kernel
set_option maxRecDepth 100000 in
theorem f_188_814 : xft 188 814 = some (.iload 5) := by decide +kernel
set_option maxRecDepth 100000 in
theorem f_188_816 : xft 188 816 = some (.if_icmp .eq 5) := by decide +kernel
set_option maxRecDepth 100000 in
theorem f_188_819 : xft 188 819 = some (.iconst 0) := by decide +kernel
set_option maxRecDepth 100000 in
theorem f_188_820 : xft 188 820 = some (.ireturn) := by decide +kernel
set_option maxRecDepth 100000 in
theorem f_188_821 : xft 188 821 = some (.iload 5) := by decide +kernel
set_option maxRecDepth 100000 in
theorem f_188_823 : xft 188 823 = some (.ifCond .ne 15) := by decide +kernel
set_option maxRecDepth 100000 in
theorem f_188_826 : xft 188 826 = some (.aload_n 3) := by decide +kernel
set_option maxRecDepth 100000 in
theorem f_188_827 : xft 188 827 = some (.iconst 0) := by decide +kernel
set_option maxRecDepth 100000 in
theorem f_188_828 : xft 188 828 = some (.laload) := by decide +kernel
set_option maxRecDepth 100000 in
theorem f_188_829 : xft 188 829 = some (.iload 6) := by decide +kernel
set_option maxRecDepth 100000 in
theorem f_188_831 : xft 188 831 = some (.i2l) := by decide +kernel
set_option maxRecDepth 100000 in
theorem f_188_832 : xft 188 832 = some (.lcmp) := by decide +kernel
set_option maxRecDepth 100000 in
theorem f_188_833 : xft 188 833 = some (.ifCond .eq 5) := by decide +kernel
set_option maxRecDepth 100000 in
theorem f_188_836 : xft 188 836 = some (.iconst 0) := by decide +kernel
set_option maxRecDepth 100000 in
theorem f_188_837 : xft 188 837 = some (.ireturn) := by decide +kernel
set_option maxRecDepth 100000 in
theorem f_188_838 : xft 188 838 = some (.goto 1630) := by decide +kernel
set_option maxRecDepth 100000 in
theorem f_188_841 : xft 188 841 = some (.aload_n 1) := by decide +kernel
set_option maxRecDepth 100000 in
theorem f_188_842 : xft 188 842 = some (.aload_n 0) := by decide +kernel
set_option maxRecDepth 100000 in
theorem f_188_843 : xft 188 843 = some (.iload 4) := by decide +kernel
set_option maxRecDepth 100000 in
theorem f_188_845 : xft 188 845 = some (.iconst 1) := by decide +kernel
set_option maxRecDepth 100000 in
theorem f_188_846 : xft 188 846 = some (.iadd) := by decide +kernel
set_option maxRecDepth 100000 in
theorem f_188_847 : xft 188 847 = some (.iaload) := by decide +kernel
set_option maxRecDepth 100000 in
theorem f_188_848 : xft 188 848 = some (.aload_n 0) := by decide +kernel
set_option maxRecDepth 100000 in
theorem f_188_849 : xft 188 849 = some (.iload 4) := by decide +kernel
set_option maxRecDepth 100000 in
theorem f_188_851 : xft 188 851 = some (.iconst 2) := by decide +kernel
set_option maxRecDepth 100000 in
theorem f_188_852 : xft 188 852 = some (.iadd) := by decide +kernel
set_option maxRecDepth 100000 in
theorem f_188_853 : xft 188 853 = some (.iaload) := by decide +kernel
set_option maxRecDepth 100000 in
theorem f_188_854 : xft 188 854 = some (.aload_n 0) := by decide +kernel
set_option maxRecDepth 100000 in
theorem f_188_855 : xft 188 855 = some (.iload 4) := by decide +kernel
set_option maxRecDepth 100000 in
theorem f_188_857 : xft 188 857 = some (.iconst 3) := by decide +kernel
set_option maxRecDepth 100000 in
theorem f_188_858 : xft 188 858 = some (.iadd) := by decide +kernel
set_option maxRecDepth 100000 in
theorem f_188_859 : xft 188 859 = some (.iaload) := by decide +kernel
set_option maxRecDepth 100000 in
theorem f_188_860 : xft 188 860 = some (.aload_n 0) := by decide +kernel
set_option maxRecDepth 100000 in
theorem f_188_861 : xft 188 861 = some (.iload 4) := by decide +kernel
set_option maxRecDepth 100000 in
theorem f_188_863 : xft 188 863 = some (.iconst 4) := by decide +kernel
set_option maxRecDepth 100000 in
theorem f_188_864 : xft 188 864 = some (.iadd) := by decide +kernel
set_option maxRecDepth 100000 in
theorem f_188_865 : xft 188 865 = some (.iaload) := by decide +kernel
set_option maxRecDepth 100000 in
theorem f_188_866 : xft 188 866 = some (.aload_n 3) := by decide +kernel
set_option maxRecDepth 100000 in
theorem f_188_867 : xft 188 867 = some (.invokestatic 146) := by decide +kernel
set_option maxRecDepth 100000 in
theorem f_188_870 : xft 188 870 = some (.istore 5) := by decide +kernel
set_option maxRecDepth 100000 in
theorem f_188_872 : xft 188 872 = some (.aload_n 2) := by decide +kernel
set_option maxRecDepth 100000 in
theorem f_188_873 : xft 188 873 = some (.aload_n 0) := by decide +kernel
set_option maxRecDepth 100000 in
theorem f_188_874 : xft 188 874 = some (.iload 4) := by decide +kernel
set_option maxRecDepth 100000 in
theorem f_188_876 : xft 188 876 = some (.iconst 1) := by decide +kernel
set_option maxRecDepth 100000 in
theorem f_188_877 : xft 188 877 = some (.iadd) := by decide +kernel
set_option maxRecDepth 100000 in
theorem f_188_878 : xft 188 878 = some (.iaload) := by decide +kernel
set_option maxRecDepth 100000 in
theorem f_188_879 : xft 188 879 = some (.aload_n 0) := by decide +kernel
set_option maxRecDepth 100000 in
theorem f_188_880 : xft 188 880 = some (.iload 4) := by decide +kernel
set_option maxRecDepth 100000 in
theorem f_188_882 : xft 188 882 = some (.iconst 2) := by decide +kernel
set_option maxRecDepth 100000 in
theorem f_188_883 : xft 188 883 = some (.iadd) := by decide +kernel
set_option maxRecDepth 100000 in
theorem f_188_884 : xft 188 884 = some (.iaload) := by decide +kernel
set_option maxRecDepth 100000 in
theorem f_188_885 : xft 188 885 = some (.aload_n 0) := by decide +kernel
set_option maxRecDepth 100000 in
theorem f_188_886 : xft 188 886 = some (.iload 4) := by decide +kernel
set_option maxRecDepth 100000 in
theorem f_188_888 : xft 188 888 = some (.iconst 3) := by decide +kernel
set_option maxRecDepth 100000 in
theorem f_188_889 : xft 188 889 = some (.iadd) := by decide +kernel
set_option maxRecDepth 100000 in
theorem f_188_890 : xft 188 890 = some (.iaload) := by decide +kernel
set_option maxRecDepth 100000 in
theorem f_188_891 : xft 188 891 = some (.aload_n 0) := by decide +kernel
set_option maxRecDepth 100000 in
theorem f_188_892 : xft 188 892 = some (.iload 4) := by decide +kernel
set_option maxRecDepth 100000 in
theorem f_188_894 : xft 188 894 = some (.iconst 4) := by decide +kernel
set_option maxRecDepth 100000 in
theorem f_188_895 : xft 188 895 = some (.iadd) := by decide +kernel
set_option maxRecDepth 100000 in
theorem f_188_896 : xft 188 896 = some (.iaload) := by decide +kernel
set_option maxRecDepth 100000 in
theorem f_188_897 : xft 188 897 = some (.invokevirtual 149) := by decide +kernel
set_option maxRecDepth 100000 in
theorem f_188_900 : xft 188 900 = some (.istore 6) := by decide +kernel
set_option maxRecDepth 100000 in
theorem f_188_902 : xft 188 902 = some (.aload_n 2) := by decide +kernel
set_option maxRecDepth 100000 in
theorem f_188_903 : xft 188 903 = some (.invokevirtual 117) := by decide +kernel
set_option maxRecDepth 100000 in
theorem f_188_906 : xft 188 906 = some (.iload 5) := by decide +kernel
set_option maxRecDepth 100000 in
theorem f_188_908 : xft 188 908 = some (.if_icmp .eq 5) := by decide +kernel
set_option maxRecDepth 100000 in
theorem f_188_911 : xft 188 911 = some (.iconst 0) := by decide +kernel
set_option maxRecDepth 100000 in
theorem f_188_912 : xft 188 912 = some (.ireturn) := by decide +kernel
set_option maxRecDepth 100000 in
theorem f_188_913 : xft 188 913 = some (.iload 5) := by decide +kernel
set_option maxRecDepth 100000 in
theorem f_188_915 : xft 188 915 = some (.ifCond .ne 15) := by decide +kernel
set_option maxRecDepth 100000 in
theorem f_188_918 : xft 188 918 = some (.aload_n 3) := by decide +kernel
set_option maxRecDepth 100000 in
theorem f_188_919 : xft 188 919 = some (.iconst 0) := by decide +kernel
set_option maxRecDepth 100000 in
theorem f_188_920 : xft 188 920 = some (.laload) := by decide +kernel
set_option maxRecDepth 100000 in
theorem f_188_921 : xft 188 921 = some (.iload 6) := by decide +kernel
set_option maxRecDepth 100000 in
theorem f_188_923 : xft 188 923 = some (.i2l) := by decide +kernel
set_option maxRecDepth 100000 in
theorem f_188_924 : xft 188 924 = some (.lcmp) := by decide +kernel
set_option maxRecDepth 100000 in
theorem f_188_925 : xft 188 925 = some (.ifCond .eq 5) := by decide +kernel
set_option maxRecDepth 100000 in
theorem f_188_928 : xft 188 928 = some (.iconst 0) := by decide +kernel
set_option maxRecDepth 100000 in
theorem f_188_929 : xft 188 929 = some (.ireturn) := by decide +kernel
set_option maxRecDepth 100000 in
theorem f_188_930 : xft 188 930 = some (.goto 1538) := by decide +kernel
set_option maxRecDepth 100000 in
theorem f_188_933 : xft 188 933 = some (.aload_n 1) := by decide +kernel
set_option maxRecDepth 100000 in
theorem f_188_934 : xft 188 934 = some (.aload_n 0) := by decide +kernel
set_option maxRecDepth 100000 in
theorem f_188_935 : xft 188 935 = some (.iload 4) := by decide +kernel
set_option maxRecDepth 100000 in
theorem f_188_937 : xft 188 937 = some (.iconst 1) := by decide +kernel
set_option maxRecDepth 100000 in
theorem f_188_938 : xft 188 938 = some (.iadd) := by decide +kernel
set_option maxRecDepth 100000 in
theorem f_188_939 : xft 188 939 = some (.iaload) := by decide +kernel
set_option maxRecDepth 100000 in
theorem f_188_940 : xft 188 940 = some (.aload_n 3) := by decide +kernel
set_option maxRecDepth 100000 in
theorem f_188_941 : xft 188 941 = some (.invokestatic 150) := by decide +kernel
set_option maxRecDepth 100000 in
theorem f_188_944 : xft 188 944 = some (.istore 5) := by decide +kernel
set_option maxRecDepth 100000 in
theorem f_188_946 : xft 188 946 = some (.aload_n 2) := by decide +kernel
set_option maxRecDepth 100000 in
theorem f_188_947 : xft 188 947 = some (.aload_n 0) := by decide +kernel
set_option maxRecDepth 100000 in
theorem f_188_948 : xft 188 948 = some (.iload 4) := by decide +kernel
set_option maxRecDepth 100000 in
theorem f_188_950 : xft 188 950 = some (.iconst 1) := by decide +kernel
set_option maxRecDepth 100000 in
theorem f_188_951 : xft 188 951 = some (.iadd) := by decide +kernel
set_option maxRecDepth 100000 in
theorem f_188_952 : xft 188 952 = some (.iaload) := by decide +kernel
set_option maxRecDepth 100000 in
theorem f_188_953 : xft 188 953 = some (.invokevirtual 152) := by decide +kernel
set_option maxRecDepth 100000 in
theorem f_188_956 : xft 188 956 = some (.istore 6) := by decide +kernel
set_option maxRecDepth 100000 in
theorem f_188_958 : xft 188 958 = some (.aload_n 2) := by decide +kernel
set_option maxRecDepth 100000 in
theorem f_188_959 : xft 188 959 = some (.invokevirtual 117) := by decide +kernel
set_option maxRecDepth 100000 in
theorem f_188_962 : xft 188 962 = some (.iload 5) := by decide +kernel
set_option maxRecDepth 100000 in
theorem f_188_964 : xft 188 964 = some (.if_icmp .eq 5) := by decide +kernel
set_option maxRecDepth 100000 in
theorem f_188_967 : xft 188 967 = some (.iconst 0) := by decide +kernel
set_option maxRecDepth 100000 in
theorem f_188_968 : xft 188 968 = some (.ireturn) := by decide +kernel
set_option maxRecDepth 100000 in
theorem f_188_969 : xft 188 969 = some (.iload 5) := by decide +kernel
set_option maxRecDepth 100000 in
theorem f_188_971 : xft 188 971 = some (.ifCond .ne 15) := by decide +kernel
set_option maxRecDepth 100000 in
theorem f_188_974 : xft 188 974 = some (.aload_n 3) := by decide +kernel
set_option maxRecDepth 100000 in
theorem f_188_975 : xft 188 975 = some (.iconst 0) := by decide +kernel
set_option maxRecDepth 100000 in
theorem f_188_976 : xft 188 976 = some (.laload) := by decide +kernel
set_option maxRecDepth 100000 in
theorem f_188_977 : xft 188 977 = some (.iload 6) := by decide +kernel
set_option maxRecDepth 100000 in
theorem f_188_979 : xft 188 979 = some (.i2l) := by decide +kernel
set_option maxRecDepth 100000 in
theorem f_188_980 : xft 188 980 = some (.lcmp) := by decide +kernel
set_option maxRecDepth 100000 in
theorem f_188_981 : xft 188 981 = some (.ifCond .eq 5) := by decide +kernel
set_option maxRecDepth 100000 in
theorem f_188_984 : xft 188 984 = some (.iconst 0) := by decide +kernel
set_option maxRecDepth 100000 in
theorem f_188_985 : xft 188 985 = some (.ireturn) := by decide +kernel
set_option maxRecDepth 100000 in
theorem f_188_986 : xft 188 986 = some (.goto 1482) := by decide +kernel
set_option maxRecDepth 100000 in
theorem f_188_989 : xft 188 989 = some (.aload_n 1) := by decide +kernel
set_option maxRecDepth 100000 in
theorem f_188_990 : xft 188 990 = some (.aload_n 0) := by decide +kernel
set_option maxRecDepth 100000 in
theorem f_188_991 : xft 188 991 = some (.iload 4) := by decide +kernel
set_option maxRecDepth 100000 in
theorem f_188_993 : xft 188 993 = some (.iconst 1) := by decide +kernel
set_option maxRecDepth 100000 in
theorem f_188_994 : xft 188 994 = some (.iadd) := by decide +kernel
set_option maxRecDepth 100000 in
theorem f_188_995 : xft 188 995 = some (.iaload) := by decide +kernel
set_option maxRecDepth 100000 in
theorem f_188_996 : xft 188 996 = some (.aload_n 0) := by decide +kernel
set_option maxRecDepth 100000 in
theorem f_188_997 : xft 188 997 = some (.iload 4) := by decide +kernel
set_option maxRecDepth 100000 in
theorem f_188_999 : xft 188 999 = some (.iconst 2) := by decide +kernel
set_option maxRecDepth 100000 in
theorem f_188_1000 : xft 188 1000 = some (.iadd) := by decide +kernel
set_option maxRecDepth 100000 in
theorem f_188_1001 : xft 188 1001 = some (.iaload) := by decide +kernel
set_option maxRecDepth 100000 in
theorem f_188_1002 : xft 188 1002 = some (.aload_n 0) := by decide +kernel
set_option maxRecDepth 100000 in
theorem f_188_1003 : xft 188 1003 = some (.iload 4) := by decide +kernel
set_option maxRecDepth 100000 in
theorem f_188_1005 : xft 188 1005 = some (.iconst 3) := by decide +kernel
set_option maxRecDepth 100000 in
theorem f_188_1006 : xft 188 1006 = some (.iadd) := by decide +kernel
set_option maxRecDepth 100000 in
theorem f_188_1007 : xft 188 1007 = some (.iaload) := by decide +kernel
set_option maxRecDepth 100000 in
theorem f_188_1008 : xft 188 1008 = some (.aload_n 0) := by decide +kernel
set_option maxRecDepth 100000 in
theorem f_188_1009 : xft 188 1009 = some (.iload 4) := by decide +kernel
set_option maxRecDepth 100000 in
theorem f_188_1011 : xft 188 1011 = some (.iconst 4) := by decide +kernel
set_option maxRecDepth 100000 in
theorem f_188_1012 : xft 188 1012 = some (.iadd) := by decide +kernel
set_option maxRecDepth 100000 in
theorem f_188_1013 : xft 188 1013 = some (.iaload) := by decide +kernel
set_option maxRecDepth 100000 in
theorem f_188_1014 : xft 188 1014 = some (.aload_n 3) := by decide +kernel
set_option maxRecDepth 100000 in
theorem f_188_1015 : xft 188 1015 = some (.invokestatic 153) := by decide +kernel
set_option maxRecDepth 100000 in
theorem f_188_1018 : xft 188 1018 = some (.istore 5) := by decide +kernel
set_option maxRecDepth 100000 in
theorem f_188_1020 : xft 188 1020 = some (.aload_n 2) := by decide +kernel
set_option maxRecDepth 100000 in
theorem f_188_1021 : xft 188 1021 = some (.aload_n 0) := by decide +kernel
set_option maxRecDepth 100000 in
theorem f_188_1022 : xft 188 1022 = some (.iload 4) := by decide +kernel
set_option maxRecDepth 100000 in
theorem f_188_1024 : xft 188 1024 = some (.iconst 1) := by decide +kernel
set_option maxRecDepth 100000 in
theorem f_188_1025 : xft 188 1025 = some (.iadd) := by decide +kernel
set_option maxRecDepth 100000 in
theorem f_188_1026 : xft 188 1026 = some (.iaload) := by decide +kernel
set_option maxRecDepth 100000 in
theorem f_188_1027 : xft 188 1027 = some (.aload_n 0) := by decide +kernel
set_option maxRecDepth 100000 in
theorem f_188_1028 : xft 188 1028 = some (.iload 4) := by decide +kernel
set_option maxRecDepth 100000 in
theorem f_188_1030 : xft 188 1030 = some (.iconst 2) := by decide +kernel
set_option maxRecDepth 100000 in
theorem f_188_1031 : xft 188 1031 = some (.iadd) := by decide +kernel
set_option maxRecDepth 100000 in
theorem f_188_1032 : xft 188 1032 = some (.iaload) := by decide +kernel
set_option maxRecDepth 100000 in
theorem f_188_1033 : xft 188 1033 = some (.aload_n 0) := by decide +kernel
set_option maxRecDepth 100000 in
theorem f_188_1034 : xft 188 1034 = some (.iload 4) := by decide +kernel
set_option maxRecDepth 100000 in
theorem f_188_1036 : xft 188 1036 = some (.iconst 3) := by decide +kernel
set_option maxRecDepth 100000 in
theorem f_188_1037 : xft 188 1037 = some (.iadd) := by decide +kernel
set_option maxRecDepth 100000 in
theorem f_188_1038 : xft 188 1038 = some (.iaload) := by decide +kernel
set_option maxRecDepth 100000 in
theorem f_188_1039 : xft 188 1039 = some (.aload_n 0) := by decide +kernel
set_option maxRecDepth 100000 in
theorem f_188_1040 : xft 188 1040 = some (.iload 4) := by decide +kernel
set_option maxRecDepth 100000 in
theorem f_188_1042 : xft 188 1042 = some (.iconst 4) := by decide +kernel
set_option maxRecDepth 100000 in
theorem f_188_1043 : xft 188 1043 = some (.iadd) := by decide +kernel
set_option maxRecDepth 100000 in
theorem f_188_1044 : xft 188 1044 = some (.iaload) := by decide +kernel
set_option maxRecDepth 100000 in
theorem f_188_1045 : xft 188 1045 = some (.invokevirtual 155) := by decide +kernel
set_option maxRecDepth 100000 in
theorem f_188_1048 : xft 188 1048 = some (.istore 6) := by decide +kernel
set_option maxRecDepth 100000 in
theorem f_188_1050 : xft 188 1050 = some (.aload_n 2) := by decide +kernel
set_option maxRecDepth 100000 in
theorem f_188_1051 : xft 188 1051 = some (.invokevirtual 117) := by decide +kernel
set_option maxRecDepth 100000 in
theorem f_188_1054 : xft 188 1054 = some (.iload 5) := by decide +kernel
set_option maxRecDepth 100000 in
theorem f_188_1056 : xft 188 1056 = some (.if_icmp .eq 5) := by decide +kernel
set_option maxRecDepth 100000 in
theorem f_188_1059 : xft 188 1059 = some (.iconst 0) := by decide +kernel
set_option maxRecDepth 100000 in
theorem f_188_1060 : xft 188 1060 = some (.ireturn) := by decide +kernel
set_option maxRecDepth 100000 in
theorem f_188_1061 : xft 188 1061 = some (.iload 5) := by decide +kernel
set_option maxRecDepth 100000 in
theorem f_188_1063 : xft 188 1063 = some (.ifCond .ne 15) := by decide +kernel
set_option maxRecDepth 100000 in
theorem f_188_1066 : xft 188 1066 = some (.aload_n 3) := by decide +kernel
set_option maxRecDepth 100000 in
theorem f_188_1067 : xft 188 1067 = some (.iconst 0) := by decide +kernel
set_option maxRecDepth 100000 in
theorem f_188_1068 : xft 188 1068 = some (.laload) := by decide +kernel
set_option maxRecDepth 100000 in
theorem f_188_1069 : xft 188 1069 = some (.iload 6) := by decide +kernel
set_option maxRecDepth 100000 in
theorem f_188_1071 : xft 188 1071 = some (.i2l) := by decide +kernel
set_option maxRecDepth 100000 in
theorem f_188_1072 : xft 188 1072 = some (.lcmp) := by decide +kernel
set_option maxRecDepth 100000 in
theorem f_188_1073 : xft 188 1073 = some (.ifCond .eq 5) := by decide +kernel
set_option maxRecDepth 100000 in
theorem f_188_1076 : xft 188 1076 = some (.iconst 0) := by decide +kernel
set_option maxRecDepth 100000 in
theorem f_188_1077 : xft 188 1077 = some (.ireturn) := by decide +kernel
set_option maxRecDepth 100000 in
theorem f_188_1078 : xft 188 1078 = some (.goto 1390) := by decide +kernel
set_option maxRecDepth 100000 in
theorem f_188_1081 : xft 188 1081 = some (.aload_n 1) := by decide +kernel
set_option maxRecDepth 100000 in
theorem f_188_1082 : xft 188 1082 = some (.aload_n 0) := by decide +kernel
set_option maxRecDepth 100000 in
theorem f_188_1083 : xft 188 1083 = some (.iload 4) := by decide +kernel
set_option maxRecDepth 100000 in
theorem f_188_1085 : xft 188 1085 = some (.iconst 1) := by decide +kernel
set_option maxRecDepth 100000 in
theorem f_188_1086 : xft 188 1086 = some (.iadd) := by decide +kernel
set_option maxRecDepth 100000 in
theorem f_188_1087 : xft 188 1087 = some (.iaload) := by decide +kernel
set_option maxRecDepth 100000 in
theorem f_188_1088 : xft 188 1088 = some (.aload_n 0) := by decide +kernel
set_option maxRecDepth 100000 in
theorem f_188_1089 : xft 188 1089 = some (.iload 4) := by decide +kernel
set_option maxRecDepth 100000 in
theorem f_188_1091 : xft 188 1091 = some (.iconst 2) := by decide +kernel
set_option maxRecDepth 100000 in
theorem f_188_1092 : xft 188 1092 = some (.iadd) := by decide +kernel
set_option maxRecDepth 100000 in
theorem f_188_1093 : xft 188 1093 = some (.iaload) := by decide +kernel
set_option maxRecDepth 100000 in
theorem f_188_1094 : xft 188 1094 = some (.aload_n 0) := by decide +kernel
set_option maxRecDepth 100000 in
theorem f_188_1095 : xft 188 1095 = some (.iload 4) := by decide +kernel
set_option maxRecDepth 100000 in
theorem f_188_1097 : xft 188 1097 = some (.iconst 3) := by decide +kernel
set_option maxRecDepth 100000 in
theorem f_188_1098 : xft 188 1098 = some (.iadd) := by decide +kernel
set_option maxRecDepth 100000 in
theorem f_188_1099 : xft 188 1099 = some (.iaload) := by decide +kernel
set_option maxRecDepth 100000 in
theorem f_188_1100 : xft 188 1100 = some (.aload_n 3) := by decide +kernel
set_option maxRecDepth 100000 in
theorem f_188_1101 : xft 188 1101 = some (.invokestatic 156) := by decide +kernel
set_option maxRecDepth 100000 in
theorem f_188_1104 : xft 188 1104 = some (.istore 5) := by decide +kernel
set_option maxRecDepth 100000 in
theorem f_188_1106 : xft 188 1106 = some (.aload_n 2) := by decide +kernel
set_option maxRecDepth 100000 in
theorem f_188_1107 : xft 188 1107 = some (.aload_n 0) := by decide +kernel
set_option maxRecDepth 100000 in
theorem f_188_1108 : xft 188 1108 = some (.iload 4) := by decide +kernel
set_option maxRecDepth 100000 in
theorem f_188_1110 : xft 188 1110 = some (.iconst 1) := by decide +kernel
set_option maxRecDepth 100000 in
theorem f_188_1111 : xft 188 1111 = some (.iadd) := by decide +kernel
set_option maxRecDepth 100000 in
theorem f_188_1112 : xft 188 1112 = some (.iaload) := by decide +kernel
set_option maxRecDepth 100000 in
theorem f_188_1113 : xft 188 1113 = some (.aload_n 0) := by decide +kernel
set_option maxRecDepth 100000 in
theorem f_188_1114 : xft 188 1114 = some (.iload 4) := by decide +kernel
set_option maxRecDepth 100000 in
theorem f_188_1116 : xft 188 1116 = some (.iconst 2) := by decide +kernel
set_option maxRecDepth 100000 in
theorem f_188_1117 : xft 188 1117 = some (.iadd) := by decide +kernel
set_option maxRecDepth 100000 in
theorem f_188_1118 : xft 188 1118 = some (.iaload) := by decide +kernel
set_option maxRecDepth 100000 in
theorem f_188_1119 : xft 188 1119 = some (.aload_n 0) := by decide +kernel
set_option maxRecDepth 100000 in
theorem f_188_1120 : xft 188 1120 = some (.iload 4) := by decide +kernel
set_option maxRecDepth 100000 in
theorem f_188_1122 : xft 188 1122 = some (.iconst 3) := by decide +kernel
set_option maxRecDepth 100000 in
theorem f_188_1123 : xft 188 1123 = some (.iadd) := by decide +kernel
set_option maxRecDepth 100000 in
theorem f_188_1124 : xft 188 1124 = some (.iaload) := by decide +kernel
set_option maxRecDepth 100000 in
theorem f_188_1125 : xft 188 1125 = some (.invokevirtual 158) := by decide +kernel
set_option maxRecDepth 100000 in
theorem f_188_1128 : xft 188 1128 = some (.istore 6) := by decide +kernel
set_option maxRecDepth 100000 in
theorem f_188_1130 : xft 188 1130 = some (.aload_n 2) := by decide +kernel
set_option maxRecDepth 100000 in
theorem f_188_1131 : xft 188 1131 = some (.invokevirtual 117) := by decide +kernel
set_option maxRecDepth 100000 in
theorem f_188_1134 : xft 188 1134 = some (.iload 5) := by decide +kernel
set_option maxRecDepth 100000 in
theorem f_188_1136 : xft 188 1136 = some (.if_icmp .eq 5) := by decide +kernel
set_option maxRecDepth 100000 in
theorem f_188_1139 : xft 188 1139 = some (.iconst 0) := by decide +kernel
set_option maxRecDepth 100000 in
theorem f_188_1140 : xft 188 1140 = some (.ireturn) := by decide +kernel
set_option maxRecDepth 100000 in
theorem f_188_1141 : xft 188 1141 = some (.iload 5) := by decide +kernel
set_option maxRecDepth 100000 in
theorem f_188_1143 : xft 188 1143 = some (.ifCond .ne 15) := by decide +kernel
set_option maxRecDepth 100000 in
theorem f_188_1146 : xft 188 1146 = some (.aload_n 3) := by decide +kernel
set_option maxRecDepth 100000 in
theorem f_188_1147 : xft 188 1147 = some (.iconst 0) := by decide +kernel
set_option maxRecDepth 100000 in
theorem f_188_1148 : xft 188 1148 = some (.laload) := by decide +kernel
set_option maxRecDepth 100000 in
theorem f_188_1149 : xft 188 1149 = some (.iload 6) := by decide +kernel
set_option maxRecDepth 100000 in
theorem f_188_1151 : xft 188 1151 = some (.i2l) := by decide +kernel
set_option maxRecDepth 100000 in
theorem f_188_1152 : xft 188 1152 = some (.lcmp) := by decide +kernel
set_option maxRecDepth 100000 in
theorem f_188_1153 : xft 188 1153 = some (.ifCond .eq 5) := by decide +kernel
set_option maxRecDepth 100000 in
theorem f_188_1156 : xft 188 1156 = some (.iconst 0) := by decide +kernel
set_option maxRecDepth 100000 in
theorem f_188_1157 : xft 188 1157 = some (.ireturn) := by decide +kernel
set_option maxRecDepth 100000 in
theorem f_188_1158 : xft 188 1158 = some (.goto 1310) := by decide +kernel
set_option maxRecDepth 100000 in
theorem f_188_1161 : xft 188 1161 = some (.aload_n 1) := by decide +kernel
set_option maxRecDepth 100000 in
theorem f_188_1162 : xft 188 1162 = some (.aload_n 0) := by decide +kernel
set_option maxRecDepth 100000 in
theorem f_188_1163 : xft 188 1163 = some (.iload 4) := by decide +kernel
set_option maxRecDepth 100000 in
theorem f_188_1165 : xft 188 1165 = some (.iconst 1) := by decide +kernel
set_option maxRecDepth 100000 in
theorem f_188_1166 : xft 188 1166 = some (.iadd) := by decide +kernel
set_option maxRecDepth 100000 in
theorem f_188_1167 : xft 188 1167 = some (.iaload) := by decide +kernel
set_option maxRecDepth 100000 in
theorem f_188_1168 : xft 188 1168 = some (.aload_n 0) := by decide +kernel
set_option maxRecDepth 100000 in
theorem f_188_1169 : xft 188 1169 = some (.iload 4) := by decide +kernel
set_option maxRecDepth 100000 in
theorem f_188_1171 : xft 188 1171 = some (.iconst 2) := by decide +kernel
set_option maxRecDepth 100000 in
theorem f_188_1172 : xft 188 1172 = some (.iadd) := by decide +kernel
set_option maxRecDepth 100000 in
theorem f_188_1173 : xft 188 1173 = some (.iaload) := by decide +kernel
set_option maxRecDepth 100000 in
theorem f_188_1174 : xft 188 1174 = some (.aload_n 0) := by decide +kernel
set_option maxRecDepth 100000 in
theorem f_188_1175 : xft 188 1175 = some (.iload 4) := by decide +kernel
set_option maxRecDepth 100000 in
theorem f_188_1177 : xft 188 1177 = some (.iconst 3) := by decide +kernel
set_option maxRecDepth 100000 in
theorem f_188_1178 : xft 188 1178 = some (.iadd) := by decide +kernel
set_option maxRecDepth 100000 in
theorem f_188_1179 : xft 188 1179 = some (.iaload) := by decide +kernel
set_option maxRecDepth 100000 in
theorem f_188_1180 : xft 188 1180 = some (.aload_n 3) := by decide +kernel
set_option maxRecDepth 100000 in
theorem f_188_1181 : xft 188 1181 = some (.invokestatic 159) := by decide +kernel
set_option maxRecDepth 100000 in
theorem f_188_1184 : xft 188 1184 = some (.istore 5) := by decide +kernel
set_option maxRecDepth 100000 in
theorem f_188_1186 : xft 188 1186 = some (.aload_n 2) := by decide +kernel
set_option maxRecDepth 100000 in
theorem f_188_1187 : xft 188 1187 = some (.aload_n 0) := by decide +kernel
set_option maxRecDepth 100000 in
theorem f_188_1188 : xft 188 1188 = some (.iload 4) := by decide +kernel
set_option maxRecDepth 100000 in
theorem f_188_1190 : xft 188 1190 = some (.iconst 1) := by decide +kernel
set_option maxRecDepth 100000 in
theorem f_188_1191 : xft 188 1191 = some (.iadd) := by decide +kernel
set_option maxRecDepth 100000 in
theorem f_188_1192 : xft 188 1192 = some (.iaload) := by decide +kernel
set_option maxRecDepth 100000 in
theorem f_188_1193 : xft 188 1193 = some (.aload_n 0) := by decide +kernel
set_option maxRecDepth 100000 in
theorem f_188_1194 : xft 188 1194 = some (.iload 4) := by decide +kernel
set_option maxRecDepth 100000 in
theorem f_188_1196 : xft 188 1196 = some (.iconst 2) := by decide +kernel
set_option maxRecDepth 100000 in
theorem f_188_1197 : xft 188 1197 = some (.iadd) := by decide +kernel
set_option maxRecDepth 100000 in
theorem f_188_1198 : xft 188 1198 = some (.iaload) := by decide +kernel
set_option maxRecDepth 100000 in
theorem f_188_1199 : xft 188 1199 = some (.aload_n 0) := by decide +kernel
set_option maxRecDepth 100000 in
theorem f_188_1200 : xft 188 1200 = some (.iload 4) := by decide +kernel
set_option maxRecDepth 100000 in
theorem f_188_1202 : xft 188 1202 = some (.iconst 3) := by decide +kernel
set_option maxRecDepth 100000 in
theorem f_188_1203 : xft 188 1203 = some (.iadd) := by decide +kernel
set_option maxRecDepth 100000 in
theorem f_188_1204 : xft 188 1204 = some (.iaload) := by decide +kernel
set_option maxRecDepth 100000 in
theorem f_188_1205 : xft 188 1205 = some (.invokevirtual 161) := by decide +kernel
set_option maxRecDepth 100000 in
theorem f_188_1208 : xft 188 1208 = some (.istore 6) := by decide +kernel
set_option maxRecDepth 100000 in
theorem f_188_1210 : xft 188 1210 = some (.aload_n 2) := by decide +kernel
set_option maxRecDepth 100000 in
theorem f_188_1211 : xft 188 1211 = some (.invokevirtual 117) := by decide +kernel
set_option maxRecDepth 100000 in
theorem f_188_1214 : xft 188 1214 = some (.iload 5) := by decide +kernel
set_option maxRecDepth 100000 in
theorem f_188_1216 : xft 188 1216 = some (.if_icmp .eq 5) := by decide +kernel
set_option maxRecDepth 100000 in
theorem f_188_1219 : xft 188 1219 = some (.iconst 0) := by decide +kernel
set_option maxRecDepth 100000 in
theorem f_188_1220 : xft 188 1220 = some (.ireturn) := by decide +kernel
set_option maxRecDepth 100000 in
theorem f_188_1221 : xft 188 1221 = some (.iload 5) := by decide +kernel
set_option maxRecDepth 100000 in
theorem f_188_1223 : xft 188 1223 = some (.ifCond .ne 15) := by decide +kernel
set_option maxRecDepth 100000 in
theorem f_188_1226 : xft 188 1226 = some (.aload_n 3) := by decide +kernel
set_option maxRecDepth 100000 in
theorem f_188_1227 : xft 188 1227 = some (.iconst 0) := by decide +kernel
set_option maxRecDepth 100000 in
theorem f_188_1228 : xft 188 1228 = some (.laload) := by decide +kernel
set_option maxRecDepth 100000 in
theorem f_188_1229 : xft 188 1229 = some (.iload 6) := by decide +kernel
set_option maxRecDepth 100000 in
theorem f_188_1231 : xft 188 1231 = some (.i2l) := by decide +kernel
set_option maxRecDepth 100000 in
theorem f_188_1232 : xft 188 1232 = some (.lcmp) := by decide +kernel
set_option maxRecDepth 100000 in
theorem f_188_1233 : xft 188 1233 = some (.ifCond .eq 5) := by decide +kernel
set_option maxRecDepth 100000 in
theorem f_188_1236 : xft 188 1236 = some (.iconst 0) := by decide +kernel
set_option maxRecDepth 100000 in
theorem f_188_1237 : xft 188 1237 = some (.ireturn) := by decide +kernel
set_option maxRecDepth 100000 in
theorem f_188_1238 : xft 188 1238 = some (.goto 1230) := by decide +kernel
set_option maxRecDepth 100000 in
theorem f_188_1241 : xft 188 1241 = some (.aload_n 1) := by decide +kernel
set_option maxRecDepth 100000 in
theorem f_188_1242 : xft 188 1242 = some (.aload_n 0) := by decide +kernel
set_option maxRecDepth 100000 in
theorem f_188_1243 : xft 188 1243 = some (.iload 4) := by decide +kernel
set_option maxRecDepth 100000 in
theorem f_188_1245 : xft 188 1245 = some (.iconst 1) := by decide +kernel
set_option maxRecDepth 100000 in
theorem f_188_1246 : xft 188 1246 = some (.iadd) := by decide +kernel
set_option maxRecDepth 100000 in
theorem f_188_1247 : xft 188 1247 = some (.iaload) := by decide +kernel
set_option maxRecDepth 100000 in
theorem f_188_1248 : xft 188 1248 = some (.aload_n 0) := by decide +kernel
set_option maxRecDepth 100000 in
theorem f_188_1249 : xft 188 1249 = some (.iload 4) := by decide +kernel
set_option maxRecDepth 100000 in
theorem f_188_1251 : xft 188 1251 = some (.iconst 2) := by decide +kernel
set_option maxRecDepth 100000 in
theorem f_188_1252 : xft 188 1252 = some (.iadd) := by decide +kernel
set_option maxRecDepth 100000 in
theorem f_188_1253 : xft 188 1253 = some (.iaload) := by decide +kernel
set_option maxRecDepth 100000 in
theorem f_188_1254 : xft 188 1254 = some (.aload_n 3) := by decide +kernel
set_option maxRecDepth 100000 in
theorem f_188_1255 : xft 188 1255 = some (.invokestatic 162) := by decide +kernel
set_option maxRecDepth 100000 in
theorem f_188_1258 : xft 188 1258 = some (.istore 5) := by decide +kernel
set_option maxRecDepth 100000 in
theorem f_188_1260 : xft 188 1260 = some (.aload_n 2) := by decide +kernel
set_option maxRecDepth 100000 in
theorem f_188_1261 : xft 188 1261 = some (.aload_n 0) := by decide +kernel
set_option maxRecDepth 100000 in
theorem f_188_1262 : xft 188 1262 = some (.iload 4) := by decide +kernel
set_option maxRecDepth 100000 in
theorem f_188_1264 : xft 188 1264 = some (.iconst 1) := by decide +kernel
set_option maxRecDepth 100000 in
theorem f_188_1265 : xft 188 1265 = some (.iadd) := by decide +kernel
set_option maxRecDepth 100000 in
theorem f_188_1266 : xft 188 1266 = some (.iaload) := by decide +kernel
set_option maxRecDepth 100000 in
theorem f_188_1267 : xft 188 1267 = some (.aload_n 0) := by decide +kernel
set_option maxRecDepth 100000 in
theorem f_188_1268 : xft 188 1268 = some (.iload 4) := by decide +kernel
set_option maxRecDepth 100000 in
theorem f_188_1270 : xft 188 1270 = some (.iconst 2) := by decide +kernel
set_option maxRecDepth 100000 in
theorem f_188_1271 : xft 188 1271 = some (.iadd) := by decide +kernel
set_option maxRecDepth 100000 in
theorem f_188_1272 : xft 188 1272 = some (.iaload) := by decide +kernel
set_option maxRecDepth 100000 in
theorem f_188_1273 : xft 188 1273 = some (.invokevirtual 164) := by decide +kernel
set_option maxRecDepth 100000 in
theorem f_188_1276 : xft 188 1276 = some (.istore 6) := by decide +kernel
set_option maxRecDepth 100000 in
theorem f_188_1278 : xft 188 1278 = some (.aload_n 2) := by decide +kernel
set_option maxRecDepth 100000 in
theorem f_188_1279 : xft 188 1279 = some (.invokevirtual 117) := by decide +kernel
set_option maxRecDepth 100000 in
theorem f_188_1282 : xft 188 1282 = some (.iload 5) := by decide +kernel
set_option maxRecDepth 100000 in
theorem f_188_1284 : xft 188 1284 = some (.if_icmp .eq 5) := by decide +kernel
set_option maxRecDepth 100000 in
theorem f_188_1287 : xft 188 1287 = some (.iconst 0) := by decide +kernel
set_option maxRecDepth 100000 in
theorem f_188_1288 : xft 188 1288 = some (.ireturn) := by decide +kernel
set_option maxRecDepth 100000 in
theorem f_188_1289 : xft 188 1289 = some (.iload 5) := by decide +kernel
set_option maxRecDepth 100000 in
theorem f_188_1291 : xft 188 1291 = some (.ifCond .ne 15) := by decide +kernel
set_option maxRecDepth 100000 in
theorem f_188_1294 : xft 188 1294 = some (.aload_n 3) := by decide +kernel
set_option maxRecDepth 100000 in
theorem f_188_1295 : xft 188 1295 = some (.iconst 0) := by decide +kernel
set_option maxRecDepth 100000 in
theorem f_188_1296 : xft 188 1296 = some (.laload) := by decide +kernel
set_option maxRecDepth 100000 in
theorem f_188_1297 : xft 188 1297 = some (.iload 6) := by decide +kernel
set_option maxRecDepth 100000 in
theorem f_188_1299 : xft 188 1299 = some (.i2l) := by decide +kernel
set_option maxRecDepth 100000 in
theorem f_188_1300 : xft 188 1300 = some (.lcmp) := by decide +kernel
set_option maxRecDepth 100000 in
theorem f_188_1301 : xft 188 1301 = some (.ifCond .eq 5) := by decide +kernel
set_option maxRecDepth 100000 in
theorem f_188_1304 : xft 188 1304 = some (.iconst 0) := by decide +kernel
set_option maxRecDepth 100000 in
theorem f_188_1305 : xft 188 1305 = some (.ireturn) := by decide +kernel
set_option maxRecDepth 100000 in
theorem f_188_1306 : xft 188 1306 = some (.goto 1162) := by decide +kernel
set_option maxRecDepth 100000 in
theorem f_188_1309 : xft 188 1309 = some (.aload_n 1) := by decide +kernel
set_option maxRecDepth 100000 in
theorem f_188_1310 : xft 188 1310 = some (.aload_n 0) := by decide +kernel
set_option maxRecDepth 100000 in
theorem f_188_1311 : xft 188 1311 = some (.iload 4) := by decide +kernel
set_option maxRecDepth 100000 in
theorem f_188_1313 : xft 188 1313 = some (.iconst 1) := by decide +kernel
set_option maxRecDepth 100000 in
theorem f_188_1314 : xft 188 1314 = some (.iadd) := by decide +kernel
set_option maxRecDepth 100000 in
theorem f_188_1315 : xft 188 1315 = some (.iaload) := by decide +kernel
set_option maxRecDepth 100000 in
theorem f_188_1316 : xft 188 1316 = some (.aload_n 3) := by decide +kernel
set_option maxRecDepth 100000 in
theorem f_188_1317 : xft 188 1317 = some (.invokestatic 165) := by decide +kernel
set_option maxRecDepth 100000 in
theorem f_188_1320 : xft 188 1320 = some (.istore 5) := by decide +kernel
set_option maxRecDepth 100000 in
theorem f_188_1322 : xft 188 1322 = some (.aload_n 2) := by decide +kernel
set_option maxRecDepth 100000 in
theorem f_188_1323 : xft 188 1323 = some (.aload_n 0) := by decide +kernel
set_option maxRecDepth 100000 in
theorem f_188_1324 : xft 188 1324 = some (.iload 4) := by decide +kernel
set_option maxRecDepth 100000 in
theorem f_188_1326 : xft 188 1326 = some (.iconst 1) := by decide +kernel
set_option maxRecDepth 100000 in
theorem f_188_1327 : xft 188 1327 = some (.iadd) := by decide +kernel
set_option maxRecDepth 100000 in
theorem f_188_1328 : xft 188 1328 = some (.iaload) := by decide +kernel
set_option maxRecDepth 100000 in
theorem f_188_1329 : xft 188 1329 = some (.invokevirtual 167) := by decide +kernel
set_option maxRecDepth 100000 in
theorem f_188_1332 : xft 188 1332 = some (.istore 6) := by decide +kernel
set_option maxRecDepth 100000 in
theorem f_188_1334 : xft 188 1334 = some (.aload_n 2) := by decide +kernel
set_option maxRecDepth 100000 in
theorem f_188_1335 : xft 188 1335 = some (.invokevirtual 117) := by decide +kernel
set_option maxRecDepth 100000 in
theorem f_188_1338 : xft 188 1338 = some (.iload 5) := by decide +kernel
set_option maxRecDepth 100000 in
theorem f_188_1340 : xft 188 1340 = some (.if_icmp .eq 5) := by decide +kernel
set_option maxRecDepth 100000 in
theorem f_188_1343 : xft 188 1343 = some (.iconst 0) := by decide +kernel
set_option maxRecDepth 100000 in
theorem f_188_1344 : xft 188 1344 = some (.ireturn) := by decide +kernel
set_option maxRecDepth 100000 in
theorem f_188_1345 : xft 188 1345 = some (.iload 5) := by decide +kernel
set_option maxRecDepth 100000 in
theorem f_188_1347 : xft 188 1347 = some (.ifCond .ne 15) := by decide +kernel
set_option maxRecDepth 100000 in
theorem f_188_1350 : xft 188 1350 = some (.aload_n 3) := by decide +kernel
set_option maxRecDepth 100000 in
theorem f_188_1351 : xft 188 1351 = some (.iconst 0) := by decide +kernel
set_option maxRecDepth 100000 in
theorem f_188_1352 : xft 188 1352 = some (.laload) := by decide +kernel
set_option maxRecDepth 100000 in
theorem f_188_1353 : xft 188 1353 = some (.iload 6) := by decide +kernel
set_option maxRecDepth 100000 in
theorem f_188_1355 : xft 188 1355 = some (.i2l) := by decide +kernel
set_option maxRecDepth 100000 in
theorem f_188_1356 : xft 188 1356 = some (.lcmp) := by decide +kernel
set_option maxRecDepth 100000 in
theorem f_188_1357 : xft 188 1357 = some (.ifCond .eq 5) := by decide +kernel
set_option maxRecDepth 100000 in
theorem f_188_1360 : xft 188 1360 = some (.iconst 0) := by decide +kernel
set_option maxRecDepth 100000 in
theorem f_188_1361 : xft 188 1361 = some (.ireturn) := by decide +kernel
set_option maxRecDepth 100000 in
theorem f_188_1362 : xft 188 1362 = some (.goto 1106) := by decide +kernel
set_option maxRecDepth 100000 in
theorem f_188_1365 : xft 188 1365 = some (.aload_n 1) := by decide +kernel
set_option maxRecDepth 100000 in
theorem f_188_1366 : xft 188 1366 = some (.aload_n 0) := by decide +kernel
set_option maxRecDepth 100000 in
theorem f_188_1367 : xft 188 1367 = some (.iload 4) := by decide +kernel
set_option maxRecDepth 100000 in
theorem f_188_1369 : xft 188 1369 = some (.iconst 1) := by decide +kernel
set_option maxRecDepth 100000 in
theorem f_188_1370 : xft 188 1370 = some (.iadd) := by decide +kernel
set_option maxRecDepth 100000 in
theorem f_188_1371 : xft 188 1371 = some (.iaload) := by decide +kernel
set_option maxRecDepth 100000 in
theorem f_188_1372 : xft 188 1372 = some (.aload_n 0) := by decide +kernel
set_option maxRecDepth 100000 in
theorem f_188_1373 : xft 188 1373 = some (.iload 4) := by decide +kernel
set_option maxRecDepth 100000 in
theorem f_188_1375 : xft 188 1375 = some (.iconst 2) := by decide +kernel
set_option maxRecDepth 100000 in
theorem f_188_1376 : xft 188 1376 = some (.iadd) := by decide +kernel
set_option maxRecDepth 100000 in
theorem f_188_1377 : xft 188 1377 = some (.iaload) := by decide +kernel
set_option maxRecDepth 100000 in
theorem f_188_1378 : xft 188 1378 = some (.aload_n 0) := by decide +kernel
set_option maxRecDepth 100000 in
theorem f_188_1379 : xft 188 1379 = some (.iload 4) := by decide +kernel
set_option maxRecDepth 100000 in
theorem f_188_1381 : xft 188 1381 = some (.iconst 3) := by decide +kernel
set_option maxRecDepth 100000 in
theorem f_188_1382 : xft 188 1382 = some (.iadd) := by decide +kernel
set_option maxRecDepth 100000 in
theorem f_188_1383 : xft 188 1383 = some (.iaload) := by decide +kernel
set_option maxRecDepth 100000 in
theorem f_188_1384 : xft 188 1384 = some (.aload_n 0) := by decide +kernel
set_option maxRecDepth 100000 in
theorem f_188_1385 : xft 188 1385 = some (.iload 4) := by decide +kernel
set_option maxRecDepth 100000 in
theorem f_188_1387 : xft 188 1387 = some (.iconst 4) := by decide +kernel
set_option maxRecDepth 100000 in
theorem f_188_1388 : xft 188 1388 = some (.iadd) := by decide +kernel
set_option maxRecDepth 100000 in
theorem f_188_1389 : xft 188 1389 = some (.iaload) := by decide +kernel
set_option maxRecDepth 100000 in
theorem f_188_1390 : xft 188 1390 = some (.aload_n 3) := by decide +kernel
set_option maxRecDepth 100000 in
theorem f_188_1391 : xft 188 1391 = some (.invokestatic 168) := by decide +kernel
set_option maxRecDepth 100000 in
theorem f_188_1394 : xft 188 1394 = some (.istore 5) := by decide +kernel
set_option maxRecDepth 100000 in
theorem f_188_1396 : xft 188 1396 = some (.aload_n 2) := by decide +kernel
set_option maxRecDepth 100000 in
theorem f_188_1397 : xft 188 1397 = some (.aload_n 0) := by decide +kernel
set_option maxRecDepth 100000 in
theorem f_188_1398 : xft 188 1398 = some (.iload 4) := by decide +kernel
set_option maxRecDepth 100000 in
theorem f_188_1400 : xft 188 1400 = some (.iconst 1) := by decide +kernel
set_option maxRecDepth 100000 in
theorem f_188_1401 : xft 188 1401 = some (.iadd) := by decide +kernel
set_option maxRecDepth 100000 in
theorem f_188_1402 : xft 188 1402 = some (.iaload) := by decide +kernel
set_option maxRecDepth 100000 in
theorem f_188_1403 : xft 188 1403 = some (.aload_n 0) := by decide +kernel
set_option maxRecDepth 100000 in
theorem f_188_1404 : xft 188 1404 = some (.iload 4) := by decide +kernel
set_option maxRecDepth 100000 in
theorem f_188_1406 : xft 188 1406 = some (.iconst 2) := by decide +kernel
set_option maxRecDepth 100000 in
theorem f_188_1407 : xft 188 1407 = some (.iadd) := by decide +kernel
set_option maxRecDepth 100000 in
theorem f_188_1408 : xft 188 1408 = some (.iaload) := by decide +kernel
set_option maxRecDepth 100000 in
theorem f_188_1409 : xft 188 1409 = some (.aload_n 0) := by decide +kernel
set_option maxRecDepth 100000 in
theorem f_188_1410 : xft 188 1410 = some (.iload 4) := by decide +kernel
set_option maxRecDepth 100000 in
theorem f_188_1412 : xft 188 1412 = some (.iconst 3) := by decide +kernel
set_option maxRecDepth 100000 in
theorem f_188_1413 : xft 188 1413 = some (.iadd) := by decide +kernel
set_option maxRecDepth 100000 in
theorem f_188_1414 : xft 188 1414 = some (.iaload) := by decide +kernel
set_option maxRecDepth 100000 in
theorem f_188_1415 : xft 188 1415 = some (.aload_n 0) := by decide +kernel
set_option maxRecDepth 100000 in
theorem f_188_1416 : xft 188 1416 = some (.iload 4) := by decide +kernel
set_option maxRecDepth 100000 in
theorem f_188_1418 : xft 188 1418 = some (.iconst 4) := by decide +kernel
set_option maxRecDepth 100000 in
theorem f_188_1419 : xft 188 1419 = some (.iadd) := by decide +kernel
set_option maxRecDepth 100000 in
theorem f_188_1420 : xft 188 1420 = some (.iaload) := by decide +kernel
set_option maxRecDepth 100000 in
theorem f_188_1421 : xft 188 1421 = some (.invokevirtual 170) := by decide +kernel
set_option maxRecDepth 100000 in
theorem f_188_1424 : xft 188 1424 = some (.istore 6) := by decide +kernel
set_option maxRecDepth 100000 in
theorem f_188_1426 : xft 188 1426 = some (.aload_n 2) := by decide +kernel
set_option maxRecDepth 100000 in
theorem f_188_1427 : xft 188 1427 = some (.invokevirtual 117) := by decide +kernel
set_option maxRecDepth 100000 in
theorem f_188_1430 : xft 188 1430 = some (.iload 5) := by decide +kernel
set_option maxRecDepth 100000 in
theorem f_188_1432 : xft 188 1432 = some (.if_icmp .eq 5) := by decide +kernel
set_option maxRecDepth 100000 in
theorem f_188_1435 : xft 188 1435 = some (.iconst 0) := by decide +kernel
set_option maxRecDepth 100000 in
theorem f_188_1436 : xft 188 1436 = some (.ireturn) := by decide +kernel
set_option maxRecDepth 100000 in
theorem f_188_1437 : xft 188 1437 = some (.iload 5) := by decide +kernel
set_option maxRecDepth 100000 in
theorem f_188_1439 : xft 188 1439 = some (.ifCond .ne 15) := by decide +kernel
set_option maxRecDepth 100000 in
theorem f_188_1442 : xft 188 1442 = some (.aload_n 3) := by decide +kernel
set_option maxRecDepth 100000 in
theorem f_188_1443 : xft 188 1443 = some (.iconst 0) := by decide +kernel
set_option maxRecDepth 100000 in
theorem f_188_1444 : xft 188 1444 = some (.laload) := by decide +kernel
set_option maxRecDepth 100000 in
theorem f_188_1445 : xft 188 1445 = some (.iload 6) := by decide +kernel
set_option maxRecDepth 100000 in
theorem f_188_1447 : xft 188 1447 = some (.i2l) := by decide +kernel
set_option maxRecDepth 100000 in
theorem f_188_1448 : xft 188 1448 = some (.lcmp) := by decide +kernel
set_option maxRecDepth 100000 in
theorem f_188_1449 : xft 188 1449 = some (.ifCond .eq 5) := by decide +kernel
set_option maxRecDepth 100000 in
theorem f_188_1452 : xft 188 1452 = some (.iconst 0) := by decide +kernel
set_option maxRecDepth 100000 in
theorem f_188_1453 : xft 188 1453 = some (.ireturn) := by decide +kernel
set_option maxRecDepth 100000 in
theorem f_188_1454 : xft 188 1454 = some (.goto 1014) := by decide +kernel
set_option maxRecDepth 100000 in
theorem f_188_1457 : xft 188 1457 = some (.aload_n 1) := by decide +kernel
set_option maxRecDepth 100000 in
theorem f_188_1458 : xft 188 1458 = some (.aload_n 0) := by decide +kernel
set_option maxRecDepth 100000 in
theorem f_188_1459 : xft 188 1459 = some (.iload 4) := by decide +kernel
set_option maxRecDepth 100000 in
theorem f_188_1461 : xft 188 1461 = some (.iconst 1) := by decide +kernel
set_option maxRecDepth 100000 in
theorem f_188_1462 : xft 188 1462 = some (.iadd) := by decide +kernel
set_option maxRecDepth 100000 in
theorem f_188_1463 : xft 188 1463 = some (.iaload) := by decide +kernel
set_option maxRecDepth 100000 in
theorem f_188_1464 : xft 188 1464 = some (.aload_n 0) := by decide +kernel
set_option maxRecDepth 100000 in
theorem f_188_1465 : xft 188 1465 = some (.iload 4) := by decide +kernel
set_option maxRecDepth 100000 in
theorem f_188_1467 : xft 188 1467 = some (.iconst 2) := by decide +kernel
set_option maxRecDepth 100000 in
theorem f_188_1468 : xft 188 1468 = some (.iadd) := by decide +kernel
set_option maxRecDepth 100000 in
theorem f_188_1469 : xft 188 1469 = some (.iaload) := by decide +kernel
set_option maxRecDepth 100000 in
theorem f_188_1470 : xft 188 1470 = some (.aload_n 0) := by decide +kernel
set_option maxRecDepth 100000 in
theorem f_188_1471 : xft 188 1471 = some (.iload 4) := by decide +kernel
set_option maxRecDepth 100000 in
theorem f_188_1473 : xft 188 1473 = some (.iconst 3) := by decide +kernel
set_option maxRecDepth 100000 in
theorem f_188_1474 : xft 188 1474 = some (.iadd) := by decide +kernel
set_option maxRecDepth 100000 in
theorem f_188_1475 : xft 188 1475 = some (.iaload) := by decide +kernel
set_option maxRecDepth 100000 in
theorem f_188_1476 : xft 188 1476 = some (.aload_n 3) := by decide +kernel
set_option maxRecDepth 100000 in
theorem f_188_1477 : xft 188 1477 = some (.invokestatic 171) := by decide +kernel
set_option maxRecDepth 100000 in
theorem f_188_1480 : xft 188 1480 = some (.istore 5) := by decide +kernel
set_option maxRecDepth 100000 in
theorem f_188_1482 : xft 188 1482 = some (.aload_n 2) := by decide +kernel
set_option maxRecDepth 100000 in
theorem f_188_1483 : xft 188 1483 = some (.aload_n 0) := by decide +kernel
set_option maxRecDepth 100000 in
theorem f_188_1484 : xft 188 1484 = some (.iload 4) := by decide +kernel
set_option maxRecDepth 100000 in
theorem f_188_1486 : xft 188 1486 = some (.iconst 1) := by decide +kernel
set_option maxRecDepth 100000 in
theorem f_188_1487 : xft 188 1487 = some (.iadd) := by decide +kernel
set_option maxRecDepth 100000 in
theorem f_188_1488 : xft 188 1488 = some (.iaload) := by decide +kernel
set_option maxRecDepth 100000 in
theorem f_188_1489 : xft 188 1489 = some (.aload_n 0) := by decide +kernel
set_option maxRecDepth 100000 in
theorem f_188_1490 : xft 188 1490 = some (.iload 4) := by decide +kernel
set_option maxRecDepth 100000 in
theorem f_188_1492 : xft 188 1492 = some (.iconst 2) := by decide +kernel
set_option maxRecDepth 100000 in
theorem f_188_1493 : xft 188 1493 = some (.iadd) := by decide +kernel
set_option maxRecDepth 100000 in
theorem f_188_1494 : xft 188 1494 = some (.iaload) := by decide +kernel
set_option maxRecDepth 100000 in
theorem f_188_1495 : xft 188 1495 = some (.aload_n 0) := by decide +kernel
set_option maxRecDepth 100000 in
theorem f_188_1496 : xft 188 1496 = some (.iload 4) := by decide +kernel
set_option maxRecDepth 100000 in
theorem f_188_1498 : xft 188 1498 = some (.iconst 3) := by decide +kernel
set_option maxRecDepth 100000 in
theorem f_188_1499 : xft 188 1499 = some (.iadd) := by decide +kernel
set_option maxRecDepth 100000 in
theorem f_188_1500 : xft 188 1500 = some (.iaload) := by decide +kernel
set_option maxRecDepth 100000 in
theorem f_188_1501 : xft 188 1501 = some (.invokevirtual 173) := by decide +kernel
set_option maxRecDepth 100000 in
theorem f_188_1504 : xft 188 1504 = some (.istore 6) := by decide +kernel
set_option maxRecDepth 100000 in
theorem f_188_1506 : xft 188 1506 = some (.aload_n 2) := by decide +kernel
set_option maxRecDepth 100000 in
theorem f_188_1507 : xft 188 1507 = some (.invokevirtual 117) := by decide +kernel
set_option maxRecDepth 100000 in
theorem f_188_1510 : xft 188 1510 = some (.iload 5) := by decide +kernel
set_option maxRecDepth 100000 in
theorem f_188_1512 : xft 188 1512 = some (.if_icmp .eq 5) := by decide +kernel
set_option maxRecDepth 100000 in
theorem f_188_1515 : xft 188 1515 = some (.iconst 0) := by decide +kernel
set_option maxRecDepth 100000 in
theorem f_188_1516 : xft 188 1516 = some (.ireturn) := by decide +kernel
set_option maxRecDepth 100000 in
theorem f_188_1517 : xft 188 1517 = some (.iload 5) := by decide +kernel
set_option maxRecDepth 100000 in
theorem f_188_1519 : xft 188 1519 = some (.ifCond .ne 15) := by decide +kernel
set_option maxRecDepth 100000 in
theorem f_188_1522 : xft 188 1522 = some (.aload_n 3) := by decide +kernel
set_option maxRecDepth 100000 in
theorem f_188_1523 : xft 188 1523 = some (.iconst 0) := by decide +kernel
set_option maxRecDepth 100000 in
theorem f_188_1524 : xft 188 1524 = some (.laload) := by decide +kernel
set_option maxRecDepth 100000 in
theorem f_188_1525 : xft 188 1525 = some (.iload 6) := by decide +kernel
set_option maxRecDepth 100000 in
theorem f_188_1527 : xft 188 1527 = some (.i2l) := by decide +kernel
set_option maxRecDepth 100000 in
theorem f_188_1528 : xft 188 1528 = some (.lcmp) := by decide +kernel
set_option maxRecDepth 100000 in
theorem f_188_1529 : xft 188 1529 = some (.ifCond .eq 5) := by decide +kernel
set_option maxRecDepth 100000 in
theorem f_188_1532 : xft 188 1532 = some (.iconst 0) := by decide +kernel
set_option maxRecDepth 100000 in
theorem f_188_1533 : xft 188 1533 = some (.ireturn) := by decide +kernel
set_option maxRecDepth 100000 in
theorem f_188_1534 : xft 188 1534 = some (.goto 934) := by decide +kernel
set_option maxRecDepth 100000 in
theorem f_188_1537 : xft 188 1537 = some (.aload_n 1) := by decide +kernel
set_option maxRecDepth 100000 in
theorem f_188_1538 : xft 188 1538 = some (.aload_n 0) := by decide +kernel
set_option maxRecDepth 100000 in
theorem f_188_1539 : xft 188 1539 = some (.iload 4) := by decide +kernel
set_option maxRecDepth 100000 in
theorem f_188_1541 : xft 188 1541 = some (.iconst 1) := by decide +kernel
set_option maxRecDepth 100000 in
theorem f_188_1542 : xft 188 1542 = some (.iadd) := by decide +kernel
set_option maxRecDepth 100000 in
theorem f_188_1543 : xft 188 1543 = some (.iaload) := by decide +kernel
set_option maxRecDepth 100000 in
theorem f_188_1544 : xft 188 1544 = some (.aload_n 0) := by decide +kernel
set_option maxRecDepth 100000 in
theorem f_188_1545 : xft 188 1545 = some (.iload 4) := by decide +kernel
set_option maxRecDepth 100000 in
theorem f_188_1547 : xft 188 1547 = some (.iconst 2) := by decide +kernel
set_option maxRecDepth 100000 in
theorem f_188_1548 : xft 188 1548 = some (.iadd) := by decide +kernel
set_option maxRecDepth 100000 in
theorem f_188_1549 : xft 188 1549 = some (.iaload) := by decide +kernel
set_option maxRecDepth 100000 in
theorem f_188_1550 : xft 188 1550 = some (.aload_n 0) := by decide +kernel
set_option maxRecDepth 100000 in
theorem f_188_1551 : xft 188 1551 = some (.iload 4) := by decide +kernel
set_option maxRecDepth 100000 in
theorem f_188_1553 : xft 188 1553 = some (.iconst 3) := by decide +kernel
set_option maxRecDepth 100000 in
theorem f_188_1554 : xft 188 1554 = some (.iadd) := by decide +kernel
set_option maxRecDepth 100000 in
theorem f_188_1555 : xft 188 1555 = some (.iaload) := by decide +kernel
set_option maxRecDepth 100000 in
theorem f_188_1556 : xft 188 1556 = some (.aload_n 3) := by decide +kernel
set_option maxRecDepth 100000 in
theorem f_188_1557 : xft 188 1557 = some (.invokestatic 174) := by decide +kernel
set_option maxRecDepth 100000 in
theorem f_188_1560 : xft 188 1560 = some (.istore 5) := by decide +kernel
set_option maxRecDepth 100000 in
theorem f_188_1562 : xft 188 1562 = some (.aload_n 2) := by decide +kernel
set_option maxRecDepth 100000 in
theorem f_188_1563 : xft 188 1563 = some (.aload_n 0) := by decide +kernel
set_option maxRecDepth 100000 in
theorem f_188_1564 : xft 188 1564 = some (.iload 4) := by decide +kernel
set_option maxRecDepth 100000 in
theorem f_188_1566 : xft 188 1566 = some (.iconst 1) := by decide +kernel
set_option maxRecDepth 100000 in
theorem f_188_1567 : xft 188 1567 = some (.iadd) := by decide +kernel
set_option maxRecDepth 100000 in
theorem f_188_1568 : xft 188 1568 = some (.iaload) := by decide +kernel
set_option maxRecDepth 100000 in
theorem f_188_1569 : xft 188 1569 = some (.aload_n 0) := by decide +kernel
set_option maxRecDepth 100000 in
theorem f_188_1570 : xft 188 1570 = some (.iload 4) := by decide +kernel
set_option maxRecDepth 100000 in
theorem f_188_1572 : xft 188 1572 = some (.iconst 2) := by decide +kernel
set_option maxRecDepth 100000 in
theorem f_188_1573 : xft 188 1573 = some (.iadd) := by decide +kernel
set_option maxRecDepth 100000 in
theorem f_188_1574 : xft 188 1574 = some (.iaload) := by decide +kernel
set_option maxRecDepth 100000 in
theorem f_188_1575 : xft 188 1575 = some (.aload_n 0) := by decide +kernel
set_option maxRecDepth 100000 in
theorem f_188_1576 : xft 188 1576 = some (.iload 4) := by decide +kernel
set_option maxRecDepth 100000 in
theorem f_188_1578 : xft 188 1578 = some (.iconst 3) := by decide +kernel
set_option maxRecDepth 100000 in
theorem f_188_1579 : xft 188 1579 = some (.iadd) := by decide +kernel
set_option maxRecDepth 100000 in
theorem f_188_1580 : xft 188 1580 = some (.iaload) := by decide +kernel
set_option maxRecDepth 100000 in
theorem f_188_1581 : xft 188 1581 = some (.invokevirtual 176) := by decide +kernel
set_option maxRecDepth 100000 in
theorem f_188_1584 : xft 188 1584 = some (.istore 6) := by decide +kernel
set_option maxRecDepth 100000 in
theorem f_188_1586 : xft 188 1586 = some (.aload_n 2) := by decide +kernel
set_option maxRecDepth 100000 in
theorem f_188_1587 : xft 188 1587 = some (.invokevirtual 117) := by decide +kernel
set_option maxRecDepth 100000 in
theorem f_188_1590 : xft 188 1590 = some (.iload 5) := by decide +kernel
set_option maxRecDepth 100000 in
theorem f_188_1592 : xft 188 1592 = some (.if_icmp .eq 5) := by decide +kernel
set_option maxRecDepth 100000 in
theorem f_188_1595 : xft 188 1595 = some (.iconst 0) := by decide +kernel
set_option maxRecDepth 100000 in
theorem f_188_1596 : xft 188 1596 = some (.ireturn) := by decide +kernel
set_option maxRecDepth 100000 in
theorem f_188_1597 : xft 188 1597 = some (.iload 5) := by decide +kernel
set_option maxRecDepth 100000 in
theorem f_188_1599 : xft 188 1599 = some (.ifCond .ne 15) := by decide +kernel
set_option maxRecDepth 100000 in
theorem f_188_1602 : xft 188 1602 = some (.aload_n 3) := by decide +kernel
set_option maxRecDepth 100000 in
theorem f_188_1603 : xft 188 1603 = some (.iconst 0) := by decide +kernel
set_option maxRecDepth 100000 in
theorem f_188_1604 : xft 188 1604 = some (.laload) := by decide +kernel
set_option maxRecDepth 100000 in
theorem f_188_1605 : xft 188 1605 = some (.iload 6) := by decide +kernel
set_option maxRecDepth 100000 in
theorem f_188_1607 : xft 188 1607 = some (.i2l) := by decide +kernel
set_option maxRecDepth 100000 in
theorem f_188_1608 : xft 188 1608 = some (.lcmp) := by decide +kernel
set_option maxRecDepth 100000 in
theorem f_188_1609 : xft 188 1609 = some (.ifCond .eq 5) := by decide +kernel
set_option maxRecDepth 100000 in
theorem f_188_1612 : xft 188 1612 = some (.iconst 0) := by decide +kernel
set_option maxRecDepth 100000 in
theorem f_188_1613 : xft 188 1613 = some (.ireturn) := by decide +kernel
set_option maxRecDepth 100000 in
theorem f_188_1614 : xft 188 1614 = some (.goto 854) := by decide +kernel
set_option maxRecDepth 100000 in
theorem f_188_1617 : xft 188 1617 = some (.aload_n 1) := by decide +kernel
set_option maxRecDepth 100000 in
theorem f_188_1618 : xft 188 1618 = some (.aload_n 0) := by decide +kernel
set_option maxRecDepth 100000 in
theorem f_188_1619 : xft 188 1619 = some (.iload 4) := by decide +kernel
set_option maxRecDepth 100000 in
theorem f_188_1621 : xft 188 1621 = some (.iconst 1) := by decide +kernel
set_option maxRecDepth 100000 in
theorem f_188_1622 : xft 188 1622 = some (.iadd) := by decide +kernel
set_option maxRecDepth 100000 in
theorem f_188_1623 : xft 188 1623 = some (.iaload) := by decide +kernel
set_option maxRecDepth 100000 in
theorem f_188_1624 : xft 188 1624 = some (.aload_n 0) := by decide +kernel
set_option maxRecDepth 100000 in
theorem f_188_1625 : xft 188 1625 = some (.iload 4) := by decide +kernel
set_option maxRecDepth 100000 in
theorem f_188_1627 : xft 188 1627 = some (.iconst 2) := by decide +kernel
set_option maxRecDepth 100000 in
theorem f_188_1628 : xft 188 1628 = some (.iadd) := by decide +kernel
set_option maxRecDepth 100000 in
theorem f_188_1629 : xft 188 1629 = some (.iaload) := by decide +kernel
set_option maxRecDepth 100000 in
theorem f_188_1630 : xft 188 1630 = some (.aload_n 0) := by decide +kernel
set_option maxRecDepth 100000 in
theorem f_188_1631 : xft 188 1631 = some (.iload 4) := by decide +kernel
set_option maxRecDepth 100000 in
theorem f_188_1633 : xft 188 1633 = some (.iconst 3) := by decide +kernel
set_option maxRecDepth 100000 in
theorem f_188_1634 : xft 188 1634 = some (.iadd) := by decide +kernel
set_option maxRecDepth 100000 in
theorem f_188_1635 : xft 188 1635 = some (.iaload) := by decide +kernel
set_option maxRecDepth 100000 in
theorem f_188_1636 : xft 188 1636 = some (.aload_n 3) := by decide +kernel
set_option maxRecDepth 100000 in
theorem f_188_1637 : xft 188 1637 = some (.invokestatic 177) := by decide +kernel
set_option maxRecDepth 100000 in
theorem f_188_1640 : xft 188 1640 = some (.istore 5) := by decide +kernel
set_option maxRecDepth 100000 in
theorem f_188_1642 : xft 188 1642 = some (.aload_n 2) := by decide +kernel
set_option maxRecDepth 100000 in
theorem f_188_1643 : xft 188 1643 = some (.aload_n 0) := by decide +kernel
set_option maxRecDepth 100000 in
theorem f_188_1644 : xft 188 1644 = some (.iload 4) := by decide +kernel
set_option maxRecDepth 100000 in
theorem f_188_1646 : xft 188 1646 = some (.iconst 1) := by decide +kernel
set_option maxRecDepth 100000 in
theorem f_188_1647 : xft 188 1647 = some (.iadd) := by decide +kernel
set_option maxRecDepth 100000 in
theorem f_188_1648 : xft 188 1648 = some (.iaload) := by decide +kernel
set_option maxRecDepth 100000 in
theorem f_188_1649 : xft 188 1649 = some (.aload_n 0) := by decide +kernel
set_option maxRecDepth 100000 in
theorem f_188_1650 : xft 188 1650 = some (.iload 4) := by decide +kernel
set_option maxRecDepth 100000 in
theorem f_188_1652 : xft 188 1652 = some (.iconst 2) := by decide +kernel
set_option maxRecDepth 100000 in
theorem f_188_1653 : xft 188 1653 = some (.iadd) := by decide +kernel
set_option maxRecDepth 100000 in
theorem f_188_1654 : xft 188 1654 = some (.iaload) := by decide +kernel
set_option maxRecDepth 100000 in
theorem f_188_1655 : xft 188 1655 = some (.aload_n 0) := by decide +kernel
set_option maxRecDepth 100000 in
theorem f_188_1656 : xft 188 1656 = some (.iload 4) := by decide +kernel
set_option maxRecDepth 100000 in
theorem f_188_1658 : xft 188 1658 = some (.iconst 3) := by decide +kernel
set_option maxRecDepth 100000 in
theorem f_188_1659 : xft 188 1659 = some (.iadd) := by decide +kernel
set_option maxRecDepth 100000 in
theorem f_188_1660 : xft 188 1660 = some (.iaload) := by decide +kernel
set_option maxRecDepth 100000 in
theorem f_188_1661 : xft 188 1661 = some (.invokevirtual 179) := by decide +kernel
set_option maxRecDepth 100000 in
theorem f_188_1664 : xft 188 1664 = some (.istore 6) := by decide +kernel
set_option maxRecDepth 100000 in
theorem f_188_1666 : xft 188 1666 = some (.aload_n 2) := by decide +kernel
set_option maxRecDepth 100000 in
theorem f_188_1667 : xft 188 1667 = some (.invokevirtual 117) := by decide +kernel
set_option maxRecDepth 100000 in
theorem f_188_1670 : xft 188 1670 = some (.iload 5) := by decide +kernel
set_option maxRecDepth 100000 in
theorem f_188_1672 : xft 188 1672 = some (.if_icmp .eq 5) := by decide +kernel
set_option maxRecDepth 100000 in
theorem f_188_1675 : xft 188 1675 = some (.iconst 0) := by decide +kernel
set_option maxRecDepth 100000 in
theorem f_188_1676 : xft 188 1676 = some (.ireturn) := by decide +kernel
set_option maxRecDepth 100000 in
theorem f_188_1677 : xft 188 1677 = some (.iload 5) := by decide +kernel
set_option maxRecDepth 100000 in
theorem f_188_1679 : xft 188 1679 = some (.ifCond .ne 15) := by decide +kernel
set_option maxRecDepth 100000 in
theorem f_188_1682 : xft 188 1682 = some (.aload_n 3) := by decide +kernel
set_option maxRecDepth 100000 in
theorem f_188_1683 : xft 188 1683 = some (.iconst 0) := by decide +kernel
set_option maxRecDepth 100000 in
theorem f_188_1684 : xft 188 1684 = some (.laload) := by decide +kernel
set_option maxRecDepth 100000 in
theorem f_188_1685 : xft 188 1685 = some (.iload 6) := by decide +kernel
set_option maxRecDepth 100000 in
theorem f_188_1687 : xft 188 1687 = some (.i2l) := by decide +kernel
set_option maxRecDepth 100000 in
theorem f_188_1688 : xft 188 1688 = some (.lcmp) := by decide +kernel
set_option maxRecDepth 100000 in
theorem f_188_1689 : xft 188 1689 = some (.ifCond .eq 5) := by decide +kernel
set_option maxRecDepth 100000 in
theorem f_188_1692 : xft 188 1692 = some (.iconst 0) := by decide +kernel
set_option maxRecDepth 100000 in
theorem f_188_1693 : xft 188 1693 = some (.ireturn) := by decide +kernel
set_option maxRecDepth 100000 in
theorem f_188_1694 : xft 188 1694 = some (.goto 774) := by decide +kernel
set_option maxRecDepth 100000 in
theorem f_188_1697 : xft 188 1697 = some (.aload_n 1) := by decide +kernel
set_option maxRecDepth 100000 in
theorem f_188_1698 : xft 188 1698 = some (.aload_n 0) := by decide +kernel
set_option maxRecDepth 100000 in
theorem f_188_1699 : xft 188 1699 = some (.iload 4) := by decide +kernel
set_option maxRecDepth 100000 in
theorem f_188_1701 : xft 188 1701 = some (.iconst 1) := by decide +kernel
set_option maxRecDepth 100000 in
theorem f_188_1702 : xft 188 1702 = some (.iadd) := by decide +kernel
set_option maxRecDepth 100000 in
theorem f_188_1703 : xft 188 1703 = some (.iaload) := by decide +kernel
set_option maxRecDepth 100000 in
theorem f_188_1704 : xft 188 1704 = some (.aload_n 0) := by decide +kernel
set_option maxRecDepth 100000 in
theorem f_188_1705 : xft 188 1705 = some (.iload 4) := by decide +kernel
set_option maxRecDepth 100000 in
theorem f_188_1707 : xft 188 1707 = some (.iconst 2) := by decide +kernel
set_option maxRecDepth 100000 in
theorem f_188_1708 : xft 188 1708 = some (.iadd) := by decide +kernel
set_option maxRecDepth 100000 in
theorem f_188_1709 : xft 188 1709 = some (.iaload) := by decide +kernel
set_option maxRecDepth 100000 in
theorem f_188_1710 : xft 188 1710 = some (.aload_n 0) := by decide +kernel
set_option maxRecDepth 100000 in
theorem f_188_1711 : xft 188 1711 = some (.iload 4) := by decide +kernel
set_option maxRecDepth 100000 in
theorem f_188_1713 : xft 188 1713 = some (.iconst 3) := by decide +kernel
set_option maxRecDepth 100000 in
theorem f_188_1714 : xft 188 1714 = some (.iadd) := by decide +kernel
set_option maxRecDepth 100000 in
theorem f_188_1715 : xft 188 1715 = some (.iaload) := by decide +kernel
set_option maxRecDepth 100000 in
theorem f_188_1716 : xft 188 1716 = some (.aload_n 3) := by decide +kernel
set_option maxRecDepth 100000 in
theorem f_188_1717 : xft 188 1717 = some (.invokestatic 180) := by decide +kernel
set_option maxRecDepth 100000 in
theorem f_188_1720 : xft 188 1720 = some (.istore 5) := by decide +kernel
set_option maxRecDepth 100000 in
theorem f_188_1722 : xft 188 1722 = some (.aload_n 2) := by decide +kernel
set_option maxRecDepth 100000 in
theorem f_188_1723 : xft 188 1723 = some (.aload_n 0) := by decide +kernel
set_option maxRecDepth 100000 in
theorem f_188_1724 : xft 188 1724 = some (.iload 4) := by decide +kernel
set_option maxRecDepth 100000 in
theorem f_188_1726 : xft 188 1726 = some (.iconst 1) := by decide +kernel
set_option maxRecDepth 100000 in
theorem f_188_1727 : xft 188 1727 = some (.iadd) := by decide +kernel
set_option maxRecDepth 100000 in
theorem f_188_1728 : xft 188 1728 = some (.iaload) := by decide +kernel
set_option maxRecDepth 100000 in
theorem f_188_1729 : xft 188 1729 = some (.aload_n 0) := by decide +kernel
set_option maxRecDepth 100000 in
theorem f_188_1730 : xft 188 1730 = some (.iload 4) := by decide +kernel
set_option maxRecDepth 100000 in
theorem f_188_1732 : xft 188 1732 = some (.iconst 2) := by decide +kernel
set_option maxRecDepth 100000 in
theorem f_188_1733 : xft 188 1733 = some (.iadd) := by decide +kernel
set_option maxRecDepth 100000 in
theorem f_188_1734 : xft 188 1734 = some (.iaload) := by decide +kernel
set_option maxRecDepth 100000 in
theorem f_188_1735 : xft 188 1735 = some (.aload_n 0) := by decide +kernel
set_option maxRecDepth 100000 in
theorem f_188_1736 : xft 188 1736 = some (.iload 4) := by decide +kernel
set_option maxRecDepth 100000 in
theorem f_188_1738 : xft 188 1738 = some (.iconst 3) := by decide +kernel
set_option maxRecDepth 100000 in
theorem f_188_1739 : xft 188 1739 = some (.iadd) := by decide +kernel
set_option maxRecDepth 100000 in
theorem f_188_1740 : xft 188 1740 = some (.iaload) := by decide +kernel
set_option maxRecDepth 100000 in
theorem f_188_1741 : xft 188 1741 = some (.invokevirtual 182) := by decide +kernel
set_option maxRecDepth 100000 in
theorem f_188_1744 : xft 188 1744 = some (.istore 6) := by decide +kernel
set_option maxRecDepth 100000 in
theorem f_188_1746 : xft 188 1746 = some (.aload_n 2) := by decide +kernel
set_option maxRecDepth 100000 in
theorem f_188_1747 : xft 188 1747 = some (.invokevirtual 117) := by decide +kernel
set_option maxRecDepth 100000 in
theorem f_188_1750 : xft 188 1750 = some (.iload 5) := by decide +kernel
set_option maxRecDepth 100000 in
theorem f_188_1752 : xft 188 1752 = some (.if_icmp .eq 5) := by decide +kernel
set_option maxRecDepth 100000 in
theorem f_188_1755 : xft 188 1755 = some (.iconst 0) := by decide +kernel
set_option maxRecDepth 100000 in
theorem f_188_1756 : xft 188 1756 = some (.ireturn) := by decide +kernel
set_option maxRecDepth 100000 in
theorem f_188_1757 : xft 188 1757 = some (.iload 5) := by decide +kernel
set_option maxRecDepth 100000 in
theorem f_188_1759 : xft 188 1759 = some (.ifCond .ne 15) := by decide +kernel
set_option maxRecDepth 100000 in
theorem f_188_1762 : xft 188 1762 = some (.aload_n 3) := by decide +kernel
set_option maxRecDepth 100000 in
theorem f_188_1763 : xft 188 1763 = some (.iconst 0) := by decide +kernel
set_option maxRecDepth 100000 in
theorem f_188_1764 : xft 188 1764 = some (.laload) := by decide +kernel
set_option maxRecDepth 100000 in
theorem f_188_1765 : xft 188 1765 = some (.iload 6) := by decide +kernel
set_option maxRecDepth 100000 in
theorem f_188_1767 : xft 188 1767 = some (.i2l) := by decide +kernel
set_option maxRecDepth 100000 in
theorem f_188_1768 : xft 188 1768 = some (.lcmp) := by decide +kernel
set_option maxRecDepth 100000 in
theorem f_188_1769 : xft 188 1769 = some (.ifCond .eq 5) := by decide +kernel
set_option maxRecDepth 100000 in
theorem f_188_1772 : xft 188 1772 = some (.iconst 0) := by decide +kernel
set_option maxRecDepth 100000 in
theorem f_188_1773 : xft 188 1773 = some (.ireturn) := by decide +kernel
set_option maxRecDepth 100000 in
theorem f_188_1774 : xft 188 1774 = some (.goto 694) := by decide +kernel
set_option maxRecDepth 100000 in
theorem f_188_1777 : xft 188 1777 = some (.aload_n 1) := by decide +kernel
set_option maxRecDepth 100000 in
theorem f_188_1778 : xft 188 1778 = some (.aload_n 0) := by decide +kernel
set_option maxRecDepth 100000 in
theorem f_188_1779 : xft 188 1779 = some (.iload 4) := by decide +kernel
set_option maxRecDepth 100000 in
theorem f_188_1781 : xft 188 1781 = some (.iconst 1) := by decide +kernel
set_option maxRecDepth 100000 in
theorem f_188_1782 : xft 188 1782 = some (.iadd) := by decide +kernel
set_option maxRecDepth 100000 in
theorem f_188_1783 : xft 188 1783 = some (.iaload) := by decide +kernel
set_option maxRecDepth 100000 in
theorem f_188_1784 : xft 188 1784 = some (.aload_n 0) := by decide +kernel
set_option maxRecDepth 100000 in
theorem f_188_1785 : xft 188 1785 = some (.iload 4) := by decide +kernel
set_option maxRecDepth 100000 in
theorem f_188_1787 : xft 188 1787 = some (.iconst 2) := by decide +kernel
set_option maxRecDepth 100000 in
theorem f_188_1788 : xft 188 1788 = some (.iadd) := by decide +kernel
set_option maxRecDepth 100000 in
theorem f_188_1789 : xft 188 1789 = some (.iaload) := by decide +kernel
set_option maxRecDepth 100000 in
theorem f_188_1790 : xft 188 1790 = some (.aload_n 0) := by decide +kernel
set_option maxRecDepth 100000 in
theorem f_188_1791 : xft 188 1791 = some (.iload 4) := by decide +kernel
set_option maxRecDepth 100000 in
theorem f_188_1793 : xft 188 1793 = some (.iconst 3) := by decide +kernel
set_option maxRecDepth 100000 in
theorem f_188_1794 : xft 188 1794 = some (.iadd) := by decide +kernel
set_option maxRecDepth 100000 in
theorem f_188_1795 : xft 188 1795 = some (.iaload) := by decide +kernel
set_option maxRecDepth 100000 in
theorem f_188_1796 : xft 188 1796 = some (.aload_n 3) := by decide +kernel
set_option maxRecDepth 100000 in
theorem f_188_1797 : xft 188 1797 = some (.invokestatic 183) := by decide +kernel
set_option maxRecDepth 100000 in
theorem f_188_1800 : xft 188 1800 = some (.istore 5) := by decide +kernel
set_option maxRecDepth 100000 in
theorem f_188_1802 : xft 188 1802 = some (.aload_n 2) := by decide +kernel
set_option maxRecDepth 100000 in
theorem f_188_1803 : xft 188 1803 = some (.aload_n 0) := by decide +kernel
set_option maxRecDepth 100000 in
theorem f_188_1804 : xft 188 1804 = some (.iload 4) := by decide +kernel
set_option maxRecDepth 100000 in
theorem f_188_1806 : xft 188 1806 = some (.iconst 1) := by decide +kernel
set_option maxRecDepth 100000 in
theorem f_188_1807 : xft 188 1807 = some (.iadd) := by decide +kernel
set_option maxRecDepth 100000 in
theorem f_188_1808 : xft 188 1808 = some (.iaload) := by decide +kernel
set_option maxRecDepth 100000 in
theorem f_188_1809 : xft 188 1809 = some (.aload_n 0) := by decide +kernel
set_option maxRecDepth 100000 in
theorem f_188_1810 : xft 188 1810 = some (.iload 4) := by decide +kernel
set_option maxRecDepth 100000 in
theorem f_188_1812 : xft 188 1812 = some (.iconst 2) := by decide +kernel
set_option maxRecDepth 100000 in
theorem f_188_1813 : xft 188 1813 = some (.iadd) := by decide +kernel
set_option maxRecDepth 100000 in
theorem f_188_1814 : xft 188 1814 = some (.iaload) := by decide +kernel
set_option maxRecDepth 100000 in
theorem f_188_1815 : xft 188 1815 = some (.aload_n 0) := by decide +kernel
set_option maxRecDepth 100000 in
theorem f_188_1816 : xft 188 1816 = some (.iload 4) := by decide +kernel
set_option maxRecDepth 100000 in
theorem f_188_1818 : xft 188 1818 = some (.iconst 3) := by decide +kernel
set_option maxRecDepth 100000 in
theorem f_188_1819 : xft 188 1819 = some (.iadd) := by decide +kernel
set_option maxRecDepth 100000 in
theorem f_188_1820 : xft 188 1820 = some (.iaload) := by decide +kernel
set_option maxRecDepth 100000 in
theorem f_188_1821 : xft 188 1821 = some (.invokevirtual 185) := by decide +kernel
set_option maxRecDepth 100000 in
theorem f_188_1824 : xft 188 1824 = some (.istore 6) := by decide +kernel
set_option maxRecDepth 100000 in
theorem f_188_1826 : xft 188 1826 = some (.aload_n 2) := by decide +kernel
set_option maxRecDepth 100000 in
theorem f_188_1827 : xft 188 1827 = some (.invokevirtual 117) := by decide +kernel
set_option maxRecDepth 100000 in
theorem f_188_1830 : xft 188 1830 = some (.iload 5) := by decide +kernel
set_option maxRecDepth 100000 in
theorem f_188_1832 : xft 188 1832 = some (.if_icmp .eq 5) := by decide +kernel
set_option maxRecDepth 100000 in
theorem f_188_1835 : xft 188 1835 = some (.iconst 0) := by decide +kernel
set_option maxRecDepth 100000 in
theorem f_188_1836 : xft 188 1836 = some (.ireturn) := by decide +kernel
set_option maxRecDepth 100000 in
theorem f_188_1837 : xft 188 1837 = some (.iload 5) := by decide +kernel
set_option maxRecDepth 100000 in
theorem f_188_1839 : xft 188 1839 = some (.ifCond .ne 15) := by decide +kernel
set_option maxRecDepth 100000 in
theorem f_188_1842 : xft 188 1842 = some (.aload_n 3) := by decide +kernel
set_option maxRecDepth 100000 in
theorem f_188_1843 : xft 188 1843 = some (.iconst 0) := by decide +kernel
set_option maxRecDepth 100000 in
theorem f_188_1844 : xft 188 1844 = some (.laload) := by decide +kernel
set_option maxRecDepth 100000 in
theorem f_188_1845 : xft 188 1845 = some (.iload 6) := by decide +kernel
set_option maxRecDepth 100000 in
theorem f_188_1847 : xft 188 1847 = some (.i2l) := by decide +kernel
set_option maxRecDepth 100000 in
theorem f_188_1848 : xft 188 1848 = some (.lcmp) := by decide +kernel
set_option maxRecDepth 100000 in
theorem f_188_1849 : xft 188 1849 = some (.ifCond .eq 5) := by decide +kernel
set_option maxRecDepth 100000 in
theorem f_188_1852 : xft 188 1852 = some (.iconst 0) := by decide +kernel
set_option maxRecDepth 100000 in
theorem f_188_1853 : xft 188 1853 = some (.ireturn) := by decide +kernel
set_option maxRecDepth 100000 in
theorem f_188_1854 : xft 188 1854 = some (.goto 614) := by decide +kernel
set_option maxRecDepth 100000 in
theorem f_188_1857 : xft 188 1857 = some (.aload_n 1) := by decide +kernel
set_option maxRecDepth 100000 in
theorem f_188_1858 : xft 188 1858 = some (.aload_n 0) := by decide +kernel
set_option maxRecDepth 100000 in
theorem f_188_1859 : xft 188 1859 = some (.iload 4) := by decide +kernel
set_option maxRecDepth 100000 in
theorem f_188_1861 : xft 188 1861 = some (.iconst 1) := by decide +kernel
set_option maxRecDepth 100000 in
theorem f_188_1862 : xft 188 1862 = some (.iadd) := by decide +kernel
set_option maxRecDepth 100000 in
theorem f_188_1863 : xft 188 1863 = some (.iaload) := by decide +kernel
set_option maxRecDepth 100000 in
theorem f_188_1864 : xft 188 1864 = some (.aload_n 0) := by decide +kernel
set_option maxRecDepth 100000 in
theorem f_188_1865 : xft 188 1865 = some (.iload 4) := by decide +kernel
set_option maxRecDepth 100000 in
theorem f_188_1867 : xft 188 1867 = some (.iconst 2) := by decide +kernel
set_option maxRecDepth 100000 in
theorem f_188_1868 : xft 188 1868 = some (.iadd) := by decide +kernel
set_option maxRecDepth 100000 in
theorem f_188_1869 : xft 188 1869 = some (.iaload) := by decide +kernel
set_option maxRecDepth 100000 in
theorem f_188_1870 : xft 188 1870 = some (.aload_n 0) := by decide +kernel
set_option maxRecDepth 100000 in
theorem f_188_1871 : xft 188 1871 = some (.iload 4) := by decide +kernel
set_option maxRecDepth 100000 in
theorem f_188_1873 : xft 188 1873 = some (.iconst 3) := by decide +kernel
set_option maxRecDepth 100000 in
theorem f_188_1874 : xft 188 1874 = some (.iadd) := by decide +kernel
set_option maxRecDepth 100000 in
theorem f_188_1875 : xft 188 1875 = some (.iaload) := by decide +kernel
set_option maxRecDepth 100000 in
theorem f_188_1876 : xft 188 1876 = some (.aload_n 0) := by decide +kernel
set_option maxRecDepth 100000 in
theorem f_188_1877 : xft 188 1877 = some (.iload 4) := by decide +kernel
set_option maxRecDepth 100000 in
theorem f_188_1879 : xft 188 1879 = some (.iconst 4) := by decide +kernel
set_option maxRecDepth 100000 in
theorem f_188_1880 : xft 188 1880 = some (.iadd) := by decide +kernel
set_option maxRecDepth 100000 in
theorem f_188_1881 : xft 188 1881 = some (.iaload) := by decide +kernel
set_option maxRecDepth 100000 in
theorem f_188_1882 : xft 188 1882 = some (.aload_n 3) := by decide +kernel
set_option maxRecDepth 100000 in
theorem f_188_1883 : xft 188 1883 = some (.invokestatic 186) := by decide +kernel
set_option maxRecDepth 100000 in
theorem f_188_1886 : xft 188 1886 = some (.istore 5) := by decide +kernel
set_option maxRecDepth 100000 in
theorem f_188_1888 : xft 188 1888 = some (.aload_n 2) := by decide +kernel
set_option maxRecDepth 100000 in
theorem f_188_1889 : xft 188 1889 = some (.aload_n 0) := by decide +kernel
set_option maxRecDepth 100000 in
theorem f_188_1890 : xft 188 1890 = some (.iload 4) := by decide +kernel
set_option maxRecDepth 100000 in
theorem f_188_1892 : xft 188 1892 = some (.iconst 1) := by decide +kernel
set_option maxRecDepth 100000 in
theorem f_188_1893 : xft 188 1893 = some (.iadd) := by decide +kernel
set_option maxRecDepth 100000 in
theorem f_188_1894 : xft 188 1894 = some (.iaload) := by decide +kernel
set_option maxRecDepth 100000 in
theorem f_188_1895 : xft 188 1895 = some (.aload_n 0) := by decide +kernel
set_option maxRecDepth 100000 in
theorem f_188_1896 : xft 188 1896 = some (.iload 4) := by decide +kernel
set_option maxRecDepth 100000 in
theorem f_188_1898 : xft 188 1898 = some (.iconst 2) := by decide +kernel
set_option maxRecDepth 100000 in
theorem f_188_1899 : xft 188 1899 = some (.iadd) := by decide +kernel
set_option maxRecDepth 100000 in
theorem f_188_1900 : xft 188 1900 = some (.iaload) := by decide +kernel
set_option maxRecDepth 100000 in
theorem f_188_1901 : xft 188 1901 = some (.aload_n 0) := by decide +kernel
set_option maxRecDepth 100000 in
theorem f_188_1902 : xft 188 1902 = some (.iload 4) := by decide +kernel
set_option maxRecDepth 100000 in
theorem f_188_1904 : xft 188 1904 = some (.iconst 3) := by decide +kernel
set_option maxRecDepth 100000 in
theorem f_188_1905 : xft 188 1905 = some (.iadd) := by decide +kernel
set_option maxRecDepth 100000 in
theorem f_188_1906 : xft 188 1906 = some (.iaload) := by decide +kernel
set_option maxRecDepth 100000 in
theorem f_188_1907 : xft 188 1907 = some (.aload_n 0) := by decide +kernel
set_option maxRecDepth 100000 in
theorem f_188_1908 : xft 188 1908 = some (.iload 4) := by decide +kernel
set_option maxRecDepth 100000 in
theorem f_188_1910 : xft 188 1910 = some (.iconst 4) := by decide +kernel
set_option maxRecDepth 100000 in
theorem f_188_1911 : xft 188 1911 = some (.iadd) := by decide +kernel
set_option maxRecDepth 100000 in
theorem f_188_1912 : xft 188 1912 = some (.iaload) := by decide +kernel
set_option maxRecDepth 100000 in
theorem f_188_1913 : xft 188 1913 = some (.invokevirtual 188) := by decide +kernel
set_option maxRecDepth 100000 in
theorem f_188_1916 : xft 188 1916 = some (.istore 6) := by decide +kernel
set_option maxRecDepth 100000 in
theorem f_188_1918 : xft 188 1918 = some (.aload_n 2) := by decide +kernel
set_option maxRecDepth 100000 in
theorem f_188_1919 : xft 188 1919 = some (.invokevirtual 117) := by decide +kernel
set_option maxRecDepth 100000 in
theorem f_188_1922 : xft 188 1922 = some (.iload 5) := by decide +kernel
set_option maxRecDepth 100000 in
theorem f_188_1924 : xft 188 1924 = some (.if_icmp .eq 5) := by decide +kernel
set_option maxRecDepth 100000 in
theorem f_188_1927 : xft 188 1927 = some (.iconst 0) := by decide +kernel
set_option maxRecDepth 100000 in
theorem f_188_1928 : xft 188 1928 = some (.ireturn) := by decide +kernel
set_option maxRecDepth 100000 in
theorem f_188_1929 : xft 188 1929 = some (.iload 5) := by decide +kernel
set_option maxRecDepth 100000 in
theorem f_188_1931 : xft 188 1931 = some (.ifCond .ne 15) := by decide +kernel
set_option maxRecDepth 100000 in
theorem f_188_1934 : xft 188 1934 = some (.aload_n 3) := by decide +kernel
set_option maxRecDepth 100000 in
theorem f_188_1935 : xft 188 1935 = some (.iconst 0) := by decide +kernel
set_option maxRecDepth 100000 in
theorem f_188_1936 : xft 188 1936 = some (.laload) := by decide +kernel
set_option maxRecDepth 100000 in
theorem f_188_1937 : xft 188 1937 = some (.iload 6) := by decide +kernel
set_option maxRecDepth 100000 in
theorem f_188_1939 : xft 188 1939 = some (.i2l) := by decide +kernel
set_option maxRecDepth 100000 in
theorem f_188_1940 : xft 188 1940 = some (.lcmp) := by decide +kernel
set_option maxRecDepth 100000 in
theorem f_188_1941 : xft 188 1941 = some (.ifCond .eq 5) := by decide +kernel
set_option maxRecDepth 100000 in
theorem f_188_1944 : xft 188 1944 = some (.iconst 0) := by decide +kernel
set_option maxRecDepth 100000 in
theorem f_188_1945 : xft 188 1945 = some (.ireturn) := by decide +kernel
set_option maxRecDepth 100000 in
theorem f_188_1946 : xft 188 1946 = some (.goto 522) := by decide +kernel
set_option maxRecDepth 100000 in
theorem f_188_1949 : xft 188 1949 = some (.aload_n 1) := by decide +kernel
set_option maxRecDepth 100000 in
theorem f_188_1950 : xft 188 1950 = some (.aload_n 0) := by decide +kernel
set_option maxRecDepth 100000 in
theorem f_188_1951 : xft 188 1951 = some (.iload 4) := by decide +kernel
set_option maxRecDepth 100000 in
theorem f_188_1953 : xft 188 1953 = some (.iconst 1) := by decide +kernel
set_option maxRecDepth 100000 in
theorem f_188_1954 : xft 188 1954 = some (.iadd) := by decide +kernel
set_option maxRecDepth 100000 in
theorem f_188_1955 : xft 188 1955 = some (.iaload) := by decide +kernel
set_option maxRecDepth 100000 in
theorem f_188_1956 : xft 188 1956 = some (.aload_n 0) := by decide +kernel
set_option maxRecDepth 100000 in
theorem f_188_1957 : xft 188 1957 = some (.iload 4) := by decide +kernel
set_option maxRecDepth 100000 in
theorem f_188_1959 : xft 188 1959 = some (.iconst 2) := by decide +kernel
set_option maxRecDepth 100000 in
theorem f_188_1960 : xft 188 1960 = some (.iadd) := by decide +kernel
set_option maxRecDepth 100000 in
theorem f_188_1961 : xft 188 1961 = some (.iaload) := by decide +kernel
set_option maxRecDepth 100000 in
theorem f_188_1962 : xft 188 1962 = some (.aload_n 0) := by decide +kernel
set_option maxRecDepth 100000 in
theorem f_188_1963 : xft 188 1963 = some (.iload 4) := by decide +kernel
set_option maxRecDepth 100000 in
theorem f_188_1965 : xft 188 1965 = some (.iconst 3) := by decide +kernel
set_option maxRecDepth 100000 in
theorem f_188_1966 : xft 188 1966 = some (.iadd) := by decide +kernel
set_option maxRecDepth 100000 in
theorem f_188_1967 : xft 188 1967 = some (.iaload) := by decide +kernel
set_option maxRecDepth 100000 in
theorem f_188_1968 : xft 188 1968 = some (.aload_n 3) := by decide +kernel
set_option maxRecDepth 100000 in
theorem f_188_1969 : xft 188 1969 = some (.invokestatic 189) := by decide +kernel
set_option maxRecDepth 100000 in
theorem f_188_1972 : xft 188 1972 = some (.istore 5) := by decide +kernel
set_option maxRecDepth 100000 in
theorem f_188_1974 : xft 188 1974 = some (.aload_n 2) := by decide +kernel
set_option maxRecDepth 100000 in
theorem f_188_1975 : xft 188 1975 = some (.aload_n 0) := by decide +kernel
set_option maxRecDepth 100000 in
theorem f_188_1976 : xft 188 1976 = some (.iload 4) := by decide +kernel
set_option maxRecDepth 100000 in
theorem f_188_1978 : xft 188 1978 = some (.iconst 1) := by decide +kernel
set_option maxRecDepth 100000 in
theorem f_188_1979 : xft 188 1979 = some (.iadd) := by decide +kernel
set_option maxRecDepth 100000 in
theorem f_188_1980 : xft 188 1980 = some (.iaload) := by decide +kernel
set_option maxRecDepth 100000 in
theorem f_188_1981 : xft 188 1981 = some (.aload_n 0) := by decide +kernel
set_option maxRecDepth 100000 in
theorem f_188_1982 : xft 188 1982 = some (.iload 4) := by decide +kernel
set_option maxRecDepth 100000 in
theorem f_188_1984 : xft 188 1984 = some (.iconst 2) := by decide +kernel
set_option maxRecDepth 100000 in
theorem f_188_1985 : xft 188 1985 = some (.iadd) := by decide +kernel
set_option maxRecDepth 100000 in
theorem f_188_1986 : xft 188 1986 = some (.iaload) := by decide +kernel
set_option maxRecDepth 100000 in
theorem f_188_1987 : xft 188 1987 = some (.aload_n 0) := by decide +kernel
set_option maxRecDepth 100000 in
theorem f_188_1988 : xft 188 1988 = some (.iload 4) := by decide +kernel
set_option maxRecDepth 100000 in
theorem f_188_1990 : xft 188 1990 = some (.iconst 3) := by decide +kernel
set_option maxRecDepth 100000 in
theorem f_188_1991 : xft 188 1991 = some (.iadd) := by decide +kernel
set_option maxRecDepth 100000 in
theorem f_188_1992 : xft 188 1992 = some (.iaload) := by decide +kernel
set_option maxRecDepth 100000 in
theorem f_188_1993 : xft 188 1993 = some (.invokevirtual 191) := by decide +kernel
set_option maxRecDepth 100000 in
theorem f_188_1996 : xft 188 1996 = some (.istore 6) := by decide +kernel
set_option maxRecDepth 100000 in
theorem f_188_1998 : xft 188 1998 = some (.aload_n 2) := by decide +kernel
set_option maxRecDepth 100000 in
theorem f_188_1999 : xft 188 1999 = some (.invokevirtual 117) := by decide +kernel
set_option maxRecDepth 100000 in
theorem f_188_2002 : xft 188 2002 = some (.iload 5) := by decide +kernel
set_option maxRecDepth 100000 in
theorem f_188_2004 : xft 188 2004 = some (.if_icmp .eq 5) := by decide +kernel
set_option maxRecDepth 100000 in
theorem f_188_2007 : xft 188 2007 = some (.iconst 0) := by decide +kernel
set_option maxRecDepth 100000 in
theorem f_188_2008 : xft 188 2008 = some (.ireturn) := by decide +kernel
set_option maxRecDepth 100000 in
theorem f_188_2009 : xft 188 2009 = some (.iload 5) := by decide +kernel
set_option maxRecDepth 100000 in
theorem f_188_2011 : xft 188 2011 = some (.ifCond .ne 15) := by decide +kernel
set_option maxRecDepth 100000 in
theorem f_188_2014 : xft 188 2014 = some (.aload_n 3) := by decide +kernel
set_option maxRecDepth 100000 in
theorem f_188_2015 : xft 188 2015 = some (.iconst 0) := by decide +kernel
set_option maxRecDepth 100000 in
theorem f_188_2016 : xft 188 2016 = some (.laload) := by decide +kernel
set_option maxRecDepth 100000 in
theorem f_188_2017 : xft 188 2017 = some (.iload 6) := by decide +kernel
set_option maxRecDepth 100000 in
theorem f_188_2019 : xft 188 2019 = some (.i2l) := by decide +kernel
set_option maxRecDepth 100000 in
theorem f_188_2020 : xft 188 2020 = some (.lcmp) := by decide +kernel
set_option maxRecDepth 100000 in
theorem f_188_2021 : xft 188 2021 = some (.ifCond .eq 5) := by decide +kernel
set_option maxRecDepth 100000 in
theorem f_188_2024 : xft 188 2024 = some (.iconst 0) := by decide +kernel
set_option maxRecDepth 100000 in
theorem f_188_2025 : xft 188 2025 = some (.ireturn) := by decide +kernel
set_option maxRecDepth 100000 in
theorem f_188_2026 : xft 188 2026 = some (.goto 442) := by decide +kernel
set_option maxRecDepth 100000 in
theorem f_188_2029 : xft 188 2029 = some (.aload_n 1) := by decide +kernel
set_option maxRecDepth 100000 in
theorem f_188_2030 : xft 188 2030 = some (.aload_n 0) := by decide +kernel
set_option maxRecDepth 100000 in
theorem f_188_2031 : xft 188 2031 = some (.iload 4) := by decide +kernel
set_option maxRecDepth 100000 in
theorem f_188_2033 : xft 188 2033 = some (.iconst 1) := by decide +kernel
set_option maxRecDepth 100000 in
theorem f_188_2034 : xft 188 2034 = some (.iadd) := by decide +kernel
set_option maxRecDepth 100000 in
theorem f_188_2035 : xft 188 2035 = some (.iaload) := by decide +kernel
set_option maxRecDepth 100000 in
theorem f_188_2036 : xft 188 2036 = some (.aload_n 0) := by decide +kernel
set_option maxRecDepth 100000 in
theorem f_188_2037 : xft 188 2037 = some (.iload 4) := by decide +kernel
set_option maxRecDepth 100000 in
theorem f_188_2039 : xft 188 2039 = some (.iconst 2) := by decide +kernel
set_option maxRecDepth 100000 in
theorem f_188_2040 : xft 188 2040 = some (.iadd) := by decide +kernel
set_option maxRecDepth 100000 in
theorem f_188_2041 : xft 188 2041 = some (.iaload) := by decide +kernel
set_option maxRecDepth 100000 in
theorem f_188_2042 : xft 188 2042 = some (.aload_n 0) := by decide +kernel
set_option maxRecDepth 100000 in
theorem f_188_2043 : xft 188 2043 = some (.iload 4) := by decide +kernel
set_option maxRecDepth 100000 in
theorem f_188_2045 : xft 188 2045 = some (.iconst 3) := by decide +kernel
set_option maxRecDepth 100000 in
theorem f_188_2046 : xft 188 2046 = some (.iadd) := by decide +kernel
set_option maxRecDepth 100000 in
theorem f_188_2047 : xft 188 2047 = some (.iaload) := by decide +kernel
set_option maxRecDepth 100000 in
theorem f_188_2048 : xft 188 2048 = some (.aload_n 0) := by decide +kernel
set_option maxRecDepth 100000 in
theorem f_188_2049 : xft 188 2049 = some (.iload 4) := by decide +kernel
set_option maxRecDepth 100000 in
theorem f_188_2051 : xft 188 2051 = some (.iconst 4) := by decide +kernel
set_option maxRecDepth 100000 in
theorem f_188_2052 : xft 188 2052 = some (.iadd) := by decide +kernel
set_option maxRecDepth 100000 in
theorem f_188_2053 : xft 188 2053 = some (.iaload) := by decide +kernel
set_option maxRecDepth 100000 in
theorem f_188_2054 : xft 188 2054 = some (.aload_n 0) := by decide +kernel
set_option maxRecDepth 100000 in
theorem f_188_2055 : xft 188 2055 = some (.iload 4) := by decide +kernel
set_option maxRecDepth 100000 in
theorem f_188_2057 : xft 188 2057 = some (.iconst 5) := by decide +kernel
set_option maxRecDepth 100000 in
theorem f_188_2058 : xft 188 2058 = some (.iadd) := by decide +kernel
set_option maxRecDepth 100000 in
theorem f_188_2059 : xft 188 2059 = some (.iaload) := by decide +kernel
set_option maxRecDepth 100000 in
theorem f_188_2060 : xft 188 2060 = some (.aload_n 0) := by decide +kernel
set_option maxRecDepth 100000 in
theorem f_188_2061 : xft 188 2061 = some (.iload 4) := by decide +kernel
set_option maxRecDepth 100000 in
theorem f_188_2063 : xft 188 2063 = some (.bipush 6) := by decide +kernel
set_option maxRecDepth 100000 in
theorem f_188_2065 : xft 188 2065 = some (.iadd) := by decide +kernel
set_option maxRecDepth 100000 in
theorem f_188_2066 : xft 188 2066 = some (.iaload) := by decide +kernel
set_option maxRecDepth 100000 in
theorem f_188_2067 : xft 188 2067 = some (.aload_n 3) := by decide +kernel
set_option maxRecDepth 100000 in
theorem f_188_2068 : xft 188 2068 = some (.invokestatic 192) := by decide +kernel
set_option maxRecDepth 100000 in
theorem f_188_2071 : xft 188 2071 = some (.istore 5) := by decide +kernel
set_option maxRecDepth 100000 in
theorem f_188_2073 : xft 188 2073 = some (.aload_n 2) := by decide +kernel
set_option maxRecDepth 100000 in
theorem f_188_2074 : xft 188 2074 = some (.aload_n 0) := by decide +kernel
set_option maxRecDepth 100000 in
theorem f_188_2075 : xft 188 2075 = some (.iload 4) := by decide +kernel
set_option maxRecDepth 100000 in
theorem f_188_2077 : xft 188 2077 = some (.iconst 1) := by decide +kernel
set_option maxRecDepth 100000 in
theorem f_188_2078 : xft 188 2078 = some (.iadd) := by decide +kernel
set_option maxRecDepth 100000 in
theorem f_188_2079 : xft 188 2079 = some (.iaload) := by decide +kernel
set_option maxRecDepth 100000 in
theorem f_188_2080 : xft 188 2080 = some (.aload_n 0) := by decide +kernel
set_option maxRecDepth 100000 in
theorem f_188_2081 : xft 188 2081 = some (.iload 4) := by decide +kernel
set_option maxRecDepth 100000 in
theorem f_188_2083 : xft 188 2083 = some (.iconst 2) := by decide +kernel
set_option maxRecDepth 100000 in
theorem f_188_2084 : xft 188 2084 = some (.iadd) := by decide +kernel
set_option maxRecDepth 100000 in
theorem f_188_2085 : xft 188 2085 = some (.iaload) := by decide +kernel
set_option maxRecDepth 100000 in
theorem f_188_2086 : xft 188 2086 = some (.aload_n 0) := by decide +kernel
set_option maxRecDepth 100000 in
theorem f_188_2087 : xft 188 2087 = some (.iload 4) := by decide +kernel
set_option maxRecDepth 100000 in
theorem f_188_2089 : xft 188 2089 = some (.iconst 3) := by decide +kernel
set_option maxRecDepth 100000 in
theorem f_188_2090 : xft 188 2090 = some (.iadd) := by decide +kernel
set_option maxRecDepth 100000 in
theorem f_188_2091 : xft 188 2091 = some (.iaload) := by decide +kernel
set_option maxRecDepth 100000 in
theorem f_188_2092 : xft 188 2092 = some (.aload_n 0) := by decide +kernel
set_option maxRecDepth 100000 in
theorem f_188_2093 : xft 188 2093 = some (.iload 4) := by decide +kernel
set_option maxRecDepth 100000 in
theorem f_188_2095 : xft 188 2095 = some (.iconst 4) := by decide +kernel
set_option maxRecDepth 100000 in
theorem f_188_2096 : xft 188 2096 = some (.iadd) := by decide +kernel
set_option maxRecDepth 100000 in
theorem f_188_2097 : xft 188 2097 = some (.iaload) := by decide +kernel
set_option maxRecDepth 100000 in
theorem f_188_2098 : xft 188 2098 = some (.aload_n 0) := by decide +kernel
set_option maxRecDepth 100000 in
theorem f_188_2099 : xft 188 2099 = some (.iload 4) := by decide +kernel
set_option maxRecDepth 100000 in
theorem f_188_2101 : xft 188 2101 = some (.iconst 5) := by decide +kernel
set_option maxRecDepth 100000 in
theorem f_188_2102 : xft 188 2102 = some (.iadd) := by decide +kernel
set_option maxRecDepth 100000 in
theorem f_188_2103 : xft 188 2103 = some (.iaload) := by decide +kernel
set_option maxRecDepth 100000 in
theorem f_188_2104 : xft 188 2104 = some (.aload_n 0) := by decide +kernel
set_option maxRecDepth 100000 in
theorem f_188_2105 : xft 188 2105 = some (.iload 4) := by decide +kernel
set_option maxRecDepth 100000 in
theorem f_188_2107 : xft 188 2107 = some (.bipush 6) := by decide +kernel
set_option maxRecDepth 100000 in
theorem f_188_2109 : xft 188 2109 = some (.iadd) := by decide +kernel
set_option maxRecDepth 100000 in
theorem f_188_2110 : xft 188 2110 = some (.iaload) := by decide +kernel
set_option maxRecDepth 100000 in
theorem f_188_2111 : xft 188 2111 = some (.invokevirtual 195) := by decide +kernel
set_option maxRecDepth 100000 in
theorem f_188_2114 : xft 188 2114 = some (.istore 6) := by decide +kernel
set_option maxRecDepth 100000 in
theorem f_188_2116 : xft 188 2116 = some (.aload_n 2) := by decide +kernel
set_option maxRecDepth 100000 in
theorem f_188_2117 : xft 188 2117 = some (.invokevirtual 117) := by decide +kernel
set_option maxRecDepth 100000 in
theorem f_188_2120 : xft 188 2120 = some (.iload 5) := by decide +kernel
set_option maxRecDepth 100000 in
theorem f_188_2122 : xft 188 2122 = some (.if_icmp .eq 5) := by decide +kernel
set_option maxRecDepth 100000 in
theorem f_188_2125 : xft 188 2125 = some (.iconst 0) := by decide +kernel
set_option maxRecDepth 100000 in
theorem f_188_2126 : xft 188 2126 = some (.ireturn) := by decide +kernel
set_option maxRecDepth 100000 in
theorem f_188_2127 : xft 188 2127 = some (.iload 5) := by decide +kernel
set_option maxRecDepth 100000 in
theorem f_188_2129 : xft 188 2129 = some (.ifCond .ne 15) := by decide +kernel
set_option maxRecDepth 100000 in
theorem f_188_2132 : xft 188 2132 = some (.aload_n 3) := by decide +kernel
set_option maxRecDepth 100000 in
theorem f_188_2133 : xft 188 2133 = some (.iconst 0) := by decide +kernel
set_option maxRecDepth 100000 in
theorem f_188_2134 : xft 188 2134 = some (.laload) := by decide +kernel
set_option maxRecDepth 100000 in
theorem f_188_2135 : xft 188 2135 = some (.iload 6) := by decide +kernel
set_option maxRecDepth 100000 in
theorem f_188_2137 : xft 188 2137 = some (.i2l) := by decide +kernel
set_option maxRecDepth 100000 in
theorem f_188_2138 : xft 188 2138 = some (.lcmp) := by decide +kernel
set_option maxRecDepth 100000 in
theorem f_188_2139 : xft 188 2139 = some (.ifCond .eq 5) := by decide +kernel
set_option maxRecDepth 100000 in
theorem f_188_2142 : xft 188 2142 = some (.iconst 0) := by decide +kernel
set_option maxRecDepth 100000 in
theorem f_188_2143 : xft 188 2143 = some (.ireturn) := by decide +kernel
set_option maxRecDepth 100000 in
theorem f_188_2144 : xft 188 2144 = some (.goto 324) := by decide +kernel
set_option maxRecDepth 100000 in
theorem f_188_2147 : xft 188 2147 = some (.aload_n 1) := by decide +kernel
set_option maxRecDepth 100000 in
theorem f_188_2148 : xft 188 2148 = some (.aload_n 0) := by decide +kernel
set_option maxRecDepth 100000 in
theorem f_188_2149 : xft 188 2149 = some (.iload 4) := by decide +kernel
set_option maxRecDepth 100000 in
theorem f_188_2151 : xft 188 2151 = some (.iconst 1) := by decide +kernel
set_option maxRecDepth 100000 in
theorem f_188_2152 : xft 188 2152 = some (.iadd) := by decide +kernel
set_option maxRecDepth 100000 in
theorem f_188_2153 : xft 188 2153 = some (.iaload) := by decide +kernel
set_option maxRecDepth 100000 in
theorem f_188_2154 : xft 188 2154 = some (.aload_n 3) := by decide +kernel
set_option maxRecDepth 100000 in
theorem f_188_2155 : xft 188 2155 = some (.invokestatic 196) := by decide +kernel
set_option maxRecDepth 100000 in
theorem f_188_2158 : xft 188 2158 = some (.istore 5) := by decide +kernel
set_option maxRecDepth 100000 in
theorem f_188_2160 : xft 188 2160 = some (.aload_n 2) := by decide +kernel
set_option maxRecDepth 100000 in
theorem f_188_2161 : xft 188 2161 = some (.aload_n 0) := by decide +kernel
set_option maxRecDepth 100000 in
theorem f_188_2162 : xft 188 2162 = some (.iload 4) := by decide +kernel
set_option maxRecDepth 100000 in
theorem f_188_2164 : xft 188 2164 = some (.iconst 1) := by decide +kernel
set_option maxRecDepth 100000 in
theorem f_188_2165 : xft 188 2165 = some (.iadd) := by decide +kernel
set_option maxRecDepth 100000 in
theorem f_188_2166 : xft 188 2166 = some (.iaload) := by decide +kernel
set_option maxRecDepth 100000 in
theorem f_188_2167 : xft 188 2167 = some (.invokevirtual 198) := by decide +kernel
set_option maxRecDepth 100000 in
theorem f_188_2170 : xft 188 2170 = some (.istore 6) := by decide +kernel
set_option maxRecDepth 100000 in
theorem f_188_2172 : xft 188 2172 = some (.aload_n 2) := by decide +kernel
set_option maxRecDepth 100000 in
theorem f_188_2173 : xft 188 2173 = some (.invokevirtual 117) := by decide +kernel
set_option maxRecDepth 100000 in
theorem f_188_2176 : xft 188 2176 = some (.iload 5) := by decide +kernel
set_option maxRecDepth 100000 in
theorem f_188_2178 : xft 188 2178 = some (.if_icmp .eq 5) := by decide +kernel
set_option maxRecDepth 100000 in
theorem f_188_2181 : xft 188 2181 = some (.iconst 0) := by decide +kernel
set_option maxRecDepth 100000 in
theorem f_188_2182 : xft 188 2182 = some (.ireturn) := by decide +kernel
set_option maxRecDepth 100000 in
theorem f_188_2183 : xft 188 2183 = some (.iload 5) := by decide +kernel
set_option maxRecDepth 100000 in
theorem f_188_2185 : xft 188 2185 = some (.ifCond .ne 15) := by decide +kernel
set_option maxRecDepth 100000 in
theorem f_188_2188 : xft 188 2188 = some (.aload_n 3) := by decide +kernel
set_option maxRecDepth 100000 in
theorem f_188_2189 : xft 188 2189 = some (.iconst 0) := by decide +kernel
set_option maxRecDepth 100000 in
theorem f_188_2190 : xft 188 2190 = some (.laload) := by decide +kernel
set_option maxRecDepth 100000 in
theorem f_188_2191 : xft 188 2191 = some (.iload 6) := by decide +kernel
set_option maxRecDepth 100000 in
theorem f_188_2193 : xft 188 2193 = some (.i2l) := by decide +kernel
set_option maxRecDepth 100000 in
theorem f_188_2194 : xft 188 2194 = some (.lcmp) := by decide +kernel
set_option maxRecDepth 100000 in
theorem f_188_2195 : xft 188 2195 = some (.ifCond .eq 5) := by decide +kernel
set_option maxRecDepth 100000 in
theorem f_188_2198 : xft 188 2198 = some (.iconst 0) := by decide +kernel
set_option maxRecDepth 100000 in
theorem f_188_2199 : xft 188 2199 = some (.ireturn) := by decide +kernel
set_option maxRecDepth 100000 in
theorem f_188_2200 : xft 188 2200 = some (.goto 268) := by decide +kernel
set_option maxRecDepth 100000 in
theorem f_188_2203 : xft 188 2203 = some (.aload_n 1) := by decide +kernel
set_option maxRecDepth 100000 in
theorem f_188_2204 : xft 188 2204 = some (.aload_n 0) := by decide +kernel
set_option maxRecDepth 100000 in
theorem f_188_2205 : xft 188 2205 = some (.iload 4) := by decide +kernel
set_option maxRecDepth 100000 in
theorem f_188_2207 : xft 188 2207 = some (.iconst 1) := by decide +kernel
set_option maxRecDepth 100000 in
theorem f_188_2208 : xft 188 2208 = some (.iadd) := by decide +kernel
set_option maxRecDepth 100000 in
theorem f_188_2209 : xft 188 2209 = some (.iaload) := by decide +kernel
set_option maxRecDepth 100000 in
theorem f_188_2210 : xft 188 2210 = some (.aload_n 0) := by decide +kernel
set_option maxRecDepth 100000 in
theorem f_188_2211 : xft 188 2211 = some (.iload 4) := by decide +kernel
set_option maxRecDepth 100000 in
theorem f_188_2213 : xft 188 2213 = some (.iconst 2) := by decide +kernel
set_option maxRecDepth 100000 in
theorem f_188_2214 : xft 188 2214 = some (.iadd) := by decide +kernel
set_option maxRecDepth 100000 in
theorem f_188_2215 : xft 188 2215 = some (.iaload) := by decide +kernel
set_option maxRecDepth 100000 in
theorem f_188_2216 : xft 188 2216 = some (.aload_n 0) := by decide +kernel
set_option maxRecDepth 100000 in
theorem f_188_2217 : xft 188 2217 = some (.iload 4) := by decide +kernel
set_option maxRecDepth 100000 in
theorem f_188_2219 : xft 188 2219 = some (.iconst 3) := by decide +kernel
set_option maxRecDepth 100000 in
theorem f_188_2220 : xft 188 2220 = some (.iadd) := by decide +kernel
set_option maxRecDepth 100000 in
theorem f_188_2221 : xft 188 2221 = some (.iaload) := by decide +kernel
set_option maxRecDepth 100000 in
theorem f_188_2222 : xft 188 2222 = some (.aload_n 3) := by decide +kernel
set_option maxRecDepth 100000 in
theorem f_188_2223 : xft 188 2223 = some (.invokestatic 199) := by decide +kernel
set_option maxRecDepth 100000 in
theorem f_188_2226 : xft 188 2226 = some (.istore 5) := by decide +kernel
set_option maxRecDepth 100000 in
theorem f_188_2228 : xft 188 2228 = some (.aload_n 2) := by decide +kernel
set_option maxRecDepth 100000 in
theorem f_188_2229 : xft 188 2229 = some (.aload_n 0) := by decide +kernel
set_option maxRecDepth 100000 in
theorem f_188_2230 : xft 188 2230 = some (.iload 4) := by decide +kernel
set_option maxRecDepth 100000 in
theorem f_188_2232 : xft 188 2232 = some (.iconst 1) := by decide +kernel
set_option maxRecDepth 100000 in
theorem f_188_2233 : xft 188 2233 = some (.iadd) := by decide +kernel
set_option maxRecDepth 100000 in
theorem f_188_2234 : xft 188 2234 = some (.iaload) := by decide +kernel
set_option maxRecDepth 100000 in
theorem f_188_2235 : xft 188 2235 = some (.aload_n 0) := by decide +kernel
set_option maxRecDepth 100000 in
theorem f_188_2236 : xft 188 2236 = some (.iload 4) := by decide +kernel
set_option maxRecDepth 100000 in
theorem f_188_2238 : xft 188 2238 = some (.iconst 2) := by decide +kernel
set_option maxRecDepth 100000 in
theorem f_188_2239 : xft 188 2239 = some (.iadd) := by decide +kernel
set_option maxRecDepth 100000 in
theorem f_188_2240 : xft 188 2240 = some (.iaload) := by decide +kernel
set_option maxRecDepth 100000 in
theorem f_188_2241 : xft 188 2241 = some (.aload_n 0) := by decide +kernel
set_option maxRecDepth 100000 in
theorem f_188_2242 : xft 188 2242 = some (.iload 4) := by decide +kernel
set_option maxRecDepth 100000 in
theorem f_188_2244 : xft 188 2244 = some (.iconst 3) := by decide +kernel
set_option maxRecDepth 100000 in
theorem f_188_2245 : xft 188 2245 = some (.iadd) := by decide +kernel
set_option maxRecDepth 100000 in
theorem f_188_2246 : xft 188 2246 = some (.iaload) := by decide +kernel
set_option maxRecDepth 100000 in
theorem f_188_2247 : xft 188 2247 = some (.invokevirtual 201) := by decide +kernel
set_option maxRecDepth 100000 in
theorem f_188_2250 : xft 188 2250 = some (.istore 6) := by decide +kernel
set_option maxRecDepth 100000 in
theorem f_188_2252 : xft 188 2252 = some (.aload_n 2) := by decide +kernel
set_option maxRecDepth 100000 in
theorem f_188_2253 : xft 188 2253 = some (.invokevirtual 117) := by decide +kernel
set_option maxRecDepth 100000 in
theorem f_188_2256 : xft 188 2256 = some (.iload 5) := by decide +kernel
set_option maxRecDepth 100000 in
theorem f_188_2258 : xft 188 2258 = some (.if_icmp .eq 5) := by decide +kernel
set_option maxRecDepth 100000 in
theorem f_188_2261 : xft 188 2261 = some (.iconst 0) := by decide +kernel
set_option maxRecDepth 100000 in
theorem f_188_2262 : xft 188 2262 = some (.ireturn) := by decide +kernel
set_option maxRecDepth 100000 in
theorem f_188_2263 : xft 188 2263 = some (.iload 5) := by decide +kernel
set_option maxRecDepth 100000 in
theorem f_188_2265 : xft 188 2265 = some (.ifCond .ne 15) := by decide +kernel
set_option maxRecDepth 100000 in
theorem f_188_2268 : xft 188 2268 = some (.aload_n 3) := by decide +kernel
set_option maxRecDepth 100000 in
theorem f_188_2269 : xft 188 2269 = some (.iconst 0) := by decide +kernel
set_option maxRecDepth 100000 in
theorem f_188_2270 : xft 188 2270 = some (.laload) := by decide +kernel
set_option maxRecDepth 100000 in
theorem f_188_2271 : xft 188 2271 = some (.iload 6) := by decide +kernel
set_option maxRecDepth 100000 in
theorem f_188_2273 : xft 188 2273 = some (.i2l) := by decide +kernel
set_option maxRecDepth 100000 in
theorem f_188_2274 : xft 188 2274 = some (.lcmp) := by decide +kernel
set_option maxRecDepth 100000 in
theorem f_188_2275 : xft 188 2275 = some (.ifCond .eq 5) := by decide +kernel
set_option maxRecDepth 100000 in
theorem f_188_2278 : xft 188 2278 = some (.iconst 0) := by decide +kernel
set_option maxRecDepth 100000 in
theorem f_188_2279 : xft 188 2279 = some (.ireturn) := by decide +kernel
set_option maxRecDepth 100000 in
theorem f_188_2280 : xft 188 2280 = some (.goto 188) := by decide +kernel
set_option maxRecDepth 100000 in
theorem f_188_2283 : xft 188 2283 = some (.aload_n 1) := by decide +kernel
set_option maxRecDepth 100000 in
theorem f_188_2284 : xft 188 2284 = some (.aload_n 0) := by decide +kernel
set_option maxRecDepth 100000 in
theorem f_188_2285 : xft 188 2285 = some (.iload 4) := by decide +kernel
set_option maxRecDepth 100000 in
theorem f_188_2287 : xft 188 2287 = some (.iconst 1) := by decide +kernel
set_option maxRecDepth 100000 in
theorem f_188_2288 : xft 188 2288 = some (.iadd) := by decide +kernel
set_option maxRecDepth 100000 in
theorem f_188_2289 : xft 188 2289 = some (.iaload) := by decide +kernel
set_option maxRecDepth 100000 in
theorem f_188_2290 : xft 188 2290 = some (.aload_n 0) := by decide +kernel
set_option maxRecDepth 100000 in
theorem f_188_2291 : xft 188 2291 = some (.iload 4) := by decide +kernel
set_option maxRecDepth 100000 in
theorem f_188_2293 : xft 188 2293 = some (.iconst 2) := by decide +kernel
set_option maxRecDepth 100000 in
theorem f_188_2294 : xft 188 2294 = some (.iadd) := by decide +kernel
set_option maxRecDepth 100000 in
theorem f_188_2295 : xft 188 2295 = some (.iaload) := by decide +kernel
set_option maxRecDepth 100000 in
theorem f_188_2296 : xft 188 2296 = some (.aload_n 0) := by decide +kernel
set_option maxRecDepth 100000 in
theorem f_188_2297 : xft 188 2297 = some (.iload 4) := by decide +kernel
set_option maxRecDepth 100000 in
theorem f_188_2299 : xft 188 2299 = some (.iconst 3) := by decide +kernel
set_option maxRecDepth 100000 in
theorem f_188_2300 : xft 188 2300 = some (.iadd) := by decide +kernel
set_option maxRecDepth 100000 in
theorem f_188_2301 : xft 188 2301 = some (.iaload) := by decide +kernel
set_option maxRecDepth 100000 in
theorem f_188_2302 : xft 188 2302 = some (.aload_n 0) := by decide +kernel
set_option maxRecDepth 100000 in
theorem f_188_2303 : xft 188 2303 = some (.iload 4) := by decide +kernel
set_option maxRecDepth 100000 in
theorem f_188_2305 : xft 188 2305 = some (.iconst 4) := by decide +kernel
set_option maxRecDepth 100000 in
theorem f_188_2306 : xft 188 2306 = some (.iadd) := by decide +kernel
set_option maxRecDepth 100000 in
theorem f_188_2307 : xft 188 2307 = some (.iaload) := by decide +kernel
set_option maxRecDepth 100000 in
theorem f_188_2308 : xft 188 2308 = some (.aload_n 3) := by decide +kernel
set_option maxRecDepth 100000 in
theorem f_188_2309 : xft 188 2309 = some (.invokestatic 202) := by decide +kernel
set_option maxRecDepth 100000 in
theorem f_188_2312 : xft 188 2312 = some (.istore 5) := by decide +kernel
set_option maxRecDepth 100000 in
theorem f_188_2314 : xft 188 2314 = some (.aload_n 2) := by decide +kernel
set_option maxRecDepth 100000 in
theorem f_188_2315 : xft 188 2315 = some (.aload_n 0) := by decide +kernel
set_option maxRecDepth 100000 in
theorem f_188_2316 : xft 188 2316 = some (.iload 4) := by decide +kernel
set_option maxRecDepth 100000 in
theorem f_188_2318 : xft 188 2318 = some (.iconst 1) := by decide +kernel
set_option maxRecDepth 100000 in
theorem f_188_2319 : xft 188 2319 = some (.iadd) := by decide +kernel
set_option maxRecDepth 100000 in
theorem f_188_2320 : xft 188 2320 = some (.iaload) := by decide +kernel
set_option maxRecDepth 100000 in
theorem f_188_2321 : xft 188 2321 = some (.aload_n 0) := by decide +kernel
set_option maxRecDepth 100000 in
theorem f_188_2322 : xft 188 2322 = some (.iload 4) := by decide +kernel
set_option maxRecDepth 100000 in
theorem f_188_2324 : xft 188 2324 = some (.iconst 2) := by decide +kernel
set_option maxRecDepth 100000 in
theorem f_188_2325 : xft 188 2325 = some (.iadd) := by decide +kernel
set_option maxRecDepth 100000 in
theorem f_188_2326 : xft 188 2326 = some (.iaload) := by decide +kernel
set_option maxRecDepth 100000 in
theorem f_188_2327 : xft 188 2327 = some (.aload_n 0) := by decide +kernel
set_option maxRecDepth 100000 in
theorem f_188_2328 : xft 188 2328 = some (.iload 4) := by decide +kernel
set_option maxRecDepth 100000 in
theorem f_188_2330 : xft 188 2330 = some (.iconst 3) := by decide +kernel
set_option maxRecDepth 100000 in
theorem f_188_2331 : xft 188 2331 = some (.iadd) := by decide +kernel
set_option maxRecDepth 100000 in
theorem f_188_2332 : xft 188 2332 = some (.iaload) := by decide +kernel
set_option maxRecDepth 100000 in
theorem f_188_2333 : xft 188 2333 = some (.aload_n 0) := by decide +kernel
set_option maxRecDepth 100000 in
theorem f_188_2334 : xft 188 2334 = some (.iload 4) := by decide +kernel
set_option maxRecDepth 100000 in
theorem f_188_2336 : xft 188 2336 = some (.iconst 4) := by decide +kernel
set_option maxRecDepth 100000 in
theorem f_188_2337 : xft 188 2337 = some (.iadd) := by decide +kernel
set_option maxRecDepth 100000 in
theorem f_188_2338 : xft 188 2338 = some (.iaload) := by decide +kernel
set_option maxRecDepth 100000 in
theorem f_188_2339 : xft 188 2339 = some (.invokevirtual 204) := by decide +kernel
set_option maxRecDepth 100000 in
theorem f_188_2342 : xft 188 2342 = some (.istore 6) := by decide +kernel
set_option maxRecDepth 100000 in
theorem f_188_2344 : xft 188 2344 = some (.aload_n 2) := by decide +kernel
set_option maxRecDepth 100000 in
theorem f_188_2345 : xft 188 2345 = some (.invokevirtual 117) := by decide +kernel
set_option maxRecDepth 100000 in
theorem f_188_2348 : xft 188 2348 = some (.iload 5) := by decide +kernel
set_option maxRecDepth 100000 in
theorem f_188_2350 : xft 188 2350 = some (.if_icmp .eq 5) := by decide +kernel
set_option maxRecDepth 100000 in
theorem f_188_2353 : xft 188 2353 = some (.iconst 0) := by decide +kernel
set_option maxRecDepth 100000 in
theorem f_188_2354 : xft 188 2354 = some (.ireturn) := by decide +kernel
set_option maxRecDepth 100000 in
theorem f_188_2355 : xft 188 2355 = some (.iload 5) := by decide +kernel
set_option maxRecDepth 100000 in
theorem f_188_2357 : xft 188 2357 = some (.ifCond .ne 15) := by decide +kernel
set_option maxRecDepth 100000 in
theorem f_188_2360 : xft 188 2360 = some (.aload_n 3) := by decide +kernel
set_option maxRecDepth 100000 in
theorem f_188_2361 : xft 188 2361 = some (.iconst 0) := by decide +kernel
set_option maxRecDepth 100000 in
theorem f_188_2362 : xft 188 2362 = some (.laload) := by decide +kernel
set_option maxRecDepth 100000 in
theorem f_188_2363 : xft 188 2363 = some (.iload 6) := by decide +kernel
set_option maxRecDepth 100000 in
theorem f_188_2365 : xft 188 2365 = some (.i2l) := by decide +kernel
set_option maxRecDepth 100000 in
theorem f_188_2366 : xft 188 2366 = some (.lcmp) := by decide +kernel
set_option maxRecDepth 100000 in
theorem f_188_2367 : xft 188 2367 = some (.ifCond .eq 5) := by decide +kernel
set_option maxRecDepth 100000 in
theorem f_188_2370 : xft 188 2370 = some (.iconst 0) := by decide +kernel
set_option maxRecDepth 100000 in
theorem f_188_2371 : xft 188 2371 = some (.ireturn) := by decide +kernel
set_option maxRecDepth 100000 in
theorem f_188_2372 : xft 188 2372 = some (.goto 96) := by decide +kernel
set_option maxRecDepth 100000 in
theorem f_188_2375 : xft 188 2375 = some (.aload_n 1) := by decide +kernel
set_option maxRecDepth 100000 in
theorem f_188_2376 : xft 188 2376 = some (.aload_n 0) := by decide +kernel
set_option maxRecDepth 100000 in
theorem f_188_2377 : xft 188 2377 = some (.iload 4) := by decide +kernel
set_option maxRecDepth 100000 in
theorem f_188_2379 : xft 188 2379 = some (.iconst 1) := by decide +kernel
set_option maxRecDepth 100000 in
theorem f_188_2380 : xft 188 2380 = some (.iadd) := by decide +kernel
set_option maxRecDepth 100000 in
theorem f_188_2381 : xft 188 2381 = some (.iaload) := by decide +kernel
set_option maxRecDepth 100000 in
theorem f_188_2382 : xft 188 2382 = some (.aload_n 0) := by decide +kernel
set_option maxRecDepth 100000 in
theorem f_188_2383 : xft 188 2383 = some (.iload 4) := by decide +kernel
set_option maxRecDepth 100000 in
theorem f_188_2385 : xft 188 2385 = some (.iconst 2) := by decide +kernel
set_option maxRecDepth 100000 in
theorem f_188_2386 : xft 188 2386 = some (.iadd) := by decide +kernel
set_option maxRecDepth 100000 in
theorem f_188_2387 : xft 188 2387 = some (.iaload) := by decide +kernel
set_option maxRecDepth 100000 in
theorem f_188_2388 : xft 188 2388 = some (.aload_n 0) := by decide +kernel
set_option maxRecDepth 100000 in
theorem f_188_2389 : xft 188 2389 = some (.iload 4) := by decide +kernel
set_option maxRecDepth 100000 in
theorem f_188_2391 : xft 188 2391 = some (.iconst 3) := by decide +kernel
set_option maxRecDepth 100000 in
theorem f_188_2392 : xft 188 2392 = some (.iadd) := by decide +kernel
set_option maxRecDepth 100000 in
theorem f_188_2393 : xft 188 2393 = some (.iaload) := by decide +kernel
set_option maxRecDepth 100000 in
theorem f_188_2394 : xft 188 2394 = some (.aload_n 3) := by decide +kernel
set_option maxRecDepth 100000 in
theorem f_188_2395 : xft 188 2395 = some (.invokestatic 205) := by decide +kernel
set_option maxRecDepth 100000 in
theorem f_188_2398 : xft 188 2398 = some (.istore 5) := by decide +kernel
set_option maxRecDepth 100000 in
theorem f_188_2400 : xft 188 2400 = some (.aload_n 2) := by decide +kernel
set_option maxRecDepth 100000 in
theorem f_188_2401 : xft 188 2401 = some (.aload_n 0) := by decide +kernel
set_option maxRecDepth 100000 in
theorem f_188_2402 : xft 188 2402 = some (.iload 4) := by decide +kernel
set_option maxRecDepth 100000 in
theorem f_188_2404 : xft 188 2404 = some (.iconst 1) := by decide +kernel
set_option maxRecDepth 100000 in
theorem f_188_2405 : xft 188 2405 = some (.iadd) := by decide +kernel
set_option maxRecDepth 100000 in
theorem f_188_2406 : xft 188 2406 = some (.iaload) := by decide +kernel
set_option maxRecDepth 100000 in
theorem f_188_2407 : xft 188 2407 = some (.aload_n 0) := by decide +kernel
set_option maxRecDepth 100000 in
theorem f_188_2408 : xft 188 2408 = some (.iload 4) := by decide +kernel
set_option maxRecDepth 100000 in
theorem f_188_2410 : xft 188 2410 = some (.iconst 2) := by decide +kernel
set_option maxRecDepth 100000 in
theorem f_188_2411 : xft 188 2411 = some (.iadd) := by decide +kernel
set_option maxRecDepth 100000 in
theorem f_188_2412 : xft 188 2412 = some (.iaload) := by decide +kernel
set_option maxRecDepth 100000 in
theorem f_188_2413 : xft 188 2413 = some (.aload_n 0) := by decide +kernel
set_option maxRecDepth 100000 in
theorem f_188_2414 : xft 188 2414 = some (.iload 4) := by decide +kernel
set_option maxRecDepth 100000 in
theorem f_188_2416 : xft 188 2416 = some (.iconst 3) := by decide +kernel
set_option maxRecDepth 100000 in
theorem f_188_2417 : xft 188 2417 = some (.iadd) := by decide +kernel
set_option maxRecDepth 100000 in
theorem f_188_2418 : xft 188 2418 = some (.iaload) := by decide +kernel
set_option maxRecDepth 100000 in
theorem f_188_2419 : xft 188 2419 = some (.invokevirtual 207) := by decide +kernel
set_option maxRecDepth 100000 in
theorem f_188_2422 : xft 188 2422 = some (.istore 6) := by decide +kernel
set_option maxRecDepth 100000 in
theorem f_188_2424 : xft 188 2424 = some (.aload_n 2) := by decide +kernel
set_option maxRecDepth 100000 in
theorem f_188_2425 : xft 188 2425 = some (.invokevirtual 117) := by decide +kernel
set_option maxRecDepth 100000 in
theorem f_188_2428 : xft 188 2428 = some (.iload 5) := by decide +kernel
set_option maxRecDepth 100000 in
theorem f_188_2430 : xft 188 2430 = some (.if_icmp .eq 5) := by decide +kernel
set_option maxRecDepth 100000 in
theorem f_188_2433 : xft 188 2433 = some (.iconst 0) := by decide +kernel
set_option maxRecDepth 100000 in
theorem f_188_2434 : xft 188 2434 = some (.ireturn) := by decide +kernel
set_option maxRecDepth 100000 in
theorem f_188_2435 : xft 188 2435 = some (.iload 5) := by decide +kernel
set_option maxRecDepth 100000 in
theorem f_188_2437 : xft 188 2437 = some (.ifCond .ne 15) := by decide +kernel
set_option maxRecDepth 100000 in
theorem f_188_2440 : xft 188 2440 = some (.aload_n 3) := by decide +kernel
set_option maxRecDepth 100000 in
theorem f_188_2441 : xft 188 2441 = some (.iconst 0) := by decide +kernel
set_option maxRecDepth 100000 in
theorem f_188_2442 : xft 188 2442 = some (.laload) := by decide +kernel
set_option maxRecDepth 100000 in
theorem f_188_2443 : xft 188 2443 = some (.iload 6) := by decide +kernel
set_option maxRecDepth 100000 in
theorem f_188_2445 : xft 188 2445 = some (.i2l) := by decide +kernel
set_option maxRecDepth 100000 in
theorem f_188_2446 : xft 188 2446 = some (.lcmp) := by decide +kernel
set_option maxRecDepth 100000 in
theorem f_188_2447 : xft 188 2447 = some (.ifCond .eq 5) := by decide +kernel
set_option maxRecDepth 100000 in
theorem f_188_2450 : xft 188 2450 = some (.iconst 0) := by decide +kernel
set_option maxRecDepth 100000 in
theorem f_188_2451 : xft 188 2451 = some (.ireturn) := by decide +kernel
set_option maxRecDepth 100000 in
theorem f_188_2452 : xft 188 2452 = some (.goto 16) := by decide +kernel
set_option maxRecDepth 100000 in
theorem f_188_2455 : xft 188 2455 = some (.aload_n 1) := by decide +kernel
set_option maxRecDepth 100000 in
theorem f_188_2456 : xft 188 2456 = some (.invokevirtual 208) := by decide +kernel
set_option maxRecDepth 100000 in
theorem f_188_2459 : xft 188 2459 = some (.aload_n 2) := by decide +kernel
set_option maxRecDepth 100000 in
theorem f_188_2460 : xft 188 2460 = some (.invokevirtual 211) := by decide +kernel
set_option maxRecDepth 100000 in
theorem f_188_2463 : xft 188 2463 = some (.if_icmp .eq 5) := by decide +kernel
set_option maxRecDepth 100000 in
theorem f_188_2466 : xft 188 2466 = some (.iconst 0) := by decide +kernel
set_option maxRecDepth 100000 in
theorem f_188_2467 : xft 188 2467 = some (.ireturn) := by decide +kernel
set_option maxRecDepth 100000 in
theorem f_188_2468 : xft 188 2468 = some (.iinc 4 7) := by decide +kernel
set_option maxRecDepth 100000 in
theorem f_188_2471 : xft 188 2471 = some (.goto (-2448)) := by decide +kernel
set_option maxRecDepth 100000 in
theorem f_188_2474 : xft 188 2474 = some (.iconst 1) := by decide +kernel
set_option maxRecDepth 100000 in
theorem f_188_2475 : xft 188 2475 = some (.ireturn) := by decide +kernel
/-! blocks, by program (gen2.py) -/
section BLK
variable {sc : xS} {d : Nat} {T : Nat → Nat × Nat} {z : Nat × Nat} {V : Nat → Nat → Int} {J : Nat → Nat → Int64} {R : Nat → Nat → Option Nat}
theorem eL_hide {x1 : Int} {a0 a2 : Nat} : X sc (d + 1) 160 [.ref a0, xw x1, .ref a2] (T, z, xv V, J, R) = XR sc d 160 0 [some (.ref a0), some (xw x1), some (.ref a2), none] [] (T, z, xv V, J, R) :=
  (X_eq ⟨jl_160, by rw [mn_160]; rfl, rfl, by rw [lm_160]; exact Nat.le_of_ble_eq_true rfl⟩).trans (by unfold xent; rw [lm_160]; rfl)
theorem bL_hide_0 {o3 : Option Value} {x1 : Int} {a2 a0 : Nat} (g1 : T a0 = (7, 0)) : XR sc d 160 0 [some (.ref a0), some (xw x1), some (.ref a2), o3] [] (T, z, xv V, J, R) = xret 160 (XR sc d 160) 4 7 [some (.ref a0), some (xw x1), some (.ref a2), o3] [xw 0, .ref a2] (X sc d 50 [.ref a0, xw x1] (T, z, xv V, J, R)) :=
  (st_aload_n f_160_0 rfl).trans ((sw_iconst f_160_1).trans ((st_aload_n f_160_2 rfl).trans ((sw_iload_n f_160_3 rfl).trans (st_callV' f_160_4 h_160_7 mn_50 rfl rfl rfl rfl mo_50 g1 rfl))))
theorem bL_hide_7 {o0 o1 o2 o3 : Option Value} {y0 y1 : Int} {b2 : Nat} (g1 : T b2 = (34, (T b2).2)) (g2 : (0 : Int) ≤ y1 ∧ y1 < ((T b2).2 : Int) ∧ (T b2).2 ≤ 3584) : XR sc d 160 7 [o0, o1, o2, o3] [xw y0, xw y1, .ref b2] (T, z, xv V, J, R) = XR sc d 160 18 [o0, o1, o2, o3] [] (T, z, xv V, (xup2 J b2 y1.toNat (jI y0)), R) :=
  (sw_i2l f_160_7).trans ((sw_lastore f_160_8 g1 g2).trans (st_goto (t := 18) f_160_9 ⟨by decide, rfl⟩))
theorem bL_hide_18 {o0 o1 o2 o3 : Option Value} : XR sc d 160 18 [o0, o1, o2, o3] [] (T, z, xv V, J, R) = some (.inl (some (xw 0)), (T, z, xv V, J, R)) :=
  (sw_iconst f_160_18).trans (sw_ireturn f_160_19 mr_160)
theorem eL_fault {x1 x2 x3 : Int} {a0 a4 : Nat} : X sc (d + 1) 161 [.ref a0, xw x1, xw x2, xw x3, .ref a4] (T, z, xv V, J, R) = XR sc d 161 0 [some (.ref a0), some (xw x1), some (xw x2), some (xw x3), some (.ref a4), none] [] (T, z, xv V, J, R) :=
  (X_eq ⟨jl_161, by rw [mn_161]; rfl, rfl, by rw [lm_161]; exact Nat.le_of_ble_eq_true rfl⟩).trans (by unfold xent; rw [lm_161]; rfl)
theorem bL_fault_0 {o5 : Option Value} {x1 x2 x3 : Int} {a4 a0 : Nat} (g1 : T a0 = (7, 0)) : XR sc d 161 0 [some (.ref a0), some (xw x1), some (xw x2), some (xw x3), some (.ref a4), o5] [] (T, z, xv V, J, R) = xret 161 (XR sc d 161) 7 10 [some (.ref a0), some (xw x1), some (xw x2), some (xw x3), some (.ref a4), o5] [xw 0, .ref a4] (X sc d 51 [.ref a0, xw x1, xw x2, xw x3] (T, z, xv V, J, R)) :=
  (st_aload f_161_0 rfl).trans ((sw_iconst f_161_2).trans ((st_aload_n f_161_3 rfl).trans ((sw_iload_n f_161_4 rfl).trans ((sw_iload_n f_161_5 rfl).trans ((sw_iload_n f_161_6 rfl).trans (st_callV' f_161_7 h_161_17 mn_51 rfl rfl rfl rfl mo_51 g1 rfl))))))
theorem bL_fault_10 {o0 o1 o2 o3 o4 o5 : Option Value} {y0 y1 : Int} {b2 : Nat} (g1 : T b2 = (34, (T b2).2)) (g2 : (0 : Int) ≤ y1 ∧ y1 < ((T b2).2 : Int) ∧ (T b2).2 ≤ 3584) : XR sc d 161 10 [o0, o1, o2, o3, o4, o5] [xw y0, xw y1, .ref b2] (T, z, xv V, J, R) = XR sc d 161 19 [o0, o1, o2, o3, o4, o5] [] (T, z, xv V, (xup2 J b2 y1.toNat (jI y0)), R) :=
  (sw_i2l f_161_10).trans ((sw_lastore f_161_11 g1 g2).trans (st_goto (t := 19) f_161_12 ⟨by decide, rfl⟩))
theorem bL_fault_19 {o0 o1 o2 o3 o4 o5 : Option Value} : XR sc d 161 19 [o0, o1, o2, o3, o4, o5] [] (T, z, xv V, J, R) = some (.inl (some (xw 0)), (T, z, xv V, J, R)) :=
  (sw_iconst f_161_19).trans (sw_ireturn f_161_20 mr_161)
theorem eL_cut {x1 x2 x3 x4 x5 x6 : Int} {a0 a7 : Nat} : X sc (d + 1) 162 [.ref a0, xw x1, xw x2, xw x3, xw x4, xw x5, xw x6, .ref a7] (T, z, xv V, J, R) = XR sc d 162 0 [some (.ref a0), some (xw x1), some (xw x2), some (xw x3), some (xw x4), some (xw x5), some (xw x6), some (.ref a7), none] [] (T, z, xv V, J, R) :=
  (X_eq ⟨jl_162, by rw [mn_162]; rfl, rfl, by rw [lm_162]; exact Nat.le_of_ble_eq_true rfl⟩).trans (by unfold xent; rw [lm_162]; rfl)
theorem bL_cut_0 {o8 : Option Value} {x1 x2 x3 x4 x5 x6 : Int} {a7 a0 : Nat} (g1 : T a0 = (7, 0)) : XR sc d 162 0 [some (.ref a0), some (xw x1), some (xw x2), some (xw x3), some (xw x4), some (xw x5), some (xw x6), some (.ref a7), o8] [] (T, z, xv V, J, R) = xret 162 (XR sc d 162) 13 16 [some (.ref a0), some (xw x1), some (xw x2), some (xw x3), some (xw x4), some (xw x5), some (xw x6), some (.ref a7), o8] [xw 0, .ref a7] (X sc d 52 [.ref a0, xw x1, xw x2, xw x3, xw x4, xw x5, xw x6] (T, z, xv V, J, R)) :=
  (st_aload f_162_0 rfl).trans ((sw_iconst f_162_2).trans ((st_aload_n f_162_3 rfl).trans ((sw_iload_n f_162_4 rfl).trans ((sw_iload_n f_162_5 rfl).trans ((sw_iload_n f_162_6 rfl).trans ((sw_iload f_162_7 rfl).trans ((sw_iload f_162_9 rfl).trans ((sw_iload f_162_11 rfl).trans (st_callV' f_162_13 h_162_23 mn_52 rfl rfl rfl rfl mo_52 g1 rfl)))))))))
theorem bL_cut_16 {o0 o1 o2 o3 o4 o5 o6 o7 o8 : Option Value} {y0 y1 : Int} {b2 : Nat} (g1 : T b2 = (34, (T b2).2)) (g2 : (0 : Int) ≤ y1 ∧ y1 < ((T b2).2 : Int) ∧ (T b2).2 ≤ 3584) : XR sc d 162 16 [o0, o1, o2, o3, o4, o5, o6, o7, o8] [xw y0, xw y1, .ref b2] (T, z, xv V, J, R) = XR sc d 162 33 [o0, o1, o2, o3, o4, o5, o6, o7, o8] [] (T, z, xv V, (xup2 J b2 y1.toNat (jI y0)), R) :=
  (sw_i2l f_162_16).trans ((sw_lastore f_162_17 g1 g2).trans (st_goto (t := 33) f_162_18 ⟨by decide, rfl⟩))
theorem bL_cut_33 {o0 o1 o2 o3 o4 o5 o6 o7 o8 : Option Value} : XR sc d 162 33 [o0, o1, o2, o3, o4, o5, o6, o7, o8] [] (T, z, xv V, J, R) = some (.inl (some (xw 0)), (T, z, xv V, J, R)) :=
  (sw_iconst f_162_33).trans (sw_ireturn f_162_34 mr_162)
theorem eL_find {x1 x2 x3 x4 x5 : Int} {a0 a6 : Nat} : X sc (d + 1) 163 [.ref a0, xw x1, xw x2, xw x3, xw x4, xw x5, .ref a6] (T, z, xv V, J, R) = XR sc d 163 0 [some (.ref a0), some (xw x1), some (xw x2), some (xw x3), some (xw x4), some (xw x5), some (.ref a6), none] [] (T, z, xv V, J, R) :=
  (X_eq ⟨jl_163, by rw [mn_163]; rfl, rfl, by rw [lm_163]; exact Nat.le_of_ble_eq_true rfl⟩).trans (by unfold xent; rw [lm_163]; rfl)
theorem bL_find_0 {o7 : Option Value} {x1 x2 x3 x4 x5 : Int} {a6 a0 : Nat} (g1 : T a0 = (7, 0)) : XR sc d 163 0 [some (.ref a0), some (xw x1), some (xw x2), some (xw x3), some (xw x4), some (xw x5), some (.ref a6), o7] [] (T, z, xv V, J, R) = xret 163 (XR sc d 163) 11 14 [some (.ref a0), some (xw x1), some (xw x2), some (xw x3), some (xw x4), some (xw x5), some (.ref a6), o7] [xw 0, .ref a6] (X sc d 53 [.ref a0, xw x1, xw x2, xw x3, xw x4, xw x5] (T, z, xv V, J, R)) :=
  (st_aload f_163_0 rfl).trans ((sw_iconst f_163_2).trans ((st_aload_n f_163_3 rfl).trans ((sw_iload_n f_163_4 rfl).trans ((sw_iload_n f_163_5 rfl).trans ((sw_iload_n f_163_6 rfl).trans ((sw_iload f_163_7 rfl).trans ((sw_iload f_163_9 rfl).trans (st_callV' f_163_11 h_163_27 mn_53 rfl rfl rfl rfl mo_53 g1 rfl))))))))
theorem bL_find_14 {o0 o1 o2 o3 o4 o5 o6 o7 : Option Value} {y0 y1 : Int} {b2 : Nat} (g1 : T b2 = (34, (T b2).2)) (g2 : (0 : Int) ≤ y1 ∧ y1 < ((T b2).2 : Int) ∧ (T b2).2 ≤ 3584) : XR sc d 163 14 [o0, o1, o2, o3, o4, o5, o6, o7] [xw y0, xw y1, .ref b2] (T, z, xv V, J, R) = XR sc d 163 27 [o0, o1, o2, o3, o4, o5, o6, o7] [] (T, z, xv V, (xup2 J b2 y1.toNat (jI y0)), R) :=
  (sw_i2l f_163_14).trans ((sw_lastore f_163_15 g1 g2).trans (st_goto (t := 27) f_163_16 ⟨by decide, rfl⟩))
theorem bL_find_27 {o0 o1 o2 o3 o4 o5 o6 o7 : Option Value} : XR sc d 163 27 [o0, o1, o2, o3, o4, o5, o6, o7] [] (T, z, xv V, J, R) = some (.inl (some (xw 0)), (T, z, xv V, J, R)) :=
  (sw_iconst f_163_27).trans (sw_ireturn f_163_28 mr_163)
theorem eL_skive {x1 x2 : Int} {a0 a3 : Nat} : X sc (d + 1) 164 [.ref a0, xw x1, xw x2, .ref a3] (T, z, xv V, J, R) = XR sc d 164 0 [some (.ref a0), some (xw x1), some (xw x2), some (.ref a3), none] [] (T, z, xv V, J, R) :=
  (X_eq ⟨jl_164, by rw [mn_164]; rfl, rfl, by rw [lm_164]; exact Nat.le_of_ble_eq_true rfl⟩).trans (by unfold xent; rw [lm_164]; rfl)
theorem bL_skive_0 {o4 : Option Value} {x1 x2 : Int} {a3 a0 : Nat} (g1 : T a0 = (7, 0)) : XR sc d 164 0 [some (.ref a0), some (xw x1), some (xw x2), some (.ref a3), o4] [] (T, z, xv V, J, R) = xret 164 (XR sc d 164) 5 8 [some (.ref a0), some (xw x1), some (xw x2), some (.ref a3), o4] [xw 0, .ref a3] (X sc d 54 [.ref a0, xw x1, xw x2] (T, z, xv V, J, R)) :=
  (st_aload_n f_164_0 rfl).trans ((sw_iconst f_164_1).trans ((st_aload_n f_164_2 rfl).trans ((sw_iload_n f_164_3 rfl).trans ((sw_iload_n f_164_4 rfl).trans (st_callV' f_164_5 h_164_31 mn_54 rfl rfl rfl rfl mo_54 g1 rfl)))))
theorem bL_skive_8 {o0 o1 o2 o3 o4 : Option Value} {y0 y1 : Int} {b2 : Nat} (g1 : T b2 = (34, (T b2).2)) (g2 : (0 : Int) ≤ y1 ∧ y1 < ((T b2).2 : Int) ∧ (T b2).2 ≤ 3584) : XR sc d 164 8 [o0, o1, o2, o3, o4] [xw y0, xw y1, .ref b2] (T, z, xv V, J, R) = XR sc d 164 25 [o0, o1, o2, o3, o4] [] (T, z, xv V, (xup2 J b2 y1.toNat (jI y0)), R) :=
  (sw_i2l f_164_8).trans ((sw_lastore f_164_9 g1 g2).trans (st_goto (t := 25) f_164_10 ⟨by decide, rfl⟩))
theorem bL_skive_25 {o0 o1 o2 o3 o4 : Option Value} : XR sc d 164 25 [o0, o1, o2, o3, o4] [] (T, z, xv V, J, R) = some (.inl (some (xw 0)), (T, z, xv V, J, R)) :=
  (sw_iconst f_164_25).trans (sw_ireturn f_164_26 mr_164)
theorem eL_pierce {x1 x2 : Int} {a0 a3 : Nat} : X sc (d + 1) 165 [.ref a0, xw x1, xw x2, .ref a3] (T, z, xv V, J, R) = XR sc d 165 0 [some (.ref a0), some (xw x1), some (xw x2), some (.ref a3), none] [] (T, z, xv V, J, R) :=
  (X_eq ⟨jl_165, by rw [mn_165]; rfl, rfl, by rw [lm_165]; exact Nat.le_of_ble_eq_true rfl⟩).trans (by unfold xent; rw [lm_165]; rfl)
theorem bL_pierce_0 {o4 : Option Value} {x1 x2 : Int} {a3 a0 : Nat} (g1 : T a0 = (7, 0)) : XR sc d 165 0 [some (.ref a0), some (xw x1), some (xw x2), some (.ref a3), o4] [] (T, z, xv V, J, R) = xret 165 (XR sc d 165) 5 8 [some (.ref a0), some (xw x1), some (xw x2), some (.ref a3), o4] [xw 0, .ref a3] (X sc d 55 [.ref a0, xw x1, xw x2] (T, z, xv V, J, R)) :=
  (st_aload_n f_165_0 rfl).trans ((sw_iconst f_165_1).trans ((st_aload_n f_165_2 rfl).trans ((sw_iload_n f_165_3 rfl).trans ((sw_iload_n f_165_4 rfl).trans (st_callV' f_165_5 h_165_35 mn_55 rfl rfl rfl rfl mo_55 g1 rfl)))))
theorem bL_pierce_8 {o0 o1 o2 o3 o4 : Option Value} {y0 y1 : Int} {b2 : Nat} (g1 : T b2 = (34, (T b2).2)) (g2 : (0 : Int) ≤ y1 ∧ y1 < ((T b2).2 : Int) ∧ (T b2).2 ≤ 3584) : XR sc d 165 8 [o0, o1, o2, o3, o4] [xw y0, xw y1, .ref b2] (T, z, xv V, J, R) = XR sc d 165 25 [o0, o1, o2, o3, o4] [] (T, z, xv V, (xup2 J b2 y1.toNat (jI y0)), R) :=
  (sw_i2l f_165_8).trans ((sw_lastore f_165_9 g1 g2).trans (st_goto (t := 25) f_165_10 ⟨by decide, rfl⟩))
theorem bL_pierce_25 {o0 o1 o2 o3 o4 : Option Value} : XR sc d 165 25 [o0, o1, o2, o3, o4] [] (T, z, xv V, J, R) = some (.inl (some (xw 0)), (T, z, xv V, J, R)) :=
  (sw_iconst f_165_25).trans (sw_ireturn f_165_26 mr_165)
theorem eL_match {x1 x2 : Int} {a0 a3 : Nat} : X sc (d + 1) 166 [.ref a0, xw x1, xw x2, .ref a3] (T, z, xv V, J, R) = XR sc d 166 0 [some (.ref a0), some (xw x1), some (xw x2), some (.ref a3), none] [] (T, z, xv V, J, R) :=
  (X_eq ⟨jl_166, by rw [mn_166]; rfl, rfl, by rw [lm_166]; exact Nat.le_of_ble_eq_true rfl⟩).trans (by unfold xent; rw [lm_166]; rfl)
theorem bL_match_0 {o4 : Option Value} {x1 x2 : Int} {a3 a0 : Nat} (g1 : T a0 = (7, 0)) : XR sc d 166 0 [some (.ref a0), some (xw x1), some (xw x2), some (.ref a3), o4] [] (T, z, xv V, J, R) = xret 166 (XR sc d 166) 5 8 [some (.ref a0), some (xw x1), some (xw x2), some (.ref a3), o4] [xw 0, .ref a3] (X sc d 56 [.ref a0, xw x1, xw x2] (T, z, xv V, J, R)) :=
  (st_aload_n f_166_0 rfl).trans ((sw_iconst f_166_1).trans ((st_aload_n f_166_2 rfl).trans ((sw_iload_n f_166_3 rfl).trans ((sw_iload_n f_166_4 rfl).trans (st_callV' f_166_5 h_166_38 mn_56 rfl rfl rfl rfl mo_56 g1 rfl)))))
theorem bL_match_8 {o0 o1 o2 o3 o4 : Option Value} {s1 s2 : Value} {y0 : Int} (g1 : -2147483648 ≤ y0 ∧ y0 ≤ 2147483647) : XR sc d 166 8 [o0, o1, o2, o3, o4] [xw y0, s1, s2] (T, z, xv V, J, R) = if y0 = 0 then XR sc d 166 15 [o0, o1, o2, o3, o4] [s1, s2] (T, z, xv V, J, R) else XR sc d 166 11 [o0, o1, o2, o3, o4] [s1, s2] (T, z, xv V, J, R) :=
  sw_if_eq (t := 15) f_166_8 ⟨by decide, rfl⟩ g1
theorem bL_match_11 {o0 o1 o2 o3 o4 : Option Value} {s0 s1 : Value} : XR sc d 166 11 [o0, o1, o2, o3, o4] [s0, s1] (T, z, xv V, J, R) = XR sc d 166 16 [o0, o1, o2, o3, o4] [.long (Int64.ofNat 1), s0, s1] (T, z, xv V, J, R) :=
  (st_lconst f_166_11).trans (st_goto (t := 16) f_166_12 ⟨by decide, rfl⟩)
theorem bL_match_15 {o0 o1 o2 o3 o4 : Option Value} {s0 s1 : Value} : XR sc d 166 15 [o0, o1, o2, o3, o4] [s0, s1] (T, z, xv V, J, R) = XR sc d 166 16 [o0, o1, o2, o3, o4] [.long (Int64.ofNat 0), s0, s1] (T, z, xv V, J, R) :=
  st_lconst f_166_15
theorem bL_match_16 {o0 o1 o2 o3 o4 : Option Value} {y1 : Int} {l0 : Int64} {b2 : Nat} (g1 : T b2 = (34, (T b2).2)) (g2 : (0 : Int) ≤ y1 ∧ y1 < ((T b2).2 : Int) ∧ (T b2).2 ≤ 3584) : XR sc d 166 16 [o0, o1, o2, o3, o4] [.long l0, xw y1, .ref b2] (T, z, xv V, J, R) = XR sc d 166 24 [o0, o1, o2, o3, o4] [] (T, z, xv V, (xup2 J b2 y1.toNat l0), R) :=
  (sw_lastore f_166_16 g1 g2).trans (st_goto (t := 24) f_166_17 ⟨by decide, rfl⟩)
theorem bL_match_24 {o0 o1 o2 o3 o4 : Option Value} : XR sc d 166 24 [o0, o1, o2, o3, o4] [] (T, z, xv V, J, R) = some (.inl (some (xw 0)), (T, z, xv V, J, R)) :=
  (sw_iconst f_166_24).trans (sw_ireturn f_166_25 mr_166)
theorem eL_part {x1 x2 : Int} {a0 a3 : Nat} : X sc (d + 1) 167 [.ref a0, xw x1, xw x2, .ref a3] (T, z, xv V, J, R) = XR sc d 167 0 [some (.ref a0), some (xw x1), some (xw x2), some (.ref a3), none] [] (T, z, xv V, J, R) :=
  (X_eq ⟨jl_167, by rw [mn_167]; rfl, rfl, by rw [lm_167]; exact Nat.le_of_ble_eq_true rfl⟩).trans (by unfold xent; rw [lm_167]; rfl)
theorem bL_part_0 {o4 : Option Value} {x1 x2 : Int} {a3 a0 : Nat} (g1 : T a0 = (7, 0)) : XR sc d 167 0 [some (.ref a0), some (xw x1), some (xw x2), some (.ref a3), o4] [] (T, z, xv V, J, R) = xret 167 (XR sc d 167) 5 8 [some (.ref a0), some (xw x1), some (xw x2), some (.ref a3), o4] [xw 0, .ref a3] (X sc d 57 [.ref a0, xw x1, xw x2] (T, z, xv V, J, R)) :=
  (st_aload_n f_167_0 rfl).trans ((sw_iconst f_167_1).trans ((st_aload_n f_167_2 rfl).trans ((sw_iload_n f_167_3 rfl).trans ((sw_iload_n f_167_4 rfl).trans (st_callV' f_167_5 h_167_42 mn_57 rfl rfl rfl rfl mo_57 g1 rfl)))))
theorem bL_part_8 {o0 o1 o2 o3 o4 : Option Value} {y0 y1 : Int} {b2 : Nat} (g1 : T b2 = (34, (T b2).2)) (g2 : (0 : Int) ≤ y1 ∧ y1 < ((T b2).2 : Int) ∧ (T b2).2 ≤ 3584) : XR sc d 167 8 [o0, o1, o2, o3, o4] [xw y0, xw y1, .ref b2] (T, z, xv V, J, R) = XR sc d 167 21 [o0, o1, o2, o3, o4] [] (T, z, xv V, (xup2 J b2 y1.toNat (jI y0)), R) :=
  (sw_i2l f_167_8).trans ((sw_lastore f_167_9 g1 g2).trans (st_goto (t := 21) f_167_10 ⟨by decide, rfl⟩))
theorem bL_part_21 {o0 o1 o2 o3 o4 : Option Value} : XR sc d 167 21 [o0, o1, o2, o3, o4] [] (T, z, xv V, J, R) = some (.inl (some (xw 0)), (T, z, xv V, J, R)) :=
  (sw_iconst f_167_21).trans (sw_ireturn f_167_22 mr_167)
theorem eL_buckle {x1 x2 x3 x4 : Int} {a0 a5 : Nat} : X sc (d + 1) 168 [.ref a0, xw x1, xw x2, xw x3, xw x4, .ref a5] (T, z, xv V, J, R) = XR sc d 168 0 [some (.ref a0), some (xw x1), some (xw x2), some (xw x3), some (xw x4), some (.ref a5), none] [] (T, z, xv V, J, R) :=
  (X_eq ⟨jl_168, by rw [mn_168]; rfl, rfl, by rw [lm_168]; exact Nat.le_of_ble_eq_true rfl⟩).trans (by unfold xent; rw [lm_168]; rfl)
theorem bL_buckle_0 {o6 : Option Value} {x1 x2 x3 x4 : Int} {a5 a0 : Nat} (g1 : T a0 = (7, 0)) : XR sc d 168 0 [some (.ref a0), some (xw x1), some (xw x2), some (xw x3), some (xw x4), some (.ref a5), o6] [] (T, z, xv V, J, R) = xret 168 (XR sc d 168) 9 12 [some (.ref a0), some (xw x1), some (xw x2), some (xw x3), some (xw x4), some (.ref a5), o6] [xw 0, .ref a5] (X sc d 58 [.ref a0, xw x1, xw x2, xw x3, xw x4] (T, z, xv V, J, R)) :=
  (st_aload f_168_0 rfl).trans ((sw_iconst f_168_2).trans ((st_aload_n f_168_3 rfl).trans ((sw_iload_n f_168_4 rfl).trans ((sw_iload_n f_168_5 rfl).trans ((sw_iload_n f_168_6 rfl).trans ((sw_iload f_168_7 rfl).trans (st_callV' f_168_9 h_168_45 mn_58 rfl rfl rfl rfl mo_58 g1 rfl)))))))
theorem bL_buckle_12 {o0 o1 o2 o3 o4 o5 o6 : Option Value} {y0 y1 : Int} {b2 : Nat} (g1 : T b2 = (34, (T b2).2)) (g2 : (0 : Int) ≤ y1 ∧ y1 < ((T b2).2 : Int) ∧ (T b2).2 ≤ 3584) : XR sc d 168 12 [o0, o1, o2, o3, o4, o5, o6] [xw y0, xw y1, .ref b2] (T, z, xv V, J, R) = XR sc d 168 29 [o0, o1, o2, o3, o4, o5, o6] [] (T, z, xv V, (xup2 J b2 y1.toNat (jI y0)), R) :=
  (sw_i2l f_168_12).trans ((sw_lastore f_168_13 g1 g2).trans (st_goto (t := 29) f_168_14 ⟨by decide, rfl⟩))
theorem bL_buckle_29 {o0 o1 o2 o3 o4 o5 o6 : Option Value} : XR sc d 168 29 [o0, o1, o2, o3, o4, o5, o6] [] (T, z, xv V, J, R) = some (.inl (some (xw 0)), (T, z, xv V, J, R)) :=
  (sw_iconst f_168_29).trans (sw_ireturn f_168_30 mr_168)
theorem eL_unbuckle {x1 : Int} {a0 a2 : Nat} : X sc (d + 1) 169 [.ref a0, xw x1, .ref a2] (T, z, xv V, J, R) = XR sc d 169 0 [some (.ref a0), some (xw x1), some (.ref a2), none] [] (T, z, xv V, J, R) :=
  (X_eq ⟨jl_169, by rw [mn_169]; rfl, rfl, by rw [lm_169]; exact Nat.le_of_ble_eq_true rfl⟩).trans (by unfold xent; rw [lm_169]; rfl)
theorem bL_unbuckle_0 {o3 : Option Value} {x1 : Int} {a2 a0 : Nat} (g1 : T a0 = (7, 0)) : XR sc d 169 0 [some (.ref a0), some (xw x1), some (.ref a2), o3] [] (T, z, xv V, J, R) = xret 169 (XR sc d 169) 4 7 [some (.ref a0), some (xw x1), some (.ref a2), o3] [xw 0, .ref a2] (X sc d 59 [.ref a0, xw x1] (T, z, xv V, J, R)) :=
  (st_aload_n f_169_0 rfl).trans ((sw_iconst f_169_1).trans ((st_aload_n f_169_2 rfl).trans ((sw_iload_n f_169_3 rfl).trans (st_callV' f_169_4 h_169_49 mn_59 rfl rfl rfl rfl mo_59 g1 rfl))))
theorem bL_unbuckle_7 {o0 o1 o2 o3 : Option Value} {y0 y1 : Int} {b2 : Nat} (g1 : T b2 = (34, (T b2).2)) (g2 : (0 : Int) ≤ y1 ∧ y1 < ((T b2).2 : Int) ∧ (T b2).2 ≤ 3584) : XR sc d 169 7 [o0, o1, o2, o3] [xw y0, xw y1, .ref b2] (T, z, xv V, J, R) = XR sc d 169 18 [o0, o1, o2, o3] [] (T, z, xv V, (xup2 J b2 y1.toNat (jI y0)), R) :=
  (sw_i2l f_169_7).trans ((sw_lastore f_169_8 g1 g2).trans (st_goto (t := 18) f_169_9 ⟨by decide, rfl⟩))
theorem bL_unbuckle_18 {o0 o1 o2 o3 : Option Value} : XR sc d 169 18 [o0, o1, o2, o3] [] (T, z, xv V, J, R) = some (.inl (some (xw 0)), (T, z, xv V, J, R)) :=
  (sw_iconst f_169_18).trans (sw_ireturn f_169_19 mr_169)
theorem eL_bears {x1 x2 x3 x4 : Int} {a0 a5 : Nat} : X sc (d + 1) 170 [.ref a0, xw x1, xw x2, xw x3, xw x4, .ref a5] (T, z, xv V, J, R) = XR sc d 170 0 [some (.ref a0), some (xw x1), some (xw x2), some (xw x3), some (xw x4), some (.ref a5), none] [] (T, z, xv V, J, R) :=
  (X_eq ⟨jl_170, by rw [mn_170]; rfl, rfl, by rw [lm_170]; exact Nat.le_of_ble_eq_true rfl⟩).trans (by unfold xent; rw [lm_170]; rfl)
theorem bL_bears_0 {o6 : Option Value} {x1 x2 x3 x4 : Int} {a5 a0 : Nat} (g1 : T a0 = (7, 0)) : XR sc d 170 0 [some (.ref a0), some (xw x1), some (xw x2), some (xw x3), some (xw x4), some (.ref a5), o6] [] (T, z, xv V, J, R) = xret 170 (XR sc d 170) 9 12 [some (.ref a0), some (xw x1), some (xw x2), some (xw x3), some (xw x4), some (.ref a5), o6] [xw 0, .ref a5] (X sc d 60 [.ref a0, xw x1, xw x2, xw x3, xw x4] (T, z, xv V, J, R)) :=
  (st_aload f_170_0 rfl).trans ((sw_iconst f_170_2).trans ((st_aload_n f_170_3 rfl).trans ((sw_iload_n f_170_4 rfl).trans ((sw_iload_n f_170_5 rfl).trans ((sw_iload_n f_170_6 rfl).trans ((sw_iload f_170_7 rfl).trans (st_callV' f_170_9 h_170_52 mn_60 rfl rfl rfl rfl mo_60 g1 rfl)))))))
theorem bL_bears_12 {o0 o1 o2 o3 o4 o5 o6 : Option Value} {y0 y1 : Int} {b2 : Nat} (g1 : T b2 = (34, (T b2).2)) (g2 : (0 : Int) ≤ y1 ∧ y1 < ((T b2).2 : Int) ∧ (T b2).2 ≤ 3584) : XR sc d 170 12 [o0, o1, o2, o3, o4, o5, o6] [xw y0, xw y1, .ref b2] (T, z, xv V, J, R) = XR sc d 170 25 [o0, o1, o2, o3, o4, o5, o6] [] (T, z, xv V, (xup2 J b2 y1.toNat (jI y0)), R) :=
  (sw_i2l f_170_12).trans ((sw_lastore f_170_13 g1 g2).trans (st_goto (t := 25) f_170_14 ⟨by decide, rfl⟩))
theorem bL_bears_25 {o0 o1 o2 o3 o4 o5 o6 : Option Value} : XR sc d 170 25 [o0, o1, o2, o3, o4, o5, o6] [] (T, z, xv V, J, R) = some (.inl (some (xw 0)), (T, z, xv V, J, R)) :=
  (sw_iconst f_170_25).trans (sw_ireturn f_170_26 mr_170)
theorem eL_way {x1 x2 x3 : Int} {a0 a4 : Nat} : X sc (d + 1) 171 [.ref a0, xw x1, xw x2, xw x3, .ref a4] (T, z, xv V, J, R) = XR sc d 171 0 [some (.ref a0), some (xw x1), some (xw x2), some (xw x3), some (.ref a4), none] [] (T, z, xv V, J, R) :=
  (X_eq ⟨jl_171, by rw [mn_171]; rfl, rfl, by rw [lm_171]; exact Nat.le_of_ble_eq_true rfl⟩).trans (by unfold xent; rw [lm_171]; rfl)
theorem bL_way_0 {o5 : Option Value} {x1 x2 x3 : Int} {a4 a0 : Nat} (g1 : T a0 = (7, 0)) : XR sc d 171 0 [some (.ref a0), some (xw x1), some (xw x2), some (xw x3), some (.ref a4), o5] [] (T, z, xv V, J, R) = xret 171 (XR sc d 171) 7 10 [some (.ref a0), some (xw x1), some (xw x2), some (xw x3), some (.ref a4), o5] [xw 0, .ref a4] (X sc d 61 [.ref a0, xw x1, xw x2, xw x3] (T, z, xv V, J, R)) :=
  (st_aload f_171_0 rfl).trans ((sw_iconst f_171_2).trans ((st_aload_n f_171_3 rfl).trans ((sw_iload_n f_171_4 rfl).trans ((sw_iload_n f_171_5 rfl).trans ((sw_iload_n f_171_6 rfl).trans (st_callV' f_171_7 h_171_55 mn_61 rfl rfl rfl rfl mo_61 g1 rfl))))))
theorem bL_way_10 {o0 o1 o2 o3 o4 o5 : Option Value} {y0 y1 : Int} {b2 : Nat} (g1 : T b2 = (34, (T b2).2)) (g2 : (0 : Int) ≤ y1 ∧ y1 < ((T b2).2 : Int) ∧ (T b2).2 ≤ 3584) : XR sc d 171 10 [o0, o1, o2, o3, o4, o5] [xw y0, xw y1, .ref b2] (T, z, xv V, J, R) = XR sc d 171 23 [o0, o1, o2, o3, o4, o5] [] (T, z, xv V, (xup2 J b2 y1.toNat (jI y0)), R) :=
  (sw_i2l f_171_10).trans ((sw_lastore f_171_11 g1 g2).trans (st_goto (t := 23) f_171_12 ⟨by decide, rfl⟩))
theorem bL_way_23 {o0 o1 o2 o3 o4 o5 : Option Value} : XR sc d 171 23 [o0, o1, o2, o3, o4, o5] [] (T, z, xv V, J, R) = some (.inl (some (xw 0)), (T, z, xv V, J, R)) :=
  (sw_iconst f_171_23).trans (sw_ireturn f_171_24 mr_171)
theorem eL_pull {x1 x2 x3 : Int} {a0 a4 : Nat} : X sc (d + 1) 172 [.ref a0, xw x1, xw x2, xw x3, .ref a4] (T, z, xv V, J, R) = XR sc d 172 0 [some (.ref a0), some (xw x1), some (xw x2), some (xw x3), some (.ref a4), none] [] (T, z, xv V, J, R) :=
  (X_eq ⟨jl_172, by rw [mn_172]; rfl, rfl, by rw [lm_172]; exact Nat.le_of_ble_eq_true rfl⟩).trans (by unfold xent; rw [lm_172]; rfl)
theorem bL_pull_0 {o5 : Option Value} {x1 x2 x3 : Int} {a4 a0 : Nat} (g1 : T a0 = (7, 0)) : XR sc d 172 0 [some (.ref a0), some (xw x1), some (xw x2), some (xw x3), some (.ref a4), o5] [] (T, z, xv V, J, R) = xret 172 (XR sc d 172) 7 10 [some (.ref a0), some (xw x1), some (xw x2), some (xw x3), some (.ref a4), o5] [xw 0, .ref a4] (X sc d 62 [.ref a0, xw x1, xw x2, xw x3] (T, z, xv V, J, R)) :=
  (st_aload f_172_0 rfl).trans ((sw_iconst f_172_2).trans ((st_aload_n f_172_3 rfl).trans ((sw_iload_n f_172_4 rfl).trans ((sw_iload_n f_172_5 rfl).trans ((sw_iload_n f_172_6 rfl).trans (st_callV' f_172_7 h_172_58 mn_62 rfl rfl rfl rfl mo_62 g1 rfl))))))
theorem bL_pull_10 {o0 o1 o2 o3 o4 o5 : Option Value} {y0 y1 : Int} {b2 : Nat} (g1 : T b2 = (34, (T b2).2)) (g2 : (0 : Int) ≤ y1 ∧ y1 < ((T b2).2 : Int) ∧ (T b2).2 ≤ 3584) : XR sc d 172 10 [o0, o1, o2, o3, o4, o5] [xw y0, xw y1, .ref b2] (T, z, xv V, J, R) = XR sc d 172 27 [o0, o1, o2, o3, o4, o5] [] (T, z, xv V, (xup2 J b2 y1.toNat (jI y0)), R) :=
  (sw_i2l f_172_10).trans ((sw_lastore f_172_11 g1 g2).trans (st_goto (t := 27) f_172_12 ⟨by decide, rfl⟩))
theorem bL_pull_27 {o0 o1 o2 o3 o4 o5 : Option Value} : XR sc d 172 27 [o0, o1, o2, o3, o4, o5] [] (T, z, xv V, J, R) = some (.inl (some (xw 0)), (T, z, xv V, J, R)) :=
  (sw_iconst f_172_27).trans (sw_ireturn f_172_28 mr_172)
theorem eL_holds {x1 x2 : Int} {a0 a3 : Nat} : X sc (d + 1) 173 [.ref a0, xw x1, xw x2, .ref a3] (T, z, xv V, J, R) = XR sc d 173 0 [some (.ref a0), some (xw x1), some (xw x2), some (.ref a3), none] [] (T, z, xv V, J, R) :=
  (X_eq ⟨jl_173, by rw [mn_173]; rfl, rfl, by rw [lm_173]; exact Nat.le_of_ble_eq_true rfl⟩).trans (by unfold xent; rw [lm_173]; rfl)
theorem bL_holds_0 {o4 : Option Value} {x1 x2 : Int} {a3 a0 : Nat} (g1 : T a0 = (7, 0)) : XR sc d 173 0 [some (.ref a0), some (xw x1), some (xw x2), some (.ref a3), o4] [] (T, z, xv V, J, R) = xret 173 (XR sc d 173) 5 8 [some (.ref a0), some (xw x1), some (xw x2), some (.ref a3), o4] [xw 0, .ref a3] (X sc d 63 [.ref a0, xw x1, xw x2] (T, z, xv V, J, R)) :=
  (st_aload_n f_173_0 rfl).trans ((sw_iconst f_173_1).trans ((st_aload_n f_173_2 rfl).trans ((sw_iload_n f_173_3 rfl).trans ((sw_iload_n f_173_4 rfl).trans (st_callV' f_173_5 h_173_61 mn_63 rfl rfl rfl rfl mo_63 g1 rfl)))))
theorem bL_holds_8 {o0 o1 o2 o3 o4 : Option Value} {y0 y1 : Int} {b2 : Nat} (g1 : T b2 = (34, (T b2).2)) (g2 : (0 : Int) ≤ y1 ∧ y1 < ((T b2).2 : Int) ∧ (T b2).2 ≤ 3584) : XR sc d 173 8 [o0, o1, o2, o3, o4] [xw y0, xw y1, .ref b2] (T, z, xv V, J, R) = XR sc d 173 21 [o0, o1, o2, o3, o4] [] (T, z, xv V, (xup2 J b2 y1.toNat (jI y0)), R) :=
  (sw_i2l f_173_8).trans ((sw_lastore f_173_9 g1 g2).trans (st_goto (t := 21) f_173_10 ⟨by decide, rfl⟩))
theorem bL_holds_21 {o0 o1 o2 o3 o4 : Option Value} : XR sc d 173 21 [o0, o1, o2, o3, o4] [] (T, z, xv V, J, R) = some (.inl (some (xw 0)), (T, z, xv V, J, R)) :=
  (sw_iconst f_173_21).trans (sw_ireturn f_173_22 mr_173)
theorem eL_oil {x1 : Int} {a0 a2 : Nat} : X sc (d + 1) 174 [.ref a0, xw x1, .ref a2] (T, z, xv V, J, R) = XR sc d 174 0 [some (.ref a0), some (xw x1), some (.ref a2), none] [] (T, z, xv V, J, R) :=
  (X_eq ⟨jl_174, by rw [mn_174]; rfl, rfl, by rw [lm_174]; exact Nat.le_of_ble_eq_true rfl⟩).trans (by unfold xent; rw [lm_174]; rfl)
theorem bL_oil_0 {o3 : Option Value} {x1 : Int} {a2 a0 : Nat} (g1 : T a0 = (7, 0)) : XR sc d 174 0 [some (.ref a0), some (xw x1), some (.ref a2), o3] [] (T, z, xv V, J, R) = xret 174 (XR sc d 174) 4 7 [some (.ref a0), some (xw x1), some (.ref a2), o3] [xw 0, .ref a2] (X sc d 64 [.ref a0, xw x1] (T, z, xv V, J, R)) :=
  (st_aload_n f_174_0 rfl).trans ((sw_iconst f_174_1).trans ((st_aload_n f_174_2 rfl).trans ((sw_iload_n f_174_3 rfl).trans (st_callV' f_174_4 h_174_64 mn_64 rfl rfl rfl rfl mo_64 g1 rfl))))
theorem bL_oil_7 {o0 o1 o2 o3 : Option Value} {y0 y1 : Int} {b2 : Nat} (g1 : T b2 = (34, (T b2).2)) (g2 : (0 : Int) ≤ y1 ∧ y1 < ((T b2).2 : Int) ∧ (T b2).2 ≤ 3584) : XR sc d 174 7 [o0, o1, o2, o3] [xw y0, xw y1, .ref b2] (T, z, xv V, J, R) = XR sc d 174 15 [o0, o1, o2, o3] [] (T, z, xv V, (xup2 J b2 y1.toNat (jI y0)), R) :=
  (sw_i2l f_174_7).trans ((sw_lastore f_174_8 g1 g2).trans (st_goto (t := 15) f_174_9 ⟨by decide, rfl⟩))
theorem bL_oil_15 {o0 o1 o2 o3 : Option Value} : XR sc d 174 15 [o0, o1, o2, o3] [] (T, z, xv V, J, R) = some (.inl (some (xw 0)), (T, z, xv V, J, R)) :=
  (sw_iconst f_174_15).trans (sw_ireturn f_174_16 mr_174)
theorem eL_sew {x1 x2 x3 x4 : Int} {a0 a5 : Nat} : X sc (d + 1) 175 [.ref a0, xw x1, xw x2, xw x3, xw x4, .ref a5] (T, z, xv V, J, R) = XR sc d 175 0 [some (.ref a0), some (xw x1), some (xw x2), some (xw x3), some (xw x4), some (.ref a5), none] [] (T, z, xv V, J, R) :=
  (X_eq ⟨jl_175, by rw [mn_175]; rfl, rfl, by rw [lm_175]; exact Nat.le_of_ble_eq_true rfl⟩).trans (by unfold xent; rw [lm_175]; rfl)
theorem bL_sew_0 {o6 : Option Value} {x1 x2 x3 x4 : Int} {a5 a0 : Nat} (g1 : T a0 = (7, 0)) : XR sc d 175 0 [some (.ref a0), some (xw x1), some (xw x2), some (xw x3), some (xw x4), some (.ref a5), o6] [] (T, z, xv V, J, R) = xret 175 (XR sc d 175) 9 12 [some (.ref a0), some (xw x1), some (xw x2), some (xw x3), some (xw x4), some (.ref a5), o6] [xw 0, .ref a5] (X sc d 65 [.ref a0, xw x1, xw x2, xw x3, xw x4] (T, z, xv V, J, R)) :=
  (st_aload f_175_0 rfl).trans ((sw_iconst f_175_2).trans ((st_aload_n f_175_3 rfl).trans ((sw_iload_n f_175_4 rfl).trans ((sw_iload_n f_175_5 rfl).trans ((sw_iload_n f_175_6 rfl).trans ((sw_iload f_175_7 rfl).trans (st_callV' f_175_9 h_175_67 mn_65 rfl rfl rfl rfl mo_65 g1 rfl)))))))
theorem bL_sew_12 {o0 o1 o2 o3 o4 o5 o6 : Option Value} {y0 y1 : Int} {b2 : Nat} (g1 : T b2 = (34, (T b2).2)) (g2 : (0 : Int) ≤ y1 ∧ y1 < ((T b2).2 : Int) ∧ (T b2).2 ≤ 3584) : XR sc d 175 12 [o0, o1, o2, o3, o4, o5, o6] [xw y0, xw y1, .ref b2] (T, z, xv V, J, R) = XR sc d 175 29 [o0, o1, o2, o3, o4, o5, o6] [] (T, z, xv V, (xup2 J b2 y1.toNat (jI y0)), R) :=
  (sw_i2l f_175_12).trans ((sw_lastore f_175_13 g1 g2).trans (st_goto (t := 29) f_175_14 ⟨by decide, rfl⟩))
theorem bL_sew_29 {o0 o1 o2 o3 o4 o5 o6 : Option Value} : XR sc d 175 29 [o0, o1, o2, o3, o4, o5, o6] [] (T, z, xv V, J, R) = some (.inl (some (xw 0)), (T, z, xv V, J, R)) :=
  (sw_iconst f_175_29).trans (sw_ireturn f_175_30 mr_175)
theorem eL_back {x1 x2 x3 : Int} {a0 a4 : Nat} : X sc (d + 1) 176 [.ref a0, xw x1, xw x2, xw x3, .ref a4] (T, z, xv V, J, R) = XR sc d 176 0 [some (.ref a0), some (xw x1), some (xw x2), some (xw x3), some (.ref a4), none] [] (T, z, xv V, J, R) :=
  (X_eq ⟨jl_176, by rw [mn_176]; rfl, rfl, by rw [lm_176]; exact Nat.le_of_ble_eq_true rfl⟩).trans (by unfold xent; rw [lm_176]; rfl)
theorem bL_back_0 {o5 : Option Value} {x1 x2 x3 : Int} {a4 a0 : Nat} (g1 : T a0 = (7, 0)) : XR sc d 176 0 [some (.ref a0), some (xw x1), some (xw x2), some (xw x3), some (.ref a4), o5] [] (T, z, xv V, J, R) = xret 176 (XR sc d 176) 7 10 [some (.ref a0), some (xw x1), some (xw x2), some (xw x3), some (.ref a4), o5] [xw 0, .ref a4] (X sc d 66 [.ref a0, xw x1, xw x2, xw x3] (T, z, xv V, J, R)) :=
  (st_aload f_176_0 rfl).trans ((sw_iconst f_176_2).trans ((st_aload_n f_176_3 rfl).trans ((sw_iload_n f_176_4 rfl).trans ((sw_iload_n f_176_5 rfl).trans ((sw_iload_n f_176_6 rfl).trans (st_callV' f_176_7 h_176_70 mn_66 rfl rfl rfl rfl mo_66 g1 rfl))))))
theorem bL_back_10 {o0 o1 o2 o3 o4 o5 : Option Value} {y0 y1 : Int} {b2 : Nat} (g1 : T b2 = (34, (T b2).2)) (g2 : (0 : Int) ≤ y1 ∧ y1 < ((T b2).2 : Int) ∧ (T b2).2 ≤ 3584) : XR sc d 176 10 [o0, o1, o2, o3, o4, o5] [xw y0, xw y1, .ref b2] (T, z, xv V, J, R) = XR sc d 176 23 [o0, o1, o2, o3, o4, o5] [] (T, z, xv V, (xup2 J b2 y1.toNat (jI y0)), R) :=
  (sw_i2l f_176_10).trans ((sw_lastore f_176_11 g1 g2).trans (st_goto (t := 23) f_176_12 ⟨by decide, rfl⟩))
theorem bL_back_23 {o0 o1 o2 o3 o4 o5 : Option Value} : XR sc d 176 23 [o0, o1, o2, o3, o4, o5] [] (T, z, xv V, J, R) = some (.inl (some (xw 0)), (T, z, xv V, J, R)) :=
  (sw_iconst f_176_23).trans (sw_ireturn f_176_24 mr_176)
theorem eL_tree {x1 x2 x3 : Int} {a0 a4 : Nat} : X sc (d + 1) 177 [.ref a0, xw x1, xw x2, xw x3, .ref a4] (T, z, xv V, J, R) = XR sc d 177 0 [some (.ref a0), some (xw x1), some (xw x2), some (xw x3), some (.ref a4), none] [] (T, z, xv V, J, R) :=
  (X_eq ⟨jl_177, by rw [mn_177]; rfl, rfl, by rw [lm_177]; exact Nat.le_of_ble_eq_true rfl⟩).trans (by unfold xent; rw [lm_177]; rfl)
theorem bL_tree_0 {o5 : Option Value} {x1 x2 x3 : Int} {a4 a0 : Nat} (g1 : T a0 = (7, 0)) : XR sc d 177 0 [some (.ref a0), some (xw x1), some (xw x2), some (xw x3), some (.ref a4), o5] [] (T, z, xv V, J, R) = xret 177 (XR sc d 177) 7 10 [some (.ref a0), some (xw x1), some (xw x2), some (xw x3), some (.ref a4), o5] [xw 0, .ref a4] (X sc d 67 [.ref a0, xw x1, xw x2, xw x3] (T, z, xv V, J, R)) :=
  (st_aload f_177_0 rfl).trans ((sw_iconst f_177_2).trans ((st_aload_n f_177_3 rfl).trans ((sw_iload_n f_177_4 rfl).trans ((sw_iload_n f_177_5 rfl).trans ((sw_iload_n f_177_6 rfl).trans (st_callV' f_177_7 h_177_73 mn_67 rfl rfl rfl rfl mo_67 g1 rfl))))))
theorem bL_tree_10 {o0 o1 o2 o3 o4 o5 : Option Value} {y0 y1 : Int} {b2 : Nat} (g1 : T b2 = (34, (T b2).2)) (g2 : (0 : Int) ≤ y1 ∧ y1 < ((T b2).2 : Int) ∧ (T b2).2 ≤ 3584) : XR sc d 177 10 [o0, o1, o2, o3, o4, o5] [xw y0, xw y1, .ref b2] (T, z, xv V, J, R) = XR sc d 177 23 [o0, o1, o2, o3, o4, o5] [] (T, z, xv V, (xup2 J b2 y1.toNat (jI y0)), R) :=
  (sw_i2l f_177_10).trans ((sw_lastore f_177_11 g1 g2).trans (st_goto (t := 23) f_177_12 ⟨by decide, rfl⟩))
theorem bL_tree_23 {o0 o1 o2 o3 o4 o5 : Option Value} : XR sc d 177 23 [o0, o1, o2, o3, o4, o5] [] (T, z, xv V, J, R) = some (.inl (some (xw 0)), (T, z, xv V, J, R)) :=
  (sw_iconst f_177_23).trans (sw_ireturn f_177_24 mr_177)
theorem eL_flock {x1 x2 x3 : Int} {a0 a4 : Nat} : X sc (d + 1) 178 [.ref a0, xw x1, xw x2, xw x3, .ref a4] (T, z, xv V, J, R) = XR sc d 178 0 [some (.ref a0), some (xw x1), some (xw x2), some (xw x3), some (.ref a4), none] [] (T, z, xv V, J, R) :=
  (X_eq ⟨jl_178, by rw [mn_178]; rfl, rfl, by rw [lm_178]; exact Nat.le_of_ble_eq_true rfl⟩).trans (by unfold xent; rw [lm_178]; rfl)
theorem bL_flock_0 {o5 : Option Value} {x1 x2 x3 : Int} {a4 a0 : Nat} (g1 : T a0 = (7, 0)) : XR sc d 178 0 [some (.ref a0), some (xw x1), some (xw x2), some (xw x3), some (.ref a4), o5] [] (T, z, xv V, J, R) = xret 178 (XR sc d 178) 7 10 [some (.ref a0), some (xw x1), some (xw x2), some (xw x3), some (.ref a4), o5] [xw 0, .ref a4] (X sc d 68 [.ref a0, xw x1, xw x2, xw x3] (T, z, xv V, J, R)) :=
  (st_aload f_178_0 rfl).trans ((sw_iconst f_178_2).trans ((st_aload_n f_178_3 rfl).trans ((sw_iload_n f_178_4 rfl).trans ((sw_iload_n f_178_5 rfl).trans ((sw_iload_n f_178_6 rfl).trans (st_callV' f_178_7 h_178_76 mn_68 rfl rfl rfl rfl mo_68 g1 rfl))))))
theorem bL_flock_10 {o0 o1 o2 o3 o4 o5 : Option Value} {y0 y1 : Int} {b2 : Nat} (g1 : T b2 = (34, (T b2).2)) (g2 : (0 : Int) ≤ y1 ∧ y1 < ((T b2).2 : Int) ∧ (T b2).2 ≤ 3584) : XR sc d 178 10 [o0, o1, o2, o3, o4, o5] [xw y0, xw y1, .ref b2] (T, z, xv V, J, R) = XR sc d 178 23 [o0, o1, o2, o3, o4, o5] [] (T, z, xv V, (xup2 J b2 y1.toNat (jI y0)), R) :=
  (sw_i2l f_178_10).trans ((sw_lastore f_178_11 g1 g2).trans (st_goto (t := 23) f_178_12 ⟨by decide, rfl⟩))
theorem bL_flock_23 {o0 o1 o2 o3 o4 o5 : Option Value} : XR sc d 178 23 [o0, o1, o2, o3, o4, o5] [] (T, z, xv V, J, R) = some (.inl (some (xw 0)), (T, z, xv V, J, R)) :=
  (sw_iconst f_178_23).trans (sw_ireturn f_178_24 mr_178)
theorem eL_sinks {x1 x2 x3 : Int} {a0 a4 : Nat} : X sc (d + 1) 179 [.ref a0, xw x1, xw x2, xw x3, .ref a4] (T, z, xv V, J, R) = XR sc d 179 0 [some (.ref a0), some (xw x1), some (xw x2), some (xw x3), some (.ref a4), none] [] (T, z, xv V, J, R) :=
  (X_eq ⟨jl_179, by rw [mn_179]; rfl, rfl, by rw [lm_179]; exact Nat.le_of_ble_eq_true rfl⟩).trans (by unfold xent; rw [lm_179]; rfl)
theorem bL_sinks_0 {o5 : Option Value} {x1 x2 x3 : Int} {a4 a0 : Nat} (g1 : T a0 = (7, 0)) : XR sc d 179 0 [some (.ref a0), some (xw x1), some (xw x2), some (xw x3), some (.ref a4), o5] [] (T, z, xv V, J, R) = xret 179 (XR sc d 179) 7 10 [some (.ref a0), some (xw x1), some (xw x2), some (xw x3), some (.ref a4), o5] [xw 0, .ref a4] (X sc d 69 [.ref a0, xw x1, xw x2, xw x3] (T, z, xv V, J, R)) :=
  (st_aload f_179_0 rfl).trans ((sw_iconst f_179_2).trans ((st_aload_n f_179_3 rfl).trans ((sw_iload_n f_179_4 rfl).trans ((sw_iload_n f_179_5 rfl).trans ((sw_iload_n f_179_6 rfl).trans (st_callV' f_179_7 h_179_79 mn_69 rfl rfl rfl rfl mo_69 g1 rfl))))))
theorem bL_sinks_10 {o0 o1 o2 o3 o4 o5 : Option Value} {y0 y1 : Int} {b2 : Nat} (g1 : T b2 = (34, (T b2).2)) (g2 : (0 : Int) ≤ y1 ∧ y1 < ((T b2).2 : Int) ∧ (T b2).2 ≤ 3584) : XR sc d 179 10 [o0, o1, o2, o3, o4, o5] [xw y0, xw y1, .ref b2] (T, z, xv V, J, R) = XR sc d 179 23 [o0, o1, o2, o3, o4, o5] [] (T, z, xv V, (xup2 J b2 y1.toNat (jI y0)), R) :=
  (sw_i2l f_179_10).trans ((sw_lastore f_179_11 g1 g2).trans (st_goto (t := 23) f_179_12 ⟨by decide, rfl⟩))
theorem bL_sinks_23 {o0 o1 o2 o3 o4 o5 : Option Value} : XR sc d 179 23 [o0, o1, o2, o3, o4, o5] [] (T, z, xv V, J, R) = some (.inl (some (xw 0)), (T, z, xv V, J, R)) :=
  (sw_iconst f_179_23).trans (sw_ireturn f_179_24 mr_179)
theorem eL_sinksAnew {x1 x2 x3 : Int} {a0 a4 : Nat} : X sc (d + 1) 180 [.ref a0, xw x1, xw x2, xw x3, .ref a4] (T, z, xv V, J, R) = XR sc d 180 0 [some (.ref a0), some (xw x1), some (xw x2), some (xw x3), some (.ref a4), none] [] (T, z, xv V, J, R) :=
  (X_eq ⟨jl_180, by rw [mn_180]; rfl, rfl, by rw [lm_180]; exact Nat.le_of_ble_eq_true rfl⟩).trans (by unfold xent; rw [lm_180]; rfl)
theorem bL_sinksAnew_0 {o5 : Option Value} {x1 x2 x3 : Int} {a4 a0 : Nat} (g1 : T a0 = (7, 0)) : XR sc d 180 0 [some (.ref a0), some (xw x1), some (xw x2), some (xw x3), some (.ref a4), o5] [] (T, z, xv V, J, R) = xret 180 (XR sc d 180) 7 10 [some (.ref a0), some (xw x1), some (xw x2), some (xw x3), some (.ref a4), o5] [xw 0, .ref a4] (X sc d 70 [.ref a0, xw x1, xw x2, xw x3] (T, z, xv V, J, R)) :=
  (st_aload f_180_0 rfl).trans ((sw_iconst f_180_2).trans ((st_aload_n f_180_3 rfl).trans ((sw_iload_n f_180_4 rfl).trans ((sw_iload_n f_180_5 rfl).trans ((sw_iload_n f_180_6 rfl).trans (st_callV' f_180_7 h_180_82 mn_70 rfl rfl rfl rfl mo_70 g1 rfl))))))
theorem bL_sinksAnew_10 {o0 o1 o2 o3 o4 o5 : Option Value} {y0 y1 : Int} {b2 : Nat} (g1 : T b2 = (34, (T b2).2)) (g2 : (0 : Int) ≤ y1 ∧ y1 < ((T b2).2 : Int) ∧ (T b2).2 ≤ 3584) : XR sc d 180 10 [o0, o1, o2, o3, o4, o5] [xw y0, xw y1, .ref b2] (T, z, xv V, J, R) = XR sc d 180 23 [o0, o1, o2, o3, o4, o5] [] (T, z, xv V, (xup2 J b2 y1.toNat (jI y0)), R) :=
  (sw_i2l f_180_10).trans ((sw_lastore f_180_11 g1 g2).trans (st_goto (t := 23) f_180_12 ⟨by decide, rfl⟩))
theorem bL_sinksAnew_23 {o0 o1 o2 o3 o4 o5 : Option Value} : XR sc d 180 23 [o0, o1, o2, o3, o4, o5] [] (T, z, xv V, J, R) = some (.inl (some (xw 0)), (T, z, xv V, J, R)) :=
  (sw_iconst f_180_23).trans (sw_ireturn f_180_24 mr_180)
theorem eL_pressure {x1 x2 x3 x4 : Int} {a0 a5 : Nat} : X sc (d + 1) 181 [.ref a0, xw x1, xw x2, xw x3, xw x4, .ref a5] (T, z, xv V, J, R) = XR sc d 181 0 [some (.ref a0), some (xw x1), some (xw x2), some (xw x3), some (xw x4), some (.ref a5), none] [] (T, z, xv V, J, R) :=
  (X_eq ⟨jl_181, by rw [mn_181]; rfl, rfl, by rw [lm_181]; exact Nat.le_of_ble_eq_true rfl⟩).trans (by unfold xent; rw [lm_181]; rfl)
theorem bL_pressure_0 {o6 : Option Value} {x1 x2 x3 x4 : Int} {a5 a0 : Nat} (g1 : T a0 = (7, 0)) : XR sc d 181 0 [some (.ref a0), some (xw x1), some (xw x2), some (xw x3), some (xw x4), some (.ref a5), o6] [] (T, z, xv V, J, R) = xret 181 (XR sc d 181) 9 12 [some (.ref a0), some (xw x1), some (xw x2), some (xw x3), some (xw x4), some (.ref a5), o6] [xw 0, .ref a5] (X sc d 71 [.ref a0, xw x1, xw x2, xw x3, xw x4] (T, z, xv V, J, R)) :=
  (st_aload f_181_0 rfl).trans ((sw_iconst f_181_2).trans ((st_aload_n f_181_3 rfl).trans ((sw_iload_n f_181_4 rfl).trans ((sw_iload_n f_181_5 rfl).trans ((sw_iload_n f_181_6 rfl).trans ((sw_iload f_181_7 rfl).trans (st_callV' f_181_9 h_181_85 mn_71 rfl rfl rfl rfl mo_71 g1 rfl)))))))
theorem bL_pressure_12 {o0 o1 o2 o3 o4 o5 o6 : Option Value} {y0 y1 : Int} {b2 : Nat} (g1 : T b2 = (34, (T b2).2)) (g2 : (0 : Int) ≤ y1 ∧ y1 < ((T b2).2 : Int) ∧ (T b2).2 ≤ 3584) : XR sc d 181 12 [o0, o1, o2, o3, o4, o5, o6] [xw y0, xw y1, .ref b2] (T, z, xv V, J, R) = XR sc d 181 25 [o0, o1, o2, o3, o4, o5, o6] [] (T, z, xv V, (xup2 J b2 y1.toNat (jI y0)), R) :=
  (sw_i2l f_181_12).trans ((sw_lastore f_181_13 g1 g2).trans (st_goto (t := 25) f_181_14 ⟨by decide, rfl⟩))
theorem bL_pressure_25 {o0 o1 o2 o3 o4 o5 o6 : Option Value} : XR sc d 181 25 [o0, o1, o2, o3, o4, o5, o6] [] (T, z, xv V, J, R) = some (.inl (some (xw 0)), (T, z, xv V, J, R)) :=
  (sw_iconst f_181_25).trans (sw_ireturn f_181_26 mr_181)
theorem eL_bridges {x1 x2 x3 : Int} {a0 a4 : Nat} : X sc (d + 1) 182 [.ref a0, xw x1, xw x2, xw x3, .ref a4] (T, z, xv V, J, R) = XR sc d 182 0 [some (.ref a0), some (xw x1), some (xw x2), some (xw x3), some (.ref a4), none] [] (T, z, xv V, J, R) :=
  (X_eq ⟨jl_182, by rw [mn_182]; rfl, rfl, by rw [lm_182]; exact Nat.le_of_ble_eq_true rfl⟩).trans (by unfold xent; rw [lm_182]; rfl)
theorem bL_bridges_0 {o5 : Option Value} {x1 x2 x3 : Int} {a4 a0 : Nat} (g1 : T a0 = (7, 0)) : XR sc d 182 0 [some (.ref a0), some (xw x1), some (xw x2), some (xw x3), some (.ref a4), o5] [] (T, z, xv V, J, R) = xret 182 (XR sc d 182) 7 10 [some (.ref a0), some (xw x1), some (xw x2), some (xw x3), some (.ref a4), o5] [xw 0, .ref a4] (X sc d 72 [.ref a0, xw x1, xw x2, xw x3] (T, z, xv V, J, R)) :=
  (st_aload f_182_0 rfl).trans ((sw_iconst f_182_2).trans ((st_aload_n f_182_3 rfl).trans ((sw_iload_n f_182_4 rfl).trans ((sw_iload_n f_182_5 rfl).trans ((sw_iload_n f_182_6 rfl).trans (st_callV' f_182_7 h_182_88 mn_72 rfl rfl rfl rfl mo_72 g1 rfl))))))
theorem bL_bridges_10 {o0 o1 o2 o3 o4 o5 : Option Value} {y0 y1 : Int} {b2 : Nat} (g1 : T b2 = (34, (T b2).2)) (g2 : (0 : Int) ≤ y1 ∧ y1 < ((T b2).2 : Int) ∧ (T b2).2 ≤ 3584) : XR sc d 182 10 [o0, o1, o2, o3, o4, o5] [xw y0, xw y1, .ref b2] (T, z, xv V, J, R) = XR sc d 182 23 [o0, o1, o2, o3, o4, o5] [] (T, z, xv V, (xup2 J b2 y1.toNat (jI y0)), R) :=
  (sw_i2l f_182_10).trans ((sw_lastore f_182_11 g1 g2).trans (st_goto (t := 23) f_182_12 ⟨by decide, rfl⟩))
theorem bL_bridges_23 {o0 o1 o2 o3 o4 o5 : Option Value} : XR sc d 182 23 [o0, o1, o2, o3, o4, o5] [] (T, z, xv V, J, R) = some (.inl (some (xw 0)), (T, z, xv V, J, R)) :=
  (sw_iconst f_182_23).trans (sw_ireturn f_182_24 mr_182)
theorem eL_ride {x1 x2 x3 x4 x5 x6 : Int} {a0 a7 : Nat} : X sc (d + 1) 183 [.ref a0, xw x1, xw x2, xw x3, xw x4, xw x5, xw x6, .ref a7] (T, z, xv V, J, R) = XR sc d 183 0 [some (.ref a0), some (xw x1), some (xw x2), some (xw x3), some (xw x4), some (xw x5), some (xw x6), some (.ref a7), none] [] (T, z, xv V, J, R) :=
  (X_eq ⟨jl_183, by rw [mn_183]; rfl, rfl, by rw [lm_183]; exact Nat.le_of_ble_eq_true rfl⟩).trans (by unfold xent; rw [lm_183]; rfl)
theorem bL_ride_0 {o8 : Option Value} {x1 x2 x3 x4 x5 x6 : Int} {a7 a0 : Nat} (g1 : T a0 = (7, 0)) : XR sc d 183 0 [some (.ref a0), some (xw x1), some (xw x2), some (xw x3), some (xw x4), some (xw x5), some (xw x6), some (.ref a7), o8] [] (T, z, xv V, J, R) = xret 183 (XR sc d 183) 13 16 [some (.ref a0), some (xw x1), some (xw x2), some (xw x3), some (xw x4), some (xw x5), some (xw x6), some (.ref a7), o8] [xw 0, .ref a7] (X sc d 73 [.ref a0, xw x1, xw x2, xw x3, xw x4, xw x5, xw x6] (T, z, xv V, J, R)) :=
  (st_aload f_183_0 rfl).trans ((sw_iconst f_183_2).trans ((st_aload_n f_183_3 rfl).trans ((sw_iload_n f_183_4 rfl).trans ((sw_iload_n f_183_5 rfl).trans ((sw_iload_n f_183_6 rfl).trans ((sw_iload f_183_7 rfl).trans ((sw_iload f_183_9 rfl).trans ((sw_iload f_183_11 rfl).trans (st_callV' f_183_13 h_183_91 mn_73 rfl rfl rfl rfl mo_73 g1 rfl)))))))))
theorem bL_ride_16 {o0 o1 o2 o3 o4 o5 o6 o7 o8 : Option Value} {y0 y1 : Int} {b2 : Nat} (g1 : T b2 = (34, (T b2).2)) (g2 : (0 : Int) ≤ y1 ∧ y1 < ((T b2).2 : Int) ∧ (T b2).2 ≤ 3584) : XR sc d 183 16 [o0, o1, o2, o3, o4, o5, o6, o7, o8] [xw y0, xw y1, .ref b2] (T, z, xv V, J, R) = XR sc d 183 33 [o0, o1, o2, o3, o4, o5, o6, o7, o8] [] (T, z, xv V, (xup2 J b2 y1.toNat (jI y0)), R) :=
  (sw_i2l f_183_16).trans ((sw_lastore f_183_17 g1 g2).trans (st_goto (t := 33) f_183_18 ⟨by decide, rfl⟩))
theorem bL_ride_33 {o0 o1 o2 o3 o4 o5 o6 o7 o8 : Option Value} : XR sc d 183 33 [o0, o1, o2, o3, o4, o5, o6, o7, o8] [] (T, z, xv V, J, R) = some (.inl (some (xw 0)), (T, z, xv V, J, R)) :=
  (sw_iconst f_183_33).trans (sw_ireturn f_183_34 mr_183)
theorem eL_rest {x1 : Int} {a0 a2 : Nat} : X sc (d + 1) 184 [.ref a0, xw x1, .ref a2] (T, z, xv V, J, R) = XR sc d 184 0 [some (.ref a0), some (xw x1), some (.ref a2), none] [] (T, z, xv V, J, R) :=
  (X_eq ⟨jl_184, by rw [mn_184]; rfl, rfl, by rw [lm_184]; exact Nat.le_of_ble_eq_true rfl⟩).trans (by unfold xent; rw [lm_184]; rfl)
theorem bL_rest_0 {o3 : Option Value} {x1 : Int} {a2 a0 : Nat} (g1 : T a0 = (7, 0)) : XR sc d 184 0 [some (.ref a0), some (xw x1), some (.ref a2), o3] [] (T, z, xv V, J, R) = xret 184 (XR sc d 184) 4 7 [some (.ref a0), some (xw x1), some (.ref a2), o3] [xw 0, .ref a2] (X sc d 74 [.ref a0, xw x1] (T, z, xv V, J, R)) :=
  (st_aload_n f_184_0 rfl).trans ((sw_iconst f_184_1).trans ((st_aload_n f_184_2 rfl).trans ((sw_iload_n f_184_3 rfl).trans (st_callV' f_184_4 h_184_95 mn_74 rfl rfl rfl rfl mo_74 g1 rfl))))
theorem bL_rest_7 {o0 o1 o2 o3 : Option Value} {y0 y1 : Int} {b2 : Nat} (g1 : T b2 = (34, (T b2).2)) (g2 : (0 : Int) ≤ y1 ∧ y1 < ((T b2).2 : Int) ∧ (T b2).2 ≤ 3584) : XR sc d 184 7 [o0, o1, o2, o3] [xw y0, xw y1, .ref b2] (T, z, xv V, J, R) = XR sc d 184 15 [o0, o1, o2, o3] [] (T, z, xv V, (xup2 J b2 y1.toNat (jI y0)), R) :=
  (sw_i2l f_184_7).trans ((sw_lastore f_184_8 g1 g2).trans (st_goto (t := 15) f_184_9 ⟨by decide, rfl⟩))
theorem bL_rest_15 {o0 o1 o2 o3 : Option Value} : XR sc d 184 15 [o0, o1, o2, o3] [] (T, z, xv V, J, R) = some (.inl (some (xw 0)), (T, z, xv V, J, R)) :=
  (sw_iconst f_184_15).trans (sw_ireturn f_184_16 mr_184)
theorem eL_sore {x1 x2 x3 : Int} {a0 a4 : Nat} : X sc (d + 1) 185 [.ref a0, xw x1, xw x2, xw x3, .ref a4] (T, z, xv V, J, R) = XR sc d 185 0 [some (.ref a0), some (xw x1), some (xw x2), some (xw x3), some (.ref a4), none] [] (T, z, xv V, J, R) :=
  (X_eq ⟨jl_185, by rw [mn_185]; rfl, rfl, by rw [lm_185]; exact Nat.le_of_ble_eq_true rfl⟩).trans (by unfold xent; rw [lm_185]; rfl)
theorem bL_sore_0 {o5 : Option Value} {x1 x2 x3 : Int} {a4 a0 : Nat} (g1 : T a0 = (7, 0)) : XR sc d 185 0 [some (.ref a0), some (xw x1), some (xw x2), some (xw x3), some (.ref a4), o5] [] (T, z, xv V, J, R) = xret 185 (XR sc d 185) 7 10 [some (.ref a0), some (xw x1), some (xw x2), some (xw x3), some (.ref a4), o5] [xw 0, .ref a4] (X sc d 75 [.ref a0, xw x1, xw x2, xw x3] (T, z, xv V, J, R)) :=
  (st_aload f_185_0 rfl).trans ((sw_iconst f_185_2).trans ((st_aload_n f_185_3 rfl).trans ((sw_iload_n f_185_4 rfl).trans ((sw_iload_n f_185_5 rfl).trans ((sw_iload_n f_185_6 rfl).trans (st_callV' f_185_7 h_185_98 mn_75 rfl rfl rfl rfl mo_75 g1 rfl))))))
theorem bL_sore_10 {o0 o1 o2 o3 o4 o5 : Option Value} {y0 y1 : Int} {b2 : Nat} (g1 : T b2 = (34, (T b2).2)) (g2 : (0 : Int) ≤ y1 ∧ y1 < ((T b2).2 : Int) ∧ (T b2).2 ≤ 3584) : XR sc d 185 10 [o0, o1, o2, o3, o4, o5] [xw y0, xw y1, .ref b2] (T, z, xv V, J, R) = XR sc d 185 23 [o0, o1, o2, o3, o4, o5] [] (T, z, xv V, (xup2 J b2 y1.toNat (jI y0)), R) :=
  (sw_i2l f_185_10).trans ((sw_lastore f_185_11 g1 g2).trans (st_goto (t := 23) f_185_12 ⟨by decide, rfl⟩))
theorem bL_sore_23 {o0 o1 o2 o3 o4 o5 : Option Value} : XR sc d 185 23 [o0, o1, o2, o3, o4, o5] [] (T, z, xv V, J, R) = some (.inl (some (xw 0)), (T, z, xv V, J, R)) :=
  (sw_iconst f_185_23).trans (sw_ireturn f_185_24 mr_185)
theorem eL_share {x1 x2 x3 x4 : Int} {a0 a5 : Nat} : X sc (d + 1) 186 [.ref a0, xw x1, xw x2, xw x3, xw x4, .ref a5] (T, z, xv V, J, R) = XR sc d 186 0 [some (.ref a0), some (xw x1), some (xw x2), some (xw x3), some (xw x4), some (.ref a5), none] [] (T, z, xv V, J, R) :=
  (X_eq ⟨jl_186, by rw [mn_186]; rfl, rfl, by rw [lm_186]; exact Nat.le_of_ble_eq_true rfl⟩).trans (by unfold xent; rw [lm_186]; rfl)
theorem bL_share_0 {o6 : Option Value} {x1 x2 x3 x4 : Int} {a5 a0 : Nat} (g1 : T a0 = (7, 0)) : XR sc d 186 0 [some (.ref a0), some (xw x1), some (xw x2), some (xw x3), some (xw x4), some (.ref a5), o6] [] (T, z, xv V, J, R) = xret 186 (XR sc d 186) 9 12 [some (.ref a0), some (xw x1), some (xw x2), some (xw x3), some (xw x4), some (.ref a5), o6] [xw 0, .ref a5] (X sc d 76 [.ref a0, xw x1, xw x2, xw x3, xw x4] (T, z, xv V, J, R)) :=
  (st_aload f_186_0 rfl).trans ((sw_iconst f_186_2).trans ((st_aload_n f_186_3 rfl).trans ((sw_iload_n f_186_4 rfl).trans ((sw_iload_n f_186_5 rfl).trans ((sw_iload_n f_186_6 rfl).trans ((sw_iload f_186_7 rfl).trans (st_callV' f_186_9 h_186_101 mn_76 rfl rfl rfl rfl mo_76 g1 rfl)))))))
theorem bL_share_12 {o0 o1 o2 o3 o4 o5 o6 : Option Value} {y0 y1 : Int} {b2 : Nat} (g1 : T b2 = (34, (T b2).2)) (g2 : (0 : Int) ≤ y1 ∧ y1 < ((T b2).2 : Int) ∧ (T b2).2 ≤ 3584) : XR sc d 186 12 [o0, o1, o2, o3, o4, o5, o6] [xw y0, xw y1, .ref b2] (T, z, xv V, J, R) = XR sc d 186 25 [o0, o1, o2, o3, o4, o5, o6] [] (T, z, xv V, (xup2 J b2 y1.toNat (jI y0)), R) :=
  (sw_i2l f_186_12).trans ((sw_lastore f_186_13 g1 g2).trans (st_goto (t := 25) f_186_14 ⟨by decide, rfl⟩))
theorem bL_share_25 {o0 o1 o2 o3 o4 o5 o6 : Option Value} : XR sc d 186 25 [o0, o1, o2, o3, o4, o5, o6] [] (T, z, xv V, J, R) = some (.inl (some (xw 0)), (T, z, xv V, J, R)) :=
  (sw_iconst f_186_25).trans (sw_ireturn f_186_26 mr_186)
theorem eL_cause {x1 x2 x3 : Int} {a0 a4 : Nat} : X sc (d + 1) 187 [.ref a0, xw x1, xw x2, xw x3, .ref a4] (T, z, xv V, J, R) = XR sc d 187 0 [some (.ref a0), some (xw x1), some (xw x2), some (xw x3), some (.ref a4), none] [] (T, z, xv V, J, R) :=
  (X_eq ⟨jl_187, by rw [mn_187]; rfl, rfl, by rw [lm_187]; exact Nat.le_of_ble_eq_true rfl⟩).trans (by unfold xent; rw [lm_187]; rfl)
theorem bL_cause_0 {o5 : Option Value} {x1 x2 x3 : Int} {a4 a0 : Nat} (g1 : T a0 = (7, 0)) : XR sc d 187 0 [some (.ref a0), some (xw x1), some (xw x2), some (xw x3), some (.ref a4), o5] [] (T, z, xv V, J, R) = xret 187 (XR sc d 187) 7 10 [some (.ref a0), some (xw x1), some (xw x2), some (xw x3), some (.ref a4), o5] [xw 0, .ref a4] (X sc d 77 [.ref a0, xw x1, xw x2, xw x3] (T, z, xv V, J, R)) :=
  (st_aload f_187_0 rfl).trans ((sw_iconst f_187_2).trans ((st_aload_n f_187_3 rfl).trans ((sw_iload_n f_187_4 rfl).trans ((sw_iload_n f_187_5 rfl).trans ((sw_iload_n f_187_6 rfl).trans (st_callV' f_187_7 h_187_104 mn_77 rfl rfl rfl rfl mo_77 g1 rfl))))))
theorem bL_cause_10 {o0 o1 o2 o3 o4 o5 : Option Value} {y0 y1 : Int} {b2 : Nat} (g1 : T b2 = (34, (T b2).2)) (g2 : (0 : Int) ≤ y1 ∧ y1 < ((T b2).2 : Int) ∧ (T b2).2 ≤ 3584) : XR sc d 187 10 [o0, o1, o2, o3, o4, o5] [xw y0, xw y1, .ref b2] (T, z, xv V, J, R) = XR sc d 187 23 [o0, o1, o2, o3, o4, o5] [] (T, z, xv V, (xup2 J b2 y1.toNat (jI y0)), R) :=
  (sw_i2l f_187_10).trans ((sw_lastore f_187_11 g1 g2).trans (st_goto (t := 23) f_187_12 ⟨by decide, rfl⟩))
theorem bL_cause_23 {o0 o1 o2 o3 o4 o5 : Option Value} : XR sc d 187 23 [o0, o1, o2, o3, o4, o5] [] (T, z, xv V, J, R) = some (.inl (some (xw 0)), (T, z, xv V, J, R)) :=
  (sw_iconst f_187_23).trans (sw_ireturn f_187_24 mr_187)
theorem eL_law : X sc (d + 1) 188 [.retAddr 0] (T, z, xv V, J, R) = XR sc d 188 0 [some (.retAddr 0), none, none, none, none, none, none] [] (T, z, xv V, J, R) :=
  (X_eq ⟨jl_188, by rw [mn_188]; rfl, rfl, by rw [lm_188]; exact Nat.le_of_ble_eq_true rfl⟩).trans (by unfold xent; rw [lm_188]; rfl)
theorem bL_law_0 {o0 o1 o2 o3 o4 o5 o6 : Option Value} (g1 : (va_up T z.1 (7, 0)) z.1 = (7, 0)) : XR sc d 188 0 [o0, o1, o2, o3, o4, o5, o6] [] (T, z, xv V, J, R) = xret 188 (XR sc d 188) 4 7 [o0, o1, o2, o3, o4, o5, o6] [.ref z.1] (X sc d 49 [.ref z.1] ((va_up T z.1 (7, 0)), (z.1 + 1, z.2 + 9), xv (va_up V z.1 (fun _ => 0)), (va_up J z.1 (fun _ => 0)), (va_up R z.1 (fun _ => none)))) :=
  (sw_new f_188_0 q_188_8 (by decide)).trans ((st_dup f_188_3 rfl).trans (st_callI' f_188_4 h_188_107 mn_49 rfl rfl rfl rfl mo_49 g1 rfl))
theorem bL_law_7 {o0 o1 o2 o3 o4 o5 o6 : Option Value} {b0 : Nat} (g1 : (va_up T z.1 (8, 0)) z.1 = (8, 0)) : XR sc d 188 7 [o0, o1, o2, o3, o4, o5, o6] [.ref b0] (T, z, xv V, J, R) = xret 188 (XR sc d 188) 12 15 [o0, some (.ref b0), o2, o3, o4, o5, o6] [.ref z.1] (X sc d 91 [.ref z.1] ((va_up T z.1 (8, 0)), (z.1 + 1, z.2 + 29), xv (va_up V z.1 (fun _ => 0)), (va_up J z.1 (fun _ => 0)), (va_up R z.1 (fun _ => none)))) :=
  (st_astore_n (L' := [o0, some (.ref b0), o2, o3, o4, o5, o6]) f_188_7 (Nat.le_of_ble_eq_true rfl) rfl).trans ((sw_new f_188_8 q_188_108 (by decide)).trans ((st_dup f_188_11 rfl).trans (st_callI' f_188_12 h_188_110 mn_91 rfl rfl rfl rfl mo_91 g1 rfl)))
theorem bL_law_15 {o0 o1 o2 o3 o4 o5 o6 : Option Value} {b0 : Nat} : XR sc d 188 15 [o0, o1, o2, o3, o4, o5, o6] [.ref b0] (T, z, xv V, J, R) = XR sc d 188 23 [o0, o1, some (.ref b0), some (.ref z.1), some (xw 0), o5, o6] [] ((va_up T z.1 (34, 1)), (z.1 + 1, z.2 + 1), xv (va_up V z.1 (fun _ => 0)), (va_up J z.1 (fun _ => 0)), (va_up R z.1 (fun _ => none))) :=
  (st_astore_n (L' := [o0, o1, some (.ref b0), o3, o4, o5, o6]) f_188_15 (Nat.le_of_ble_eq_true rfl) rfl).trans ((sw_iconst f_188_16).trans ((sw_newJ 1 f_188_17 ⟨rfl, by decide⟩).trans ((st_astore_n (L' := [o0, o1, some (.ref b0), some (.ref z.1), o4, o5, o6]) f_188_19 (Nat.le_of_ble_eq_true rfl) rfl).trans ((sw_iconst f_188_20).trans (sw_istore (L' := [o0, o1, some (.ref b0), some (.ref z.1), some (xw 0), o5, o6]) f_188_21 (Nat.le_of_ble_eq_true rfl) rfl)))))
theorem bL_law_23 {o1 o2 o3 o5 o6 : Option Value} {x4 : Int} (g1 : -2147483648 ≤ x4 ∧ x4 ≤ 2147483647) (g2 : -2147483648 ≤ ((sc.1 : Int) - 7) ∧ ((sc.1 : Int) - 7) ≤ 2147483647) : XR sc d 188 23 [some (.retAddr 0), o1, o2, o3, some (xw x4), o5, o6] [] (T, z, xv V, J, R) = if ((sc.1 : Int) - 7) < x4 then XR sc d 188 2474 [some (.retAddr 0), o1, o2, o3, some (xw x4), o5, o6] [] (T, z, xv V, J, R) else XR sc d 188 33 [some (.retAddr 0), o1, o2, o3, some (xw x4), o5, o6] [] (T, z, xv V, J, R) :=
  (sw_iload f_188_23 rfl).trans ((st_aload_nS f_188_25 rfl).trans ((sw_alenS f_188_26).trans ((sw_bipush f_188_27 c8_7).trans ((sw_isub f_188_29).trans (sw_icmp_gt (t := 2474) f_188_30 ⟨by decide, rfl⟩ g1 g2)))))
theorem bL_law_33 {o1 o2 o3 o5 o6 : Option Value} {x4 : Int} (g1 : (0 : Int) ≤ x4 ∧ x4 < (sc.1 : Int) ∧ sc.1 ≤ 3584) : XR sc d 188 33 [some (.retAddr 0), o1, o2, o3, some (xw x4), o5, o6] [] (T, z, xv V, J, R) = XR sc d 188 40 [some (.retAddr 0), o1, o2, o3, some (xw x4), o5, o6] [xw (iAnd ((sc.2 x4.toNat).toInt) 31)] (T, z, xv V, J, R) :=
  (st_aload_nS f_188_33 rfl).trans ((sw_iload f_188_34 rfl).trans ((sw_ialoadS f_188_36 g1).trans ((sw_bipush f_188_37 c8_31).trans (sw_iand f_188_39))))
theorem bL_law_172 {o2 o5 o6 : Option Value} {x4 : Int} {a1 a3 : Nat} (g1 : (0 : Int) ≤ (x4 + 1) ∧ (x4 + 1) < (sc.1 : Int) ∧ sc.1 ≤ 3584) : XR sc d 188 172 [some (.retAddr 0), some (.ref a1), o2, some (.ref a3), some (xw x4), o5, o6] [] (T, z, xv V, J, R) = xret 188 (XR sc d 188) 180 183 [some (.retAddr 0), some (.ref a1), o2, some (.ref a3), some (xw x4), o5, o6] [] (X sc d 160 [.ref a1, xw ((sc.2 (x4 + 1).toNat).toInt), .ref a3] (T, z, xv V, J, R)) :=
  (st_aload_n f_188_172 rfl).trans ((st_aload_nS f_188_173 rfl).trans ((sw_iload f_188_174 rfl).trans ((sw_iconst f_188_176).trans ((sw_iadd f_188_177).trans ((sw_ialoadS f_188_178 g1).trans ((st_aload_n f_188_179 rfl).trans (st_callS' f_188_180 h_188_111 mn_160 rfl rfl rfl rfl)))))))
theorem bL_law_183 {o1 o3 o5 o6 : Option Value} {y0 x4 : Int} {a2 : Nat} (g1 : (0 : Int) ≤ (x4 + 1) ∧ (x4 + 1) < (sc.1 : Int) ∧ sc.1 ≤ 3584) (g2 : T a2 = (8, 0)) : XR sc d 188 183 [some (.retAddr 0), o1, some (.ref a2), o3, some (xw x4), o5, o6] [xw y0] (T, z, xv V, J, R) = xret 188 (XR sc d 188) 192 195 [some (.retAddr 0), o1, some (.ref a2), o3, some (xw x4), some (xw y0), o6] [] (X sc d 99 [.ref a2, xw ((sc.2 (x4 + 1).toNat).toInt)] (T, z, xv V, J, R)) :=
  (sw_istore (L' := [some (.retAddr 0), o1, some (.ref a2), o3, some (xw x4), some (xw y0), o6]) f_188_183 (Nat.le_of_ble_eq_true rfl) rfl).trans ((st_aload_n f_188_185 rfl).trans ((st_aload_nS f_188_186 rfl).trans ((sw_iload f_188_187 rfl).trans ((sw_iconst f_188_189).trans ((sw_iadd f_188_190).trans ((sw_ialoadS f_188_191 g1).trans (st_callV' f_188_192 h_188_116 mn_99 rfl rfl rfl rfl mo_99 g2 rfl)))))))
theorem bL_law_195 {o0 o1 o3 o4 o5 o6 : Option Value} {y0 : Int} {a2 : Nat} (g1 : T a2 = (8, 0)) : XR sc d 188 195 [o0, o1, some (.ref a2), o3, o4, o5, o6] [xw y0] (T, z, xv V, J, R) = xret 188 (XR sc d 188) 198 201 [o0, o1, some (.ref a2), o3, o4, o5, some (xw y0)] [] (X sc d 92 [.ref a2] (T, z, xv V, J, R)) :=
  (sw_istore (L' := [o0, o1, some (.ref a2), o3, o4, o5, some (xw y0)]) f_188_195 (Nat.le_of_ble_eq_true rfl) rfl).trans ((st_aload_n f_188_197 rfl).trans (st_callV' f_188_198 h_188_117 mn_92 rfl rfl rfl rfl mo_92 g1 rfl))
theorem bL_law_201 {o0 o1 o2 o3 o4 o6 : Option Value} {x5 y0 : Int} (g1 : -2147483648 ≤ y0 ∧ y0 ≤ 2147483647) (g2 : -2147483648 ≤ x5 ∧ x5 ≤ 2147483647) : XR sc d 188 201 [o0, o1, o2, o3, o4, some (xw x5), o6] [xw y0] (T, z, xv V, J, R) = if y0 = x5 then XR sc d 188 208 [o0, o1, o2, o3, o4, some (xw x5), o6] [] (T, z, xv V, J, R) else XR sc d 188 206 [o0, o1, o2, o3, o4, some (xw x5), o6] [] (T, z, xv V, J, R) :=
  (sw_iload f_188_201 rfl).trans (sw_icmp_eq (t := 208) f_188_203 ⟨by decide, rfl⟩ g1 g2)
theorem bL_law_206 {o0 o1 o2 o3 o4 o5 o6 : Option Value} : XR sc d 188 206 [o0, o1, o2, o3, o4, o5, o6] [] (T, z, xv V, J, R) = some (.inl (some (xw 0)), (T, z, xv V, J, R)) :=
  (sw_iconst f_188_206).trans (sw_zreturn f_188_207 mr_188 (by decide))
theorem bL_law_208 {o0 o1 o2 o3 o4 o6 : Option Value} {x5 : Int} (g1 : -2147483648 ≤ x5 ∧ x5 ≤ 2147483647) : XR sc d 188 208 [o0, o1, o2, o3, o4, some (xw x5), o6] [] (T, z, xv V, J, R) = if x5 = 0 then XR sc d 188 213 [o0, o1, o2, o3, o4, some (xw x5), o6] [] (T, z, xv V, J, R) else XR sc d 188 225 [o0, o1, o2, o3, o4, some (xw x5), o6] [] (T, z, xv V, J, R) :=
  (sw_iload f_188_208 rfl).trans (sw_if_ne (t := 225) f_188_210 ⟨by decide, rfl⟩ g1)
theorem bL_law_213 {o0 o1 o2 o4 o5 : Option Value} {x6 : Int} {a3 : Nat} (g1 : T a3 = (34, (T a3).2)) (g2 : (0 : Int) ≤ 0 ∧ 0 < ((T a3).2 : Int) ∧ (T a3).2 ≤ 3584) (g3 : -2147483648 ≤ (jCmp (J a3 0) (jI x6)) ∧ (jCmp (J a3 0) (jI x6)) ≤ 2147483647) : XR sc d 188 213 [o0, o1, o2, some (.ref a3), o4, o5, some (xw x6)] [] (T, z, xv V, J, R) = if (jCmp (J a3 0) (jI x6)) = 0 then XR sc d 188 225 [o0, o1, o2, some (.ref a3), o4, o5, some (xw x6)] [] (T, z, xv V, J, R) else XR sc d 188 223 [o0, o1, o2, some (.ref a3), o4, o5, some (xw x6)] [] (T, z, xv V, J, R) :=
  (st_aload_n f_188_213 rfl).trans ((sw_iconst f_188_214).trans ((sw_laload f_188_215 g1 g2).trans ((sw_iload f_188_216 rfl).trans ((sw_i2l f_188_218).trans ((sw_lcmp f_188_219).trans (sw_if_eq (t := 225) f_188_220 ⟨by decide, rfl⟩ g3))))))
theorem bL_law_223 {o0 o1 o2 o3 o4 o5 o6 : Option Value} : XR sc d 188 223 [o0, o1, o2, o3, o4, o5, o6] [] (T, z, xv V, J, R) = some (.inl (some (xw 0)), (T, z, xv V, J, R)) :=
  (sw_iconst f_188_223).trans (sw_zreturn f_188_224 mr_188 (by decide))
theorem bL_law_225 {o0 o1 o2 o3 o4 o5 o6 : Option Value} : XR sc d 188 225 [o0, o1, o2, o3, o4, o5, o6] [] (T, z, xv V, J, R) = XR sc d 188 2468 [o0, o1, o2, o3, o4, o5, o6] [] (T, z, xv V, J, R) :=
  st_goto (t := 2468) f_188_225 ⟨by decide, rfl⟩
theorem bL_law_228 {o2 o5 o6 : Option Value} {x4 : Int} {a1 a3 : Nat} (g1 : (0 : Int) ≤ (x4 + 1) ∧ (x4 + 1) < (sc.1 : Int) ∧ sc.1 ≤ 3584) (g2 : (0 : Int) ≤ (x4 + 2) ∧ (x4 + 2) < (sc.1 : Int) ∧ sc.1 ≤ 3584) (g3 : (0 : Int) ≤ (x4 + 3) ∧ (x4 + 3) < (sc.1 : Int) ∧ sc.1 ≤ 3584) : XR sc d 188 228 [some (.retAddr 0), some (.ref a1), o2, some (.ref a3), some (xw x4), o5, o6] [] (T, z, xv V, J, R) = xret 188 (XR sc d 188) 248 251 [some (.retAddr 0), some (.ref a1), o2, some (.ref a3), some (xw x4), o5, o6] [] (X sc d 161 [.ref a1, xw ((sc.2 (x4 + 1).toNat).toInt), xw ((sc.2 (x4 + 2).toNat).toInt), xw ((sc.2 (x4 + 3).toNat).toInt), .ref a3] (T, z, xv V, J, R)) :=
  (st_aload_n f_188_228 rfl).trans ((st_aload_nS f_188_229 rfl).trans ((sw_iload f_188_230 rfl).trans ((sw_iconst f_188_232).trans ((sw_iadd f_188_233).trans ((sw_ialoadS f_188_234 g1).trans ((st_aload_nS f_188_235 rfl).trans ((sw_iload f_188_236 rfl).trans ((sw_iconst f_188_238).trans ((sw_iadd f_188_239).trans ((sw_ialoadS f_188_240 g2).trans ((st_aload_nS f_188_241 rfl).trans ((sw_iload f_188_242 rfl).trans ((sw_iconst f_188_244).trans ((sw_iadd f_188_245).trans ((sw_ialoadS f_188_246 g3).trans ((st_aload_n f_188_247 rfl).trans (st_callS' f_188_248 h_188_121 mn_161 rfl rfl rfl rfl)))))))))))))))))
theorem bL_law_251 {o1 o3 o5 o6 : Option Value} {y0 x4 : Int} {a2 : Nat} (g1 : (0 : Int) ≤ (x4 + 1) ∧ (x4 + 1) < (sc.1 : Int) ∧ sc.1 ≤ 3584) (g2 : (0 : Int) ≤ (x4 + 2) ∧ (x4 + 2) < (sc.1 : Int) ∧ sc.1 ≤ 3584) (g3 : (0 : Int) ≤ (x4 + 3) ∧ (x4 + 3) < (sc.1 : Int) ∧ sc.1 ≤ 3584) (g4 : T a2 = (8, 0)) : XR sc d 188 251 [some (.retAddr 0), o1, some (.ref a2), o3, some (xw x4), o5, o6] [xw y0] (T, z, xv V, J, R) = xret 188 (XR sc d 188) 272 275 [some (.retAddr 0), o1, some (.ref a2), o3, some (xw x4), some (xw y0), o6] [] (X sc d 100 [.ref a2, xw ((sc.2 (x4 + 1).toNat).toInt), xw ((sc.2 (x4 + 2).toNat).toInt), xw ((sc.2 (x4 + 3).toNat).toInt)] (T, z, xv V, J, R)) :=
  (sw_istore (L' := [some (.retAddr 0), o1, some (.ref a2), o3, some (xw x4), some (xw y0), o6]) f_188_251 (Nat.le_of_ble_eq_true rfl) rfl).trans ((st_aload_n f_188_253 rfl).trans ((st_aload_nS f_188_254 rfl).trans ((sw_iload f_188_255 rfl).trans ((sw_iconst f_188_257).trans ((sw_iadd f_188_258).trans ((sw_ialoadS f_188_259 g1).trans ((st_aload_nS f_188_260 rfl).trans ((sw_iload f_188_261 rfl).trans ((sw_iconst f_188_263).trans ((sw_iadd f_188_264).trans ((sw_ialoadS f_188_265 g2).trans ((st_aload_nS f_188_266 rfl).trans ((sw_iload f_188_267 rfl).trans ((sw_iconst f_188_269).trans ((sw_iadd f_188_270).trans ((sw_ialoadS f_188_271 g3).trans (st_callV' f_188_272 h_188_124 mn_100 rfl rfl rfl rfl mo_100 g4 rfl)))))))))))))))))
theorem bL_law_275 {o0 o1 o3 o4 o5 o6 : Option Value} {y0 : Int} {a2 : Nat} (g1 : T a2 = (8, 0)) : XR sc d 188 275 [o0, o1, some (.ref a2), o3, o4, o5, o6] [xw y0] (T, z, xv V, J, R) = xret 188 (XR sc d 188) 278 281 [o0, o1, some (.ref a2), o3, o4, o5, some (xw y0)] [] (X sc d 92 [.ref a2] (T, z, xv V, J, R)) :=
  (sw_istore (L' := [o0, o1, some (.ref a2), o3, o4, o5, some (xw y0)]) f_188_275 (Nat.le_of_ble_eq_true rfl) rfl).trans ((st_aload_n f_188_277 rfl).trans (st_callV' f_188_278 h_188_117 mn_92 rfl rfl rfl rfl mo_92 g1 rfl))
theorem bL_law_281 {o0 o1 o2 o3 o4 o6 : Option Value} {x5 y0 : Int} (g1 : -2147483648 ≤ y0 ∧ y0 ≤ 2147483647) (g2 : -2147483648 ≤ x5 ∧ x5 ≤ 2147483647) : XR sc d 188 281 [o0, o1, o2, o3, o4, some (xw x5), o6] [xw y0] (T, z, xv V, J, R) = if y0 = x5 then XR sc d 188 288 [o0, o1, o2, o3, o4, some (xw x5), o6] [] (T, z, xv V, J, R) else XR sc d 188 286 [o0, o1, o2, o3, o4, some (xw x5), o6] [] (T, z, xv V, J, R) :=
  (sw_iload f_188_281 rfl).trans (sw_icmp_eq (t := 288) f_188_283 ⟨by decide, rfl⟩ g1 g2)
theorem bL_law_286 {o0 o1 o2 o3 o4 o5 o6 : Option Value} : XR sc d 188 286 [o0, o1, o2, o3, o4, o5, o6] [] (T, z, xv V, J, R) = some (.inl (some (xw 0)), (T, z, xv V, J, R)) :=
  (sw_iconst f_188_286).trans (sw_zreturn f_188_287 mr_188 (by decide))
theorem bL_law_288 {o0 o1 o2 o3 o4 o6 : Option Value} {x5 : Int} (g1 : -2147483648 ≤ x5 ∧ x5 ≤ 2147483647) : XR sc d 188 288 [o0, o1, o2, o3, o4, some (xw x5), o6] [] (T, z, xv V, J, R) = if x5 = 0 then XR sc d 188 293 [o0, o1, o2, o3, o4, some (xw x5), o6] [] (T, z, xv V, J, R) else XR sc d 188 305 [o0, o1, o2, o3, o4, some (xw x5), o6] [] (T, z, xv V, J, R) :=
  (sw_iload f_188_288 rfl).trans (sw_if_ne (t := 305) f_188_290 ⟨by decide, rfl⟩ g1)
theorem bL_law_293 {o0 o1 o2 o4 o5 : Option Value} {x6 : Int} {a3 : Nat} (g1 : T a3 = (34, (T a3).2)) (g2 : (0 : Int) ≤ 0 ∧ 0 < ((T a3).2 : Int) ∧ (T a3).2 ≤ 3584) (g3 : -2147483648 ≤ (jCmp (J a3 0) (jI x6)) ∧ (jCmp (J a3 0) (jI x6)) ≤ 2147483647) : XR sc d 188 293 [o0, o1, o2, some (.ref a3), o4, o5, some (xw x6)] [] (T, z, xv V, J, R) = if (jCmp (J a3 0) (jI x6)) = 0 then XR sc d 188 305 [o0, o1, o2, some (.ref a3), o4, o5, some (xw x6)] [] (T, z, xv V, J, R) else XR sc d 188 303 [o0, o1, o2, some (.ref a3), o4, o5, some (xw x6)] [] (T, z, xv V, J, R) :=
  (st_aload_n f_188_293 rfl).trans ((sw_iconst f_188_294).trans ((sw_laload f_188_295 g1 g2).trans ((sw_iload f_188_296 rfl).trans ((sw_i2l f_188_298).trans ((sw_lcmp f_188_299).trans (sw_if_eq (t := 305) f_188_300 ⟨by decide, rfl⟩ g3))))))
theorem bL_law_303 {o0 o1 o2 o3 o4 o5 o6 : Option Value} : XR sc d 188 303 [o0, o1, o2, o3, o4, o5, o6] [] (T, z, xv V, J, R) = some (.inl (some (xw 0)), (T, z, xv V, J, R)) :=
  (sw_iconst f_188_303).trans (sw_zreturn f_188_304 mr_188 (by decide))
theorem bL_law_305 {o0 o1 o2 o3 o4 o5 o6 : Option Value} : XR sc d 188 305 [o0, o1, o2, o3, o4, o5, o6] [] (T, z, xv V, J, R) = XR sc d 188 2468 [o0, o1, o2, o3, o4, o5, o6] [] (T, z, xv V, J, R) :=
  st_goto (t := 2468) f_188_305 ⟨by decide, rfl⟩
theorem bL_law_308 {o2 o3 o5 o6 : Option Value} {x4 : Int} {a1 : Nat} (g1 : (0 : Int) ≤ (x4 + 1) ∧ (x4 + 1) < (sc.1 : Int) ∧ sc.1 ≤ 3584) (g2 : (0 : Int) ≤ (x4 + 2) ∧ (x4 + 2) < (sc.1 : Int) ∧ sc.1 ≤ 3584) (g3 : (0 : Int) ≤ (x4 + 3) ∧ (x4 + 3) < (sc.1 : Int) ∧ sc.1 ≤ 3584) (g4 : (0 : Int) ≤ (x4 + 4) ∧ (x4 + 4) < (sc.1 : Int) ∧ sc.1 ≤ 3584) (g5 : (0 : Int) ≤ (x4 + 5) ∧ (x4 + 5) < (sc.1 : Int) ∧ sc.1 ≤ 3584) (g6 : (0 : Int) ≤ (x4 + 6) ∧ (x4 + 6) < (sc.1 : Int) ∧ sc.1 ≤ 3584) (g7 : -2147483648 ≤ ((sc.2 (x4 + 6).toNat).toInt) ∧ ((sc.2 (x4 + 6).toNat).toInt) ≤ 2147483647) : XR sc d 188 308 [some (.retAddr 0), some (.ref a1), o2, o3, some (xw x4), o5, o6] [] (T, z, xv V, J, R) = if ((sc.2 (x4 + 6).toNat).toInt) = 0 then XR sc d 188 353 [some (.retAddr 0), some (.ref a1), o2, o3, some (xw x4), o5, o6] [xw ((sc.2 (x4 + 5).toNat).toInt), xw ((sc.2 (x4 + 4).toNat).toInt), xw ((sc.2 (x4 + 3).toNat).toInt), xw ((sc.2 (x4 + 2).toNat).toInt), xw ((sc.2 (x4 + 1).toNat).toInt), .ref a1] (T, z, xv V, J, R) else XR sc d 188 349 [some (.retAddr 0), some (.ref a1), o2, o3, some (xw x4), o5, o6] [xw ((sc.2 (x4 + 5).toNat).toInt), xw ((sc.2 (x4 + 4).toNat).toInt), xw ((sc.2 (x4 + 3).toNat).toInt), xw ((sc.2 (x4 + 2).toNat).toInt), xw ((sc.2 (x4 + 1).toNat).toInt), .ref a1] (T, z, xv V, J, R) :=
  (st_aload_n f_188_308 rfl).trans ((st_aload_nS f_188_309 rfl).trans ((sw_iload f_188_310 rfl).trans ((sw_iconst f_188_312).trans ((sw_iadd f_188_313).trans ((sw_ialoadS f_188_314 g1).trans ((st_aload_nS f_188_315 rfl).trans ((sw_iload f_188_316 rfl).trans ((sw_iconst f_188_318).trans ((sw_iadd f_188_319).trans ((sw_ialoadS f_188_320 g2).trans ((st_aload_nS f_188_321 rfl).trans ((sw_iload f_188_322 rfl).trans ((sw_iconst f_188_324).trans ((sw_iadd f_188_325).trans ((sw_ialoadS f_188_326 g3).trans ((st_aload_nS f_188_327 rfl).trans ((sw_iload f_188_328 rfl).trans ((sw_iconst f_188_330).trans ((sw_iadd f_188_331).trans ((sw_ialoadS f_188_332 g4).trans ((st_aload_nS f_188_333 rfl).trans ((sw_iload f_188_334 rfl).trans ((sw_iconst f_188_336).trans ((sw_iadd f_188_337).trans ((sw_ialoadS f_188_338 g5).trans ((st_aload_nS f_188_339 rfl).trans ((sw_iload f_188_340 rfl).trans ((sw_bipush f_188_342 c8_6).trans ((sw_iadd f_188_344).trans ((sw_ialoadS f_188_345 g6).trans (sw_if_eq (t := 353) f_188_346 ⟨by decide, rfl⟩ g7)))))))))))))))))))))))))))))))
theorem bL_law_349 {o0 o1 o2 o3 o4 o5 o6 : Option Value} {s0 s1 s2 s3 s4 s5 : Value} : XR sc d 188 349 [o0, o1, o2, o3, o4, o5, o6] [s0, s1, s2, s3, s4, s5] (T, z, xv V, J, R) = XR sc d 188 354 [o0, o1, o2, o3, o4, o5, o6] [xw 1, s0, s1, s2, s3, s4, s5] (T, z, xv V, J, R) :=
  (sw_iconst f_188_349).trans (st_goto (t := 354) f_188_350 ⟨by decide, rfl⟩)
theorem bL_law_353 {o0 o1 o2 o3 o4 o5 o6 : Option Value} {s0 s1 s2 s3 s4 s5 : Value} : XR sc d 188 353 [o0, o1, o2, o3, o4, o5, o6] [s0, s1, s2, s3, s4, s5] (T, z, xv V, J, R) = XR sc d 188 354 [o0, o1, o2, o3, o4, o5, o6] [xw 0, s0, s1, s2, s3, s4, s5] (T, z, xv V, J, R) :=
  sw_iconst f_188_353
theorem bL_law_354 {o0 o1 o2 o4 o5 o6 : Option Value} {y0 y1 y2 y3 y4 y5 : Int} {a3 b6 : Nat} : XR sc d 188 354 [o0, o1, o2, some (.ref a3), o4, o5, o6] [xw y0, xw y1, xw y2, xw y3, xw y4, xw y5, .ref b6] (T, z, xv V, J, R) = xret 188 (XR sc d 188) 355 358 [o0, o1, o2, some (.ref a3), o4, o5, o6] [] (X sc d 162 [.ref b6, xw y5, xw y4, xw y3, xw y2, xw y1, xw y0, .ref a3] (T, z, xv V, J, R)) :=
  (st_aload_n f_188_354 rfl).trans (st_callS' f_188_355 h_188_125 mn_162 rfl rfl rfl rfl)
theorem bL_law_358 {o1 o3 o5 o6 : Option Value} {y0 x4 : Int} {a2 : Nat} (g1 : (0 : Int) ≤ (x4 + 1) ∧ (x4 + 1) < (sc.1 : Int) ∧ sc.1 ≤ 3584) (g2 : (0 : Int) ≤ (x4 + 2) ∧ (x4 + 2) < (sc.1 : Int) ∧ sc.1 ≤ 3584) (g3 : (0 : Int) ≤ (x4 + 3) ∧ (x4 + 3) < (sc.1 : Int) ∧ sc.1 ≤ 3584) (g4 : (0 : Int) ≤ (x4 + 4) ∧ (x4 + 4) < (sc.1 : Int) ∧ sc.1 ≤ 3584) (g5 : (0 : Int) ≤ (x4 + 5) ∧ (x4 + 5) < (sc.1 : Int) ∧ sc.1 ≤ 3584) (g6 : (0 : Int) ≤ (x4 + 6) ∧ (x4 + 6) < (sc.1 : Int) ∧ sc.1 ≤ 3584) (g7 : -2147483648 ≤ ((sc.2 (x4 + 6).toNat).toInt) ∧ ((sc.2 (x4 + 6).toNat).toInt) ≤ 2147483647) : XR sc d 188 358 [some (.retAddr 0), o1, some (.ref a2), o3, some (xw x4), o5, o6] [xw y0] (T, z, xv V, J, R) = if ((sc.2 (x4 + 6).toNat).toInt) = 0 then XR sc d 188 405 [some (.retAddr 0), o1, some (.ref a2), o3, some (xw x4), some (xw y0), o6] [xw ((sc.2 (x4 + 5).toNat).toInt), xw ((sc.2 (x4 + 4).toNat).toInt), xw ((sc.2 (x4 + 3).toNat).toInt), xw ((sc.2 (x4 + 2).toNat).toInt), xw ((sc.2 (x4 + 1).toNat).toInt), .ref a2] (T, z, xv V, J, R) else XR sc d 188 401 [some (.retAddr 0), o1, some (.ref a2), o3, some (xw x4), some (xw y0), o6] [xw ((sc.2 (x4 + 5).toNat).toInt), xw ((sc.2 (x4 + 4).toNat).toInt), xw ((sc.2 (x4 + 3).toNat).toInt), xw ((sc.2 (x4 + 2).toNat).toInt), xw ((sc.2 (x4 + 1).toNat).toInt), .ref a2] (T, z, xv V, J, R) :=
  (sw_istore (L' := [some (.retAddr 0), o1, some (.ref a2), o3, some (xw x4), some (xw y0), o6]) f_188_358 (Nat.le_of_ble_eq_true rfl) rfl).trans ((st_aload_n f_188_360 rfl).trans ((st_aload_nS f_188_361 rfl).trans ((sw_iload f_188_362 rfl).trans ((sw_iconst f_188_364).trans ((sw_iadd f_188_365).trans ((sw_ialoadS f_188_366 g1).trans ((st_aload_nS f_188_367 rfl).trans ((sw_iload f_188_368 rfl).trans ((sw_iconst f_188_370).trans ((sw_iadd f_188_371).trans ((sw_ialoadS f_188_372 g2).trans ((st_aload_nS f_188_373 rfl).trans ((sw_iload f_188_374 rfl).trans ((sw_iconst f_188_376).trans ((sw_iadd f_188_377).trans ((sw_ialoadS f_188_378 g3).trans ((st_aload_nS f_188_379 rfl).trans ((sw_iload f_188_380 rfl).trans ((sw_iconst f_188_382).trans ((sw_iadd f_188_383).trans ((sw_ialoadS f_188_384 g4).trans ((st_aload_nS f_188_385 rfl).trans ((sw_iload f_188_386 rfl).trans ((sw_iconst f_188_388).trans ((sw_iadd f_188_389).trans ((sw_ialoadS f_188_390 g5).trans ((st_aload_nS f_188_391 rfl).trans ((sw_iload f_188_392 rfl).trans ((sw_bipush f_188_394 c8_6).trans ((sw_iadd f_188_396).trans ((sw_ialoadS f_188_397 g6).trans (sw_if_eq (t := 405) f_188_398 ⟨by decide, rfl⟩ g7))))))))))))))))))))))))))))))))
theorem bL_law_401 {o0 o1 o2 o3 o4 o5 o6 : Option Value} {s0 s1 s2 s3 s4 s5 : Value} : XR sc d 188 401 [o0, o1, o2, o3, o4, o5, o6] [s0, s1, s2, s3, s4, s5] (T, z, xv V, J, R) = XR sc d 188 406 [o0, o1, o2, o3, o4, o5, o6] [xw 1, s0, s1, s2, s3, s4, s5] (T, z, xv V, J, R) :=
  (sw_iconst f_188_401).trans (st_goto (t := 406) f_188_402 ⟨by decide, rfl⟩)
theorem bL_law_405 {o0 o1 o2 o3 o4 o5 o6 : Option Value} {s0 s1 s2 s3 s4 s5 : Value} : XR sc d 188 405 [o0, o1, o2, o3, o4, o5, o6] [s0, s1, s2, s3, s4, s5] (T, z, xv V, J, R) = XR sc d 188 406 [o0, o1, o2, o3, o4, o5, o6] [xw 0, s0, s1, s2, s3, s4, s5] (T, z, xv V, J, R) :=
  sw_iconst f_188_405
theorem bL_law_406 {o0 o1 o2 o3 o4 o5 o6 : Option Value} {y0 y1 y2 y3 y4 y5 : Int} {b6 : Nat} (g1 : T b6 = (8, 0)) : XR sc d 188 406 [o0, o1, o2, o3, o4, o5, o6] [xw y0, xw y1, xw y2, xw y3, xw y4, xw y5, .ref b6] (T, z, xv V, J, R) = xret 188 (XR sc d 188) 406 409 [o0, o1, o2, o3, o4, o5, o6] [] (X sc d 104 [.ref b6, xw y5, xw y4, xw y3, xw y2, xw y1, xw y0] (T, z, xv V, J, R)) :=
  st_callV' f_188_406 h_188_128 mn_104 rfl rfl rfl rfl mo_104 g1 rfl
theorem bL_law_409 {o0 o1 o3 o4 o5 o6 : Option Value} {y0 : Int} {a2 : Nat} (g1 : T a2 = (8, 0)) : XR sc d 188 409 [o0, o1, some (.ref a2), o3, o4, o5, o6] [xw y0] (T, z, xv V, J, R) = xret 188 (XR sc d 188) 412 415 [o0, o1, some (.ref a2), o3, o4, o5, some (xw y0)] [] (X sc d 92 [.ref a2] (T, z, xv V, J, R)) :=
  (sw_istore (L' := [o0, o1, some (.ref a2), o3, o4, o5, some (xw y0)]) f_188_409 (Nat.le_of_ble_eq_true rfl) rfl).trans ((st_aload_n f_188_411 rfl).trans (st_callV' f_188_412 h_188_117 mn_92 rfl rfl rfl rfl mo_92 g1 rfl))
theorem bL_law_415 {o0 o1 o2 o3 o4 o6 : Option Value} {x5 y0 : Int} (g1 : -2147483648 ≤ y0 ∧ y0 ≤ 2147483647) (g2 : -2147483648 ≤ x5 ∧ x5 ≤ 2147483647) : XR sc d 188 415 [o0, o1, o2, o3, o4, some (xw x5), o6] [xw y0] (T, z, xv V, J, R) = if y0 = x5 then XR sc d 188 422 [o0, o1, o2, o3, o4, some (xw x5), o6] [] (T, z, xv V, J, R) else XR sc d 188 420 [o0, o1, o2, o3, o4, some (xw x5), o6] [] (T, z, xv V, J, R) :=
  (sw_iload f_188_415 rfl).trans (sw_icmp_eq (t := 422) f_188_417 ⟨by decide, rfl⟩ g1 g2)
theorem bL_law_420 {o0 o1 o2 o3 o4 o5 o6 : Option Value} : XR sc d 188 420 [o0, o1, o2, o3, o4, o5, o6] [] (T, z, xv V, J, R) = some (.inl (some (xw 0)), (T, z, xv V, J, R)) :=
  (sw_iconst f_188_420).trans (sw_zreturn f_188_421 mr_188 (by decide))
theorem bL_law_422 {o0 o1 o2 o3 o4 o6 : Option Value} {x5 : Int} (g1 : -2147483648 ≤ x5 ∧ x5 ≤ 2147483647) : XR sc d 188 422 [o0, o1, o2, o3, o4, some (xw x5), o6] [] (T, z, xv V, J, R) = if x5 = 0 then XR sc d 188 427 [o0, o1, o2, o3, o4, some (xw x5), o6] [] (T, z, xv V, J, R) else XR sc d 188 439 [o0, o1, o2, o3, o4, some (xw x5), o6] [] (T, z, xv V, J, R) :=
  (sw_iload f_188_422 rfl).trans (sw_if_ne (t := 439) f_188_424 ⟨by decide, rfl⟩ g1)
theorem bL_law_427 {o0 o1 o2 o4 o5 : Option Value} {x6 : Int} {a3 : Nat} (g1 : T a3 = (34, (T a3).2)) (g2 : (0 : Int) ≤ 0 ∧ 0 < ((T a3).2 : Int) ∧ (T a3).2 ≤ 3584) (g3 : -2147483648 ≤ (jCmp (J a3 0) (jI x6)) ∧ (jCmp (J a3 0) (jI x6)) ≤ 2147483647) : XR sc d 188 427 [o0, o1, o2, some (.ref a3), o4, o5, some (xw x6)] [] (T, z, xv V, J, R) = if (jCmp (J a3 0) (jI x6)) = 0 then XR sc d 188 439 [o0, o1, o2, some (.ref a3), o4, o5, some (xw x6)] [] (T, z, xv V, J, R) else XR sc d 188 437 [o0, o1, o2, some (.ref a3), o4, o5, some (xw x6)] [] (T, z, xv V, J, R) :=
  (st_aload_n f_188_427 rfl).trans ((sw_iconst f_188_428).trans ((sw_laload f_188_429 g1 g2).trans ((sw_iload f_188_430 rfl).trans ((sw_i2l f_188_432).trans ((sw_lcmp f_188_433).trans (sw_if_eq (t := 439) f_188_434 ⟨by decide, rfl⟩ g3))))))
theorem bL_law_437 {o0 o1 o2 o3 o4 o5 o6 : Option Value} : XR sc d 188 437 [o0, o1, o2, o3, o4, o5, o6] [] (T, z, xv V, J, R) = some (.inl (some (xw 0)), (T, z, xv V, J, R)) :=
  (sw_iconst f_188_437).trans (sw_zreturn f_188_438 mr_188 (by decide))
theorem bL_law_439 {o0 o1 o2 o3 o4 o5 o6 : Option Value} : XR sc d 188 439 [o0, o1, o2, o3, o4, o5, o6] [] (T, z, xv V, J, R) = XR sc d 188 2468 [o0, o1, o2, o3, o4, o5, o6] [] (T, z, xv V, J, R) :=
  st_goto (t := 2468) f_188_439 ⟨by decide, rfl⟩
theorem bL_law_442 {o2 o3 o5 o6 : Option Value} {x4 : Int} {a1 : Nat} (g1 : (0 : Int) ≤ (x4 + 1) ∧ (x4 + 1) < (sc.1 : Int) ∧ sc.1 ≤ 3584) (g2 : (0 : Int) ≤ (x4 + 2) ∧ (x4 + 2) < (sc.1 : Int) ∧ sc.1 ≤ 3584) (g3 : (0 : Int) ≤ (x4 + 3) ∧ (x4 + 3) < (sc.1 : Int) ∧ sc.1 ≤ 3584) (g4 : (0 : Int) ≤ (x4 + 4) ∧ (x4 + 4) < (sc.1 : Int) ∧ sc.1 ≤ 3584) (g5 : -2147483648 ≤ ((sc.2 (x4 + 4).toNat).toInt) ∧ ((sc.2 (x4 + 4).toNat).toInt) ≤ 2147483647) : XR sc d 188 442 [some (.retAddr 0), some (.ref a1), o2, o3, some (xw x4), o5, o6] [] (T, z, xv V, J, R) = if ((sc.2 (x4 + 4).toNat).toInt) = 0 then XR sc d 188 474 [some (.retAddr 0), some (.ref a1), o2, o3, some (xw x4), o5, o6] [xw ((sc.2 (x4 + 3).toNat).toInt), xw ((sc.2 (x4 + 2).toNat).toInt), xw ((sc.2 (x4 + 1).toNat).toInt), .ref a1] (T, z, xv V, J, R) else XR sc d 188 470 [some (.retAddr 0), some (.ref a1), o2, o3, some (xw x4), o5, o6] [xw ((sc.2 (x4 + 3).toNat).toInt), xw ((sc.2 (x4 + 2).toNat).toInt), xw ((sc.2 (x4 + 1).toNat).toInt), .ref a1] (T, z, xv V, J, R) :=
  (st_aload_n f_188_442 rfl).trans ((st_aload_nS f_188_443 rfl).trans ((sw_iload f_188_444 rfl).trans ((sw_iconst f_188_446).trans ((sw_iadd f_188_447).trans ((sw_ialoadS f_188_448 g1).trans ((st_aload_nS f_188_449 rfl).trans ((sw_iload f_188_450 rfl).trans ((sw_iconst f_188_452).trans ((sw_iadd f_188_453).trans ((sw_ialoadS f_188_454 g2).trans ((st_aload_nS f_188_455 rfl).trans ((sw_iload f_188_456 rfl).trans ((sw_iconst f_188_458).trans ((sw_iadd f_188_459).trans ((sw_ialoadS f_188_460 g3).trans ((st_aload_nS f_188_461 rfl).trans ((sw_iload f_188_462 rfl).trans ((sw_iconst f_188_464).trans ((sw_iadd f_188_465).trans ((sw_ialoadS f_188_466 g4).trans (sw_if_eq (t := 474) f_188_467 ⟨by decide, rfl⟩ g5)))))))))))))))))))))
theorem bL_law_470 {o0 o1 o2 o3 o4 o5 o6 : Option Value} {s0 s1 s2 s3 : Value} : XR sc d 188 470 [o0, o1, o2, o3, o4, o5, o6] [s0, s1, s2, s3] (T, z, xv V, J, R) = XR sc d 188 475 [o0, o1, o2, o3, o4, o5, o6] [xw 1, s0, s1, s2, s3] (T, z, xv V, J, R) :=
  (sw_iconst f_188_470).trans (st_goto (t := 475) f_188_471 ⟨by decide, rfl⟩)
theorem bL_law_474 {o0 o1 o2 o3 o4 o5 o6 : Option Value} {s0 s1 s2 s3 : Value} : XR sc d 188 474 [o0, o1, o2, o3, o4, o5, o6] [s0, s1, s2, s3] (T, z, xv V, J, R) = XR sc d 188 475 [o0, o1, o2, o3, o4, o5, o6] [xw 0, s0, s1, s2, s3] (T, z, xv V, J, R) :=
  sw_iconst f_188_474
theorem bL_law_475 {o1 o2 o5 o6 : Option Value} {x4 y0 y1 y2 y3 : Int} {a3 b4 : Nat} (g1 : (0 : Int) ≤ (x4 + 5) ∧ (x4 + 5) < (sc.1 : Int) ∧ sc.1 ≤ 3584) : XR sc d 188 475 [some (.retAddr 0), o1, o2, some (.ref a3), some (xw x4), o5, o6] [xw y0, xw y1, xw y2, xw y3, .ref b4] (T, z, xv V, J, R) = xret 188 (XR sc d 188) 482 485 [some (.retAddr 0), o1, o2, some (.ref a3), some (xw x4), o5, o6] [] (X sc d 163 [.ref b4, xw y3, xw y2, xw y1, xw y0, xw ((sc.2 (x4 + 5).toNat).toInt), .ref a3] (T, z, xv V, J, R)) :=
  (st_aload_nS f_188_475 rfl).trans ((sw_iload f_188_476 rfl).trans ((sw_iconst f_188_478).trans ((sw_iadd f_188_479).trans ((sw_ialoadS f_188_480 g1).trans ((st_aload_n f_188_481 rfl).trans (st_callS' f_188_482 h_188_129 mn_163 rfl rfl rfl rfl))))))
theorem bL_law_485 {o1 o3 o5 o6 : Option Value} {y0 x4 : Int} {a2 : Nat} (g1 : (0 : Int) ≤ (x4 + 1) ∧ (x4 + 1) < (sc.1 : Int) ∧ sc.1 ≤ 3584) (g2 : (0 : Int) ≤ (x4 + 2) ∧ (x4 + 2) < (sc.1 : Int) ∧ sc.1 ≤ 3584) (g3 : (0 : Int) ≤ (x4 + 3) ∧ (x4 + 3) < (sc.1 : Int) ∧ sc.1 ≤ 3584) (g4 : (0 : Int) ≤ (x4 + 4) ∧ (x4 + 4) < (sc.1 : Int) ∧ sc.1 ≤ 3584) (g5 : -2147483648 ≤ ((sc.2 (x4 + 4).toNat).toInt) ∧ ((sc.2 (x4 + 4).toNat).toInt) ≤ 2147483647) : XR sc d 188 485 [some (.retAddr 0), o1, some (.ref a2), o3, some (xw x4), o5, o6] [xw y0] (T, z, xv V, J, R) = if ((sc.2 (x4 + 4).toNat).toInt) = 0 then XR sc d 188 519 [some (.retAddr 0), o1, some (.ref a2), o3, some (xw x4), some (xw y0), o6] [xw ((sc.2 (x4 + 3).toNat).toInt), xw ((sc.2 (x4 + 2).toNat).toInt), xw ((sc.2 (x4 + 1).toNat).toInt), .ref a2] (T, z, xv V, J, R) else XR sc d 188 515 [some (.retAddr 0), o1, some (.ref a2), o3, some (xw x4), some (xw y0), o6] [xw ((sc.2 (x4 + 3).toNat).toInt), xw ((sc.2 (x4 + 2).toNat).toInt), xw ((sc.2 (x4 + 1).toNat).toInt), .ref a2] (T, z, xv V, J, R) :=
  (sw_istore (L' := [some (.retAddr 0), o1, some (.ref a2), o3, some (xw x4), some (xw y0), o6]) f_188_485 (Nat.le_of_ble_eq_true rfl) rfl).trans ((st_aload_n f_188_487 rfl).trans ((st_aload_nS f_188_488 rfl).trans ((sw_iload f_188_489 rfl).trans ((sw_iconst f_188_491).trans ((sw_iadd f_188_492).trans ((sw_ialoadS f_188_493 g1).trans ((st_aload_nS f_188_494 rfl).trans ((sw_iload f_188_495 rfl).trans ((sw_iconst f_188_497).trans ((sw_iadd f_188_498).trans ((sw_ialoadS f_188_499 g2).trans ((st_aload_nS f_188_500 rfl).trans ((sw_iload f_188_501 rfl).trans ((sw_iconst f_188_503).trans ((sw_iadd f_188_504).trans ((sw_ialoadS f_188_505 g3).trans ((st_aload_nS f_188_506 rfl).trans ((sw_iload f_188_507 rfl).trans ((sw_iconst f_188_509).trans ((sw_iadd f_188_510).trans ((sw_ialoadS f_188_511 g4).trans (sw_if_eq (t := 519) f_188_512 ⟨by decide, rfl⟩ g5))))))))))))))))))))))
theorem bL_law_515 {o0 o1 o2 o3 o4 o5 o6 : Option Value} {s0 s1 s2 s3 : Value} : XR sc d 188 515 [o0, o1, o2, o3, o4, o5, o6] [s0, s1, s2, s3] (T, z, xv V, J, R) = XR sc d 188 520 [o0, o1, o2, o3, o4, o5, o6] [xw 1, s0, s1, s2, s3] (T, z, xv V, J, R) :=
  (sw_iconst f_188_515).trans (st_goto (t := 520) f_188_516 ⟨by decide, rfl⟩)
theorem bL_law_519 {o0 o1 o2 o3 o4 o5 o6 : Option Value} {s0 s1 s2 s3 : Value} : XR sc d 188 519 [o0, o1, o2, o3, o4, o5, o6] [s0, s1, s2, s3] (T, z, xv V, J, R) = XR sc d 188 520 [o0, o1, o2, o3, o4, o5, o6] [xw 0, s0, s1, s2, s3] (T, z, xv V, J, R) :=
  sw_iconst f_188_519
theorem bL_law_520 {o1 o2 o3 o5 o6 : Option Value} {x4 y0 y1 y2 y3 : Int} {b4 : Nat} (g1 : (0 : Int) ≤ (x4 + 5) ∧ (x4 + 5) < (sc.1 : Int) ∧ sc.1 ≤ 3584) (g2 : T b4 = (8, 0)) : XR sc d 188 520 [some (.retAddr 0), o1, o2, o3, some (xw x4), o5, o6] [xw y0, xw y1, xw y2, xw y3, .ref b4] (T, z, xv V, J, R) = xret 188 (XR sc d 188) 526 529 [some (.retAddr 0), o1, o2, o3, some (xw x4), o5, o6] [] (X sc d 106 [.ref b4, xw y3, xw y2, xw y1, xw y0, xw ((sc.2 (x4 + 5).toNat).toInt)] (T, z, xv V, J, R)) :=
  (st_aload_nS f_188_520 rfl).trans ((sw_iload f_188_521 rfl).trans ((sw_iconst f_188_523).trans ((sw_iadd f_188_524).trans ((sw_ialoadS f_188_525 g1).trans (st_callV' f_188_526 h_188_132 mn_106 rfl rfl rfl rfl mo_106 g2 rfl)))))
theorem bL_law_529 {o0 o1 o3 o4 o5 o6 : Option Value} {y0 : Int} {a2 : Nat} (g1 : T a2 = (8, 0)) : XR sc d 188 529 [o0, o1, some (.ref a2), o3, o4, o5, o6] [xw y0] (T, z, xv V, J, R) = xret 188 (XR sc d 188) 532 535 [o0, o1, some (.ref a2), o3, o4, o5, some (xw y0)] [] (X sc d 92 [.ref a2] (T, z, xv V, J, R)) :=
  (sw_istore (L' := [o0, o1, some (.ref a2), o3, o4, o5, some (xw y0)]) f_188_529 (Nat.le_of_ble_eq_true rfl) rfl).trans ((st_aload_n f_188_531 rfl).trans (st_callV' f_188_532 h_188_117 mn_92 rfl rfl rfl rfl mo_92 g1 rfl))
theorem bL_law_535 {o0 o1 o2 o3 o4 o6 : Option Value} {x5 y0 : Int} (g1 : -2147483648 ≤ y0 ∧ y0 ≤ 2147483647) (g2 : -2147483648 ≤ x5 ∧ x5 ≤ 2147483647) : XR sc d 188 535 [o0, o1, o2, o3, o4, some (xw x5), o6] [xw y0] (T, z, xv V, J, R) = if y0 = x5 then XR sc d 188 542 [o0, o1, o2, o3, o4, some (xw x5), o6] [] (T, z, xv V, J, R) else XR sc d 188 540 [o0, o1, o2, o3, o4, some (xw x5), o6] [] (T, z, xv V, J, R) :=
  (sw_iload f_188_535 rfl).trans (sw_icmp_eq (t := 542) f_188_537 ⟨by decide, rfl⟩ g1 g2)
theorem bL_law_540 {o0 o1 o2 o3 o4 o5 o6 : Option Value} : XR sc d 188 540 [o0, o1, o2, o3, o4, o5, o6] [] (T, z, xv V, J, R) = some (.inl (some (xw 0)), (T, z, xv V, J, R)) :=
  (sw_iconst f_188_540).trans (sw_zreturn f_188_541 mr_188 (by decide))
theorem bL_law_542 {o0 o1 o2 o3 o4 o6 : Option Value} {x5 : Int} (g1 : -2147483648 ≤ x5 ∧ x5 ≤ 2147483647) : XR sc d 188 542 [o0, o1, o2, o3, o4, some (xw x5), o6] [] (T, z, xv V, J, R) = if x5 = 0 then XR sc d 188 547 [o0, o1, o2, o3, o4, some (xw x5), o6] [] (T, z, xv V, J, R) else XR sc d 188 559 [o0, o1, o2, o3, o4, some (xw x5), o6] [] (T, z, xv V, J, R) :=
  (sw_iload f_188_542 rfl).trans (sw_if_ne (t := 559) f_188_544 ⟨by decide, rfl⟩ g1)
theorem bL_law_547 {o0 o1 o2 o4 o5 : Option Value} {x6 : Int} {a3 : Nat} (g1 : T a3 = (34, (T a3).2)) (g2 : (0 : Int) ≤ 0 ∧ 0 < ((T a3).2 : Int) ∧ (T a3).2 ≤ 3584) (g3 : -2147483648 ≤ (jCmp (J a3 0) (jI x6)) ∧ (jCmp (J a3 0) (jI x6)) ≤ 2147483647) : XR sc d 188 547 [o0, o1, o2, some (.ref a3), o4, o5, some (xw x6)] [] (T, z, xv V, J, R) = if (jCmp (J a3 0) (jI x6)) = 0 then XR sc d 188 559 [o0, o1, o2, some (.ref a3), o4, o5, some (xw x6)] [] (T, z, xv V, J, R) else XR sc d 188 557 [o0, o1, o2, some (.ref a3), o4, o5, some (xw x6)] [] (T, z, xv V, J, R) :=
  (st_aload_n f_188_547 rfl).trans ((sw_iconst f_188_548).trans ((sw_laload f_188_549 g1 g2).trans ((sw_iload f_188_550 rfl).trans ((sw_i2l f_188_552).trans ((sw_lcmp f_188_553).trans (sw_if_eq (t := 559) f_188_554 ⟨by decide, rfl⟩ g3))))))
theorem bL_law_557 {o0 o1 o2 o3 o4 o5 o6 : Option Value} : XR sc d 188 557 [o0, o1, o2, o3, o4, o5, o6] [] (T, z, xv V, J, R) = some (.inl (some (xw 0)), (T, z, xv V, J, R)) :=
  (sw_iconst f_188_557).trans (sw_zreturn f_188_558 mr_188 (by decide))
theorem bL_law_559 {o0 o1 o2 o3 o4 o5 o6 : Option Value} : XR sc d 188 559 [o0, o1, o2, o3, o4, o5, o6] [] (T, z, xv V, J, R) = XR sc d 188 2468 [o0, o1, o2, o3, o4, o5, o6] [] (T, z, xv V, J, R) :=
  st_goto (t := 2468) f_188_559 ⟨by decide, rfl⟩
theorem bL_law_562 {o2 o5 o6 : Option Value} {x4 : Int} {a1 a3 : Nat} (g1 : (0 : Int) ≤ (x4 + 1) ∧ (x4 + 1) < (sc.1 : Int) ∧ sc.1 ≤ 3584) (g2 : (0 : Int) ≤ (x4 + 2) ∧ (x4 + 2) < (sc.1 : Int) ∧ sc.1 ≤ 3584) : XR sc d 188 562 [some (.retAddr 0), some (.ref a1), o2, some (.ref a3), some (xw x4), o5, o6] [] (T, z, xv V, J, R) = xret 188 (XR sc d 188) 576 579 [some (.retAddr 0), some (.ref a1), o2, some (.ref a3), some (xw x4), o5, o6] [] (X sc d 164 [.ref a1, xw ((sc.2 (x4 + 1).toNat).toInt), xw ((sc.2 (x4 + 2).toNat).toInt), .ref a3] (T, z, xv V, J, R)) :=
  (st_aload_n f_188_562 rfl).trans ((st_aload_nS f_188_563 rfl).trans ((sw_iload f_188_564 rfl).trans ((sw_iconst f_188_566).trans ((sw_iadd f_188_567).trans ((sw_ialoadS f_188_568 g1).trans ((st_aload_nS f_188_569 rfl).trans ((sw_iload f_188_570 rfl).trans ((sw_iconst f_188_572).trans ((sw_iadd f_188_573).trans ((sw_ialoadS f_188_574 g2).trans ((st_aload_n f_188_575 rfl).trans (st_callS' f_188_576 h_188_133 mn_164 rfl rfl rfl rfl))))))))))))
theorem bL_law_579 {o1 o3 o5 o6 : Option Value} {y0 x4 : Int} {a2 : Nat} (g1 : (0 : Int) ≤ (x4 + 1) ∧ (x4 + 1) < (sc.1 : Int) ∧ sc.1 ≤ 3584) (g2 : (0 : Int) ≤ (x4 + 2) ∧ (x4 + 2) < (sc.1 : Int) ∧ sc.1 ≤ 3584) (g3 : T a2 = (8, 0)) : XR sc d 188 579 [some (.retAddr 0), o1, some (.ref a2), o3, some (xw x4), o5, o6] [xw y0] (T, z, xv V, J, R) = xret 188 (XR sc d 188) 594 597 [some (.retAddr 0), o1, some (.ref a2), o3, some (xw x4), some (xw y0), o6] [] (X sc d 107 [.ref a2, xw ((sc.2 (x4 + 1).toNat).toInt), xw ((sc.2 (x4 + 2).toNat).toInt)] (T, z, xv V, J, R)) :=
  (sw_istore (L' := [some (.retAddr 0), o1, some (.ref a2), o3, some (xw x4), some (xw y0), o6]) f_188_579 (Nat.le_of_ble_eq_true rfl) rfl).trans ((st_aload_n f_188_581 rfl).trans ((st_aload_nS f_188_582 rfl).trans ((sw_iload f_188_583 rfl).trans ((sw_iconst f_188_585).trans ((sw_iadd f_188_586).trans ((sw_ialoadS f_188_587 g1).trans ((st_aload_nS f_188_588 rfl).trans ((sw_iload f_188_589 rfl).trans ((sw_iconst f_188_591).trans ((sw_iadd f_188_592).trans ((sw_ialoadS f_188_593 g2).trans (st_callV' f_188_594 h_188_136 mn_107 rfl rfl rfl rfl mo_107 g3 rfl))))))))))))
theorem bL_law_597 {o0 o1 o3 o4 o5 o6 : Option Value} {y0 : Int} {a2 : Nat} (g1 : T a2 = (8, 0)) : XR sc d 188 597 [o0, o1, some (.ref a2), o3, o4, o5, o6] [xw y0] (T, z, xv V, J, R) = xret 188 (XR sc d 188) 600 603 [o0, o1, some (.ref a2), o3, o4, o5, some (xw y0)] [] (X sc d 92 [.ref a2] (T, z, xv V, J, R)) :=
  (sw_istore (L' := [o0, o1, some (.ref a2), o3, o4, o5, some (xw y0)]) f_188_597 (Nat.le_of_ble_eq_true rfl) rfl).trans ((st_aload_n f_188_599 rfl).trans (st_callV' f_188_600 h_188_117 mn_92 rfl rfl rfl rfl mo_92 g1 rfl))
theorem bL_law_603 {o0 o1 o2 o3 o4 o6 : Option Value} {x5 y0 : Int} (g1 : -2147483648 ≤ y0 ∧ y0 ≤ 2147483647) (g2 : -2147483648 ≤ x5 ∧ x5 ≤ 2147483647) : XR sc d 188 603 [o0, o1, o2, o3, o4, some (xw x5), o6] [xw y0] (T, z, xv V, J, R) = if y0 = x5 then XR sc d 188 610 [o0, o1, o2, o3, o4, some (xw x5), o6] [] (T, z, xv V, J, R) else XR sc d 188 608 [o0, o1, o2, o3, o4, some (xw x5), o6] [] (T, z, xv V, J, R) :=
  (sw_iload f_188_603 rfl).trans (sw_icmp_eq (t := 610) f_188_605 ⟨by decide, rfl⟩ g1 g2)
theorem bL_law_608 {o0 o1 o2 o3 o4 o5 o6 : Option Value} : XR sc d 188 608 [o0, o1, o2, o3, o4, o5, o6] [] (T, z, xv V, J, R) = some (.inl (some (xw 0)), (T, z, xv V, J, R)) :=
  (sw_iconst f_188_608).trans (sw_zreturn f_188_609 mr_188 (by decide))
theorem bL_law_610 {o0 o1 o2 o3 o4 o6 : Option Value} {x5 : Int} (g1 : -2147483648 ≤ x5 ∧ x5 ≤ 2147483647) : XR sc d 188 610 [o0, o1, o2, o3, o4, some (xw x5), o6] [] (T, z, xv V, J, R) = if x5 = 0 then XR sc d 188 615 [o0, o1, o2, o3, o4, some (xw x5), o6] [] (T, z, xv V, J, R) else XR sc d 188 627 [o0, o1, o2, o3, o4, some (xw x5), o6] [] (T, z, xv V, J, R) :=
  (sw_iload f_188_610 rfl).trans (sw_if_ne (t := 627) f_188_612 ⟨by decide, rfl⟩ g1)
theorem bL_law_615 {o0 o1 o2 o4 o5 : Option Value} {x6 : Int} {a3 : Nat} (g1 : T a3 = (34, (T a3).2)) (g2 : (0 : Int) ≤ 0 ∧ 0 < ((T a3).2 : Int) ∧ (T a3).2 ≤ 3584) (g3 : -2147483648 ≤ (jCmp (J a3 0) (jI x6)) ∧ (jCmp (J a3 0) (jI x6)) ≤ 2147483647) : XR sc d 188 615 [o0, o1, o2, some (.ref a3), o4, o5, some (xw x6)] [] (T, z, xv V, J, R) = if (jCmp (J a3 0) (jI x6)) = 0 then XR sc d 188 627 [o0, o1, o2, some (.ref a3), o4, o5, some (xw x6)] [] (T, z, xv V, J, R) else XR sc d 188 625 [o0, o1, o2, some (.ref a3), o4, o5, some (xw x6)] [] (T, z, xv V, J, R) :=
  (st_aload_n f_188_615 rfl).trans ((sw_iconst f_188_616).trans ((sw_laload f_188_617 g1 g2).trans ((sw_iload f_188_618 rfl).trans ((sw_i2l f_188_620).trans ((sw_lcmp f_188_621).trans (sw_if_eq (t := 627) f_188_622 ⟨by decide, rfl⟩ g3))))))
theorem bL_law_625 {o0 o1 o2 o3 o4 o5 o6 : Option Value} : XR sc d 188 625 [o0, o1, o2, o3, o4, o5, o6] [] (T, z, xv V, J, R) = some (.inl (some (xw 0)), (T, z, xv V, J, R)) :=
  (sw_iconst f_188_625).trans (sw_zreturn f_188_626 mr_188 (by decide))
theorem bL_law_627 {o0 o1 o2 o3 o4 o5 o6 : Option Value} : XR sc d 188 627 [o0, o1, o2, o3, o4, o5, o6] [] (T, z, xv V, J, R) = XR sc d 188 2468 [o0, o1, o2, o3, o4, o5, o6] [] (T, z, xv V, J, R) :=
  st_goto (t := 2468) f_188_627 ⟨by decide, rfl⟩
theorem bL_law_630 {o2 o5 o6 : Option Value} {x4 : Int} {a1 a3 : Nat} (g1 : (0 : Int) ≤ (x4 + 1) ∧ (x4 + 1) < (sc.1 : Int) ∧ sc.1 ≤ 3584) (g2 : (0 : Int) ≤ (x4 + 2) ∧ (x4 + 2) < (sc.1 : Int) ∧ sc.1 ≤ 3584) : XR sc d 188 630 [some (.retAddr 0), some (.ref a1), o2, some (.ref a3), some (xw x4), o5, o6] [] (T, z, xv V, J, R) = xret 188 (XR sc d 188) 644 647 [some (.retAddr 0), some (.ref a1), o2, some (.ref a3), some (xw x4), o5, o6] [] (X sc d 165 [.ref a1, xw ((sc.2 (x4 + 1).toNat).toInt), xw ((sc.2 (x4 + 2).toNat).toInt), .ref a3] (T, z, xv V, J, R)) :=
  (st_aload_n f_188_630 rfl).trans ((st_aload_nS f_188_631 rfl).trans ((sw_iload f_188_632 rfl).trans ((sw_iconst f_188_634).trans ((sw_iadd f_188_635).trans ((sw_ialoadS f_188_636 g1).trans ((st_aload_nS f_188_637 rfl).trans ((sw_iload f_188_638 rfl).trans ((sw_iconst f_188_640).trans ((sw_iadd f_188_641).trans ((sw_ialoadS f_188_642 g2).trans ((st_aload_n f_188_643 rfl).trans (st_callS' f_188_644 h_188_137 mn_165 rfl rfl rfl rfl))))))))))))
theorem bL_law_647 {o1 o3 o5 o6 : Option Value} {y0 x4 : Int} {a2 : Nat} (g1 : (0 : Int) ≤ (x4 + 1) ∧ (x4 + 1) < (sc.1 : Int) ∧ sc.1 ≤ 3584) (g2 : (0 : Int) ≤ (x4 + 2) ∧ (x4 + 2) < (sc.1 : Int) ∧ sc.1 ≤ 3584) (g3 : T a2 = (8, 0)) : XR sc d 188 647 [some (.retAddr 0), o1, some (.ref a2), o3, some (xw x4), o5, o6] [xw y0] (T, z, xv V, J, R) = xret 188 (XR sc d 188) 662 665 [some (.retAddr 0), o1, some (.ref a2), o3, some (xw x4), some (xw y0), o6] [] (X sc d 109 [.ref a2, xw ((sc.2 (x4 + 1).toNat).toInt), xw ((sc.2 (x4 + 2).toNat).toInt)] (T, z, xv V, J, R)) :=
  (sw_istore (L' := [some (.retAddr 0), o1, some (.ref a2), o3, some (xw x4), some (xw y0), o6]) f_188_647 (Nat.le_of_ble_eq_true rfl) rfl).trans ((st_aload_n f_188_649 rfl).trans ((st_aload_nS f_188_650 rfl).trans ((sw_iload f_188_651 rfl).trans ((sw_iconst f_188_653).trans ((sw_iadd f_188_654).trans ((sw_ialoadS f_188_655 g1).trans ((st_aload_nS f_188_656 rfl).trans ((sw_iload f_188_657 rfl).trans ((sw_iconst f_188_659).trans ((sw_iadd f_188_660).trans ((sw_ialoadS f_188_661 g2).trans (st_callV' f_188_662 h_188_139 mn_109 rfl rfl rfl rfl mo_109 g3 rfl))))))))))))
theorem bL_law_665 {o0 o1 o3 o4 o5 o6 : Option Value} {y0 : Int} {a2 : Nat} (g1 : T a2 = (8, 0)) : XR sc d 188 665 [o0, o1, some (.ref a2), o3, o4, o5, o6] [xw y0] (T, z, xv V, J, R) = xret 188 (XR sc d 188) 668 671 [o0, o1, some (.ref a2), o3, o4, o5, some (xw y0)] [] (X sc d 92 [.ref a2] (T, z, xv V, J, R)) :=
  (sw_istore (L' := [o0, o1, some (.ref a2), o3, o4, o5, some (xw y0)]) f_188_665 (Nat.le_of_ble_eq_true rfl) rfl).trans ((st_aload_n f_188_667 rfl).trans (st_callV' f_188_668 h_188_117 mn_92 rfl rfl rfl rfl mo_92 g1 rfl))
theorem bL_law_671 {o0 o1 o2 o3 o4 o6 : Option Value} {x5 y0 : Int} (g1 : -2147483648 ≤ y0 ∧ y0 ≤ 2147483647) (g2 : -2147483648 ≤ x5 ∧ x5 ≤ 2147483647) : XR sc d 188 671 [o0, o1, o2, o3, o4, some (xw x5), o6] [xw y0] (T, z, xv V, J, R) = if y0 = x5 then XR sc d 188 678 [o0, o1, o2, o3, o4, some (xw x5), o6] [] (T, z, xv V, J, R) else XR sc d 188 676 [o0, o1, o2, o3, o4, some (xw x5), o6] [] (T, z, xv V, J, R) :=
  (sw_iload f_188_671 rfl).trans (sw_icmp_eq (t := 678) f_188_673 ⟨by decide, rfl⟩ g1 g2)
theorem bL_law_676 {o0 o1 o2 o3 o4 o5 o6 : Option Value} : XR sc d 188 676 [o0, o1, o2, o3, o4, o5, o6] [] (T, z, xv V, J, R) = some (.inl (some (xw 0)), (T, z, xv V, J, R)) :=
  (sw_iconst f_188_676).trans (sw_zreturn f_188_677 mr_188 (by decide))
theorem bL_law_678 {o0 o1 o2 o3 o4 o6 : Option Value} {x5 : Int} (g1 : -2147483648 ≤ x5 ∧ x5 ≤ 2147483647) : XR sc d 188 678 [o0, o1, o2, o3, o4, some (xw x5), o6] [] (T, z, xv V, J, R) = if x5 = 0 then XR sc d 188 683 [o0, o1, o2, o3, o4, some (xw x5), o6] [] (T, z, xv V, J, R) else XR sc d 188 695 [o0, o1, o2, o3, o4, some (xw x5), o6] [] (T, z, xv V, J, R) :=
  (sw_iload f_188_678 rfl).trans (sw_if_ne (t := 695) f_188_680 ⟨by decide, rfl⟩ g1)
theorem bL_law_683 {o0 o1 o2 o4 o5 : Option Value} {x6 : Int} {a3 : Nat} (g1 : T a3 = (34, (T a3).2)) (g2 : (0 : Int) ≤ 0 ∧ 0 < ((T a3).2 : Int) ∧ (T a3).2 ≤ 3584) (g3 : -2147483648 ≤ (jCmp (J a3 0) (jI x6)) ∧ (jCmp (J a3 0) (jI x6)) ≤ 2147483647) : XR sc d 188 683 [o0, o1, o2, some (.ref a3), o4, o5, some (xw x6)] [] (T, z, xv V, J, R) = if (jCmp (J a3 0) (jI x6)) = 0 then XR sc d 188 695 [o0, o1, o2, some (.ref a3), o4, o5, some (xw x6)] [] (T, z, xv V, J, R) else XR sc d 188 693 [o0, o1, o2, some (.ref a3), o4, o5, some (xw x6)] [] (T, z, xv V, J, R) :=
  (st_aload_n f_188_683 rfl).trans ((sw_iconst f_188_684).trans ((sw_laload f_188_685 g1 g2).trans ((sw_iload f_188_686 rfl).trans ((sw_i2l f_188_688).trans ((sw_lcmp f_188_689).trans (sw_if_eq (t := 695) f_188_690 ⟨by decide, rfl⟩ g3))))))
theorem bL_law_693 {o0 o1 o2 o3 o4 o5 o6 : Option Value} : XR sc d 188 693 [o0, o1, o2, o3, o4, o5, o6] [] (T, z, xv V, J, R) = some (.inl (some (xw 0)), (T, z, xv V, J, R)) :=
  (sw_iconst f_188_693).trans (sw_zreturn f_188_694 mr_188 (by decide))
theorem bL_law_695 {o0 o1 o2 o3 o4 o5 o6 : Option Value} : XR sc d 188 695 [o0, o1, o2, o3, o4, o5, o6] [] (T, z, xv V, J, R) = XR sc d 188 2468 [o0, o1, o2, o3, o4, o5, o6] [] (T, z, xv V, J, R) :=
  st_goto (t := 2468) f_188_695 ⟨by decide, rfl⟩
theorem bL_law_698 {o2 o5 o6 : Option Value} {x4 : Int} {a1 a3 : Nat} (g1 : (0 : Int) ≤ (x4 + 1) ∧ (x4 + 1) < (sc.1 : Int) ∧ sc.1 ≤ 3584) (g2 : (0 : Int) ≤ (x4 + 2) ∧ (x4 + 2) < (sc.1 : Int) ∧ sc.1 ≤ 3584) : XR sc d 188 698 [some (.retAddr 0), some (.ref a1), o2, some (.ref a3), some (xw x4), o5, o6] [] (T, z, xv V, J, R) = xret 188 (XR sc d 188) 712 715 [some (.retAddr 0), some (.ref a1), o2, some (.ref a3), some (xw x4), o5, o6] [] (X sc d 166 [.ref a1, xw ((sc.2 (x4 + 1).toNat).toInt), xw ((sc.2 (x4 + 2).toNat).toInt), .ref a3] (T, z, xv V, J, R)) :=
  (st_aload_n f_188_698 rfl).trans ((st_aload_nS f_188_699 rfl).trans ((sw_iload f_188_700 rfl).trans ((sw_iconst f_188_702).trans ((sw_iadd f_188_703).trans ((sw_ialoadS f_188_704 g1).trans ((st_aload_nS f_188_705 rfl).trans ((sw_iload f_188_706 rfl).trans ((sw_iconst f_188_708).trans ((sw_iadd f_188_709).trans ((sw_ialoadS f_188_710 g2).trans ((st_aload_n f_188_711 rfl).trans (st_callS' f_188_712 h_188_140 mn_166 rfl rfl rfl rfl))))))))))))
theorem bL_law_715 {o1 o3 o5 o6 : Option Value} {y0 x4 : Int} {a2 : Nat} (g1 : (0 : Int) ≤ (x4 + 1) ∧ (x4 + 1) < (sc.1 : Int) ∧ sc.1 ≤ 3584) (g2 : (0 : Int) ≤ (x4 + 2) ∧ (x4 + 2) < (sc.1 : Int) ∧ sc.1 ≤ 3584) (g3 : T a2 = (8, 0)) : XR sc d 188 715 [some (.retAddr 0), o1, some (.ref a2), o3, some (xw x4), o5, o6] [xw y0] (T, z, xv V, J, R) = xret 188 (XR sc d 188) 730 733 [some (.retAddr 0), o1, some (.ref a2), o3, some (xw x4), some (xw y0), o6] [] (X sc d 111 [.ref a2, xw ((sc.2 (x4 + 1).toNat).toInt), xw ((sc.2 (x4 + 2).toNat).toInt)] (T, z, xv V, J, R)) :=
  (sw_istore (L' := [some (.retAddr 0), o1, some (.ref a2), o3, some (xw x4), some (xw y0), o6]) f_188_715 (Nat.le_of_ble_eq_true rfl) rfl).trans ((st_aload_n f_188_717 rfl).trans ((st_aload_nS f_188_718 rfl).trans ((sw_iload f_188_719 rfl).trans ((sw_iconst f_188_721).trans ((sw_iadd f_188_722).trans ((sw_ialoadS f_188_723 g1).trans ((st_aload_nS f_188_724 rfl).trans ((sw_iload f_188_725 rfl).trans ((sw_iconst f_188_727).trans ((sw_iadd f_188_728).trans ((sw_ialoadS f_188_729 g2).trans (st_callV' f_188_730 h_188_142 mn_111 rfl rfl rfl rfl mo_111 g3 rfl))))))))))))
theorem bL_law_733 {o0 o1 o3 o4 o5 o6 : Option Value} {y0 : Int} {a2 : Nat} (g1 : T a2 = (8, 0)) : XR sc d 188 733 [o0, o1, some (.ref a2), o3, o4, o5, o6] [xw y0] (T, z, xv V, J, R) = xret 188 (XR sc d 188) 736 739 [o0, o1, some (.ref a2), o3, o4, o5, some (xw y0)] [] (X sc d 92 [.ref a2] (T, z, xv V, J, R)) :=
  (sw_istore (L' := [o0, o1, some (.ref a2), o3, o4, o5, some (xw y0)]) f_188_733 (Nat.le_of_ble_eq_true rfl) rfl).trans ((st_aload_n f_188_735 rfl).trans (st_callV' f_188_736 h_188_117 mn_92 rfl rfl rfl rfl mo_92 g1 rfl))
theorem bL_law_739 {o0 o1 o2 o3 o4 o6 : Option Value} {x5 y0 : Int} (g1 : -2147483648 ≤ y0 ∧ y0 ≤ 2147483647) (g2 : -2147483648 ≤ x5 ∧ x5 ≤ 2147483647) : XR sc d 188 739 [o0, o1, o2, o3, o4, some (xw x5), o6] [xw y0] (T, z, xv V, J, R) = if y0 = x5 then XR sc d 188 746 [o0, o1, o2, o3, o4, some (xw x5), o6] [] (T, z, xv V, J, R) else XR sc d 188 744 [o0, o1, o2, o3, o4, some (xw x5), o6] [] (T, z, xv V, J, R) :=
  (sw_iload f_188_739 rfl).trans (sw_icmp_eq (t := 746) f_188_741 ⟨by decide, rfl⟩ g1 g2)
theorem bL_law_744 {o0 o1 o2 o3 o4 o5 o6 : Option Value} : XR sc d 188 744 [o0, o1, o2, o3, o4, o5, o6] [] (T, z, xv V, J, R) = some (.inl (some (xw 0)), (T, z, xv V, J, R)) :=
  (sw_iconst f_188_744).trans (sw_zreturn f_188_745 mr_188 (by decide))
theorem bL_law_746 {o0 o1 o2 o3 o4 o6 : Option Value} {x5 : Int} (g1 : -2147483648 ≤ x5 ∧ x5 ≤ 2147483647) : XR sc d 188 746 [o0, o1, o2, o3, o4, some (xw x5), o6] [] (T, z, xv V, J, R) = if x5 = 0 then XR sc d 188 751 [o0, o1, o2, o3, o4, some (xw x5), o6] [] (T, z, xv V, J, R) else XR sc d 188 770 [o0, o1, o2, o3, o4, some (xw x5), o6] [] (T, z, xv V, J, R) :=
  (sw_iload f_188_746 rfl).trans (sw_if_ne (t := 770) f_188_748 ⟨by decide, rfl⟩ g1)
theorem bL_law_751 {o0 o1 o2 o4 o5 : Option Value} {x6 : Int} {a3 : Nat} (g1 : T a3 = (34, (T a3).2)) (g2 : (0 : Int) ≤ 0 ∧ 0 < ((T a3).2 : Int) ∧ (T a3).2 ≤ 3584) (g3 : -2147483648 ≤ x6 ∧ x6 ≤ 2147483647) : XR sc d 188 751 [o0, o1, o2, some (.ref a3), o4, o5, some (xw x6)] [] (T, z, xv V, J, R) = if x6 = 0 then XR sc d 188 763 [o0, o1, o2, some (.ref a3), o4, o5, some (xw x6)] [.long (J a3 0)] (T, z, xv V, J, R) else XR sc d 188 759 [o0, o1, o2, some (.ref a3), o4, o5, some (xw x6)] [.long (J a3 0)] (T, z, xv V, J, R) :=
  (st_aload_n f_188_751 rfl).trans ((sw_iconst f_188_752).trans ((sw_laload f_188_753 g1 g2).trans ((sw_iload f_188_754 rfl).trans (sw_if_eq (t := 763) f_188_756 ⟨by decide, rfl⟩ g3))))
theorem bL_law_759 {o0 o1 o2 o3 o4 o5 o6 : Option Value} {s0 : Value} : XR sc d 188 759 [o0, o1, o2, o3, o4, o5, o6] [s0] (T, z, xv V, J, R) = XR sc d 188 764 [o0, o1, o2, o3, o4, o5, o6] [.long (Int64.ofNat 1), s0] (T, z, xv V, J, R) :=
  (st_lconst f_188_759).trans (st_goto (t := 764) f_188_760 ⟨by decide, rfl⟩)
theorem bL_law_763 {o0 o1 o2 o3 o4 o5 o6 : Option Value} {s0 : Value} : XR sc d 188 763 [o0, o1, o2, o3, o4, o5, o6] [s0] (T, z, xv V, J, R) = XR sc d 188 764 [o0, o1, o2, o3, o4, o5, o6] [.long (Int64.ofNat 0), s0] (T, z, xv V, J, R) :=
  st_lconst f_188_763
theorem bL_law_764 {o0 o1 o2 o3 o4 o5 o6 : Option Value} {l0 l1 : Int64} (g1 : -2147483648 ≤ (jCmp l1 l0) ∧ (jCmp l1 l0) ≤ 2147483647) : XR sc d 188 764 [o0, o1, o2, o3, o4, o5, o6] [.long l0, .long l1] (T, z, xv V, J, R) = if (jCmp l1 l0) = 0 then XR sc d 188 770 [o0, o1, o2, o3, o4, o5, o6] [] (T, z, xv V, J, R) else XR sc d 188 768 [o0, o1, o2, o3, o4, o5, o6] [] (T, z, xv V, J, R) :=
  (sw_lcmp f_188_764).trans (sw_if_eq (t := 770) f_188_765 ⟨by decide, rfl⟩ g1)
theorem bL_law_768 {o0 o1 o2 o3 o4 o5 o6 : Option Value} : XR sc d 188 768 [o0, o1, o2, o3, o4, o5, o6] [] (T, z, xv V, J, R) = some (.inl (some (xw 0)), (T, z, xv V, J, R)) :=
  (sw_iconst f_188_768).trans (sw_zreturn f_188_769 mr_188 (by decide))
theorem bL_law_770 {o0 o1 o2 o3 o4 o5 o6 : Option Value} : XR sc d 188 770 [o0, o1, o2, o3, o4, o5, o6] [] (T, z, xv V, J, R) = XR sc d 188 2468 [o0, o1, o2, o3, o4, o5, o6] [] (T, z, xv V, J, R) :=
  st_goto (t := 2468) f_188_770 ⟨by decide, rfl⟩
theorem bL_law_773 {o2 o5 o6 : Option Value} {x4 : Int} {a1 a3 : Nat} (g1 : (0 : Int) ≤ (x4 + 1) ∧ (x4 + 1) < (sc.1 : Int) ∧ sc.1 ≤ 3584) (g2 : (0 : Int) ≤ (x4 + 2) ∧ (x4 + 2) < (sc.1 : Int) ∧ sc.1 ≤ 3584) : XR sc d 188 773 [some (.retAddr 0), some (.ref a1), o2, some (.ref a3), some (xw x4), o5, o6] [] (T, z, xv V, J, R) = xret 188 (XR sc d 188) 787 790 [some (.retAddr 0), some (.ref a1), o2, some (.ref a3), some (xw x4), o5, o6] [] (X sc d 167 [.ref a1, xw ((sc.2 (x4 + 1).toNat).toInt), xw ((sc.2 (x4 + 2).toNat).toInt), .ref a3] (T, z, xv V, J, R)) :=
  (st_aload_n f_188_773 rfl).trans ((st_aload_nS f_188_774 rfl).trans ((sw_iload f_188_775 rfl).trans ((sw_iconst f_188_777).trans ((sw_iadd f_188_778).trans ((sw_ialoadS f_188_779 g1).trans ((st_aload_nS f_188_780 rfl).trans ((sw_iload f_188_781 rfl).trans ((sw_iconst f_188_783).trans ((sw_iadd f_188_784).trans ((sw_ialoadS f_188_785 g2).trans ((st_aload_n f_188_786 rfl).trans (st_callS' f_188_787 h_188_143 mn_167 rfl rfl rfl rfl))))))))))))
theorem bL_law_790 {o1 o3 o5 o6 : Option Value} {y0 x4 : Int} {a2 : Nat} (g1 : (0 : Int) ≤ (x4 + 1) ∧ (x4 + 1) < (sc.1 : Int) ∧ sc.1 ≤ 3584) (g2 : (0 : Int) ≤ (x4 + 2) ∧ (x4 + 2) < (sc.1 : Int) ∧ sc.1 ≤ 3584) (g3 : T a2 = (8, 0)) : XR sc d 188 790 [some (.retAddr 0), o1, some (.ref a2), o3, some (xw x4), o5, o6] [xw y0] (T, z, xv V, J, R) = xret 188 (XR sc d 188) 805 808 [some (.retAddr 0), o1, some (.ref a2), o3, some (xw x4), some (xw y0), o6] [] (X sc d 113 [.ref a2, xw ((sc.2 (x4 + 1).toNat).toInt), xw ((sc.2 (x4 + 2).toNat).toInt)] (T, z, xv V, J, R)) :=
  (sw_istore (L' := [some (.retAddr 0), o1, some (.ref a2), o3, some (xw x4), some (xw y0), o6]) f_188_790 (Nat.le_of_ble_eq_true rfl) rfl).trans ((st_aload_n f_188_792 rfl).trans ((st_aload_nS f_188_793 rfl).trans ((sw_iload f_188_794 rfl).trans ((sw_iconst f_188_796).trans ((sw_iadd f_188_797).trans ((sw_ialoadS f_188_798 g1).trans ((st_aload_nS f_188_799 rfl).trans ((sw_iload f_188_800 rfl).trans ((sw_iconst f_188_802).trans ((sw_iadd f_188_803).trans ((sw_ialoadS f_188_804 g2).trans (st_callV' f_188_805 h_188_145 mn_113 rfl rfl rfl rfl mo_113 g3 rfl))))))))))))
theorem bL_law_808 {o0 o1 o3 o4 o5 o6 : Option Value} {y0 : Int} {a2 : Nat} (g1 : T a2 = (8, 0)) : XR sc d 188 808 [o0, o1, some (.ref a2), o3, o4, o5, o6] [xw y0] (T, z, xv V, J, R) = xret 188 (XR sc d 188) 811 814 [o0, o1, some (.ref a2), o3, o4, o5, some (xw y0)] [] (X sc d 92 [.ref a2] (T, z, xv V, J, R)) :=
  (sw_istore (L' := [o0, o1, some (.ref a2), o3, o4, o5, some (xw y0)]) f_188_808 (Nat.le_of_ble_eq_true rfl) rfl).trans ((st_aload_n f_188_810 rfl).trans (st_callV' f_188_811 h_188_117 mn_92 rfl rfl rfl rfl mo_92 g1 rfl))
theorem bL_law_814 {o0 o1 o2 o3 o4 o6 : Option Value} {x5 y0 : Int} (g1 : -2147483648 ≤ y0 ∧ y0 ≤ 2147483647) (g2 : -2147483648 ≤ x5 ∧ x5 ≤ 2147483647) : XR sc d 188 814 [o0, o1, o2, o3, o4, some (xw x5), o6] [xw y0] (T, z, xv V, J, R) = if y0 = x5 then XR sc d 188 821 [o0, o1, o2, o3, o4, some (xw x5), o6] [] (T, z, xv V, J, R) else XR sc d 188 819 [o0, o1, o2, o3, o4, some (xw x5), o6] [] (T, z, xv V, J, R) :=
  (sw_iload f_188_814 rfl).trans (sw_icmp_eq (t := 821) f_188_816 ⟨by decide, rfl⟩ g1 g2)
theorem bL_law_819 {o0 o1 o2 o3 o4 o5 o6 : Option Value} : XR sc d 188 819 [o0, o1, o2, o3, o4, o5, o6] [] (T, z, xv V, J, R) = some (.inl (some (xw 0)), (T, z, xv V, J, R)) :=
  (sw_iconst f_188_819).trans (sw_zreturn f_188_820 mr_188 (by decide))
theorem bL_law_821 {o0 o1 o2 o3 o4 o6 : Option Value} {x5 : Int} (g1 : -2147483648 ≤ x5 ∧ x5 ≤ 2147483647) : XR sc d 188 821 [o0, o1, o2, o3, o4, some (xw x5), o6] [] (T, z, xv V, J, R) = if x5 = 0 then XR sc d 188 826 [o0, o1, o2, o3, o4, some (xw x5), o6] [] (T, z, xv V, J, R) else XR sc d 188 838 [o0, o1, o2, o3, o4, some (xw x5), o6] [] (T, z, xv V, J, R) :=
  (sw_iload f_188_821 rfl).trans (sw_if_ne (t := 838) f_188_823 ⟨by decide, rfl⟩ g1)
theorem bL_law_826 {o0 o1 o2 o4 o5 : Option Value} {x6 : Int} {a3 : Nat} (g1 : T a3 = (34, (T a3).2)) (g2 : (0 : Int) ≤ 0 ∧ 0 < ((T a3).2 : Int) ∧ (T a3).2 ≤ 3584) (g3 : -2147483648 ≤ (jCmp (J a3 0) (jI x6)) ∧ (jCmp (J a3 0) (jI x6)) ≤ 2147483647) : XR sc d 188 826 [o0, o1, o2, some (.ref a3), o4, o5, some (xw x6)] [] (T, z, xv V, J, R) = if (jCmp (J a3 0) (jI x6)) = 0 then XR sc d 188 838 [o0, o1, o2, some (.ref a3), o4, o5, some (xw x6)] [] (T, z, xv V, J, R) else XR sc d 188 836 [o0, o1, o2, some (.ref a3), o4, o5, some (xw x6)] [] (T, z, xv V, J, R) :=
  (st_aload_n f_188_826 rfl).trans ((sw_iconst f_188_827).trans ((sw_laload f_188_828 g1 g2).trans ((sw_iload f_188_829 rfl).trans ((sw_i2l f_188_831).trans ((sw_lcmp f_188_832).trans (sw_if_eq (t := 838) f_188_833 ⟨by decide, rfl⟩ g3))))))
theorem bL_law_836 {o0 o1 o2 o3 o4 o5 o6 : Option Value} : XR sc d 188 836 [o0, o1, o2, o3, o4, o5, o6] [] (T, z, xv V, J, R) = some (.inl (some (xw 0)), (T, z, xv V, J, R)) :=
  (sw_iconst f_188_836).trans (sw_zreturn f_188_837 mr_188 (by decide))
theorem bL_law_838 {o0 o1 o2 o3 o4 o5 o6 : Option Value} : XR sc d 188 838 [o0, o1, o2, o3, o4, o5, o6] [] (T, z, xv V, J, R) = XR sc d 188 2468 [o0, o1, o2, o3, o4, o5, o6] [] (T, z, xv V, J, R) :=
  st_goto (t := 2468) f_188_838 ⟨by decide, rfl⟩
theorem bL_law_841 {o2 o5 o6 : Option Value} {x4 : Int} {a1 a3 : Nat} (g1 : (0 : Int) ≤ (x4 + 1) ∧ (x4 + 1) < (sc.1 : Int) ∧ sc.1 ≤ 3584) (g2 : (0 : Int) ≤ (x4 + 2) ∧ (x4 + 2) < (sc.1 : Int) ∧ sc.1 ≤ 3584) (g3 : (0 : Int) ≤ (x4 + 3) ∧ (x4 + 3) < (sc.1 : Int) ∧ sc.1 ≤ 3584) (g4 : (0 : Int) ≤ (x4 + 4) ∧ (x4 + 4) < (sc.1 : Int) ∧ sc.1 ≤ 3584) : XR sc d 188 841 [some (.retAddr 0), some (.ref a1), o2, some (.ref a3), some (xw x4), o5, o6] [] (T, z, xv V, J, R) = xret 188 (XR sc d 188) 867 870 [some (.retAddr 0), some (.ref a1), o2, some (.ref a3), some (xw x4), o5, o6] [] (X sc d 168 [.ref a1, xw ((sc.2 (x4 + 1).toNat).toInt), xw ((sc.2 (x4 + 2).toNat).toInt), xw ((sc.2 (x4 + 3).toNat).toInt), xw ((sc.2 (x4 + 4).toNat).toInt), .ref a3] (T, z, xv V, J, R)) :=
  (st_aload_n f_188_841 rfl).trans ((st_aload_nS f_188_842 rfl).trans ((sw_iload f_188_843 rfl).trans ((sw_iconst f_188_845).trans ((sw_iadd f_188_846).trans ((sw_ialoadS f_188_847 g1).trans ((st_aload_nS f_188_848 rfl).trans ((sw_iload f_188_849 rfl).trans ((sw_iconst f_188_851).trans ((sw_iadd f_188_852).trans ((sw_ialoadS f_188_853 g2).trans ((st_aload_nS f_188_854 rfl).trans ((sw_iload f_188_855 rfl).trans ((sw_iconst f_188_857).trans ((sw_iadd f_188_858).trans ((sw_ialoadS f_188_859 g3).trans ((st_aload_nS f_188_860 rfl).trans ((sw_iload f_188_861 rfl).trans ((sw_iconst f_188_863).trans ((sw_iadd f_188_864).trans ((sw_ialoadS f_188_865 g4).trans ((st_aload_n f_188_866 rfl).trans (st_callS' f_188_867 h_188_146 mn_168 rfl rfl rfl rfl))))))))))))))))))))))
theorem bL_law_870 {o1 o3 o5 o6 : Option Value} {y0 x4 : Int} {a2 : Nat} (g1 : (0 : Int) ≤ (x4 + 1) ∧ (x4 + 1) < (sc.1 : Int) ∧ sc.1 ≤ 3584) (g2 : (0 : Int) ≤ (x4 + 2) ∧ (x4 + 2) < (sc.1 : Int) ∧ sc.1 ≤ 3584) (g3 : (0 : Int) ≤ (x4 + 3) ∧ (x4 + 3) < (sc.1 : Int) ∧ sc.1 ≤ 3584) (g4 : (0 : Int) ≤ (x4 + 4) ∧ (x4 + 4) < (sc.1 : Int) ∧ sc.1 ≤ 3584) (g5 : T a2 = (8, 0)) : XR sc d 188 870 [some (.retAddr 0), o1, some (.ref a2), o3, some (xw x4), o5, o6] [xw y0] (T, z, xv V, J, R) = xret 188 (XR sc d 188) 897 900 [some (.retAddr 0), o1, some (.ref a2), o3, some (xw x4), some (xw y0), o6] [] (X sc d 116 [.ref a2, xw ((sc.2 (x4 + 1).toNat).toInt), xw ((sc.2 (x4 + 2).toNat).toInt), xw ((sc.2 (x4 + 3).toNat).toInt), xw ((sc.2 (x4 + 4).toNat).toInt)] (T, z, xv V, J, R)) :=
  (sw_istore (L' := [some (.retAddr 0), o1, some (.ref a2), o3, some (xw x4), some (xw y0), o6]) f_188_870 (Nat.le_of_ble_eq_true rfl) rfl).trans ((st_aload_n f_188_872 rfl).trans ((st_aload_nS f_188_873 rfl).trans ((sw_iload f_188_874 rfl).trans ((sw_iconst f_188_876).trans ((sw_iadd f_188_877).trans ((sw_ialoadS f_188_878 g1).trans ((st_aload_nS f_188_879 rfl).trans ((sw_iload f_188_880 rfl).trans ((sw_iconst f_188_882).trans ((sw_iadd f_188_883).trans ((sw_ialoadS f_188_884 g2).trans ((st_aload_nS f_188_885 rfl).trans ((sw_iload f_188_886 rfl).trans ((sw_iconst f_188_888).trans ((sw_iadd f_188_889).trans ((sw_ialoadS f_188_890 g3).trans ((st_aload_nS f_188_891 rfl).trans ((sw_iload f_188_892 rfl).trans ((sw_iconst f_188_894).trans ((sw_iadd f_188_895).trans ((sw_ialoadS f_188_896 g4).trans (st_callV' f_188_897 h_188_149 mn_116 rfl rfl rfl rfl mo_116 g5 rfl))))))))))))))))))))))
theorem bL_law_900 {o0 o1 o3 o4 o5 o6 : Option Value} {y0 : Int} {a2 : Nat} (g1 : T a2 = (8, 0)) : XR sc d 188 900 [o0, o1, some (.ref a2), o3, o4, o5, o6] [xw y0] (T, z, xv V, J, R) = xret 188 (XR sc d 188) 903 906 [o0, o1, some (.ref a2), o3, o4, o5, some (xw y0)] [] (X sc d 92 [.ref a2] (T, z, xv V, J, R)) :=
  (sw_istore (L' := [o0, o1, some (.ref a2), o3, o4, o5, some (xw y0)]) f_188_900 (Nat.le_of_ble_eq_true rfl) rfl).trans ((st_aload_n f_188_902 rfl).trans (st_callV' f_188_903 h_188_117 mn_92 rfl rfl rfl rfl mo_92 g1 rfl))
theorem bL_law_906 {o0 o1 o2 o3 o4 o6 : Option Value} {x5 y0 : Int} (g1 : -2147483648 ≤ y0 ∧ y0 ≤ 2147483647) (g2 : -2147483648 ≤ x5 ∧ x5 ≤ 2147483647) : XR sc d 188 906 [o0, o1, o2, o3, o4, some (xw x5), o6] [xw y0] (T, z, xv V, J, R) = if y0 = x5 then XR sc d 188 913 [o0, o1, o2, o3, o4, some (xw x5), o6] [] (T, z, xv V, J, R) else XR sc d 188 911 [o0, o1, o2, o3, o4, some (xw x5), o6] [] (T, z, xv V, J, R) :=
  (sw_iload f_188_906 rfl).trans (sw_icmp_eq (t := 913) f_188_908 ⟨by decide, rfl⟩ g1 g2)
theorem bL_law_911 {o0 o1 o2 o3 o4 o5 o6 : Option Value} : XR sc d 188 911 [o0, o1, o2, o3, o4, o5, o6] [] (T, z, xv V, J, R) = some (.inl (some (xw 0)), (T, z, xv V, J, R)) :=
  (sw_iconst f_188_911).trans (sw_zreturn f_188_912 mr_188 (by decide))
theorem bL_law_913 {o0 o1 o2 o3 o4 o6 : Option Value} {x5 : Int} (g1 : -2147483648 ≤ x5 ∧ x5 ≤ 2147483647) : XR sc d 188 913 [o0, o1, o2, o3, o4, some (xw x5), o6] [] (T, z, xv V, J, R) = if x5 = 0 then XR sc d 188 918 [o0, o1, o2, o3, o4, some (xw x5), o6] [] (T, z, xv V, J, R) else XR sc d 188 930 [o0, o1, o2, o3, o4, some (xw x5), o6] [] (T, z, xv V, J, R) :=
  (sw_iload f_188_913 rfl).trans (sw_if_ne (t := 930) f_188_915 ⟨by decide, rfl⟩ g1)
theorem bL_law_918 {o0 o1 o2 o4 o5 : Option Value} {x6 : Int} {a3 : Nat} (g1 : T a3 = (34, (T a3).2)) (g2 : (0 : Int) ≤ 0 ∧ 0 < ((T a3).2 : Int) ∧ (T a3).2 ≤ 3584) (g3 : -2147483648 ≤ (jCmp (J a3 0) (jI x6)) ∧ (jCmp (J a3 0) (jI x6)) ≤ 2147483647) : XR sc d 188 918 [o0, o1, o2, some (.ref a3), o4, o5, some (xw x6)] [] (T, z, xv V, J, R) = if (jCmp (J a3 0) (jI x6)) = 0 then XR sc d 188 930 [o0, o1, o2, some (.ref a3), o4, o5, some (xw x6)] [] (T, z, xv V, J, R) else XR sc d 188 928 [o0, o1, o2, some (.ref a3), o4, o5, some (xw x6)] [] (T, z, xv V, J, R) :=
  (st_aload_n f_188_918 rfl).trans ((sw_iconst f_188_919).trans ((sw_laload f_188_920 g1 g2).trans ((sw_iload f_188_921 rfl).trans ((sw_i2l f_188_923).trans ((sw_lcmp f_188_924).trans (sw_if_eq (t := 930) f_188_925 ⟨by decide, rfl⟩ g3))))))
theorem bL_law_928 {o0 o1 o2 o3 o4 o5 o6 : Option Value} : XR sc d 188 928 [o0, o1, o2, o3, o4, o5, o6] [] (T, z, xv V, J, R) = some (.inl (some (xw 0)), (T, z, xv V, J, R)) :=
  (sw_iconst f_188_928).trans (sw_zreturn f_188_929 mr_188 (by decide))
theorem bL_law_930 {o0 o1 o2 o3 o4 o5 o6 : Option Value} : XR sc d 188 930 [o0, o1, o2, o3, o4, o5, o6] [] (T, z, xv V, J, R) = XR sc d 188 2468 [o0, o1, o2, o3, o4, o5, o6] [] (T, z, xv V, J, R) :=
  st_goto (t := 2468) f_188_930 ⟨by decide, rfl⟩
theorem bL_law_933 {o2 o5 o6 : Option Value} {x4 : Int} {a1 a3 : Nat} (g1 : (0 : Int) ≤ (x4 + 1) ∧ (x4 + 1) < (sc.1 : Int) ∧ sc.1 ≤ 3584) : XR sc d 188 933 [some (.retAddr 0), some (.ref a1), o2, some (.ref a3), some (xw x4), o5, o6] [] (T, z, xv V, J, R) = xret 188 (XR sc d 188) 941 944 [some (.retAddr 0), some (.ref a1), o2, some (.ref a3), some (xw x4), o5, o6] [] (X sc d 169 [.ref a1, xw ((sc.2 (x4 + 1).toNat).toInt), .ref a3] (T, z, xv V, J, R)) :=
  (st_aload_n f_188_933 rfl).trans ((st_aload_nS f_188_934 rfl).trans ((sw_iload f_188_935 rfl).trans ((sw_iconst f_188_937).trans ((sw_iadd f_188_938).trans ((sw_ialoadS f_188_939 g1).trans ((st_aload_n f_188_940 rfl).trans (st_callS' f_188_941 h_188_150 mn_169 rfl rfl rfl rfl)))))))
theorem bL_law_944 {o1 o3 o5 o6 : Option Value} {y0 x4 : Int} {a2 : Nat} (g1 : (0 : Int) ≤ (x4 + 1) ∧ (x4 + 1) < (sc.1 : Int) ∧ sc.1 ≤ 3584) (g2 : T a2 = (8, 0)) : XR sc d 188 944 [some (.retAddr 0), o1, some (.ref a2), o3, some (xw x4), o5, o6] [xw y0] (T, z, xv V, J, R) = xret 188 (XR sc d 188) 953 956 [some (.retAddr 0), o1, some (.ref a2), o3, some (xw x4), some (xw y0), o6] [] (X sc d 117 [.ref a2, xw ((sc.2 (x4 + 1).toNat).toInt)] (T, z, xv V, J, R)) :=
  (sw_istore (L' := [some (.retAddr 0), o1, some (.ref a2), o3, some (xw x4), some (xw y0), o6]) f_188_944 (Nat.le_of_ble_eq_true rfl) rfl).trans ((st_aload_n f_188_946 rfl).trans ((st_aload_nS f_188_947 rfl).trans ((sw_iload f_188_948 rfl).trans ((sw_iconst f_188_950).trans ((sw_iadd f_188_951).trans ((sw_ialoadS f_188_952 g1).trans (st_callV' f_188_953 h_188_152 mn_117 rfl rfl rfl rfl mo_117 g2 rfl)))))))
theorem bL_law_956 {o0 o1 o3 o4 o5 o6 : Option Value} {y0 : Int} {a2 : Nat} (g1 : T a2 = (8, 0)) : XR sc d 188 956 [o0, o1, some (.ref a2), o3, o4, o5, o6] [xw y0] (T, z, xv V, J, R) = xret 188 (XR sc d 188) 959 962 [o0, o1, some (.ref a2), o3, o4, o5, some (xw y0)] [] (X sc d 92 [.ref a2] (T, z, xv V, J, R)) :=
  (sw_istore (L' := [o0, o1, some (.ref a2), o3, o4, o5, some (xw y0)]) f_188_956 (Nat.le_of_ble_eq_true rfl) rfl).trans ((st_aload_n f_188_958 rfl).trans (st_callV' f_188_959 h_188_117 mn_92 rfl rfl rfl rfl mo_92 g1 rfl))
theorem bL_law_962 {o0 o1 o2 o3 o4 o6 : Option Value} {x5 y0 : Int} (g1 : -2147483648 ≤ y0 ∧ y0 ≤ 2147483647) (g2 : -2147483648 ≤ x5 ∧ x5 ≤ 2147483647) : XR sc d 188 962 [o0, o1, o2, o3, o4, some (xw x5), o6] [xw y0] (T, z, xv V, J, R) = if y0 = x5 then XR sc d 188 969 [o0, o1, o2, o3, o4, some (xw x5), o6] [] (T, z, xv V, J, R) else XR sc d 188 967 [o0, o1, o2, o3, o4, some (xw x5), o6] [] (T, z, xv V, J, R) :=
  (sw_iload f_188_962 rfl).trans (sw_icmp_eq (t := 969) f_188_964 ⟨by decide, rfl⟩ g1 g2)
theorem bL_law_967 {o0 o1 o2 o3 o4 o5 o6 : Option Value} : XR sc d 188 967 [o0, o1, o2, o3, o4, o5, o6] [] (T, z, xv V, J, R) = some (.inl (some (xw 0)), (T, z, xv V, J, R)) :=
  (sw_iconst f_188_967).trans (sw_zreturn f_188_968 mr_188 (by decide))
theorem bL_law_969 {o0 o1 o2 o3 o4 o6 : Option Value} {x5 : Int} (g1 : -2147483648 ≤ x5 ∧ x5 ≤ 2147483647) : XR sc d 188 969 [o0, o1, o2, o3, o4, some (xw x5), o6] [] (T, z, xv V, J, R) = if x5 = 0 then XR sc d 188 974 [o0, o1, o2, o3, o4, some (xw x5), o6] [] (T, z, xv V, J, R) else XR sc d 188 986 [o0, o1, o2, o3, o4, some (xw x5), o6] [] (T, z, xv V, J, R) :=
  (sw_iload f_188_969 rfl).trans (sw_if_ne (t := 986) f_188_971 ⟨by decide, rfl⟩ g1)
theorem bL_law_974 {o0 o1 o2 o4 o5 : Option Value} {x6 : Int} {a3 : Nat} (g1 : T a3 = (34, (T a3).2)) (g2 : (0 : Int) ≤ 0 ∧ 0 < ((T a3).2 : Int) ∧ (T a3).2 ≤ 3584) (g3 : -2147483648 ≤ (jCmp (J a3 0) (jI x6)) ∧ (jCmp (J a3 0) (jI x6)) ≤ 2147483647) : XR sc d 188 974 [o0, o1, o2, some (.ref a3), o4, o5, some (xw x6)] [] (T, z, xv V, J, R) = if (jCmp (J a3 0) (jI x6)) = 0 then XR sc d 188 986 [o0, o1, o2, some (.ref a3), o4, o5, some (xw x6)] [] (T, z, xv V, J, R) else XR sc d 188 984 [o0, o1, o2, some (.ref a3), o4, o5, some (xw x6)] [] (T, z, xv V, J, R) :=
  (st_aload_n f_188_974 rfl).trans ((sw_iconst f_188_975).trans ((sw_laload f_188_976 g1 g2).trans ((sw_iload f_188_977 rfl).trans ((sw_i2l f_188_979).trans ((sw_lcmp f_188_980).trans (sw_if_eq (t := 986) f_188_981 ⟨by decide, rfl⟩ g3))))))
theorem bL_law_984 {o0 o1 o2 o3 o4 o5 o6 : Option Value} : XR sc d 188 984 [o0, o1, o2, o3, o4, o5, o6] [] (T, z, xv V, J, R) = some (.inl (some (xw 0)), (T, z, xv V, J, R)) :=
  (sw_iconst f_188_984).trans (sw_zreturn f_188_985 mr_188 (by decide))
theorem bL_law_986 {o0 o1 o2 o3 o4 o5 o6 : Option Value} : XR sc d 188 986 [o0, o1, o2, o3, o4, o5, o6] [] (T, z, xv V, J, R) = XR sc d 188 2468 [o0, o1, o2, o3, o4, o5, o6] [] (T, z, xv V, J, R) :=
  st_goto (t := 2468) f_188_986 ⟨by decide, rfl⟩
theorem bL_law_989 {o2 o5 o6 : Option Value} {x4 : Int} {a1 a3 : Nat} (g1 : (0 : Int) ≤ (x4 + 1) ∧ (x4 + 1) < (sc.1 : Int) ∧ sc.1 ≤ 3584) (g2 : (0 : Int) ≤ (x4 + 2) ∧ (x4 + 2) < (sc.1 : Int) ∧ sc.1 ≤ 3584) (g3 : (0 : Int) ≤ (x4 + 3) ∧ (x4 + 3) < (sc.1 : Int) ∧ sc.1 ≤ 3584) (g4 : (0 : Int) ≤ (x4 + 4) ∧ (x4 + 4) < (sc.1 : Int) ∧ sc.1 ≤ 3584) : XR sc d 188 989 [some (.retAddr 0), some (.ref a1), o2, some (.ref a3), some (xw x4), o5, o6] [] (T, z, xv V, J, R) = xret 188 (XR sc d 188) 1015 1018 [some (.retAddr 0), some (.ref a1), o2, some (.ref a3), some (xw x4), o5, o6] [] (X sc d 170 [.ref a1, xw ((sc.2 (x4 + 1).toNat).toInt), xw ((sc.2 (x4 + 2).toNat).toInt), xw ((sc.2 (x4 + 3).toNat).toInt), xw ((sc.2 (x4 + 4).toNat).toInt), .ref a3] (T, z, xv V, J, R)) :=
  (st_aload_n f_188_989 rfl).trans ((st_aload_nS f_188_990 rfl).trans ((sw_iload f_188_991 rfl).trans ((sw_iconst f_188_993).trans ((sw_iadd f_188_994).trans ((sw_ialoadS f_188_995 g1).trans ((st_aload_nS f_188_996 rfl).trans ((sw_iload f_188_997 rfl).trans ((sw_iconst f_188_999).trans ((sw_iadd f_188_1000).trans ((sw_ialoadS f_188_1001 g2).trans ((st_aload_nS f_188_1002 rfl).trans ((sw_iload f_188_1003 rfl).trans ((sw_iconst f_188_1005).trans ((sw_iadd f_188_1006).trans ((sw_ialoadS f_188_1007 g3).trans ((st_aload_nS f_188_1008 rfl).trans ((sw_iload f_188_1009 rfl).trans ((sw_iconst f_188_1011).trans ((sw_iadd f_188_1012).trans ((sw_ialoadS f_188_1013 g4).trans ((st_aload_n f_188_1014 rfl).trans (st_callS' f_188_1015 h_188_153 mn_170 rfl rfl rfl rfl))))))))))))))))))))))
theorem bL_law_1018 {o1 o3 o5 o6 : Option Value} {y0 x4 : Int} {a2 : Nat} (g1 : (0 : Int) ≤ (x4 + 1) ∧ (x4 + 1) < (sc.1 : Int) ∧ sc.1 ≤ 3584) (g2 : (0 : Int) ≤ (x4 + 2) ∧ (x4 + 2) < (sc.1 : Int) ∧ sc.1 ≤ 3584) (g3 : (0 : Int) ≤ (x4 + 3) ∧ (x4 + 3) < (sc.1 : Int) ∧ sc.1 ≤ 3584) (g4 : (0 : Int) ≤ (x4 + 4) ∧ (x4 + 4) < (sc.1 : Int) ∧ sc.1 ≤ 3584) (g5 : T a2 = (8, 0)) : XR sc d 188 1018 [some (.retAddr 0), o1, some (.ref a2), o3, some (xw x4), o5, o6] [xw y0] (T, z, xv V, J, R) = xret 188 (XR sc d 188) 1045 1048 [some (.retAddr 0), o1, some (.ref a2), o3, some (xw x4), some (xw y0), o6] [] (X sc d 124 [.ref a2, xw ((sc.2 (x4 + 1).toNat).toInt), xw ((sc.2 (x4 + 2).toNat).toInt), xw ((sc.2 (x4 + 3).toNat).toInt), xw ((sc.2 (x4 + 4).toNat).toInt)] (T, z, xv V, J, R)) :=
  (sw_istore (L' := [some (.retAddr 0), o1, some (.ref a2), o3, some (xw x4), some (xw y0), o6]) f_188_1018 (Nat.le_of_ble_eq_true rfl) rfl).trans ((st_aload_n f_188_1020 rfl).trans ((st_aload_nS f_188_1021 rfl).trans ((sw_iload f_188_1022 rfl).trans ((sw_iconst f_188_1024).trans ((sw_iadd f_188_1025).trans ((sw_ialoadS f_188_1026 g1).trans ((st_aload_nS f_188_1027 rfl).trans ((sw_iload f_188_1028 rfl).trans ((sw_iconst f_188_1030).trans ((sw_iadd f_188_1031).trans ((sw_ialoadS f_188_1032 g2).trans ((st_aload_nS f_188_1033 rfl).trans ((sw_iload f_188_1034 rfl).trans ((sw_iconst f_188_1036).trans ((sw_iadd f_188_1037).trans ((sw_ialoadS f_188_1038 g3).trans ((st_aload_nS f_188_1039 rfl).trans ((sw_iload f_188_1040 rfl).trans ((sw_iconst f_188_1042).trans ((sw_iadd f_188_1043).trans ((sw_ialoadS f_188_1044 g4).trans (st_callV' f_188_1045 h_188_155 mn_124 rfl rfl rfl rfl mo_124 g5 rfl))))))))))))))))))))))
theorem bL_law_1048 {o0 o1 o3 o4 o5 o6 : Option Value} {y0 : Int} {a2 : Nat} (g1 : T a2 = (8, 0)) : XR sc d 188 1048 [o0, o1, some (.ref a2), o3, o4, o5, o6] [xw y0] (T, z, xv V, J, R) = xret 188 (XR sc d 188) 1051 1054 [o0, o1, some (.ref a2), o3, o4, o5, some (xw y0)] [] (X sc d 92 [.ref a2] (T, z, xv V, J, R)) :=
  (sw_istore (L' := [o0, o1, some (.ref a2), o3, o4, o5, some (xw y0)]) f_188_1048 (Nat.le_of_ble_eq_true rfl) rfl).trans ((st_aload_n f_188_1050 rfl).trans (st_callV' f_188_1051 h_188_117 mn_92 rfl rfl rfl rfl mo_92 g1 rfl))
theorem bL_law_1054 {o0 o1 o2 o3 o4 o6 : Option Value} {x5 y0 : Int} (g1 : -2147483648 ≤ y0 ∧ y0 ≤ 2147483647) (g2 : -2147483648 ≤ x5 ∧ x5 ≤ 2147483647) : XR sc d 188 1054 [o0, o1, o2, o3, o4, some (xw x5), o6] [xw y0] (T, z, xv V, J, R) = if y0 = x5 then XR sc d 188 1061 [o0, o1, o2, o3, o4, some (xw x5), o6] [] (T, z, xv V, J, R) else XR sc d 188 1059 [o0, o1, o2, o3, o4, some (xw x5), o6] [] (T, z, xv V, J, R) :=
  (sw_iload f_188_1054 rfl).trans (sw_icmp_eq (t := 1061) f_188_1056 ⟨by decide, rfl⟩ g1 g2)
theorem bL_law_1059 {o0 o1 o2 o3 o4 o5 o6 : Option Value} : XR sc d 188 1059 [o0, o1, o2, o3, o4, o5, o6] [] (T, z, xv V, J, R) = some (.inl (some (xw 0)), (T, z, xv V, J, R)) :=
  (sw_iconst f_188_1059).trans (sw_zreturn f_188_1060 mr_188 (by decide))
theorem bL_law_1061 {o0 o1 o2 o3 o4 o6 : Option Value} {x5 : Int} (g1 : -2147483648 ≤ x5 ∧ x5 ≤ 2147483647) : XR sc d 188 1061 [o0, o1, o2, o3, o4, some (xw x5), o6] [] (T, z, xv V, J, R) = if x5 = 0 then XR sc d 188 1066 [o0, o1, o2, o3, o4, some (xw x5), o6] [] (T, z, xv V, J, R) else XR sc d 188 1078 [o0, o1, o2, o3, o4, some (xw x5), o6] [] (T, z, xv V, J, R) :=
  (sw_iload f_188_1061 rfl).trans (sw_if_ne (t := 1078) f_188_1063 ⟨by decide, rfl⟩ g1)
theorem bL_law_1066 {o0 o1 o2 o4 o5 : Option Value} {x6 : Int} {a3 : Nat} (g1 : T a3 = (34, (T a3).2)) (g2 : (0 : Int) ≤ 0 ∧ 0 < ((T a3).2 : Int) ∧ (T a3).2 ≤ 3584) (g3 : -2147483648 ≤ (jCmp (J a3 0) (jI x6)) ∧ (jCmp (J a3 0) (jI x6)) ≤ 2147483647) : XR sc d 188 1066 [o0, o1, o2, some (.ref a3), o4, o5, some (xw x6)] [] (T, z, xv V, J, R) = if (jCmp (J a3 0) (jI x6)) = 0 then XR sc d 188 1078 [o0, o1, o2, some (.ref a3), o4, o5, some (xw x6)] [] (T, z, xv V, J, R) else XR sc d 188 1076 [o0, o1, o2, some (.ref a3), o4, o5, some (xw x6)] [] (T, z, xv V, J, R) :=
  (st_aload_n f_188_1066 rfl).trans ((sw_iconst f_188_1067).trans ((sw_laload f_188_1068 g1 g2).trans ((sw_iload f_188_1069 rfl).trans ((sw_i2l f_188_1071).trans ((sw_lcmp f_188_1072).trans (sw_if_eq (t := 1078) f_188_1073 ⟨by decide, rfl⟩ g3))))))
theorem bL_law_1076 {o0 o1 o2 o3 o4 o5 o6 : Option Value} : XR sc d 188 1076 [o0, o1, o2, o3, o4, o5, o6] [] (T, z, xv V, J, R) = some (.inl (some (xw 0)), (T, z, xv V, J, R)) :=
  (sw_iconst f_188_1076).trans (sw_zreturn f_188_1077 mr_188 (by decide))
theorem bL_law_1078 {o0 o1 o2 o3 o4 o5 o6 : Option Value} : XR sc d 188 1078 [o0, o1, o2, o3, o4, o5, o6] [] (T, z, xv V, J, R) = XR sc d 188 2468 [o0, o1, o2, o3, o4, o5, o6] [] (T, z, xv V, J, R) :=
  st_goto (t := 2468) f_188_1078 ⟨by decide, rfl⟩
theorem bL_law_1081 {o2 o5 o6 : Option Value} {x4 : Int} {a1 a3 : Nat} (g1 : (0 : Int) ≤ (x4 + 1) ∧ (x4 + 1) < (sc.1 : Int) ∧ sc.1 ≤ 3584) (g2 : (0 : Int) ≤ (x4 + 2) ∧ (x4 + 2) < (sc.1 : Int) ∧ sc.1 ≤ 3584) (g3 : (0 : Int) ≤ (x4 + 3) ∧ (x4 + 3) < (sc.1 : Int) ∧ sc.1 ≤ 3584) : XR sc d 188 1081 [some (.retAddr 0), some (.ref a1), o2, some (.ref a3), some (xw x4), o5, o6] [] (T, z, xv V, J, R) = xret 188 (XR sc d 188) 1101 1104 [some (.retAddr 0), some (.ref a1), o2, some (.ref a3), some (xw x4), o5, o6] [] (X sc d 171 [.ref a1, xw ((sc.2 (x4 + 1).toNat).toInt), xw ((sc.2 (x4 + 2).toNat).toInt), xw ((sc.2 (x4 + 3).toNat).toInt), .ref a3] (T, z, xv V, J, R)) :=
  (st_aload_n f_188_1081 rfl).trans ((st_aload_nS f_188_1082 rfl).trans ((sw_iload f_188_1083 rfl).trans ((sw_iconst f_188_1085).trans ((sw_iadd f_188_1086).trans ((sw_ialoadS f_188_1087 g1).trans ((st_aload_nS f_188_1088 rfl).trans ((sw_iload f_188_1089 rfl).trans ((sw_iconst f_188_1091).trans ((sw_iadd f_188_1092).trans ((sw_ialoadS f_188_1093 g2).trans ((st_aload_nS f_188_1094 rfl).trans ((sw_iload f_188_1095 rfl).trans ((sw_iconst f_188_1097).trans ((sw_iadd f_188_1098).trans ((sw_ialoadS f_188_1099 g3).trans ((st_aload_n f_188_1100 rfl).trans (st_callS' f_188_1101 h_188_156 mn_171 rfl rfl rfl rfl)))))))))))))))))
theorem bL_law_1104 {o1 o3 o5 o6 : Option Value} {y0 x4 : Int} {a2 : Nat} (g1 : (0 : Int) ≤ (x4 + 1) ∧ (x4 + 1) < (sc.1 : Int) ∧ sc.1 ≤ 3584) (g2 : (0 : Int) ≤ (x4 + 2) ∧ (x4 + 2) < (sc.1 : Int) ∧ sc.1 ≤ 3584) (g3 : (0 : Int) ≤ (x4 + 3) ∧ (x4 + 3) < (sc.1 : Int) ∧ sc.1 ≤ 3584) (g4 : T a2 = (8, 0)) : XR sc d 188 1104 [some (.retAddr 0), o1, some (.ref a2), o3, some (xw x4), o5, o6] [xw y0] (T, z, xv V, J, R) = xret 188 (XR sc d 188) 1125 1128 [some (.retAddr 0), o1, some (.ref a2), o3, some (xw x4), some (xw y0), o6] [] (X sc d 125 [.ref a2, xw ((sc.2 (x4 + 1).toNat).toInt), xw ((sc.2 (x4 + 2).toNat).toInt), xw ((sc.2 (x4 + 3).toNat).toInt)] (T, z, xv V, J, R)) :=
  (sw_istore (L' := [some (.retAddr 0), o1, some (.ref a2), o3, some (xw x4), some (xw y0), o6]) f_188_1104 (Nat.le_of_ble_eq_true rfl) rfl).trans ((st_aload_n f_188_1106 rfl).trans ((st_aload_nS f_188_1107 rfl).trans ((sw_iload f_188_1108 rfl).trans ((sw_iconst f_188_1110).trans ((sw_iadd f_188_1111).trans ((sw_ialoadS f_188_1112 g1).trans ((st_aload_nS f_188_1113 rfl).trans ((sw_iload f_188_1114 rfl).trans ((sw_iconst f_188_1116).trans ((sw_iadd f_188_1117).trans ((sw_ialoadS f_188_1118 g2).trans ((st_aload_nS f_188_1119 rfl).trans ((sw_iload f_188_1120 rfl).trans ((sw_iconst f_188_1122).trans ((sw_iadd f_188_1123).trans ((sw_ialoadS f_188_1124 g3).trans (st_callV' f_188_1125 h_188_158 mn_125 rfl rfl rfl rfl mo_125 g4 rfl)))))))))))))))))
theorem bL_law_1128 {o0 o1 o3 o4 o5 o6 : Option Value} {y0 : Int} {a2 : Nat} (g1 : T a2 = (8, 0)) : XR sc d 188 1128 [o0, o1, some (.ref a2), o3, o4, o5, o6] [xw y0] (T, z, xv V, J, R) = xret 188 (XR sc d 188) 1131 1134 [o0, o1, some (.ref a2), o3, o4, o5, some (xw y0)] [] (X sc d 92 [.ref a2] (T, z, xv V, J, R)) :=
  (sw_istore (L' := [o0, o1, some (.ref a2), o3, o4, o5, some (xw y0)]) f_188_1128 (Nat.le_of_ble_eq_true rfl) rfl).trans ((st_aload_n f_188_1130 rfl).trans (st_callV' f_188_1131 h_188_117 mn_92 rfl rfl rfl rfl mo_92 g1 rfl))
theorem bL_law_1134 {o0 o1 o2 o3 o4 o6 : Option Value} {x5 y0 : Int} (g1 : -2147483648 ≤ y0 ∧ y0 ≤ 2147483647) (g2 : -2147483648 ≤ x5 ∧ x5 ≤ 2147483647) : XR sc d 188 1134 [o0, o1, o2, o3, o4, some (xw x5), o6] [xw y0] (T, z, xv V, J, R) = if y0 = x5 then XR sc d 188 1141 [o0, o1, o2, o3, o4, some (xw x5), o6] [] (T, z, xv V, J, R) else XR sc d 188 1139 [o0, o1, o2, o3, o4, some (xw x5), o6] [] (T, z, xv V, J, R) :=
  (sw_iload f_188_1134 rfl).trans (sw_icmp_eq (t := 1141) f_188_1136 ⟨by decide, rfl⟩ g1 g2)
theorem bL_law_1139 {o0 o1 o2 o3 o4 o5 o6 : Option Value} : XR sc d 188 1139 [o0, o1, o2, o3, o4, o5, o6] [] (T, z, xv V, J, R) = some (.inl (some (xw 0)), (T, z, xv V, J, R)) :=
  (sw_iconst f_188_1139).trans (sw_zreturn f_188_1140 mr_188 (by decide))
theorem bL_law_1141 {o0 o1 o2 o3 o4 o6 : Option Value} {x5 : Int} (g1 : -2147483648 ≤ x5 ∧ x5 ≤ 2147483647) : XR sc d 188 1141 [o0, o1, o2, o3, o4, some (xw x5), o6] [] (T, z, xv V, J, R) = if x5 = 0 then XR sc d 188 1146 [o0, o1, o2, o3, o4, some (xw x5), o6] [] (T, z, xv V, J, R) else XR sc d 188 1158 [o0, o1, o2, o3, o4, some (xw x5), o6] [] (T, z, xv V, J, R) :=
  (sw_iload f_188_1141 rfl).trans (sw_if_ne (t := 1158) f_188_1143 ⟨by decide, rfl⟩ g1)
theorem bL_law_1146 {o0 o1 o2 o4 o5 : Option Value} {x6 : Int} {a3 : Nat} (g1 : T a3 = (34, (T a3).2)) (g2 : (0 : Int) ≤ 0 ∧ 0 < ((T a3).2 : Int) ∧ (T a3).2 ≤ 3584) (g3 : -2147483648 ≤ (jCmp (J a3 0) (jI x6)) ∧ (jCmp (J a3 0) (jI x6)) ≤ 2147483647) : XR sc d 188 1146 [o0, o1, o2, some (.ref a3), o4, o5, some (xw x6)] [] (T, z, xv V, J, R) = if (jCmp (J a3 0) (jI x6)) = 0 then XR sc d 188 1158 [o0, o1, o2, some (.ref a3), o4, o5, some (xw x6)] [] (T, z, xv V, J, R) else XR sc d 188 1156 [o0, o1, o2, some (.ref a3), o4, o5, some (xw x6)] [] (T, z, xv V, J, R) :=
  (st_aload_n f_188_1146 rfl).trans ((sw_iconst f_188_1147).trans ((sw_laload f_188_1148 g1 g2).trans ((sw_iload f_188_1149 rfl).trans ((sw_i2l f_188_1151).trans ((sw_lcmp f_188_1152).trans (sw_if_eq (t := 1158) f_188_1153 ⟨by decide, rfl⟩ g3))))))
theorem bL_law_1156 {o0 o1 o2 o3 o4 o5 o6 : Option Value} : XR sc d 188 1156 [o0, o1, o2, o3, o4, o5, o6] [] (T, z, xv V, J, R) = some (.inl (some (xw 0)), (T, z, xv V, J, R)) :=
  (sw_iconst f_188_1156).trans (sw_zreturn f_188_1157 mr_188 (by decide))
theorem bL_law_1158 {o0 o1 o2 o3 o4 o5 o6 : Option Value} : XR sc d 188 1158 [o0, o1, o2, o3, o4, o5, o6] [] (T, z, xv V, J, R) = XR sc d 188 2468 [o0, o1, o2, o3, o4, o5, o6] [] (T, z, xv V, J, R) :=
  st_goto (t := 2468) f_188_1158 ⟨by decide, rfl⟩
theorem bL_law_1161 {o2 o5 o6 : Option Value} {x4 : Int} {a1 a3 : Nat} (g1 : (0 : Int) ≤ (x4 + 1) ∧ (x4 + 1) < (sc.1 : Int) ∧ sc.1 ≤ 3584) (g2 : (0 : Int) ≤ (x4 + 2) ∧ (x4 + 2) < (sc.1 : Int) ∧ sc.1 ≤ 3584) (g3 : (0 : Int) ≤ (x4 + 3) ∧ (x4 + 3) < (sc.1 : Int) ∧ sc.1 ≤ 3584) : XR sc d 188 1161 [some (.retAddr 0), some (.ref a1), o2, some (.ref a3), some (xw x4), o5, o6] [] (T, z, xv V, J, R) = xret 188 (XR sc d 188) 1181 1184 [some (.retAddr 0), some (.ref a1), o2, some (.ref a3), some (xw x4), o5, o6] [] (X sc d 172 [.ref a1, xw ((sc.2 (x4 + 1).toNat).toInt), xw ((sc.2 (x4 + 2).toNat).toInt), xw ((sc.2 (x4 + 3).toNat).toInt), .ref a3] (T, z, xv V, J, R)) :=
  (st_aload_n f_188_1161 rfl).trans ((st_aload_nS f_188_1162 rfl).trans ((sw_iload f_188_1163 rfl).trans ((sw_iconst f_188_1165).trans ((sw_iadd f_188_1166).trans ((sw_ialoadS f_188_1167 g1).trans ((st_aload_nS f_188_1168 rfl).trans ((sw_iload f_188_1169 rfl).trans ((sw_iconst f_188_1171).trans ((sw_iadd f_188_1172).trans ((sw_ialoadS f_188_1173 g2).trans ((st_aload_nS f_188_1174 rfl).trans ((sw_iload f_188_1175 rfl).trans ((sw_iconst f_188_1177).trans ((sw_iadd f_188_1178).trans ((sw_ialoadS f_188_1179 g3).trans ((st_aload_n f_188_1180 rfl).trans (st_callS' f_188_1181 h_188_159 mn_172 rfl rfl rfl rfl)))))))))))))))))
theorem bL_law_1184 {o1 o3 o5 o6 : Option Value} {y0 x4 : Int} {a2 : Nat} (g1 : (0 : Int) ≤ (x4 + 1) ∧ (x4 + 1) < (sc.1 : Int) ∧ sc.1 ≤ 3584) (g2 : (0 : Int) ≤ (x4 + 2) ∧ (x4 + 2) < (sc.1 : Int) ∧ sc.1 ≤ 3584) (g3 : (0 : Int) ≤ (x4 + 3) ∧ (x4 + 3) < (sc.1 : Int) ∧ sc.1 ≤ 3584) (g4 : T a2 = (8, 0)) : XR sc d 188 1184 [some (.retAddr 0), o1, some (.ref a2), o3, some (xw x4), o5, o6] [xw y0] (T, z, xv V, J, R) = xret 188 (XR sc d 188) 1205 1208 [some (.retAddr 0), o1, some (.ref a2), o3, some (xw x4), some (xw y0), o6] [] (X sc d 127 [.ref a2, xw ((sc.2 (x4 + 1).toNat).toInt), xw ((sc.2 (x4 + 2).toNat).toInt), xw ((sc.2 (x4 + 3).toNat).toInt)] (T, z, xv V, J, R)) :=
  (sw_istore (L' := [some (.retAddr 0), o1, some (.ref a2), o3, some (xw x4), some (xw y0), o6]) f_188_1184 (Nat.le_of_ble_eq_true rfl) rfl).trans ((st_aload_n f_188_1186 rfl).trans ((st_aload_nS f_188_1187 rfl).trans ((sw_iload f_188_1188 rfl).trans ((sw_iconst f_188_1190).trans ((sw_iadd f_188_1191).trans ((sw_ialoadS f_188_1192 g1).trans ((st_aload_nS f_188_1193 rfl).trans ((sw_iload f_188_1194 rfl).trans ((sw_iconst f_188_1196).trans ((sw_iadd f_188_1197).trans ((sw_ialoadS f_188_1198 g2).trans ((st_aload_nS f_188_1199 rfl).trans ((sw_iload f_188_1200 rfl).trans ((sw_iconst f_188_1202).trans ((sw_iadd f_188_1203).trans ((sw_ialoadS f_188_1204 g3).trans (st_callV' f_188_1205 h_188_161 mn_127 rfl rfl rfl rfl mo_127 g4 rfl)))))))))))))))))
theorem bL_law_1208 {o0 o1 o3 o4 o5 o6 : Option Value} {y0 : Int} {a2 : Nat} (g1 : T a2 = (8, 0)) : XR sc d 188 1208 [o0, o1, some (.ref a2), o3, o4, o5, o6] [xw y0] (T, z, xv V, J, R) = xret 188 (XR sc d 188) 1211 1214 [o0, o1, some (.ref a2), o3, o4, o5, some (xw y0)] [] (X sc d 92 [.ref a2] (T, z, xv V, J, R)) :=
  (sw_istore (L' := [o0, o1, some (.ref a2), o3, o4, o5, some (xw y0)]) f_188_1208 (Nat.le_of_ble_eq_true rfl) rfl).trans ((st_aload_n f_188_1210 rfl).trans (st_callV' f_188_1211 h_188_117 mn_92 rfl rfl rfl rfl mo_92 g1 rfl))
theorem bL_law_1214 {o0 o1 o2 o3 o4 o6 : Option Value} {x5 y0 : Int} (g1 : -2147483648 ≤ y0 ∧ y0 ≤ 2147483647) (g2 : -2147483648 ≤ x5 ∧ x5 ≤ 2147483647) : XR sc d 188 1214 [o0, o1, o2, o3, o4, some (xw x5), o6] [xw y0] (T, z, xv V, J, R) = if y0 = x5 then XR sc d 188 1221 [o0, o1, o2, o3, o4, some (xw x5), o6] [] (T, z, xv V, J, R) else XR sc d 188 1219 [o0, o1, o2, o3, o4, some (xw x5), o6] [] (T, z, xv V, J, R) :=
  (sw_iload f_188_1214 rfl).trans (sw_icmp_eq (t := 1221) f_188_1216 ⟨by decide, rfl⟩ g1 g2)
theorem bL_law_1219 {o0 o1 o2 o3 o4 o5 o6 : Option Value} : XR sc d 188 1219 [o0, o1, o2, o3, o4, o5, o6] [] (T, z, xv V, J, R) = some (.inl (some (xw 0)), (T, z, xv V, J, R)) :=
  (sw_iconst f_188_1219).trans (sw_zreturn f_188_1220 mr_188 (by decide))
theorem bL_law_1221 {o0 o1 o2 o3 o4 o6 : Option Value} {x5 : Int} (g1 : -2147483648 ≤ x5 ∧ x5 ≤ 2147483647) : XR sc d 188 1221 [o0, o1, o2, o3, o4, some (xw x5), o6] [] (T, z, xv V, J, R) = if x5 = 0 then XR sc d 188 1226 [o0, o1, o2, o3, o4, some (xw x5), o6] [] (T, z, xv V, J, R) else XR sc d 188 1238 [o0, o1, o2, o3, o4, some (xw x5), o6] [] (T, z, xv V, J, R) :=
  (sw_iload f_188_1221 rfl).trans (sw_if_ne (t := 1238) f_188_1223 ⟨by decide, rfl⟩ g1)
theorem bL_law_1226 {o0 o1 o2 o4 o5 : Option Value} {x6 : Int} {a3 : Nat} (g1 : T a3 = (34, (T a3).2)) (g2 : (0 : Int) ≤ 0 ∧ 0 < ((T a3).2 : Int) ∧ (T a3).2 ≤ 3584) (g3 : -2147483648 ≤ (jCmp (J a3 0) (jI x6)) ∧ (jCmp (J a3 0) (jI x6)) ≤ 2147483647) : XR sc d 188 1226 [o0, o1, o2, some (.ref a3), o4, o5, some (xw x6)] [] (T, z, xv V, J, R) = if (jCmp (J a3 0) (jI x6)) = 0 then XR sc d 188 1238 [o0, o1, o2, some (.ref a3), o4, o5, some (xw x6)] [] (T, z, xv V, J, R) else XR sc d 188 1236 [o0, o1, o2, some (.ref a3), o4, o5, some (xw x6)] [] (T, z, xv V, J, R) :=
  (st_aload_n f_188_1226 rfl).trans ((sw_iconst f_188_1227).trans ((sw_laload f_188_1228 g1 g2).trans ((sw_iload f_188_1229 rfl).trans ((sw_i2l f_188_1231).trans ((sw_lcmp f_188_1232).trans (sw_if_eq (t := 1238) f_188_1233 ⟨by decide, rfl⟩ g3))))))
theorem bL_law_1236 {o0 o1 o2 o3 o4 o5 o6 : Option Value} : XR sc d 188 1236 [o0, o1, o2, o3, o4, o5, o6] [] (T, z, xv V, J, R) = some (.inl (some (xw 0)), (T, z, xv V, J, R)) :=
  (sw_iconst f_188_1236).trans (sw_zreturn f_188_1237 mr_188 (by decide))
theorem bL_law_1238 {o0 o1 o2 o3 o4 o5 o6 : Option Value} : XR sc d 188 1238 [o0, o1, o2, o3, o4, o5, o6] [] (T, z, xv V, J, R) = XR sc d 188 2468 [o0, o1, o2, o3, o4, o5, o6] [] (T, z, xv V, J, R) :=
  st_goto (t := 2468) f_188_1238 ⟨by decide, rfl⟩
theorem bL_law_1241 {o2 o5 o6 : Option Value} {x4 : Int} {a1 a3 : Nat} (g1 : (0 : Int) ≤ (x4 + 1) ∧ (x4 + 1) < (sc.1 : Int) ∧ sc.1 ≤ 3584) (g2 : (0 : Int) ≤ (x4 + 2) ∧ (x4 + 2) < (sc.1 : Int) ∧ sc.1 ≤ 3584) : XR sc d 188 1241 [some (.retAddr 0), some (.ref a1), o2, some (.ref a3), some (xw x4), o5, o6] [] (T, z, xv V, J, R) = xret 188 (XR sc d 188) 1255 1258 [some (.retAddr 0), some (.ref a1), o2, some (.ref a3), some (xw x4), o5, o6] [] (X sc d 173 [.ref a1, xw ((sc.2 (x4 + 1).toNat).toInt), xw ((sc.2 (x4 + 2).toNat).toInt), .ref a3] (T, z, xv V, J, R)) :=
  (st_aload_n f_188_1241 rfl).trans ((st_aload_nS f_188_1242 rfl).trans ((sw_iload f_188_1243 rfl).trans ((sw_iconst f_188_1245).trans ((sw_iadd f_188_1246).trans ((sw_ialoadS f_188_1247 g1).trans ((st_aload_nS f_188_1248 rfl).trans ((sw_iload f_188_1249 rfl).trans ((sw_iconst f_188_1251).trans ((sw_iadd f_188_1252).trans ((sw_ialoadS f_188_1253 g2).trans ((st_aload_n f_188_1254 rfl).trans (st_callS' f_188_1255 h_188_162 mn_173 rfl rfl rfl rfl))))))))))))
theorem bL_law_1258 {o1 o3 o5 o6 : Option Value} {y0 x4 : Int} {a2 : Nat} (g1 : (0 : Int) ≤ (x4 + 1) ∧ (x4 + 1) < (sc.1 : Int) ∧ sc.1 ≤ 3584) (g2 : (0 : Int) ≤ (x4 + 2) ∧ (x4 + 2) < (sc.1 : Int) ∧ sc.1 ≤ 3584) (g3 : T a2 = (8, 0)) : XR sc d 188 1258 [some (.retAddr 0), o1, some (.ref a2), o3, some (xw x4), o5, o6] [xw y0] (T, z, xv V, J, R) = xret 188 (XR sc d 188) 1273 1276 [some (.retAddr 0), o1, some (.ref a2), o3, some (xw x4), some (xw y0), o6] [] (X sc d 128 [.ref a2, xw ((sc.2 (x4 + 1).toNat).toInt), xw ((sc.2 (x4 + 2).toNat).toInt)] (T, z, xv V, J, R)) :=
  (sw_istore (L' := [some (.retAddr 0), o1, some (.ref a2), o3, some (xw x4), some (xw y0), o6]) f_188_1258 (Nat.le_of_ble_eq_true rfl) rfl).trans ((st_aload_n f_188_1260 rfl).trans ((st_aload_nS f_188_1261 rfl).trans ((sw_iload f_188_1262 rfl).trans ((sw_iconst f_188_1264).trans ((sw_iadd f_188_1265).trans ((sw_ialoadS f_188_1266 g1).trans ((st_aload_nS f_188_1267 rfl).trans ((sw_iload f_188_1268 rfl).trans ((sw_iconst f_188_1270).trans ((sw_iadd f_188_1271).trans ((sw_ialoadS f_188_1272 g2).trans (st_callV' f_188_1273 h_188_164 mn_128 rfl rfl rfl rfl mo_128 g3 rfl))))))))))))
theorem bL_law_1276 {o0 o1 o3 o4 o5 o6 : Option Value} {y0 : Int} {a2 : Nat} (g1 : T a2 = (8, 0)) : XR sc d 188 1276 [o0, o1, some (.ref a2), o3, o4, o5, o6] [xw y0] (T, z, xv V, J, R) = xret 188 (XR sc d 188) 1279 1282 [o0, o1, some (.ref a2), o3, o4, o5, some (xw y0)] [] (X sc d 92 [.ref a2] (T, z, xv V, J, R)) :=
  (sw_istore (L' := [o0, o1, some (.ref a2), o3, o4, o5, some (xw y0)]) f_188_1276 (Nat.le_of_ble_eq_true rfl) rfl).trans ((st_aload_n f_188_1278 rfl).trans (st_callV' f_188_1279 h_188_117 mn_92 rfl rfl rfl rfl mo_92 g1 rfl))
theorem bL_law_1282 {o0 o1 o2 o3 o4 o6 : Option Value} {x5 y0 : Int} (g1 : -2147483648 ≤ y0 ∧ y0 ≤ 2147483647) (g2 : -2147483648 ≤ x5 ∧ x5 ≤ 2147483647) : XR sc d 188 1282 [o0, o1, o2, o3, o4, some (xw x5), o6] [xw y0] (T, z, xv V, J, R) = if y0 = x5 then XR sc d 188 1289 [o0, o1, o2, o3, o4, some (xw x5), o6] [] (T, z, xv V, J, R) else XR sc d 188 1287 [o0, o1, o2, o3, o4, some (xw x5), o6] [] (T, z, xv V, J, R) :=
  (sw_iload f_188_1282 rfl).trans (sw_icmp_eq (t := 1289) f_188_1284 ⟨by decide, rfl⟩ g1 g2)
theorem bL_law_1287 {o0 o1 o2 o3 o4 o5 o6 : Option Value} : XR sc d 188 1287 [o0, o1, o2, o3, o4, o5, o6] [] (T, z, xv V, J, R) = some (.inl (some (xw 0)), (T, z, xv V, J, R)) :=
  (sw_iconst f_188_1287).trans (sw_zreturn f_188_1288 mr_188 (by decide))
theorem bL_law_1289 {o0 o1 o2 o3 o4 o6 : Option Value} {x5 : Int} (g1 : -2147483648 ≤ x5 ∧ x5 ≤ 2147483647) : XR sc d 188 1289 [o0, o1, o2, o3, o4, some (xw x5), o6] [] (T, z, xv V, J, R) = if x5 = 0 then XR sc d 188 1294 [o0, o1, o2, o3, o4, some (xw x5), o6] [] (T, z, xv V, J, R) else XR sc d 188 1306 [o0, o1, o2, o3, o4, some (xw x5), o6] [] (T, z, xv V, J, R) :=
  (sw_iload f_188_1289 rfl).trans (sw_if_ne (t := 1306) f_188_1291 ⟨by decide, rfl⟩ g1)
theorem bL_law_1294 {o0 o1 o2 o4 o5 : Option Value} {x6 : Int} {a3 : Nat} (g1 : T a3 = (34, (T a3).2)) (g2 : (0 : Int) ≤ 0 ∧ 0 < ((T a3).2 : Int) ∧ (T a3).2 ≤ 3584) (g3 : -2147483648 ≤ (jCmp (J a3 0) (jI x6)) ∧ (jCmp (J a3 0) (jI x6)) ≤ 2147483647) : XR sc d 188 1294 [o0, o1, o2, some (.ref a3), o4, o5, some (xw x6)] [] (T, z, xv V, J, R) = if (jCmp (J a3 0) (jI x6)) = 0 then XR sc d 188 1306 [o0, o1, o2, some (.ref a3), o4, o5, some (xw x6)] [] (T, z, xv V, J, R) else XR sc d 188 1304 [o0, o1, o2, some (.ref a3), o4, o5, some (xw x6)] [] (T, z, xv V, J, R) :=
  (st_aload_n f_188_1294 rfl).trans ((sw_iconst f_188_1295).trans ((sw_laload f_188_1296 g1 g2).trans ((sw_iload f_188_1297 rfl).trans ((sw_i2l f_188_1299).trans ((sw_lcmp f_188_1300).trans (sw_if_eq (t := 1306) f_188_1301 ⟨by decide, rfl⟩ g3))))))
theorem bL_law_1304 {o0 o1 o2 o3 o4 o5 o6 : Option Value} : XR sc d 188 1304 [o0, o1, o2, o3, o4, o5, o6] [] (T, z, xv V, J, R) = some (.inl (some (xw 0)), (T, z, xv V, J, R)) :=
  (sw_iconst f_188_1304).trans (sw_zreturn f_188_1305 mr_188 (by decide))
theorem bL_law_1306 {o0 o1 o2 o3 o4 o5 o6 : Option Value} : XR sc d 188 1306 [o0, o1, o2, o3, o4, o5, o6] [] (T, z, xv V, J, R) = XR sc d 188 2468 [o0, o1, o2, o3, o4, o5, o6] [] (T, z, xv V, J, R) :=
  st_goto (t := 2468) f_188_1306 ⟨by decide, rfl⟩
theorem bL_law_1309 {o2 o5 o6 : Option Value} {x4 : Int} {a1 a3 : Nat} (g1 : (0 : Int) ≤ (x4 + 1) ∧ (x4 + 1) < (sc.1 : Int) ∧ sc.1 ≤ 3584) : XR sc d 188 1309 [some (.retAddr 0), some (.ref a1), o2, some (.ref a3), some (xw x4), o5, o6] [] (T, z, xv V, J, R) = xret 188 (XR sc d 188) 1317 1320 [some (.retAddr 0), some (.ref a1), o2, some (.ref a3), some (xw x4), o5, o6] [] (X sc d 174 [.ref a1, xw ((sc.2 (x4 + 1).toNat).toInt), .ref a3] (T, z, xv V, J, R)) :=
  (st_aload_n f_188_1309 rfl).trans ((st_aload_nS f_188_1310 rfl).trans ((sw_iload f_188_1311 rfl).trans ((sw_iconst f_188_1313).trans ((sw_iadd f_188_1314).trans ((sw_ialoadS f_188_1315 g1).trans ((st_aload_n f_188_1316 rfl).trans (st_callS' f_188_1317 h_188_165 mn_174 rfl rfl rfl rfl)))))))
theorem bL_law_1320 {o1 o3 o5 o6 : Option Value} {y0 x4 : Int} {a2 : Nat} (g1 : (0 : Int) ≤ (x4 + 1) ∧ (x4 + 1) < (sc.1 : Int) ∧ sc.1 ≤ 3584) (g2 : T a2 = (8, 0)) : XR sc d 188 1320 [some (.retAddr 0), o1, some (.ref a2), o3, some (xw x4), o5, o6] [xw y0] (T, z, xv V, J, R) = xret 188 (XR sc d 188) 1329 1332 [some (.retAddr 0), o1, some (.ref a2), o3, some (xw x4), some (xw y0), o6] [] (X sc d 129 [.ref a2, xw ((sc.2 (x4 + 1).toNat).toInt)] (T, z, xv V, J, R)) :=
  (sw_istore (L' := [some (.retAddr 0), o1, some (.ref a2), o3, some (xw x4), some (xw y0), o6]) f_188_1320 (Nat.le_of_ble_eq_true rfl) rfl).trans ((st_aload_n f_188_1322 rfl).trans ((st_aload_nS f_188_1323 rfl).trans ((sw_iload f_188_1324 rfl).trans ((sw_iconst f_188_1326).trans ((sw_iadd f_188_1327).trans ((sw_ialoadS f_188_1328 g1).trans (st_callV' f_188_1329 h_188_167 mn_129 rfl rfl rfl rfl mo_129 g2 rfl)))))))
theorem bL_law_1332 {o0 o1 o3 o4 o5 o6 : Option Value} {y0 : Int} {a2 : Nat} (g1 : T a2 = (8, 0)) : XR sc d 188 1332 [o0, o1, some (.ref a2), o3, o4, o5, o6] [xw y0] (T, z, xv V, J, R) = xret 188 (XR sc d 188) 1335 1338 [o0, o1, some (.ref a2), o3, o4, o5, some (xw y0)] [] (X sc d 92 [.ref a2] (T, z, xv V, J, R)) :=
  (sw_istore (L' := [o0, o1, some (.ref a2), o3, o4, o5, some (xw y0)]) f_188_1332 (Nat.le_of_ble_eq_true rfl) rfl).trans ((st_aload_n f_188_1334 rfl).trans (st_callV' f_188_1335 h_188_117 mn_92 rfl rfl rfl rfl mo_92 g1 rfl))
theorem bL_law_1338 {o0 o1 o2 o3 o4 o6 : Option Value} {x5 y0 : Int} (g1 : -2147483648 ≤ y0 ∧ y0 ≤ 2147483647) (g2 : -2147483648 ≤ x5 ∧ x5 ≤ 2147483647) : XR sc d 188 1338 [o0, o1, o2, o3, o4, some (xw x5), o6] [xw y0] (T, z, xv V, J, R) = if y0 = x5 then XR sc d 188 1345 [o0, o1, o2, o3, o4, some (xw x5), o6] [] (T, z, xv V, J, R) else XR sc d 188 1343 [o0, o1, o2, o3, o4, some (xw x5), o6] [] (T, z, xv V, J, R) :=
  (sw_iload f_188_1338 rfl).trans (sw_icmp_eq (t := 1345) f_188_1340 ⟨by decide, rfl⟩ g1 g2)
theorem bL_law_1343 {o0 o1 o2 o3 o4 o5 o6 : Option Value} : XR sc d 188 1343 [o0, o1, o2, o3, o4, o5, o6] [] (T, z, xv V, J, R) = some (.inl (some (xw 0)), (T, z, xv V, J, R)) :=
  (sw_iconst f_188_1343).trans (sw_zreturn f_188_1344 mr_188 (by decide))
theorem bL_law_1345 {o0 o1 o2 o3 o4 o6 : Option Value} {x5 : Int} (g1 : -2147483648 ≤ x5 ∧ x5 ≤ 2147483647) : XR sc d 188 1345 [o0, o1, o2, o3, o4, some (xw x5), o6] [] (T, z, xv V, J, R) = if x5 = 0 then XR sc d 188 1350 [o0, o1, o2, o3, o4, some (xw x5), o6] [] (T, z, xv V, J, R) else XR sc d 188 1362 [o0, o1, o2, o3, o4, some (xw x5), o6] [] (T, z, xv V, J, R) :=
  (sw_iload f_188_1345 rfl).trans (sw_if_ne (t := 1362) f_188_1347 ⟨by decide, rfl⟩ g1)
theorem bL_law_1350 {o0 o1 o2 o4 o5 : Option Value} {x6 : Int} {a3 : Nat} (g1 : T a3 = (34, (T a3).2)) (g2 : (0 : Int) ≤ 0 ∧ 0 < ((T a3).2 : Int) ∧ (T a3).2 ≤ 3584) (g3 : -2147483648 ≤ (jCmp (J a3 0) (jI x6)) ∧ (jCmp (J a3 0) (jI x6)) ≤ 2147483647) : XR sc d 188 1350 [o0, o1, o2, some (.ref a3), o4, o5, some (xw x6)] [] (T, z, xv V, J, R) = if (jCmp (J a3 0) (jI x6)) = 0 then XR sc d 188 1362 [o0, o1, o2, some (.ref a3), o4, o5, some (xw x6)] [] (T, z, xv V, J, R) else XR sc d 188 1360 [o0, o1, o2, some (.ref a3), o4, o5, some (xw x6)] [] (T, z, xv V, J, R) :=
  (st_aload_n f_188_1350 rfl).trans ((sw_iconst f_188_1351).trans ((sw_laload f_188_1352 g1 g2).trans ((sw_iload f_188_1353 rfl).trans ((sw_i2l f_188_1355).trans ((sw_lcmp f_188_1356).trans (sw_if_eq (t := 1362) f_188_1357 ⟨by decide, rfl⟩ g3))))))
theorem bL_law_1360 {o0 o1 o2 o3 o4 o5 o6 : Option Value} : XR sc d 188 1360 [o0, o1, o2, o3, o4, o5, o6] [] (T, z, xv V, J, R) = some (.inl (some (xw 0)), (T, z, xv V, J, R)) :=
  (sw_iconst f_188_1360).trans (sw_zreturn f_188_1361 mr_188 (by decide))
theorem bL_law_1362 {o0 o1 o2 o3 o4 o5 o6 : Option Value} : XR sc d 188 1362 [o0, o1, o2, o3, o4, o5, o6] [] (T, z, xv V, J, R) = XR sc d 188 2468 [o0, o1, o2, o3, o4, o5, o6] [] (T, z, xv V, J, R) :=
  st_goto (t := 2468) f_188_1362 ⟨by decide, rfl⟩
theorem bL_law_1365 {o2 o5 o6 : Option Value} {x4 : Int} {a1 a3 : Nat} (g1 : (0 : Int) ≤ (x4 + 1) ∧ (x4 + 1) < (sc.1 : Int) ∧ sc.1 ≤ 3584) (g2 : (0 : Int) ≤ (x4 + 2) ∧ (x4 + 2) < (sc.1 : Int) ∧ sc.1 ≤ 3584) (g3 : (0 : Int) ≤ (x4 + 3) ∧ (x4 + 3) < (sc.1 : Int) ∧ sc.1 ≤ 3584) (g4 : (0 : Int) ≤ (x4 + 4) ∧ (x4 + 4) < (sc.1 : Int) ∧ sc.1 ≤ 3584) : XR sc d 188 1365 [some (.retAddr 0), some (.ref a1), o2, some (.ref a3), some (xw x4), o5, o6] [] (T, z, xv V, J, R) = xret 188 (XR sc d 188) 1391 1394 [some (.retAddr 0), some (.ref a1), o2, some (.ref a3), some (xw x4), o5, o6] [] (X sc d 175 [.ref a1, xw ((sc.2 (x4 + 1).toNat).toInt), xw ((sc.2 (x4 + 2).toNat).toInt), xw ((sc.2 (x4 + 3).toNat).toInt), xw ((sc.2 (x4 + 4).toNat).toInt), .ref a3] (T, z, xv V, J, R)) :=
  (st_aload_n f_188_1365 rfl).trans ((st_aload_nS f_188_1366 rfl).trans ((sw_iload f_188_1367 rfl).trans ((sw_iconst f_188_1369).trans ((sw_iadd f_188_1370).trans ((sw_ialoadS f_188_1371 g1).trans ((st_aload_nS f_188_1372 rfl).trans ((sw_iload f_188_1373 rfl).trans ((sw_iconst f_188_1375).trans ((sw_iadd f_188_1376).trans ((sw_ialoadS f_188_1377 g2).trans ((st_aload_nS f_188_1378 rfl).trans ((sw_iload f_188_1379 rfl).trans ((sw_iconst f_188_1381).trans ((sw_iadd f_188_1382).trans ((sw_ialoadS f_188_1383 g3).trans ((st_aload_nS f_188_1384 rfl).trans ((sw_iload f_188_1385 rfl).trans ((sw_iconst f_188_1387).trans ((sw_iadd f_188_1388).trans ((sw_ialoadS f_188_1389 g4).trans ((st_aload_n f_188_1390 rfl).trans (st_callS' f_188_1391 h_188_168 mn_175 rfl rfl rfl rfl))))))))))))))))))))))
theorem bL_law_1394 {o1 o3 o5 o6 : Option Value} {y0 x4 : Int} {a2 : Nat} (g1 : (0 : Int) ≤ (x4 + 1) ∧ (x4 + 1) < (sc.1 : Int) ∧ sc.1 ≤ 3584) (g2 : (0 : Int) ≤ (x4 + 2) ∧ (x4 + 2) < (sc.1 : Int) ∧ sc.1 ≤ 3584) (g3 : (0 : Int) ≤ (x4 + 3) ∧ (x4 + 3) < (sc.1 : Int) ∧ sc.1 ≤ 3584) (g4 : (0 : Int) ≤ (x4 + 4) ∧ (x4 + 4) < (sc.1 : Int) ∧ sc.1 ≤ 3584) (g5 : T a2 = (8, 0)) : XR sc d 188 1394 [some (.retAddr 0), o1, some (.ref a2), o3, some (xw x4), o5, o6] [xw y0] (T, z, xv V, J, R) = xret 188 (XR sc d 188) 1421 1424 [some (.retAddr 0), o1, some (.ref a2), o3, some (xw x4), some (xw y0), o6] [] (X sc d 131 [.ref a2, xw ((sc.2 (x4 + 1).toNat).toInt), xw ((sc.2 (x4 + 2).toNat).toInt), xw ((sc.2 (x4 + 3).toNat).toInt), xw ((sc.2 (x4 + 4).toNat).toInt)] (T, z, xv V, J, R)) :=
  (sw_istore (L' := [some (.retAddr 0), o1, some (.ref a2), o3, some (xw x4), some (xw y0), o6]) f_188_1394 (Nat.le_of_ble_eq_true rfl) rfl).trans ((st_aload_n f_188_1396 rfl).trans ((st_aload_nS f_188_1397 rfl).trans ((sw_iload f_188_1398 rfl).trans ((sw_iconst f_188_1400).trans ((sw_iadd f_188_1401).trans ((sw_ialoadS f_188_1402 g1).trans ((st_aload_nS f_188_1403 rfl).trans ((sw_iload f_188_1404 rfl).trans ((sw_iconst f_188_1406).trans ((sw_iadd f_188_1407).trans ((sw_ialoadS f_188_1408 g2).trans ((st_aload_nS f_188_1409 rfl).trans ((sw_iload f_188_1410 rfl).trans ((sw_iconst f_188_1412).trans ((sw_iadd f_188_1413).trans ((sw_ialoadS f_188_1414 g3).trans ((st_aload_nS f_188_1415 rfl).trans ((sw_iload f_188_1416 rfl).trans ((sw_iconst f_188_1418).trans ((sw_iadd f_188_1419).trans ((sw_ialoadS f_188_1420 g4).trans (st_callV' f_188_1421 h_188_170 mn_131 rfl rfl rfl rfl mo_131 g5 rfl))))))))))))))))))))))
theorem bL_law_1424 {o0 o1 o3 o4 o5 o6 : Option Value} {y0 : Int} {a2 : Nat} (g1 : T a2 = (8, 0)) : XR sc d 188 1424 [o0, o1, some (.ref a2), o3, o4, o5, o6] [xw y0] (T, z, xv V, J, R) = xret 188 (XR sc d 188) 1427 1430 [o0, o1, some (.ref a2), o3, o4, o5, some (xw y0)] [] (X sc d 92 [.ref a2] (T, z, xv V, J, R)) :=
  (sw_istore (L' := [o0, o1, some (.ref a2), o3, o4, o5, some (xw y0)]) f_188_1424 (Nat.le_of_ble_eq_true rfl) rfl).trans ((st_aload_n f_188_1426 rfl).trans (st_callV' f_188_1427 h_188_117 mn_92 rfl rfl rfl rfl mo_92 g1 rfl))
theorem bL_law_1430 {o0 o1 o2 o3 o4 o6 : Option Value} {x5 y0 : Int} (g1 : -2147483648 ≤ y0 ∧ y0 ≤ 2147483647) (g2 : -2147483648 ≤ x5 ∧ x5 ≤ 2147483647) : XR sc d 188 1430 [o0, o1, o2, o3, o4, some (xw x5), o6] [xw y0] (T, z, xv V, J, R) = if y0 = x5 then XR sc d 188 1437 [o0, o1, o2, o3, o4, some (xw x5), o6] [] (T, z, xv V, J, R) else XR sc d 188 1435 [o0, o1, o2, o3, o4, some (xw x5), o6] [] (T, z, xv V, J, R) :=
  (sw_iload f_188_1430 rfl).trans (sw_icmp_eq (t := 1437) f_188_1432 ⟨by decide, rfl⟩ g1 g2)
theorem bL_law_1435 {o0 o1 o2 o3 o4 o5 o6 : Option Value} : XR sc d 188 1435 [o0, o1, o2, o3, o4, o5, o6] [] (T, z, xv V, J, R) = some (.inl (some (xw 0)), (T, z, xv V, J, R)) :=
  (sw_iconst f_188_1435).trans (sw_zreturn f_188_1436 mr_188 (by decide))
theorem bL_law_1437 {o0 o1 o2 o3 o4 o6 : Option Value} {x5 : Int} (g1 : -2147483648 ≤ x5 ∧ x5 ≤ 2147483647) : XR sc d 188 1437 [o0, o1, o2, o3, o4, some (xw x5), o6] [] (T, z, xv V, J, R) = if x5 = 0 then XR sc d 188 1442 [o0, o1, o2, o3, o4, some (xw x5), o6] [] (T, z, xv V, J, R) else XR sc d 188 1454 [o0, o1, o2, o3, o4, some (xw x5), o6] [] (T, z, xv V, J, R) :=
  (sw_iload f_188_1437 rfl).trans (sw_if_ne (t := 1454) f_188_1439 ⟨by decide, rfl⟩ g1)
theorem bL_law_1442 {o0 o1 o2 o4 o5 : Option Value} {x6 : Int} {a3 : Nat} (g1 : T a3 = (34, (T a3).2)) (g2 : (0 : Int) ≤ 0 ∧ 0 < ((T a3).2 : Int) ∧ (T a3).2 ≤ 3584) (g3 : -2147483648 ≤ (jCmp (J a3 0) (jI x6)) ∧ (jCmp (J a3 0) (jI x6)) ≤ 2147483647) : XR sc d 188 1442 [o0, o1, o2, some (.ref a3), o4, o5, some (xw x6)] [] (T, z, xv V, J, R) = if (jCmp (J a3 0) (jI x6)) = 0 then XR sc d 188 1454 [o0, o1, o2, some (.ref a3), o4, o5, some (xw x6)] [] (T, z, xv V, J, R) else XR sc d 188 1452 [o0, o1, o2, some (.ref a3), o4, o5, some (xw x6)] [] (T, z, xv V, J, R) :=
  (st_aload_n f_188_1442 rfl).trans ((sw_iconst f_188_1443).trans ((sw_laload f_188_1444 g1 g2).trans ((sw_iload f_188_1445 rfl).trans ((sw_i2l f_188_1447).trans ((sw_lcmp f_188_1448).trans (sw_if_eq (t := 1454) f_188_1449 ⟨by decide, rfl⟩ g3))))))
theorem bL_law_1452 {o0 o1 o2 o3 o4 o5 o6 : Option Value} : XR sc d 188 1452 [o0, o1, o2, o3, o4, o5, o6] [] (T, z, xv V, J, R) = some (.inl (some (xw 0)), (T, z, xv V, J, R)) :=
  (sw_iconst f_188_1452).trans (sw_zreturn f_188_1453 mr_188 (by decide))
theorem bL_law_1454 {o0 o1 o2 o3 o4 o5 o6 : Option Value} : XR sc d 188 1454 [o0, o1, o2, o3, o4, o5, o6] [] (T, z, xv V, J, R) = XR sc d 188 2468 [o0, o1, o2, o3, o4, o5, o6] [] (T, z, xv V, J, R) :=
  st_goto (t := 2468) f_188_1454 ⟨by decide, rfl⟩
theorem bL_law_1457 {o2 o5 o6 : Option Value} {x4 : Int} {a1 a3 : Nat} (g1 : (0 : Int) ≤ (x4 + 1) ∧ (x4 + 1) < (sc.1 : Int) ∧ sc.1 ≤ 3584) (g2 : (0 : Int) ≤ (x4 + 2) ∧ (x4 + 2) < (sc.1 : Int) ∧ sc.1 ≤ 3584) (g3 : (0 : Int) ≤ (x4 + 3) ∧ (x4 + 3) < (sc.1 : Int) ∧ sc.1 ≤ 3584) : XR sc d 188 1457 [some (.retAddr 0), some (.ref a1), o2, some (.ref a3), some (xw x4), o5, o6] [] (T, z, xv V, J, R) = xret 188 (XR sc d 188) 1477 1480 [some (.retAddr 0), some (.ref a1), o2, some (.ref a3), some (xw x4), o5, o6] [] (X sc d 176 [.ref a1, xw ((sc.2 (x4 + 1).toNat).toInt), xw ((sc.2 (x4 + 2).toNat).toInt), xw ((sc.2 (x4 + 3).toNat).toInt), .ref a3] (T, z, xv V, J, R)) :=
  (st_aload_n f_188_1457 rfl).trans ((st_aload_nS f_188_1458 rfl).trans ((sw_iload f_188_1459 rfl).trans ((sw_iconst f_188_1461).trans ((sw_iadd f_188_1462).trans ((sw_ialoadS f_188_1463 g1).trans ((st_aload_nS f_188_1464 rfl).trans ((sw_iload f_188_1465 rfl).trans ((sw_iconst f_188_1467).trans ((sw_iadd f_188_1468).trans ((sw_ialoadS f_188_1469 g2).trans ((st_aload_nS f_188_1470 rfl).trans ((sw_iload f_188_1471 rfl).trans ((sw_iconst f_188_1473).trans ((sw_iadd f_188_1474).trans ((sw_ialoadS f_188_1475 g3).trans ((st_aload_n f_188_1476 rfl).trans (st_callS' f_188_1477 h_188_171 mn_176 rfl rfl rfl rfl)))))))))))))))))
theorem bL_law_1480 {o1 o3 o5 o6 : Option Value} {y0 x4 : Int} {a2 : Nat} (g1 : (0 : Int) ≤ (x4 + 1) ∧ (x4 + 1) < (sc.1 : Int) ∧ sc.1 ≤ 3584) (g2 : (0 : Int) ≤ (x4 + 2) ∧ (x4 + 2) < (sc.1 : Int) ∧ sc.1 ≤ 3584) (g3 : (0 : Int) ≤ (x4 + 3) ∧ (x4 + 3) < (sc.1 : Int) ∧ sc.1 ≤ 3584) (g4 : T a2 = (8, 0)) : XR sc d 188 1480 [some (.retAddr 0), o1, some (.ref a2), o3, some (xw x4), o5, o6] [xw y0] (T, z, xv V, J, R) = xret 188 (XR sc d 188) 1501 1504 [some (.retAddr 0), o1, some (.ref a2), o3, some (xw x4), some (xw y0), o6] [] (X sc d 136 [.ref a2, xw ((sc.2 (x4 + 1).toNat).toInt), xw ((sc.2 (x4 + 2).toNat).toInt), xw ((sc.2 (x4 + 3).toNat).toInt)] (T, z, xv V, J, R)) :=
  (sw_istore (L' := [some (.retAddr 0), o1, some (.ref a2), o3, some (xw x4), some (xw y0), o6]) f_188_1480 (Nat.le_of_ble_eq_true rfl) rfl).trans ((st_aload_n f_188_1482 rfl).trans ((st_aload_nS f_188_1483 rfl).trans ((sw_iload f_188_1484 rfl).trans ((sw_iconst f_188_1486).trans ((sw_iadd f_188_1487).trans ((sw_ialoadS f_188_1488 g1).trans ((st_aload_nS f_188_1489 rfl).trans ((sw_iload f_188_1490 rfl).trans ((sw_iconst f_188_1492).trans ((sw_iadd f_188_1493).trans ((sw_ialoadS f_188_1494 g2).trans ((st_aload_nS f_188_1495 rfl).trans ((sw_iload f_188_1496 rfl).trans ((sw_iconst f_188_1498).trans ((sw_iadd f_188_1499).trans ((sw_ialoadS f_188_1500 g3).trans (st_callV' f_188_1501 h_188_173 mn_136 rfl rfl rfl rfl mo_136 g4 rfl)))))))))))))))))
theorem bL_law_1504 {o0 o1 o3 o4 o5 o6 : Option Value} {y0 : Int} {a2 : Nat} (g1 : T a2 = (8, 0)) : XR sc d 188 1504 [o0, o1, some (.ref a2), o3, o4, o5, o6] [xw y0] (T, z, xv V, J, R) = xret 188 (XR sc d 188) 1507 1510 [o0, o1, some (.ref a2), o3, o4, o5, some (xw y0)] [] (X sc d 92 [.ref a2] (T, z, xv V, J, R)) :=
  (sw_istore (L' := [o0, o1, some (.ref a2), o3, o4, o5, some (xw y0)]) f_188_1504 (Nat.le_of_ble_eq_true rfl) rfl).trans ((st_aload_n f_188_1506 rfl).trans (st_callV' f_188_1507 h_188_117 mn_92 rfl rfl rfl rfl mo_92 g1 rfl))
theorem bL_law_1510 {o0 o1 o2 o3 o4 o6 : Option Value} {x5 y0 : Int} (g1 : -2147483648 ≤ y0 ∧ y0 ≤ 2147483647) (g2 : -2147483648 ≤ x5 ∧ x5 ≤ 2147483647) : XR sc d 188 1510 [o0, o1, o2, o3, o4, some (xw x5), o6] [xw y0] (T, z, xv V, J, R) = if y0 = x5 then XR sc d 188 1517 [o0, o1, o2, o3, o4, some (xw x5), o6] [] (T, z, xv V, J, R) else XR sc d 188 1515 [o0, o1, o2, o3, o4, some (xw x5), o6] [] (T, z, xv V, J, R) :=
  (sw_iload f_188_1510 rfl).trans (sw_icmp_eq (t := 1517) f_188_1512 ⟨by decide, rfl⟩ g1 g2)
theorem bL_law_1515 {o0 o1 o2 o3 o4 o5 o6 : Option Value} : XR sc d 188 1515 [o0, o1, o2, o3, o4, o5, o6] [] (T, z, xv V, J, R) = some (.inl (some (xw 0)), (T, z, xv V, J, R)) :=
  (sw_iconst f_188_1515).trans (sw_zreturn f_188_1516 mr_188 (by decide))
theorem bL_law_1517 {o0 o1 o2 o3 o4 o6 : Option Value} {x5 : Int} (g1 : -2147483648 ≤ x5 ∧ x5 ≤ 2147483647) : XR sc d 188 1517 [o0, o1, o2, o3, o4, some (xw x5), o6] [] (T, z, xv V, J, R) = if x5 = 0 then XR sc d 188 1522 [o0, o1, o2, o3, o4, some (xw x5), o6] [] (T, z, xv V, J, R) else XR sc d 188 1534 [o0, o1, o2, o3, o4, some (xw x5), o6] [] (T, z, xv V, J, R) :=
  (sw_iload f_188_1517 rfl).trans (sw_if_ne (t := 1534) f_188_1519 ⟨by decide, rfl⟩ g1)
theorem bL_law_1522 {o0 o1 o2 o4 o5 : Option Value} {x6 : Int} {a3 : Nat} (g1 : T a3 = (34, (T a3).2)) (g2 : (0 : Int) ≤ 0 ∧ 0 < ((T a3).2 : Int) ∧ (T a3).2 ≤ 3584) (g3 : -2147483648 ≤ (jCmp (J a3 0) (jI x6)) ∧ (jCmp (J a3 0) (jI x6)) ≤ 2147483647) : XR sc d 188 1522 [o0, o1, o2, some (.ref a3), o4, o5, some (xw x6)] [] (T, z, xv V, J, R) = if (jCmp (J a3 0) (jI x6)) = 0 then XR sc d 188 1534 [o0, o1, o2, some (.ref a3), o4, o5, some (xw x6)] [] (T, z, xv V, J, R) else XR sc d 188 1532 [o0, o1, o2, some (.ref a3), o4, o5, some (xw x6)] [] (T, z, xv V, J, R) :=
  (st_aload_n f_188_1522 rfl).trans ((sw_iconst f_188_1523).trans ((sw_laload f_188_1524 g1 g2).trans ((sw_iload f_188_1525 rfl).trans ((sw_i2l f_188_1527).trans ((sw_lcmp f_188_1528).trans (sw_if_eq (t := 1534) f_188_1529 ⟨by decide, rfl⟩ g3))))))
theorem bL_law_1532 {o0 o1 o2 o3 o4 o5 o6 : Option Value} : XR sc d 188 1532 [o0, o1, o2, o3, o4, o5, o6] [] (T, z, xv V, J, R) = some (.inl (some (xw 0)), (T, z, xv V, J, R)) :=
  (sw_iconst f_188_1532).trans (sw_zreturn f_188_1533 mr_188 (by decide))
theorem bL_law_1534 {o0 o1 o2 o3 o4 o5 o6 : Option Value} : XR sc d 188 1534 [o0, o1, o2, o3, o4, o5, o6] [] (T, z, xv V, J, R) = XR sc d 188 2468 [o0, o1, o2, o3, o4, o5, o6] [] (T, z, xv V, J, R) :=
  st_goto (t := 2468) f_188_1534 ⟨by decide, rfl⟩
theorem bL_law_1537 {o2 o5 o6 : Option Value} {x4 : Int} {a1 a3 : Nat} (g1 : (0 : Int) ≤ (x4 + 1) ∧ (x4 + 1) < (sc.1 : Int) ∧ sc.1 ≤ 3584) (g2 : (0 : Int) ≤ (x4 + 2) ∧ (x4 + 2) < (sc.1 : Int) ∧ sc.1 ≤ 3584) (g3 : (0 : Int) ≤ (x4 + 3) ∧ (x4 + 3) < (sc.1 : Int) ∧ sc.1 ≤ 3584) : XR sc d 188 1537 [some (.retAddr 0), some (.ref a1), o2, some (.ref a3), some (xw x4), o5, o6] [] (T, z, xv V, J, R) = xret 188 (XR sc d 188) 1557 1560 [some (.retAddr 0), some (.ref a1), o2, some (.ref a3), some (xw x4), o5, o6] [] (X sc d 177 [.ref a1, xw ((sc.2 (x4 + 1).toNat).toInt), xw ((sc.2 (x4 + 2).toNat).toInt), xw ((sc.2 (x4 + 3).toNat).toInt), .ref a3] (T, z, xv V, J, R)) :=
  (st_aload_n f_188_1537 rfl).trans ((st_aload_nS f_188_1538 rfl).trans ((sw_iload f_188_1539 rfl).trans ((sw_iconst f_188_1541).trans ((sw_iadd f_188_1542).trans ((sw_ialoadS f_188_1543 g1).trans ((st_aload_nS f_188_1544 rfl).trans ((sw_iload f_188_1545 rfl).trans ((sw_iconst f_188_1547).trans ((sw_iadd f_188_1548).trans ((sw_ialoadS f_188_1549 g2).trans ((st_aload_nS f_188_1550 rfl).trans ((sw_iload f_188_1551 rfl).trans ((sw_iconst f_188_1553).trans ((sw_iadd f_188_1554).trans ((sw_ialoadS f_188_1555 g3).trans ((st_aload_n f_188_1556 rfl).trans (st_callS' f_188_1557 h_188_174 mn_177 rfl rfl rfl rfl)))))))))))))))))
theorem bL_law_1560 {o1 o3 o5 o6 : Option Value} {y0 x4 : Int} {a2 : Nat} (g1 : (0 : Int) ≤ (x4 + 1) ∧ (x4 + 1) < (sc.1 : Int) ∧ sc.1 ≤ 3584) (g2 : (0 : Int) ≤ (x4 + 2) ∧ (x4 + 2) < (sc.1 : Int) ∧ sc.1 ≤ 3584) (g3 : (0 : Int) ≤ (x4 + 3) ∧ (x4 + 3) < (sc.1 : Int) ∧ sc.1 ≤ 3584) (g4 : T a2 = (8, 0)) : XR sc d 188 1560 [some (.retAddr 0), o1, some (.ref a2), o3, some (xw x4), o5, o6] [xw y0] (T, z, xv V, J, R) = xret 188 (XR sc d 188) 1581 1584 [some (.retAddr 0), o1, some (.ref a2), o3, some (xw x4), some (xw y0), o6] [] (X sc d 137 [.ref a2, xw ((sc.2 (x4 + 1).toNat).toInt), xw ((sc.2 (x4 + 2).toNat).toInt), xw ((sc.2 (x4 + 3).toNat).toInt)] (T, z, xv V, J, R)) :=
  (sw_istore (L' := [some (.retAddr 0), o1, some (.ref a2), o3, some (xw x4), some (xw y0), o6]) f_188_1560 (Nat.le_of_ble_eq_true rfl) rfl).trans ((st_aload_n f_188_1562 rfl).trans ((st_aload_nS f_188_1563 rfl).trans ((sw_iload f_188_1564 rfl).trans ((sw_iconst f_188_1566).trans ((sw_iadd f_188_1567).trans ((sw_ialoadS f_188_1568 g1).trans ((st_aload_nS f_188_1569 rfl).trans ((sw_iload f_188_1570 rfl).trans ((sw_iconst f_188_1572).trans ((sw_iadd f_188_1573).trans ((sw_ialoadS f_188_1574 g2).trans ((st_aload_nS f_188_1575 rfl).trans ((sw_iload f_188_1576 rfl).trans ((sw_iconst f_188_1578).trans ((sw_iadd f_188_1579).trans ((sw_ialoadS f_188_1580 g3).trans (st_callV' f_188_1581 h_188_176 mn_137 rfl rfl rfl rfl mo_137 g4 rfl)))))))))))))))))
theorem bL_law_1584 {o0 o1 o3 o4 o5 o6 : Option Value} {y0 : Int} {a2 : Nat} (g1 : T a2 = (8, 0)) : XR sc d 188 1584 [o0, o1, some (.ref a2), o3, o4, o5, o6] [xw y0] (T, z, xv V, J, R) = xret 188 (XR sc d 188) 1587 1590 [o0, o1, some (.ref a2), o3, o4, o5, some (xw y0)] [] (X sc d 92 [.ref a2] (T, z, xv V, J, R)) :=
  (sw_istore (L' := [o0, o1, some (.ref a2), o3, o4, o5, some (xw y0)]) f_188_1584 (Nat.le_of_ble_eq_true rfl) rfl).trans ((st_aload_n f_188_1586 rfl).trans (st_callV' f_188_1587 h_188_117 mn_92 rfl rfl rfl rfl mo_92 g1 rfl))
theorem bL_law_1590 {o0 o1 o2 o3 o4 o6 : Option Value} {x5 y0 : Int} (g1 : -2147483648 ≤ y0 ∧ y0 ≤ 2147483647) (g2 : -2147483648 ≤ x5 ∧ x5 ≤ 2147483647) : XR sc d 188 1590 [o0, o1, o2, o3, o4, some (xw x5), o6] [xw y0] (T, z, xv V, J, R) = if y0 = x5 then XR sc d 188 1597 [o0, o1, o2, o3, o4, some (xw x5), o6] [] (T, z, xv V, J, R) else XR sc d 188 1595 [o0, o1, o2, o3, o4, some (xw x5), o6] [] (T, z, xv V, J, R) :=
  (sw_iload f_188_1590 rfl).trans (sw_icmp_eq (t := 1597) f_188_1592 ⟨by decide, rfl⟩ g1 g2)
theorem bL_law_1595 {o0 o1 o2 o3 o4 o5 o6 : Option Value} : XR sc d 188 1595 [o0, o1, o2, o3, o4, o5, o6] [] (T, z, xv V, J, R) = some (.inl (some (xw 0)), (T, z, xv V, J, R)) :=
  (sw_iconst f_188_1595).trans (sw_zreturn f_188_1596 mr_188 (by decide))
theorem bL_law_1597 {o0 o1 o2 o3 o4 o6 : Option Value} {x5 : Int} (g1 : -2147483648 ≤ x5 ∧ x5 ≤ 2147483647) : XR sc d 188 1597 [o0, o1, o2, o3, o4, some (xw x5), o6] [] (T, z, xv V, J, R) = if x5 = 0 then XR sc d 188 1602 [o0, o1, o2, o3, o4, some (xw x5), o6] [] (T, z, xv V, J, R) else XR sc d 188 1614 [o0, o1, o2, o3, o4, some (xw x5), o6] [] (T, z, xv V, J, R) :=
  (sw_iload f_188_1597 rfl).trans (sw_if_ne (t := 1614) f_188_1599 ⟨by decide, rfl⟩ g1)
theorem bL_law_1602 {o0 o1 o2 o4 o5 : Option Value} {x6 : Int} {a3 : Nat} (g1 : T a3 = (34, (T a3).2)) (g2 : (0 : Int) ≤ 0 ∧ 0 < ((T a3).2 : Int) ∧ (T a3).2 ≤ 3584) (g3 : -2147483648 ≤ (jCmp (J a3 0) (jI x6)) ∧ (jCmp (J a3 0) (jI x6)) ≤ 2147483647) : XR sc d 188 1602 [o0, o1, o2, some (.ref a3), o4, o5, some (xw x6)] [] (T, z, xv V, J, R) = if (jCmp (J a3 0) (jI x6)) = 0 then XR sc d 188 1614 [o0, o1, o2, some (.ref a3), o4, o5, some (xw x6)] [] (T, z, xv V, J, R) else XR sc d 188 1612 [o0, o1, o2, some (.ref a3), o4, o5, some (xw x6)] [] (T, z, xv V, J, R) :=
  (st_aload_n f_188_1602 rfl).trans ((sw_iconst f_188_1603).trans ((sw_laload f_188_1604 g1 g2).trans ((sw_iload f_188_1605 rfl).trans ((sw_i2l f_188_1607).trans ((sw_lcmp f_188_1608).trans (sw_if_eq (t := 1614) f_188_1609 ⟨by decide, rfl⟩ g3))))))
theorem bL_law_1612 {o0 o1 o2 o3 o4 o5 o6 : Option Value} : XR sc d 188 1612 [o0, o1, o2, o3, o4, o5, o6] [] (T, z, xv V, J, R) = some (.inl (some (xw 0)), (T, z, xv V, J, R)) :=
  (sw_iconst f_188_1612).trans (sw_zreturn f_188_1613 mr_188 (by decide))
theorem bL_law_1614 {o0 o1 o2 o3 o4 o5 o6 : Option Value} : XR sc d 188 1614 [o0, o1, o2, o3, o4, o5, o6] [] (T, z, xv V, J, R) = XR sc d 188 2468 [o0, o1, o2, o3, o4, o5, o6] [] (T, z, xv V, J, R) :=
  st_goto (t := 2468) f_188_1614 ⟨by decide, rfl⟩
theorem bL_law_1617 {o2 o5 o6 : Option Value} {x4 : Int} {a1 a3 : Nat} (g1 : (0 : Int) ≤ (x4 + 1) ∧ (x4 + 1) < (sc.1 : Int) ∧ sc.1 ≤ 3584) (g2 : (0 : Int) ≤ (x4 + 2) ∧ (x4 + 2) < (sc.1 : Int) ∧ sc.1 ≤ 3584) (g3 : (0 : Int) ≤ (x4 + 3) ∧ (x4 + 3) < (sc.1 : Int) ∧ sc.1 ≤ 3584) : XR sc d 188 1617 [some (.retAddr 0), some (.ref a1), o2, some (.ref a3), some (xw x4), o5, o6] [] (T, z, xv V, J, R) = xret 188 (XR sc d 188) 1637 1640 [some (.retAddr 0), some (.ref a1), o2, some (.ref a3), some (xw x4), o5, o6] [] (X sc d 178 [.ref a1, xw ((sc.2 (x4 + 1).toNat).toInt), xw ((sc.2 (x4 + 2).toNat).toInt), xw ((sc.2 (x4 + 3).toNat).toInt), .ref a3] (T, z, xv V, J, R)) :=
  (st_aload_n f_188_1617 rfl).trans ((st_aload_nS f_188_1618 rfl).trans ((sw_iload f_188_1619 rfl).trans ((sw_iconst f_188_1621).trans ((sw_iadd f_188_1622).trans ((sw_ialoadS f_188_1623 g1).trans ((st_aload_nS f_188_1624 rfl).trans ((sw_iload f_188_1625 rfl).trans ((sw_iconst f_188_1627).trans ((sw_iadd f_188_1628).trans ((sw_ialoadS f_188_1629 g2).trans ((st_aload_nS f_188_1630 rfl).trans ((sw_iload f_188_1631 rfl).trans ((sw_iconst f_188_1633).trans ((sw_iadd f_188_1634).trans ((sw_ialoadS f_188_1635 g3).trans ((st_aload_n f_188_1636 rfl).trans (st_callS' f_188_1637 h_188_177 mn_178 rfl rfl rfl rfl)))))))))))))))))
theorem bL_law_1640 {o1 o3 o5 o6 : Option Value} {y0 x4 : Int} {a2 : Nat} (g1 : (0 : Int) ≤ (x4 + 1) ∧ (x4 + 1) < (sc.1 : Int) ∧ sc.1 ≤ 3584) (g2 : (0 : Int) ≤ (x4 + 2) ∧ (x4 + 2) < (sc.1 : Int) ∧ sc.1 ≤ 3584) (g3 : (0 : Int) ≤ (x4 + 3) ∧ (x4 + 3) < (sc.1 : Int) ∧ sc.1 ≤ 3584) (g4 : T a2 = (8, 0)) : XR sc d 188 1640 [some (.retAddr 0), o1, some (.ref a2), o3, some (xw x4), o5, o6] [xw y0] (T, z, xv V, J, R) = xret 188 (XR sc d 188) 1661 1664 [some (.retAddr 0), o1, some (.ref a2), o3, some (xw x4), some (xw y0), o6] [] (X sc d 138 [.ref a2, xw ((sc.2 (x4 + 1).toNat).toInt), xw ((sc.2 (x4 + 2).toNat).toInt), xw ((sc.2 (x4 + 3).toNat).toInt)] (T, z, xv V, J, R)) :=
  (sw_istore (L' := [some (.retAddr 0), o1, some (.ref a2), o3, some (xw x4), some (xw y0), o6]) f_188_1640 (Nat.le_of_ble_eq_true rfl) rfl).trans ((st_aload_n f_188_1642 rfl).trans ((st_aload_nS f_188_1643 rfl).trans ((sw_iload f_188_1644 rfl).trans ((sw_iconst f_188_1646).trans ((sw_iadd f_188_1647).trans ((sw_ialoadS f_188_1648 g1).trans ((st_aload_nS f_188_1649 rfl).trans ((sw_iload f_188_1650 rfl).trans ((sw_iconst f_188_1652).trans ((sw_iadd f_188_1653).trans ((sw_ialoadS f_188_1654 g2).trans ((st_aload_nS f_188_1655 rfl).trans ((sw_iload f_188_1656 rfl).trans ((sw_iconst f_188_1658).trans ((sw_iadd f_188_1659).trans ((sw_ialoadS f_188_1660 g3).trans (st_callV' f_188_1661 h_188_179 mn_138 rfl rfl rfl rfl mo_138 g4 rfl)))))))))))))))))
theorem bL_law_1664 {o0 o1 o3 o4 o5 o6 : Option Value} {y0 : Int} {a2 : Nat} (g1 : T a2 = (8, 0)) : XR sc d 188 1664 [o0, o1, some (.ref a2), o3, o4, o5, o6] [xw y0] (T, z, xv V, J, R) = xret 188 (XR sc d 188) 1667 1670 [o0, o1, some (.ref a2), o3, o4, o5, some (xw y0)] [] (X sc d 92 [.ref a2] (T, z, xv V, J, R)) :=
  (sw_istore (L' := [o0, o1, some (.ref a2), o3, o4, o5, some (xw y0)]) f_188_1664 (Nat.le_of_ble_eq_true rfl) rfl).trans ((st_aload_n f_188_1666 rfl).trans (st_callV' f_188_1667 h_188_117 mn_92 rfl rfl rfl rfl mo_92 g1 rfl))
theorem bL_law_1670 {o0 o1 o2 o3 o4 o6 : Option Value} {x5 y0 : Int} (g1 : -2147483648 ≤ y0 ∧ y0 ≤ 2147483647) (g2 : -2147483648 ≤ x5 ∧ x5 ≤ 2147483647) : XR sc d 188 1670 [o0, o1, o2, o3, o4, some (xw x5), o6] [xw y0] (T, z, xv V, J, R) = if y0 = x5 then XR sc d 188 1677 [o0, o1, o2, o3, o4, some (xw x5), o6] [] (T, z, xv V, J, R) else XR sc d 188 1675 [o0, o1, o2, o3, o4, some (xw x5), o6] [] (T, z, xv V, J, R) :=
  (sw_iload f_188_1670 rfl).trans (sw_icmp_eq (t := 1677) f_188_1672 ⟨by decide, rfl⟩ g1 g2)
theorem bL_law_1675 {o0 o1 o2 o3 o4 o5 o6 : Option Value} : XR sc d 188 1675 [o0, o1, o2, o3, o4, o5, o6] [] (T, z, xv V, J, R) = some (.inl (some (xw 0)), (T, z, xv V, J, R)) :=
  (sw_iconst f_188_1675).trans (sw_zreturn f_188_1676 mr_188 (by decide))
theorem bL_law_1677 {o0 o1 o2 o3 o4 o6 : Option Value} {x5 : Int} (g1 : -2147483648 ≤ x5 ∧ x5 ≤ 2147483647) : XR sc d 188 1677 [o0, o1, o2, o3, o4, some (xw x5), o6] [] (T, z, xv V, J, R) = if x5 = 0 then XR sc d 188 1682 [o0, o1, o2, o3, o4, some (xw x5), o6] [] (T, z, xv V, J, R) else XR sc d 188 1694 [o0, o1, o2, o3, o4, some (xw x5), o6] [] (T, z, xv V, J, R) :=
  (sw_iload f_188_1677 rfl).trans (sw_if_ne (t := 1694) f_188_1679 ⟨by decide, rfl⟩ g1)
theorem bL_law_1682 {o0 o1 o2 o4 o5 : Option Value} {x6 : Int} {a3 : Nat} (g1 : T a3 = (34, (T a3).2)) (g2 : (0 : Int) ≤ 0 ∧ 0 < ((T a3).2 : Int) ∧ (T a3).2 ≤ 3584) (g3 : -2147483648 ≤ (jCmp (J a3 0) (jI x6)) ∧ (jCmp (J a3 0) (jI x6)) ≤ 2147483647) : XR sc d 188 1682 [o0, o1, o2, some (.ref a3), o4, o5, some (xw x6)] [] (T, z, xv V, J, R) = if (jCmp (J a3 0) (jI x6)) = 0 then XR sc d 188 1694 [o0, o1, o2, some (.ref a3), o4, o5, some (xw x6)] [] (T, z, xv V, J, R) else XR sc d 188 1692 [o0, o1, o2, some (.ref a3), o4, o5, some (xw x6)] [] (T, z, xv V, J, R) :=
  (st_aload_n f_188_1682 rfl).trans ((sw_iconst f_188_1683).trans ((sw_laload f_188_1684 g1 g2).trans ((sw_iload f_188_1685 rfl).trans ((sw_i2l f_188_1687).trans ((sw_lcmp f_188_1688).trans (sw_if_eq (t := 1694) f_188_1689 ⟨by decide, rfl⟩ g3))))))
theorem bL_law_1692 {o0 o1 o2 o3 o4 o5 o6 : Option Value} : XR sc d 188 1692 [o0, o1, o2, o3, o4, o5, o6] [] (T, z, xv V, J, R) = some (.inl (some (xw 0)), (T, z, xv V, J, R)) :=
  (sw_iconst f_188_1692).trans (sw_zreturn f_188_1693 mr_188 (by decide))
theorem bL_law_1694 {o0 o1 o2 o3 o4 o5 o6 : Option Value} : XR sc d 188 1694 [o0, o1, o2, o3, o4, o5, o6] [] (T, z, xv V, J, R) = XR sc d 188 2468 [o0, o1, o2, o3, o4, o5, o6] [] (T, z, xv V, J, R) :=
  st_goto (t := 2468) f_188_1694 ⟨by decide, rfl⟩
theorem bL_law_1697 {o2 o5 o6 : Option Value} {x4 : Int} {a1 a3 : Nat} (g1 : (0 : Int) ≤ (x4 + 1) ∧ (x4 + 1) < (sc.1 : Int) ∧ sc.1 ≤ 3584) (g2 : (0 : Int) ≤ (x4 + 2) ∧ (x4 + 2) < (sc.1 : Int) ∧ sc.1 ≤ 3584) (g3 : (0 : Int) ≤ (x4 + 3) ∧ (x4 + 3) < (sc.1 : Int) ∧ sc.1 ≤ 3584) : XR sc d 188 1697 [some (.retAddr 0), some (.ref a1), o2, some (.ref a3), some (xw x4), o5, o6] [] (T, z, xv V, J, R) = xret 188 (XR sc d 188) 1717 1720 [some (.retAddr 0), some (.ref a1), o2, some (.ref a3), some (xw x4), o5, o6] [] (X sc d 179 [.ref a1, xw ((sc.2 (x4 + 1).toNat).toInt), xw ((sc.2 (x4 + 2).toNat).toInt), xw ((sc.2 (x4 + 3).toNat).toInt), .ref a3] (T, z, xv V, J, R)) :=
  (st_aload_n f_188_1697 rfl).trans ((st_aload_nS f_188_1698 rfl).trans ((sw_iload f_188_1699 rfl).trans ((sw_iconst f_188_1701).trans ((sw_iadd f_188_1702).trans ((sw_ialoadS f_188_1703 g1).trans ((st_aload_nS f_188_1704 rfl).trans ((sw_iload f_188_1705 rfl).trans ((sw_iconst f_188_1707).trans ((sw_iadd f_188_1708).trans ((sw_ialoadS f_188_1709 g2).trans ((st_aload_nS f_188_1710 rfl).trans ((sw_iload f_188_1711 rfl).trans ((sw_iconst f_188_1713).trans ((sw_iadd f_188_1714).trans ((sw_ialoadS f_188_1715 g3).trans ((st_aload_n f_188_1716 rfl).trans (st_callS' f_188_1717 h_188_180 mn_179 rfl rfl rfl rfl)))))))))))))))))
theorem bL_law_1720 {o1 o3 o5 o6 : Option Value} {y0 x4 : Int} {a2 : Nat} (g1 : (0 : Int) ≤ (x4 + 1) ∧ (x4 + 1) < (sc.1 : Int) ∧ sc.1 ≤ 3584) (g2 : (0 : Int) ≤ (x4 + 2) ∧ (x4 + 2) < (sc.1 : Int) ∧ sc.1 ≤ 3584) (g3 : (0 : Int) ≤ (x4 + 3) ∧ (x4 + 3) < (sc.1 : Int) ∧ sc.1 ≤ 3584) (g4 : T a2 = (8, 0)) : XR sc d 188 1720 [some (.retAddr 0), o1, some (.ref a2), o3, some (xw x4), o5, o6] [xw y0] (T, z, xv V, J, R) = xret 188 (XR sc d 188) 1741 1744 [some (.retAddr 0), o1, some (.ref a2), o3, some (xw x4), some (xw y0), o6] [] (X sc d 144 [.ref a2, xw ((sc.2 (x4 + 1).toNat).toInt), xw ((sc.2 (x4 + 2).toNat).toInt), xw ((sc.2 (x4 + 3).toNat).toInt)] (T, z, xv V, J, R)) :=
  (sw_istore (L' := [some (.retAddr 0), o1, some (.ref a2), o3, some (xw x4), some (xw y0), o6]) f_188_1720 (Nat.le_of_ble_eq_true rfl) rfl).trans ((st_aload_n f_188_1722 rfl).trans ((st_aload_nS f_188_1723 rfl).trans ((sw_iload f_188_1724 rfl).trans ((sw_iconst f_188_1726).trans ((sw_iadd f_188_1727).trans ((sw_ialoadS f_188_1728 g1).trans ((st_aload_nS f_188_1729 rfl).trans ((sw_iload f_188_1730 rfl).trans ((sw_iconst f_188_1732).trans ((sw_iadd f_188_1733).trans ((sw_ialoadS f_188_1734 g2).trans ((st_aload_nS f_188_1735 rfl).trans ((sw_iload f_188_1736 rfl).trans ((sw_iconst f_188_1738).trans ((sw_iadd f_188_1739).trans ((sw_ialoadS f_188_1740 g3).trans (st_callV' f_188_1741 h_188_182 mn_144 rfl rfl rfl rfl mo_144 g4 rfl)))))))))))))))))
theorem bL_law_1744 {o0 o1 o3 o4 o5 o6 : Option Value} {y0 : Int} {a2 : Nat} (g1 : T a2 = (8, 0)) : XR sc d 188 1744 [o0, o1, some (.ref a2), o3, o4, o5, o6] [xw y0] (T, z, xv V, J, R) = xret 188 (XR sc d 188) 1747 1750 [o0, o1, some (.ref a2), o3, o4, o5, some (xw y0)] [] (X sc d 92 [.ref a2] (T, z, xv V, J, R)) :=
  (sw_istore (L' := [o0, o1, some (.ref a2), o3, o4, o5, some (xw y0)]) f_188_1744 (Nat.le_of_ble_eq_true rfl) rfl).trans ((st_aload_n f_188_1746 rfl).trans (st_callV' f_188_1747 h_188_117 mn_92 rfl rfl rfl rfl mo_92 g1 rfl))
theorem bL_law_1750 {o0 o1 o2 o3 o4 o6 : Option Value} {x5 y0 : Int} (g1 : -2147483648 ≤ y0 ∧ y0 ≤ 2147483647) (g2 : -2147483648 ≤ x5 ∧ x5 ≤ 2147483647) : XR sc d 188 1750 [o0, o1, o2, o3, o4, some (xw x5), o6] [xw y0] (T, z, xv V, J, R) = if y0 = x5 then XR sc d 188 1757 [o0, o1, o2, o3, o4, some (xw x5), o6] [] (T, z, xv V, J, R) else XR sc d 188 1755 [o0, o1, o2, o3, o4, some (xw x5), o6] [] (T, z, xv V, J, R) :=
  (sw_iload f_188_1750 rfl).trans (sw_icmp_eq (t := 1757) f_188_1752 ⟨by decide, rfl⟩ g1 g2)
theorem bL_law_1755 {o0 o1 o2 o3 o4 o5 o6 : Option Value} : XR sc d 188 1755 [o0, o1, o2, o3, o4, o5, o6] [] (T, z, xv V, J, R) = some (.inl (some (xw 0)), (T, z, xv V, J, R)) :=
  (sw_iconst f_188_1755).trans (sw_zreturn f_188_1756 mr_188 (by decide))
theorem bL_law_1757 {o0 o1 o2 o3 o4 o6 : Option Value} {x5 : Int} (g1 : -2147483648 ≤ x5 ∧ x5 ≤ 2147483647) : XR sc d 188 1757 [o0, o1, o2, o3, o4, some (xw x5), o6] [] (T, z, xv V, J, R) = if x5 = 0 then XR sc d 188 1762 [o0, o1, o2, o3, o4, some (xw x5), o6] [] (T, z, xv V, J, R) else XR sc d 188 1774 [o0, o1, o2, o3, o4, some (xw x5), o6] [] (T, z, xv V, J, R) :=
  (sw_iload f_188_1757 rfl).trans (sw_if_ne (t := 1774) f_188_1759 ⟨by decide, rfl⟩ g1)
theorem bL_law_1762 {o0 o1 o2 o4 o5 : Option Value} {x6 : Int} {a3 : Nat} (g1 : T a3 = (34, (T a3).2)) (g2 : (0 : Int) ≤ 0 ∧ 0 < ((T a3).2 : Int) ∧ (T a3).2 ≤ 3584) (g3 : -2147483648 ≤ (jCmp (J a3 0) (jI x6)) ∧ (jCmp (J a3 0) (jI x6)) ≤ 2147483647) : XR sc d 188 1762 [o0, o1, o2, some (.ref a3), o4, o5, some (xw x6)] [] (T, z, xv V, J, R) = if (jCmp (J a3 0) (jI x6)) = 0 then XR sc d 188 1774 [o0, o1, o2, some (.ref a3), o4, o5, some (xw x6)] [] (T, z, xv V, J, R) else XR sc d 188 1772 [o0, o1, o2, some (.ref a3), o4, o5, some (xw x6)] [] (T, z, xv V, J, R) :=
  (st_aload_n f_188_1762 rfl).trans ((sw_iconst f_188_1763).trans ((sw_laload f_188_1764 g1 g2).trans ((sw_iload f_188_1765 rfl).trans ((sw_i2l f_188_1767).trans ((sw_lcmp f_188_1768).trans (sw_if_eq (t := 1774) f_188_1769 ⟨by decide, rfl⟩ g3))))))
theorem bL_law_1772 {o0 o1 o2 o3 o4 o5 o6 : Option Value} : XR sc d 188 1772 [o0, o1, o2, o3, o4, o5, o6] [] (T, z, xv V, J, R) = some (.inl (some (xw 0)), (T, z, xv V, J, R)) :=
  (sw_iconst f_188_1772).trans (sw_zreturn f_188_1773 mr_188 (by decide))
theorem bL_law_1774 {o0 o1 o2 o3 o4 o5 o6 : Option Value} : XR sc d 188 1774 [o0, o1, o2, o3, o4, o5, o6] [] (T, z, xv V, J, R) = XR sc d 188 2468 [o0, o1, o2, o3, o4, o5, o6] [] (T, z, xv V, J, R) :=
  st_goto (t := 2468) f_188_1774 ⟨by decide, rfl⟩
theorem bL_law_1777 {o2 o5 o6 : Option Value} {x4 : Int} {a1 a3 : Nat} (g1 : (0 : Int) ≤ (x4 + 1) ∧ (x4 + 1) < (sc.1 : Int) ∧ sc.1 ≤ 3584) (g2 : (0 : Int) ≤ (x4 + 2) ∧ (x4 + 2) < (sc.1 : Int) ∧ sc.1 ≤ 3584) (g3 : (0 : Int) ≤ (x4 + 3) ∧ (x4 + 3) < (sc.1 : Int) ∧ sc.1 ≤ 3584) : XR sc d 188 1777 [some (.retAddr 0), some (.ref a1), o2, some (.ref a3), some (xw x4), o5, o6] [] (T, z, xv V, J, R) = xret 188 (XR sc d 188) 1797 1800 [some (.retAddr 0), some (.ref a1), o2, some (.ref a3), some (xw x4), o5, o6] [] (X sc d 180 [.ref a1, xw ((sc.2 (x4 + 1).toNat).toInt), xw ((sc.2 (x4 + 2).toNat).toInt), xw ((sc.2 (x4 + 3).toNat).toInt), .ref a3] (T, z, xv V, J, R)) :=
  (st_aload_n f_188_1777 rfl).trans ((st_aload_nS f_188_1778 rfl).trans ((sw_iload f_188_1779 rfl).trans ((sw_iconst f_188_1781).trans ((sw_iadd f_188_1782).trans ((sw_ialoadS f_188_1783 g1).trans ((st_aload_nS f_188_1784 rfl).trans ((sw_iload f_188_1785 rfl).trans ((sw_iconst f_188_1787).trans ((sw_iadd f_188_1788).trans ((sw_ialoadS f_188_1789 g2).trans ((st_aload_nS f_188_1790 rfl).trans ((sw_iload f_188_1791 rfl).trans ((sw_iconst f_188_1793).trans ((sw_iadd f_188_1794).trans ((sw_ialoadS f_188_1795 g3).trans ((st_aload_n f_188_1796 rfl).trans (st_callS' f_188_1797 h_188_183 mn_180 rfl rfl rfl rfl)))))))))))))))))
theorem bL_law_1800 {o1 o3 o5 o6 : Option Value} {y0 x4 : Int} {a2 : Nat} (g1 : (0 : Int) ≤ (x4 + 1) ∧ (x4 + 1) < (sc.1 : Int) ∧ sc.1 ≤ 3584) (g2 : (0 : Int) ≤ (x4 + 2) ∧ (x4 + 2) < (sc.1 : Int) ∧ sc.1 ≤ 3584) (g3 : (0 : Int) ≤ (x4 + 3) ∧ (x4 + 3) < (sc.1 : Int) ∧ sc.1 ≤ 3584) (g4 : T a2 = (8, 0)) : XR sc d 188 1800 [some (.retAddr 0), o1, some (.ref a2), o3, some (xw x4), o5, o6] [xw y0] (T, z, xv V, J, R) = xret 188 (XR sc d 188) 1821 1824 [some (.retAddr 0), o1, some (.ref a2), o3, some (xw x4), some (xw y0), o6] [] (X sc d 145 [.ref a2, xw ((sc.2 (x4 + 1).toNat).toInt), xw ((sc.2 (x4 + 2).toNat).toInt), xw ((sc.2 (x4 + 3).toNat).toInt)] (T, z, xv V, J, R)) :=
  (sw_istore (L' := [some (.retAddr 0), o1, some (.ref a2), o3, some (xw x4), some (xw y0), o6]) f_188_1800 (Nat.le_of_ble_eq_true rfl) rfl).trans ((st_aload_n f_188_1802 rfl).trans ((st_aload_nS f_188_1803 rfl).trans ((sw_iload f_188_1804 rfl).trans ((sw_iconst f_188_1806).trans ((sw_iadd f_188_1807).trans ((sw_ialoadS f_188_1808 g1).trans ((st_aload_nS f_188_1809 rfl).trans ((sw_iload f_188_1810 rfl).trans ((sw_iconst f_188_1812).trans ((sw_iadd f_188_1813).trans ((sw_ialoadS f_188_1814 g2).trans ((st_aload_nS f_188_1815 rfl).trans ((sw_iload f_188_1816 rfl).trans ((sw_iconst f_188_1818).trans ((sw_iadd f_188_1819).trans ((sw_ialoadS f_188_1820 g3).trans (st_callV' f_188_1821 h_188_185 mn_145 rfl rfl rfl rfl mo_145 g4 rfl)))))))))))))))))
theorem bL_law_1824 {o0 o1 o3 o4 o5 o6 : Option Value} {y0 : Int} {a2 : Nat} (g1 : T a2 = (8, 0)) : XR sc d 188 1824 [o0, o1, some (.ref a2), o3, o4, o5, o6] [xw y0] (T, z, xv V, J, R) = xret 188 (XR sc d 188) 1827 1830 [o0, o1, some (.ref a2), o3, o4, o5, some (xw y0)] [] (X sc d 92 [.ref a2] (T, z, xv V, J, R)) :=
  (sw_istore (L' := [o0, o1, some (.ref a2), o3, o4, o5, some (xw y0)]) f_188_1824 (Nat.le_of_ble_eq_true rfl) rfl).trans ((st_aload_n f_188_1826 rfl).trans (st_callV' f_188_1827 h_188_117 mn_92 rfl rfl rfl rfl mo_92 g1 rfl))
theorem bL_law_1830 {o0 o1 o2 o3 o4 o6 : Option Value} {x5 y0 : Int} (g1 : -2147483648 ≤ y0 ∧ y0 ≤ 2147483647) (g2 : -2147483648 ≤ x5 ∧ x5 ≤ 2147483647) : XR sc d 188 1830 [o0, o1, o2, o3, o4, some (xw x5), o6] [xw y0] (T, z, xv V, J, R) = if y0 = x5 then XR sc d 188 1837 [o0, o1, o2, o3, o4, some (xw x5), o6] [] (T, z, xv V, J, R) else XR sc d 188 1835 [o0, o1, o2, o3, o4, some (xw x5), o6] [] (T, z, xv V, J, R) :=
  (sw_iload f_188_1830 rfl).trans (sw_icmp_eq (t := 1837) f_188_1832 ⟨by decide, rfl⟩ g1 g2)
theorem bL_law_1835 {o0 o1 o2 o3 o4 o5 o6 : Option Value} : XR sc d 188 1835 [o0, o1, o2, o3, o4, o5, o6] [] (T, z, xv V, J, R) = some (.inl (some (xw 0)), (T, z, xv V, J, R)) :=
  (sw_iconst f_188_1835).trans (sw_zreturn f_188_1836 mr_188 (by decide))
theorem bL_law_1837 {o0 o1 o2 o3 o4 o6 : Option Value} {x5 : Int} (g1 : -2147483648 ≤ x5 ∧ x5 ≤ 2147483647) : XR sc d 188 1837 [o0, o1, o2, o3, o4, some (xw x5), o6] [] (T, z, xv V, J, R) = if x5 = 0 then XR sc d 188 1842 [o0, o1, o2, o3, o4, some (xw x5), o6] [] (T, z, xv V, J, R) else XR sc d 188 1854 [o0, o1, o2, o3, o4, some (xw x5), o6] [] (T, z, xv V, J, R) :=
  (sw_iload f_188_1837 rfl).trans (sw_if_ne (t := 1854) f_188_1839 ⟨by decide, rfl⟩ g1)
theorem bL_law_1842 {o0 o1 o2 o4 o5 : Option Value} {x6 : Int} {a3 : Nat} (g1 : T a3 = (34, (T a3).2)) (g2 : (0 : Int) ≤ 0 ∧ 0 < ((T a3).2 : Int) ∧ (T a3).2 ≤ 3584) (g3 : -2147483648 ≤ (jCmp (J a3 0) (jI x6)) ∧ (jCmp (J a3 0) (jI x6)) ≤ 2147483647) : XR sc d 188 1842 [o0, o1, o2, some (.ref a3), o4, o5, some (xw x6)] [] (T, z, xv V, J, R) = if (jCmp (J a3 0) (jI x6)) = 0 then XR sc d 188 1854 [o0, o1, o2, some (.ref a3), o4, o5, some (xw x6)] [] (T, z, xv V, J, R) else XR sc d 188 1852 [o0, o1, o2, some (.ref a3), o4, o5, some (xw x6)] [] (T, z, xv V, J, R) :=
  (st_aload_n f_188_1842 rfl).trans ((sw_iconst f_188_1843).trans ((sw_laload f_188_1844 g1 g2).trans ((sw_iload f_188_1845 rfl).trans ((sw_i2l f_188_1847).trans ((sw_lcmp f_188_1848).trans (sw_if_eq (t := 1854) f_188_1849 ⟨by decide, rfl⟩ g3))))))
theorem bL_law_1852 {o0 o1 o2 o3 o4 o5 o6 : Option Value} : XR sc d 188 1852 [o0, o1, o2, o3, o4, o5, o6] [] (T, z, xv V, J, R) = some (.inl (some (xw 0)), (T, z, xv V, J, R)) :=
  (sw_iconst f_188_1852).trans (sw_zreturn f_188_1853 mr_188 (by decide))
theorem bL_law_1854 {o0 o1 o2 o3 o4 o5 o6 : Option Value} : XR sc d 188 1854 [o0, o1, o2, o3, o4, o5, o6] [] (T, z, xv V, J, R) = XR sc d 188 2468 [o0, o1, o2, o3, o4, o5, o6] [] (T, z, xv V, J, R) :=
  st_goto (t := 2468) f_188_1854 ⟨by decide, rfl⟩
theorem bL_law_1857 {o2 o5 o6 : Option Value} {x4 : Int} {a1 a3 : Nat} (g1 : (0 : Int) ≤ (x4 + 1) ∧ (x4 + 1) < (sc.1 : Int) ∧ sc.1 ≤ 3584) (g2 : (0 : Int) ≤ (x4 + 2) ∧ (x4 + 2) < (sc.1 : Int) ∧ sc.1 ≤ 3584) (g3 : (0 : Int) ≤ (x4 + 3) ∧ (x4 + 3) < (sc.1 : Int) ∧ sc.1 ≤ 3584) (g4 : (0 : Int) ≤ (x4 + 4) ∧ (x4 + 4) < (sc.1 : Int) ∧ sc.1 ≤ 3584) : XR sc d 188 1857 [some (.retAddr 0), some (.ref a1), o2, some (.ref a3), some (xw x4), o5, o6] [] (T, z, xv V, J, R) = xret 188 (XR sc d 188) 1883 1886 [some (.retAddr 0), some (.ref a1), o2, some (.ref a3), some (xw x4), o5, o6] [] (X sc d 181 [.ref a1, xw ((sc.2 (x4 + 1).toNat).toInt), xw ((sc.2 (x4 + 2).toNat).toInt), xw ((sc.2 (x4 + 3).toNat).toInt), xw ((sc.2 (x4 + 4).toNat).toInt), .ref a3] (T, z, xv V, J, R)) :=
  (st_aload_n f_188_1857 rfl).trans ((st_aload_nS f_188_1858 rfl).trans ((sw_iload f_188_1859 rfl).trans ((sw_iconst f_188_1861).trans ((sw_iadd f_188_1862).trans ((sw_ialoadS f_188_1863 g1).trans ((st_aload_nS f_188_1864 rfl).trans ((sw_iload f_188_1865 rfl).trans ((sw_iconst f_188_1867).trans ((sw_iadd f_188_1868).trans ((sw_ialoadS f_188_1869 g2).trans ((st_aload_nS f_188_1870 rfl).trans ((sw_iload f_188_1871 rfl).trans ((sw_iconst f_188_1873).trans ((sw_iadd f_188_1874).trans ((sw_ialoadS f_188_1875 g3).trans ((st_aload_nS f_188_1876 rfl).trans ((sw_iload f_188_1877 rfl).trans ((sw_iconst f_188_1879).trans ((sw_iadd f_188_1880).trans ((sw_ialoadS f_188_1881 g4).trans ((st_aload_n f_188_1882 rfl).trans (st_callS' f_188_1883 h_188_186 mn_181 rfl rfl rfl rfl))))))))))))))))))))))
theorem bL_law_1886 {o1 o3 o5 o6 : Option Value} {y0 x4 : Int} {a2 : Nat} (g1 : (0 : Int) ≤ (x4 + 1) ∧ (x4 + 1) < (sc.1 : Int) ∧ sc.1 ≤ 3584) (g2 : (0 : Int) ≤ (x4 + 2) ∧ (x4 + 2) < (sc.1 : Int) ∧ sc.1 ≤ 3584) (g3 : (0 : Int) ≤ (x4 + 3) ∧ (x4 + 3) < (sc.1 : Int) ∧ sc.1 ≤ 3584) (g4 : (0 : Int) ≤ (x4 + 4) ∧ (x4 + 4) < (sc.1 : Int) ∧ sc.1 ≤ 3584) (g5 : T a2 = (8, 0)) : XR sc d 188 1886 [some (.retAddr 0), o1, some (.ref a2), o3, some (xw x4), o5, o6] [xw y0] (T, z, xv V, J, R) = xret 188 (XR sc d 188) 1913 1916 [some (.retAddr 0), o1, some (.ref a2), o3, some (xw x4), some (xw y0), o6] [] (X sc d 146 [.ref a2, xw ((sc.2 (x4 + 1).toNat).toInt), xw ((sc.2 (x4 + 2).toNat).toInt), xw ((sc.2 (x4 + 3).toNat).toInt), xw ((sc.2 (x4 + 4).toNat).toInt)] (T, z, xv V, J, R)) :=
  (sw_istore (L' := [some (.retAddr 0), o1, some (.ref a2), o3, some (xw x4), some (xw y0), o6]) f_188_1886 (Nat.le_of_ble_eq_true rfl) rfl).trans ((st_aload_n f_188_1888 rfl).trans ((st_aload_nS f_188_1889 rfl).trans ((sw_iload f_188_1890 rfl).trans ((sw_iconst f_188_1892).trans ((sw_iadd f_188_1893).trans ((sw_ialoadS f_188_1894 g1).trans ((st_aload_nS f_188_1895 rfl).trans ((sw_iload f_188_1896 rfl).trans ((sw_iconst f_188_1898).trans ((sw_iadd f_188_1899).trans ((sw_ialoadS f_188_1900 g2).trans ((st_aload_nS f_188_1901 rfl).trans ((sw_iload f_188_1902 rfl).trans ((sw_iconst f_188_1904).trans ((sw_iadd f_188_1905).trans ((sw_ialoadS f_188_1906 g3).trans ((st_aload_nS f_188_1907 rfl).trans ((sw_iload f_188_1908 rfl).trans ((sw_iconst f_188_1910).trans ((sw_iadd f_188_1911).trans ((sw_ialoadS f_188_1912 g4).trans (st_callV' f_188_1913 h_188_188 mn_146 rfl rfl rfl rfl mo_146 g5 rfl))))))))))))))))))))))
theorem bL_law_1916 {o0 o1 o3 o4 o5 o6 : Option Value} {y0 : Int} {a2 : Nat} (g1 : T a2 = (8, 0)) : XR sc d 188 1916 [o0, o1, some (.ref a2), o3, o4, o5, o6] [xw y0] (T, z, xv V, J, R) = xret 188 (XR sc d 188) 1919 1922 [o0, o1, some (.ref a2), o3, o4, o5, some (xw y0)] [] (X sc d 92 [.ref a2] (T, z, xv V, J, R)) :=
  (sw_istore (L' := [o0, o1, some (.ref a2), o3, o4, o5, some (xw y0)]) f_188_1916 (Nat.le_of_ble_eq_true rfl) rfl).trans ((st_aload_n f_188_1918 rfl).trans (st_callV' f_188_1919 h_188_117 mn_92 rfl rfl rfl rfl mo_92 g1 rfl))
theorem bL_law_1922 {o0 o1 o2 o3 o4 o6 : Option Value} {x5 y0 : Int} (g1 : -2147483648 ≤ y0 ∧ y0 ≤ 2147483647) (g2 : -2147483648 ≤ x5 ∧ x5 ≤ 2147483647) : XR sc d 188 1922 [o0, o1, o2, o3, o4, some (xw x5), o6] [xw y0] (T, z, xv V, J, R) = if y0 = x5 then XR sc d 188 1929 [o0, o1, o2, o3, o4, some (xw x5), o6] [] (T, z, xv V, J, R) else XR sc d 188 1927 [o0, o1, o2, o3, o4, some (xw x5), o6] [] (T, z, xv V, J, R) :=
  (sw_iload f_188_1922 rfl).trans (sw_icmp_eq (t := 1929) f_188_1924 ⟨by decide, rfl⟩ g1 g2)
theorem bL_law_1927 {o0 o1 o2 o3 o4 o5 o6 : Option Value} : XR sc d 188 1927 [o0, o1, o2, o3, o4, o5, o6] [] (T, z, xv V, J, R) = some (.inl (some (xw 0)), (T, z, xv V, J, R)) :=
  (sw_iconst f_188_1927).trans (sw_zreturn f_188_1928 mr_188 (by decide))
theorem bL_law_1929 {o0 o1 o2 o3 o4 o6 : Option Value} {x5 : Int} (g1 : -2147483648 ≤ x5 ∧ x5 ≤ 2147483647) : XR sc d 188 1929 [o0, o1, o2, o3, o4, some (xw x5), o6] [] (T, z, xv V, J, R) = if x5 = 0 then XR sc d 188 1934 [o0, o1, o2, o3, o4, some (xw x5), o6] [] (T, z, xv V, J, R) else XR sc d 188 1946 [o0, o1, o2, o3, o4, some (xw x5), o6] [] (T, z, xv V, J, R) :=
  (sw_iload f_188_1929 rfl).trans (sw_if_ne (t := 1946) f_188_1931 ⟨by decide, rfl⟩ g1)
theorem bL_law_1934 {o0 o1 o2 o4 o5 : Option Value} {x6 : Int} {a3 : Nat} (g1 : T a3 = (34, (T a3).2)) (g2 : (0 : Int) ≤ 0 ∧ 0 < ((T a3).2 : Int) ∧ (T a3).2 ≤ 3584) (g3 : -2147483648 ≤ (jCmp (J a3 0) (jI x6)) ∧ (jCmp (J a3 0) (jI x6)) ≤ 2147483647) : XR sc d 188 1934 [o0, o1, o2, some (.ref a3), o4, o5, some (xw x6)] [] (T, z, xv V, J, R) = if (jCmp (J a3 0) (jI x6)) = 0 then XR sc d 188 1946 [o0, o1, o2, some (.ref a3), o4, o5, some (xw x6)] [] (T, z, xv V, J, R) else XR sc d 188 1944 [o0, o1, o2, some (.ref a3), o4, o5, some (xw x6)] [] (T, z, xv V, J, R) :=
  (st_aload_n f_188_1934 rfl).trans ((sw_iconst f_188_1935).trans ((sw_laload f_188_1936 g1 g2).trans ((sw_iload f_188_1937 rfl).trans ((sw_i2l f_188_1939).trans ((sw_lcmp f_188_1940).trans (sw_if_eq (t := 1946) f_188_1941 ⟨by decide, rfl⟩ g3))))))
theorem bL_law_1944 {o0 o1 o2 o3 o4 o5 o6 : Option Value} : XR sc d 188 1944 [o0, o1, o2, o3, o4, o5, o6] [] (T, z, xv V, J, R) = some (.inl (some (xw 0)), (T, z, xv V, J, R)) :=
  (sw_iconst f_188_1944).trans (sw_zreturn f_188_1945 mr_188 (by decide))
theorem bL_law_1946 {o0 o1 o2 o3 o4 o5 o6 : Option Value} : XR sc d 188 1946 [o0, o1, o2, o3, o4, o5, o6] [] (T, z, xv V, J, R) = XR sc d 188 2468 [o0, o1, o2, o3, o4, o5, o6] [] (T, z, xv V, J, R) :=
  st_goto (t := 2468) f_188_1946 ⟨by decide, rfl⟩
theorem bL_law_1949 {o2 o5 o6 : Option Value} {x4 : Int} {a1 a3 : Nat} (g1 : (0 : Int) ≤ (x4 + 1) ∧ (x4 + 1) < (sc.1 : Int) ∧ sc.1 ≤ 3584) (g2 : (0 : Int) ≤ (x4 + 2) ∧ (x4 + 2) < (sc.1 : Int) ∧ sc.1 ≤ 3584) (g3 : (0 : Int) ≤ (x4 + 3) ∧ (x4 + 3) < (sc.1 : Int) ∧ sc.1 ≤ 3584) : XR sc d 188 1949 [some (.retAddr 0), some (.ref a1), o2, some (.ref a3), some (xw x4), o5, o6] [] (T, z, xv V, J, R) = xret 188 (XR sc d 188) 1969 1972 [some (.retAddr 0), some (.ref a1), o2, some (.ref a3), some (xw x4), o5, o6] [] (X sc d 182 [.ref a1, xw ((sc.2 (x4 + 1).toNat).toInt), xw ((sc.2 (x4 + 2).toNat).toInt), xw ((sc.2 (x4 + 3).toNat).toInt), .ref a3] (T, z, xv V, J, R)) :=
  (st_aload_n f_188_1949 rfl).trans ((st_aload_nS f_188_1950 rfl).trans ((sw_iload f_188_1951 rfl).trans ((sw_iconst f_188_1953).trans ((sw_iadd f_188_1954).trans ((sw_ialoadS f_188_1955 g1).trans ((st_aload_nS f_188_1956 rfl).trans ((sw_iload f_188_1957 rfl).trans ((sw_iconst f_188_1959).trans ((sw_iadd f_188_1960).trans ((sw_ialoadS f_188_1961 g2).trans ((st_aload_nS f_188_1962 rfl).trans ((sw_iload f_188_1963 rfl).trans ((sw_iconst f_188_1965).trans ((sw_iadd f_188_1966).trans ((sw_ialoadS f_188_1967 g3).trans ((st_aload_n f_188_1968 rfl).trans (st_callS' f_188_1969 h_188_189 mn_182 rfl rfl rfl rfl)))))))))))))))))
theorem bL_law_1972 {o1 o3 o5 o6 : Option Value} {y0 x4 : Int} {a2 : Nat} (g1 : (0 : Int) ≤ (x4 + 1) ∧ (x4 + 1) < (sc.1 : Int) ∧ sc.1 ≤ 3584) (g2 : (0 : Int) ≤ (x4 + 2) ∧ (x4 + 2) < (sc.1 : Int) ∧ sc.1 ≤ 3584) (g3 : (0 : Int) ≤ (x4 + 3) ∧ (x4 + 3) < (sc.1 : Int) ∧ sc.1 ≤ 3584) (g4 : T a2 = (8, 0)) : XR sc d 188 1972 [some (.retAddr 0), o1, some (.ref a2), o3, some (xw x4), o5, o6] [xw y0] (T, z, xv V, J, R) = xret 188 (XR sc d 188) 1993 1996 [some (.retAddr 0), o1, some (.ref a2), o3, some (xw x4), some (xw y0), o6] [] (X sc d 147 [.ref a2, xw ((sc.2 (x4 + 1).toNat).toInt), xw ((sc.2 (x4 + 2).toNat).toInt), xw ((sc.2 (x4 + 3).toNat).toInt)] (T, z, xv V, J, R)) :=
  (sw_istore (L' := [some (.retAddr 0), o1, some (.ref a2), o3, some (xw x4), some (xw y0), o6]) f_188_1972 (Nat.le_of_ble_eq_true rfl) rfl).trans ((st_aload_n f_188_1974 rfl).trans ((st_aload_nS f_188_1975 rfl).trans ((sw_iload f_188_1976 rfl).trans ((sw_iconst f_188_1978).trans ((sw_iadd f_188_1979).trans ((sw_ialoadS f_188_1980 g1).trans ((st_aload_nS f_188_1981 rfl).trans ((sw_iload f_188_1982 rfl).trans ((sw_iconst f_188_1984).trans ((sw_iadd f_188_1985).trans ((sw_ialoadS f_188_1986 g2).trans ((st_aload_nS f_188_1987 rfl).trans ((sw_iload f_188_1988 rfl).trans ((sw_iconst f_188_1990).trans ((sw_iadd f_188_1991).trans ((sw_ialoadS f_188_1992 g3).trans (st_callV' f_188_1993 h_188_191 mn_147 rfl rfl rfl rfl mo_147 g4 rfl)))))))))))))))))
theorem bL_law_1996 {o0 o1 o3 o4 o5 o6 : Option Value} {y0 : Int} {a2 : Nat} (g1 : T a2 = (8, 0)) : XR sc d 188 1996 [o0, o1, some (.ref a2), o3, o4, o5, o6] [xw y0] (T, z, xv V, J, R) = xret 188 (XR sc d 188) 1999 2002 [o0, o1, some (.ref a2), o3, o4, o5, some (xw y0)] [] (X sc d 92 [.ref a2] (T, z, xv V, J, R)) :=
  (sw_istore (L' := [o0, o1, some (.ref a2), o3, o4, o5, some (xw y0)]) f_188_1996 (Nat.le_of_ble_eq_true rfl) rfl).trans ((st_aload_n f_188_1998 rfl).trans (st_callV' f_188_1999 h_188_117 mn_92 rfl rfl rfl rfl mo_92 g1 rfl))
theorem bL_law_2002 {o0 o1 o2 o3 o4 o6 : Option Value} {x5 y0 : Int} (g1 : -2147483648 ≤ y0 ∧ y0 ≤ 2147483647) (g2 : -2147483648 ≤ x5 ∧ x5 ≤ 2147483647) : XR sc d 188 2002 [o0, o1, o2, o3, o4, some (xw x5), o6] [xw y0] (T, z, xv V, J, R) = if y0 = x5 then XR sc d 188 2009 [o0, o1, o2, o3, o4, some (xw x5), o6] [] (T, z, xv V, J, R) else XR sc d 188 2007 [o0, o1, o2, o3, o4, some (xw x5), o6] [] (T, z, xv V, J, R) :=
  (sw_iload f_188_2002 rfl).trans (sw_icmp_eq (t := 2009) f_188_2004 ⟨by decide, rfl⟩ g1 g2)
theorem bL_law_2007 {o0 o1 o2 o3 o4 o5 o6 : Option Value} : XR sc d 188 2007 [o0, o1, o2, o3, o4, o5, o6] [] (T, z, xv V, J, R) = some (.inl (some (xw 0)), (T, z, xv V, J, R)) :=
  (sw_iconst f_188_2007).trans (sw_zreturn f_188_2008 mr_188 (by decide))
theorem bL_law_2009 {o0 o1 o2 o3 o4 o6 : Option Value} {x5 : Int} (g1 : -2147483648 ≤ x5 ∧ x5 ≤ 2147483647) : XR sc d 188 2009 [o0, o1, o2, o3, o4, some (xw x5), o6] [] (T, z, xv V, J, R) = if x5 = 0 then XR sc d 188 2014 [o0, o1, o2, o3, o4, some (xw x5), o6] [] (T, z, xv V, J, R) else XR sc d 188 2026 [o0, o1, o2, o3, o4, some (xw x5), o6] [] (T, z, xv V, J, R) :=
  (sw_iload f_188_2009 rfl).trans (sw_if_ne (t := 2026) f_188_2011 ⟨by decide, rfl⟩ g1)
theorem bL_law_2014 {o0 o1 o2 o4 o5 : Option Value} {x6 : Int} {a3 : Nat} (g1 : T a3 = (34, (T a3).2)) (g2 : (0 : Int) ≤ 0 ∧ 0 < ((T a3).2 : Int) ∧ (T a3).2 ≤ 3584) (g3 : -2147483648 ≤ (jCmp (J a3 0) (jI x6)) ∧ (jCmp (J a3 0) (jI x6)) ≤ 2147483647) : XR sc d 188 2014 [o0, o1, o2, some (.ref a3), o4, o5, some (xw x6)] [] (T, z, xv V, J, R) = if (jCmp (J a3 0) (jI x6)) = 0 then XR sc d 188 2026 [o0, o1, o2, some (.ref a3), o4, o5, some (xw x6)] [] (T, z, xv V, J, R) else XR sc d 188 2024 [o0, o1, o2, some (.ref a3), o4, o5, some (xw x6)] [] (T, z, xv V, J, R) :=
  (st_aload_n f_188_2014 rfl).trans ((sw_iconst f_188_2015).trans ((sw_laload f_188_2016 g1 g2).trans ((sw_iload f_188_2017 rfl).trans ((sw_i2l f_188_2019).trans ((sw_lcmp f_188_2020).trans (sw_if_eq (t := 2026) f_188_2021 ⟨by decide, rfl⟩ g3))))))
theorem bL_law_2024 {o0 o1 o2 o3 o4 o5 o6 : Option Value} : XR sc d 188 2024 [o0, o1, o2, o3, o4, o5, o6] [] (T, z, xv V, J, R) = some (.inl (some (xw 0)), (T, z, xv V, J, R)) :=
  (sw_iconst f_188_2024).trans (sw_zreturn f_188_2025 mr_188 (by decide))
theorem bL_law_2026 {o0 o1 o2 o3 o4 o5 o6 : Option Value} : XR sc d 188 2026 [o0, o1, o2, o3, o4, o5, o6] [] (T, z, xv V, J, R) = XR sc d 188 2468 [o0, o1, o2, o3, o4, o5, o6] [] (T, z, xv V, J, R) :=
  st_goto (t := 2468) f_188_2026 ⟨by decide, rfl⟩
theorem bL_law_2029 {o2 o5 o6 : Option Value} {x4 : Int} {a1 a3 : Nat} (g1 : (0 : Int) ≤ (x4 + 1) ∧ (x4 + 1) < (sc.1 : Int) ∧ sc.1 ≤ 3584) (g2 : (0 : Int) ≤ (x4 + 2) ∧ (x4 + 2) < (sc.1 : Int) ∧ sc.1 ≤ 3584) (g3 : (0 : Int) ≤ (x4 + 3) ∧ (x4 + 3) < (sc.1 : Int) ∧ sc.1 ≤ 3584) (g4 : (0 : Int) ≤ (x4 + 4) ∧ (x4 + 4) < (sc.1 : Int) ∧ sc.1 ≤ 3584) (g5 : (0 : Int) ≤ (x4 + 5) ∧ (x4 + 5) < (sc.1 : Int) ∧ sc.1 ≤ 3584) (g6 : (0 : Int) ≤ (x4 + 6) ∧ (x4 + 6) < (sc.1 : Int) ∧ sc.1 ≤ 3584) : XR sc d 188 2029 [some (.retAddr 0), some (.ref a1), o2, some (.ref a3), some (xw x4), o5, o6] [] (T, z, xv V, J, R) = xret 188 (XR sc d 188) 2068 2071 [some (.retAddr 0), some (.ref a1), o2, some (.ref a3), some (xw x4), o5, o6] [] (X sc d 183 [.ref a1, xw ((sc.2 (x4 + 1).toNat).toInt), xw ((sc.2 (x4 + 2).toNat).toInt), xw ((sc.2 (x4 + 3).toNat).toInt), xw ((sc.2 (x4 + 4).toNat).toInt), xw ((sc.2 (x4 + 5).toNat).toInt), xw ((sc.2 (x4 + 6).toNat).toInt), .ref a3] (T, z, xv V, J, R)) :=
  (st_aload_n f_188_2029 rfl).trans ((st_aload_nS f_188_2030 rfl).trans ((sw_iload f_188_2031 rfl).trans ((sw_iconst f_188_2033).trans ((sw_iadd f_188_2034).trans ((sw_ialoadS f_188_2035 g1).trans ((st_aload_nS f_188_2036 rfl).trans ((sw_iload f_188_2037 rfl).trans ((sw_iconst f_188_2039).trans ((sw_iadd f_188_2040).trans ((sw_ialoadS f_188_2041 g2).trans ((st_aload_nS f_188_2042 rfl).trans ((sw_iload f_188_2043 rfl).trans ((sw_iconst f_188_2045).trans ((sw_iadd f_188_2046).trans ((sw_ialoadS f_188_2047 g3).trans ((st_aload_nS f_188_2048 rfl).trans ((sw_iload f_188_2049 rfl).trans ((sw_iconst f_188_2051).trans ((sw_iadd f_188_2052).trans ((sw_ialoadS f_188_2053 g4).trans ((st_aload_nS f_188_2054 rfl).trans ((sw_iload f_188_2055 rfl).trans ((sw_iconst f_188_2057).trans ((sw_iadd f_188_2058).trans ((sw_ialoadS f_188_2059 g5).trans ((st_aload_nS f_188_2060 rfl).trans ((sw_iload f_188_2061 rfl).trans ((sw_bipush f_188_2063 c8_6).trans ((sw_iadd f_188_2065).trans ((sw_ialoadS f_188_2066 g6).trans ((st_aload_n f_188_2067 rfl).trans (st_callS' f_188_2068 h_188_192 mn_183 rfl rfl rfl rfl))))))))))))))))))))))))))))))))
theorem bL_law_2071 {o1 o3 o5 o6 : Option Value} {y0 x4 : Int} {a2 : Nat} (g1 : (0 : Int) ≤ (x4 + 1) ∧ (x4 + 1) < (sc.1 : Int) ∧ sc.1 ≤ 3584) (g2 : (0 : Int) ≤ (x4 + 2) ∧ (x4 + 2) < (sc.1 : Int) ∧ sc.1 ≤ 3584) (g3 : (0 : Int) ≤ (x4 + 3) ∧ (x4 + 3) < (sc.1 : Int) ∧ sc.1 ≤ 3584) (g4 : (0 : Int) ≤ (x4 + 4) ∧ (x4 + 4) < (sc.1 : Int) ∧ sc.1 ≤ 3584) (g5 : (0 : Int) ≤ (x4 + 5) ∧ (x4 + 5) < (sc.1 : Int) ∧ sc.1 ≤ 3584) (g6 : (0 : Int) ≤ (x4 + 6) ∧ (x4 + 6) < (sc.1 : Int) ∧ sc.1 ≤ 3584) (g7 : T a2 = (8, 0)) : XR sc d 188 2071 [some (.retAddr 0), o1, some (.ref a2), o3, some (xw x4), o5, o6] [xw y0] (T, z, xv V, J, R) = xret 188 (XR sc d 188) 2111 2114 [some (.retAddr 0), o1, some (.ref a2), o3, some (xw x4), some (xw y0), o6] [] (X sc d 149 [.ref a2, xw ((sc.2 (x4 + 1).toNat).toInt), xw ((sc.2 (x4 + 2).toNat).toInt), xw ((sc.2 (x4 + 3).toNat).toInt), xw ((sc.2 (x4 + 4).toNat).toInt), xw ((sc.2 (x4 + 5).toNat).toInt), xw ((sc.2 (x4 + 6).toNat).toInt)] (T, z, xv V, J, R)) :=
  (sw_istore (L' := [some (.retAddr 0), o1, some (.ref a2), o3, some (xw x4), some (xw y0), o6]) f_188_2071 (Nat.le_of_ble_eq_true rfl) rfl).trans ((st_aload_n f_188_2073 rfl).trans ((st_aload_nS f_188_2074 rfl).trans ((sw_iload f_188_2075 rfl).trans ((sw_iconst f_188_2077).trans ((sw_iadd f_188_2078).trans ((sw_ialoadS f_188_2079 g1).trans ((st_aload_nS f_188_2080 rfl).trans ((sw_iload f_188_2081 rfl).trans ((sw_iconst f_188_2083).trans ((sw_iadd f_188_2084).trans ((sw_ialoadS f_188_2085 g2).trans ((st_aload_nS f_188_2086 rfl).trans ((sw_iload f_188_2087 rfl).trans ((sw_iconst f_188_2089).trans ((sw_iadd f_188_2090).trans ((sw_ialoadS f_188_2091 g3).trans ((st_aload_nS f_188_2092 rfl).trans ((sw_iload f_188_2093 rfl).trans ((sw_iconst f_188_2095).trans ((sw_iadd f_188_2096).trans ((sw_ialoadS f_188_2097 g4).trans ((st_aload_nS f_188_2098 rfl).trans ((sw_iload f_188_2099 rfl).trans ((sw_iconst f_188_2101).trans ((sw_iadd f_188_2102).trans ((sw_ialoadS f_188_2103 g5).trans ((st_aload_nS f_188_2104 rfl).trans ((sw_iload f_188_2105 rfl).trans ((sw_bipush f_188_2107 c8_6).trans ((sw_iadd f_188_2109).trans ((sw_ialoadS f_188_2110 g6).trans (st_callV' f_188_2111 h_188_195 mn_149 rfl rfl rfl rfl mo_149 g7 rfl))))))))))))))))))))))))))))))))
theorem bL_law_2114 {o0 o1 o3 o4 o5 o6 : Option Value} {y0 : Int} {a2 : Nat} (g1 : T a2 = (8, 0)) : XR sc d 188 2114 [o0, o1, some (.ref a2), o3, o4, o5, o6] [xw y0] (T, z, xv V, J, R) = xret 188 (XR sc d 188) 2117 2120 [o0, o1, some (.ref a2), o3, o4, o5, some (xw y0)] [] (X sc d 92 [.ref a2] (T, z, xv V, J, R)) :=
  (sw_istore (L' := [o0, o1, some (.ref a2), o3, o4, o5, some (xw y0)]) f_188_2114 (Nat.le_of_ble_eq_true rfl) rfl).trans ((st_aload_n f_188_2116 rfl).trans (st_callV' f_188_2117 h_188_117 mn_92 rfl rfl rfl rfl mo_92 g1 rfl))
theorem bL_law_2120 {o0 o1 o2 o3 o4 o6 : Option Value} {x5 y0 : Int} (g1 : -2147483648 ≤ y0 ∧ y0 ≤ 2147483647) (g2 : -2147483648 ≤ x5 ∧ x5 ≤ 2147483647) : XR sc d 188 2120 [o0, o1, o2, o3, o4, some (xw x5), o6] [xw y0] (T, z, xv V, J, R) = if y0 = x5 then XR sc d 188 2127 [o0, o1, o2, o3, o4, some (xw x5), o6] [] (T, z, xv V, J, R) else XR sc d 188 2125 [o0, o1, o2, o3, o4, some (xw x5), o6] [] (T, z, xv V, J, R) :=
  (sw_iload f_188_2120 rfl).trans (sw_icmp_eq (t := 2127) f_188_2122 ⟨by decide, rfl⟩ g1 g2)
theorem bL_law_2125 {o0 o1 o2 o3 o4 o5 o6 : Option Value} : XR sc d 188 2125 [o0, o1, o2, o3, o4, o5, o6] [] (T, z, xv V, J, R) = some (.inl (some (xw 0)), (T, z, xv V, J, R)) :=
  (sw_iconst f_188_2125).trans (sw_zreturn f_188_2126 mr_188 (by decide))
theorem bL_law_2127 {o0 o1 o2 o3 o4 o6 : Option Value} {x5 : Int} (g1 : -2147483648 ≤ x5 ∧ x5 ≤ 2147483647) : XR sc d 188 2127 [o0, o1, o2, o3, o4, some (xw x5), o6] [] (T, z, xv V, J, R) = if x5 = 0 then XR sc d 188 2132 [o0, o1, o2, o3, o4, some (xw x5), o6] [] (T, z, xv V, J, R) else XR sc d 188 2144 [o0, o1, o2, o3, o4, some (xw x5), o6] [] (T, z, xv V, J, R) :=
  (sw_iload f_188_2127 rfl).trans (sw_if_ne (t := 2144) f_188_2129 ⟨by decide, rfl⟩ g1)
theorem bL_law_2132 {o0 o1 o2 o4 o5 : Option Value} {x6 : Int} {a3 : Nat} (g1 : T a3 = (34, (T a3).2)) (g2 : (0 : Int) ≤ 0 ∧ 0 < ((T a3).2 : Int) ∧ (T a3).2 ≤ 3584) (g3 : -2147483648 ≤ (jCmp (J a3 0) (jI x6)) ∧ (jCmp (J a3 0) (jI x6)) ≤ 2147483647) : XR sc d 188 2132 [o0, o1, o2, some (.ref a3), o4, o5, some (xw x6)] [] (T, z, xv V, J, R) = if (jCmp (J a3 0) (jI x6)) = 0 then XR sc d 188 2144 [o0, o1, o2, some (.ref a3), o4, o5, some (xw x6)] [] (T, z, xv V, J, R) else XR sc d 188 2142 [o0, o1, o2, some (.ref a3), o4, o5, some (xw x6)] [] (T, z, xv V, J, R) :=
  (st_aload_n f_188_2132 rfl).trans ((sw_iconst f_188_2133).trans ((sw_laload f_188_2134 g1 g2).trans ((sw_iload f_188_2135 rfl).trans ((sw_i2l f_188_2137).trans ((sw_lcmp f_188_2138).trans (sw_if_eq (t := 2144) f_188_2139 ⟨by decide, rfl⟩ g3))))))
theorem bL_law_2142 {o0 o1 o2 o3 o4 o5 o6 : Option Value} : XR sc d 188 2142 [o0, o1, o2, o3, o4, o5, o6] [] (T, z, xv V, J, R) = some (.inl (some (xw 0)), (T, z, xv V, J, R)) :=
  (sw_iconst f_188_2142).trans (sw_zreturn f_188_2143 mr_188 (by decide))
theorem bL_law_2144 {o0 o1 o2 o3 o4 o5 o6 : Option Value} : XR sc d 188 2144 [o0, o1, o2, o3, o4, o5, o6] [] (T, z, xv V, J, R) = XR sc d 188 2468 [o0, o1, o2, o3, o4, o5, o6] [] (T, z, xv V, J, R) :=
  st_goto (t := 2468) f_188_2144 ⟨by decide, rfl⟩
theorem bL_law_2147 {o2 o5 o6 : Option Value} {x4 : Int} {a1 a3 : Nat} (g1 : (0 : Int) ≤ (x4 + 1) ∧ (x4 + 1) < (sc.1 : Int) ∧ sc.1 ≤ 3584) : XR sc d 188 2147 [some (.retAddr 0), some (.ref a1), o2, some (.ref a3), some (xw x4), o5, o6] [] (T, z, xv V, J, R) = xret 188 (XR sc d 188) 2155 2158 [some (.retAddr 0), some (.ref a1), o2, some (.ref a3), some (xw x4), o5, o6] [] (X sc d 184 [.ref a1, xw ((sc.2 (x4 + 1).toNat).toInt), .ref a3] (T, z, xv V, J, R)) :=
  (st_aload_n f_188_2147 rfl).trans ((st_aload_nS f_188_2148 rfl).trans ((sw_iload f_188_2149 rfl).trans ((sw_iconst f_188_2151).trans ((sw_iadd f_188_2152).trans ((sw_ialoadS f_188_2153 g1).trans ((st_aload_n f_188_2154 rfl).trans (st_callS' f_188_2155 h_188_196 mn_184 rfl rfl rfl rfl)))))))
theorem bL_law_2158 {o1 o3 o5 o6 : Option Value} {y0 x4 : Int} {a2 : Nat} (g1 : (0 : Int) ≤ (x4 + 1) ∧ (x4 + 1) < (sc.1 : Int) ∧ sc.1 ≤ 3584) (g2 : T a2 = (8, 0)) : XR sc d 188 2158 [some (.retAddr 0), o1, some (.ref a2), o3, some (xw x4), o5, o6] [xw y0] (T, z, xv V, J, R) = xret 188 (XR sc d 188) 2167 2170 [some (.retAddr 0), o1, some (.ref a2), o3, some (xw x4), some (xw y0), o6] [] (X sc d 150 [.ref a2, xw ((sc.2 (x4 + 1).toNat).toInt)] (T, z, xv V, J, R)) :=
  (sw_istore (L' := [some (.retAddr 0), o1, some (.ref a2), o3, some (xw x4), some (xw y0), o6]) f_188_2158 (Nat.le_of_ble_eq_true rfl) rfl).trans ((st_aload_n f_188_2160 rfl).trans ((st_aload_nS f_188_2161 rfl).trans ((sw_iload f_188_2162 rfl).trans ((sw_iconst f_188_2164).trans ((sw_iadd f_188_2165).trans ((sw_ialoadS f_188_2166 g1).trans (st_callV' f_188_2167 h_188_198 mn_150 rfl rfl rfl rfl mo_150 g2 rfl)))))))
theorem bL_law_2170 {o0 o1 o3 o4 o5 o6 : Option Value} {y0 : Int} {a2 : Nat} (g1 : T a2 = (8, 0)) : XR sc d 188 2170 [o0, o1, some (.ref a2), o3, o4, o5, o6] [xw y0] (T, z, xv V, J, R) = xret 188 (XR sc d 188) 2173 2176 [o0, o1, some (.ref a2), o3, o4, o5, some (xw y0)] [] (X sc d 92 [.ref a2] (T, z, xv V, J, R)) :=
  (sw_istore (L' := [o0, o1, some (.ref a2), o3, o4, o5, some (xw y0)]) f_188_2170 (Nat.le_of_ble_eq_true rfl) rfl).trans ((st_aload_n f_188_2172 rfl).trans (st_callV' f_188_2173 h_188_117 mn_92 rfl rfl rfl rfl mo_92 g1 rfl))
theorem bL_law_2176 {o0 o1 o2 o3 o4 o6 : Option Value} {x5 y0 : Int} (g1 : -2147483648 ≤ y0 ∧ y0 ≤ 2147483647) (g2 : -2147483648 ≤ x5 ∧ x5 ≤ 2147483647) : XR sc d 188 2176 [o0, o1, o2, o3, o4, some (xw x5), o6] [xw y0] (T, z, xv V, J, R) = if y0 = x5 then XR sc d 188 2183 [o0, o1, o2, o3, o4, some (xw x5), o6] [] (T, z, xv V, J, R) else XR sc d 188 2181 [o0, o1, o2, o3, o4, some (xw x5), o6] [] (T, z, xv V, J, R) :=
  (sw_iload f_188_2176 rfl).trans (sw_icmp_eq (t := 2183) f_188_2178 ⟨by decide, rfl⟩ g1 g2)
theorem bL_law_2181 {o0 o1 o2 o3 o4 o5 o6 : Option Value} : XR sc d 188 2181 [o0, o1, o2, o3, o4, o5, o6] [] (T, z, xv V, J, R) = some (.inl (some (xw 0)), (T, z, xv V, J, R)) :=
  (sw_iconst f_188_2181).trans (sw_zreturn f_188_2182 mr_188 (by decide))
theorem bL_law_2183 {o0 o1 o2 o3 o4 o6 : Option Value} {x5 : Int} (g1 : -2147483648 ≤ x5 ∧ x5 ≤ 2147483647) : XR sc d 188 2183 [o0, o1, o2, o3, o4, some (xw x5), o6] [] (T, z, xv V, J, R) = if x5 = 0 then XR sc d 188 2188 [o0, o1, o2, o3, o4, some (xw x5), o6] [] (T, z, xv V, J, R) else XR sc d 188 2200 [o0, o1, o2, o3, o4, some (xw x5), o6] [] (T, z, xv V, J, R) :=
  (sw_iload f_188_2183 rfl).trans (sw_if_ne (t := 2200) f_188_2185 ⟨by decide, rfl⟩ g1)
theorem bL_law_2188 {o0 o1 o2 o4 o5 : Option Value} {x6 : Int} {a3 : Nat} (g1 : T a3 = (34, (T a3).2)) (g2 : (0 : Int) ≤ 0 ∧ 0 < ((T a3).2 : Int) ∧ (T a3).2 ≤ 3584) (g3 : -2147483648 ≤ (jCmp (J a3 0) (jI x6)) ∧ (jCmp (J a3 0) (jI x6)) ≤ 2147483647) : XR sc d 188 2188 [o0, o1, o2, some (.ref a3), o4, o5, some (xw x6)] [] (T, z, xv V, J, R) = if (jCmp (J a3 0) (jI x6)) = 0 then XR sc d 188 2200 [o0, o1, o2, some (.ref a3), o4, o5, some (xw x6)] [] (T, z, xv V, J, R) else XR sc d 188 2198 [o0, o1, o2, some (.ref a3), o4, o5, some (xw x6)] [] (T, z, xv V, J, R) :=
  (st_aload_n f_188_2188 rfl).trans ((sw_iconst f_188_2189).trans ((sw_laload f_188_2190 g1 g2).trans ((sw_iload f_188_2191 rfl).trans ((sw_i2l f_188_2193).trans ((sw_lcmp f_188_2194).trans (sw_if_eq (t := 2200) f_188_2195 ⟨by decide, rfl⟩ g3))))))
theorem bL_law_2198 {o0 o1 o2 o3 o4 o5 o6 : Option Value} : XR sc d 188 2198 [o0, o1, o2, o3, o4, o5, o6] [] (T, z, xv V, J, R) = some (.inl (some (xw 0)), (T, z, xv V, J, R)) :=
  (sw_iconst f_188_2198).trans (sw_zreturn f_188_2199 mr_188 (by decide))
theorem bL_law_2200 {o0 o1 o2 o3 o4 o5 o6 : Option Value} : XR sc d 188 2200 [o0, o1, o2, o3, o4, o5, o6] [] (T, z, xv V, J, R) = XR sc d 188 2468 [o0, o1, o2, o3, o4, o5, o6] [] (T, z, xv V, J, R) :=
  st_goto (t := 2468) f_188_2200 ⟨by decide, rfl⟩
theorem bL_law_2203 {o2 o5 o6 : Option Value} {x4 : Int} {a1 a3 : Nat} (g1 : (0 : Int) ≤ (x4 + 1) ∧ (x4 + 1) < (sc.1 : Int) ∧ sc.1 ≤ 3584) (g2 : (0 : Int) ≤ (x4 + 2) ∧ (x4 + 2) < (sc.1 : Int) ∧ sc.1 ≤ 3584) (g3 : (0 : Int) ≤ (x4 + 3) ∧ (x4 + 3) < (sc.1 : Int) ∧ sc.1 ≤ 3584) : XR sc d 188 2203 [some (.retAddr 0), some (.ref a1), o2, some (.ref a3), some (xw x4), o5, o6] [] (T, z, xv V, J, R) = xret 188 (XR sc d 188) 2223 2226 [some (.retAddr 0), some (.ref a1), o2, some (.ref a3), some (xw x4), o5, o6] [] (X sc d 185 [.ref a1, xw ((sc.2 (x4 + 1).toNat).toInt), xw ((sc.2 (x4 + 2).toNat).toInt), xw ((sc.2 (x4 + 3).toNat).toInt), .ref a3] (T, z, xv V, J, R)) :=
  (st_aload_n f_188_2203 rfl).trans ((st_aload_nS f_188_2204 rfl).trans ((sw_iload f_188_2205 rfl).trans ((sw_iconst f_188_2207).trans ((sw_iadd f_188_2208).trans ((sw_ialoadS f_188_2209 g1).trans ((st_aload_nS f_188_2210 rfl).trans ((sw_iload f_188_2211 rfl).trans ((sw_iconst f_188_2213).trans ((sw_iadd f_188_2214).trans ((sw_ialoadS f_188_2215 g2).trans ((st_aload_nS f_188_2216 rfl).trans ((sw_iload f_188_2217 rfl).trans ((sw_iconst f_188_2219).trans ((sw_iadd f_188_2220).trans ((sw_ialoadS f_188_2221 g3).trans ((st_aload_n f_188_2222 rfl).trans (st_callS' f_188_2223 h_188_199 mn_185 rfl rfl rfl rfl)))))))))))))))))
theorem bL_law_2226 {o1 o3 o5 o6 : Option Value} {y0 x4 : Int} {a2 : Nat} (g1 : (0 : Int) ≤ (x4 + 1) ∧ (x4 + 1) < (sc.1 : Int) ∧ sc.1 ≤ 3584) (g2 : (0 : Int) ≤ (x4 + 2) ∧ (x4 + 2) < (sc.1 : Int) ∧ sc.1 ≤ 3584) (g3 : (0 : Int) ≤ (x4 + 3) ∧ (x4 + 3) < (sc.1 : Int) ∧ sc.1 ≤ 3584) (g4 : T a2 = (8, 0)) : XR sc d 188 2226 [some (.retAddr 0), o1, some (.ref a2), o3, some (xw x4), o5, o6] [xw y0] (T, z, xv V, J, R) = xret 188 (XR sc d 188) 2247 2250 [some (.retAddr 0), o1, some (.ref a2), o3, some (xw x4), some (xw y0), o6] [] (X sc d 151 [.ref a2, xw ((sc.2 (x4 + 1).toNat).toInt), xw ((sc.2 (x4 + 2).toNat).toInt), xw ((sc.2 (x4 + 3).toNat).toInt)] (T, z, xv V, J, R)) :=
  (sw_istore (L' := [some (.retAddr 0), o1, some (.ref a2), o3, some (xw x4), some (xw y0), o6]) f_188_2226 (Nat.le_of_ble_eq_true rfl) rfl).trans ((st_aload_n f_188_2228 rfl).trans ((st_aload_nS f_188_2229 rfl).trans ((sw_iload f_188_2230 rfl).trans ((sw_iconst f_188_2232).trans ((sw_iadd f_188_2233).trans ((sw_ialoadS f_188_2234 g1).trans ((st_aload_nS f_188_2235 rfl).trans ((sw_iload f_188_2236 rfl).trans ((sw_iconst f_188_2238).trans ((sw_iadd f_188_2239).trans ((sw_ialoadS f_188_2240 g2).trans ((st_aload_nS f_188_2241 rfl).trans ((sw_iload f_188_2242 rfl).trans ((sw_iconst f_188_2244).trans ((sw_iadd f_188_2245).trans ((sw_ialoadS f_188_2246 g3).trans (st_callV' f_188_2247 h_188_201 mn_151 rfl rfl rfl rfl mo_151 g4 rfl)))))))))))))))))
theorem bL_law_2250 {o0 o1 o3 o4 o5 o6 : Option Value} {y0 : Int} {a2 : Nat} (g1 : T a2 = (8, 0)) : XR sc d 188 2250 [o0, o1, some (.ref a2), o3, o4, o5, o6] [xw y0] (T, z, xv V, J, R) = xret 188 (XR sc d 188) 2253 2256 [o0, o1, some (.ref a2), o3, o4, o5, some (xw y0)] [] (X sc d 92 [.ref a2] (T, z, xv V, J, R)) :=
  (sw_istore (L' := [o0, o1, some (.ref a2), o3, o4, o5, some (xw y0)]) f_188_2250 (Nat.le_of_ble_eq_true rfl) rfl).trans ((st_aload_n f_188_2252 rfl).trans (st_callV' f_188_2253 h_188_117 mn_92 rfl rfl rfl rfl mo_92 g1 rfl))
theorem bL_law_2256 {o0 o1 o2 o3 o4 o6 : Option Value} {x5 y0 : Int} (g1 : -2147483648 ≤ y0 ∧ y0 ≤ 2147483647) (g2 : -2147483648 ≤ x5 ∧ x5 ≤ 2147483647) : XR sc d 188 2256 [o0, o1, o2, o3, o4, some (xw x5), o6] [xw y0] (T, z, xv V, J, R) = if y0 = x5 then XR sc d 188 2263 [o0, o1, o2, o3, o4, some (xw x5), o6] [] (T, z, xv V, J, R) else XR sc d 188 2261 [o0, o1, o2, o3, o4, some (xw x5), o6] [] (T, z, xv V, J, R) :=
  (sw_iload f_188_2256 rfl).trans (sw_icmp_eq (t := 2263) f_188_2258 ⟨by decide, rfl⟩ g1 g2)
theorem bL_law_2261 {o0 o1 o2 o3 o4 o5 o6 : Option Value} : XR sc d 188 2261 [o0, o1, o2, o3, o4, o5, o6] [] (T, z, xv V, J, R) = some (.inl (some (xw 0)), (T, z, xv V, J, R)) :=
  (sw_iconst f_188_2261).trans (sw_zreturn f_188_2262 mr_188 (by decide))
theorem bL_law_2263 {o0 o1 o2 o3 o4 o6 : Option Value} {x5 : Int} (g1 : -2147483648 ≤ x5 ∧ x5 ≤ 2147483647) : XR sc d 188 2263 [o0, o1, o2, o3, o4, some (xw x5), o6] [] (T, z, xv V, J, R) = if x5 = 0 then XR sc d 188 2268 [o0, o1, o2, o3, o4, some (xw x5), o6] [] (T, z, xv V, J, R) else XR sc d 188 2280 [o0, o1, o2, o3, o4, some (xw x5), o6] [] (T, z, xv V, J, R) :=
  (sw_iload f_188_2263 rfl).trans (sw_if_ne (t := 2280) f_188_2265 ⟨by decide, rfl⟩ g1)
theorem bL_law_2268 {o0 o1 o2 o4 o5 : Option Value} {x6 : Int} {a3 : Nat} (g1 : T a3 = (34, (T a3).2)) (g2 : (0 : Int) ≤ 0 ∧ 0 < ((T a3).2 : Int) ∧ (T a3).2 ≤ 3584) (g3 : -2147483648 ≤ (jCmp (J a3 0) (jI x6)) ∧ (jCmp (J a3 0) (jI x6)) ≤ 2147483647) : XR sc d 188 2268 [o0, o1, o2, some (.ref a3), o4, o5, some (xw x6)] [] (T, z, xv V, J, R) = if (jCmp (J a3 0) (jI x6)) = 0 then XR sc d 188 2280 [o0, o1, o2, some (.ref a3), o4, o5, some (xw x6)] [] (T, z, xv V, J, R) else XR sc d 188 2278 [o0, o1, o2, some (.ref a3), o4, o5, some (xw x6)] [] (T, z, xv V, J, R) :=
  (st_aload_n f_188_2268 rfl).trans ((sw_iconst f_188_2269).trans ((sw_laload f_188_2270 g1 g2).trans ((sw_iload f_188_2271 rfl).trans ((sw_i2l f_188_2273).trans ((sw_lcmp f_188_2274).trans (sw_if_eq (t := 2280) f_188_2275 ⟨by decide, rfl⟩ g3))))))
theorem bL_law_2278 {o0 o1 o2 o3 o4 o5 o6 : Option Value} : XR sc d 188 2278 [o0, o1, o2, o3, o4, o5, o6] [] (T, z, xv V, J, R) = some (.inl (some (xw 0)), (T, z, xv V, J, R)) :=
  (sw_iconst f_188_2278).trans (sw_zreturn f_188_2279 mr_188 (by decide))
theorem bL_law_2280 {o0 o1 o2 o3 o4 o5 o6 : Option Value} : XR sc d 188 2280 [o0, o1, o2, o3, o4, o5, o6] [] (T, z, xv V, J, R) = XR sc d 188 2468 [o0, o1, o2, o3, o4, o5, o6] [] (T, z, xv V, J, R) :=
  st_goto (t := 2468) f_188_2280 ⟨by decide, rfl⟩
theorem bL_law_2283 {o2 o5 o6 : Option Value} {x4 : Int} {a1 a3 : Nat} (g1 : (0 : Int) ≤ (x4 + 1) ∧ (x4 + 1) < (sc.1 : Int) ∧ sc.1 ≤ 3584) (g2 : (0 : Int) ≤ (x4 + 2) ∧ (x4 + 2) < (sc.1 : Int) ∧ sc.1 ≤ 3584) (g3 : (0 : Int) ≤ (x4 + 3) ∧ (x4 + 3) < (sc.1 : Int) ∧ sc.1 ≤ 3584) (g4 : (0 : Int) ≤ (x4 + 4) ∧ (x4 + 4) < (sc.1 : Int) ∧ sc.1 ≤ 3584) : XR sc d 188 2283 [some (.retAddr 0), some (.ref a1), o2, some (.ref a3), some (xw x4), o5, o6] [] (T, z, xv V, J, R) = xret 188 (XR sc d 188) 2309 2312 [some (.retAddr 0), some (.ref a1), o2, some (.ref a3), some (xw x4), o5, o6] [] (X sc d 186 [.ref a1, xw ((sc.2 (x4 + 1).toNat).toInt), xw ((sc.2 (x4 + 2).toNat).toInt), xw ((sc.2 (x4 + 3).toNat).toInt), xw ((sc.2 (x4 + 4).toNat).toInt), .ref a3] (T, z, xv V, J, R)) :=
  (st_aload_n f_188_2283 rfl).trans ((st_aload_nS f_188_2284 rfl).trans ((sw_iload f_188_2285 rfl).trans ((sw_iconst f_188_2287).trans ((sw_iadd f_188_2288).trans ((sw_ialoadS f_188_2289 g1).trans ((st_aload_nS f_188_2290 rfl).trans ((sw_iload f_188_2291 rfl).trans ((sw_iconst f_188_2293).trans ((sw_iadd f_188_2294).trans ((sw_ialoadS f_188_2295 g2).trans ((st_aload_nS f_188_2296 rfl).trans ((sw_iload f_188_2297 rfl).trans ((sw_iconst f_188_2299).trans ((sw_iadd f_188_2300).trans ((sw_ialoadS f_188_2301 g3).trans ((st_aload_nS f_188_2302 rfl).trans ((sw_iload f_188_2303 rfl).trans ((sw_iconst f_188_2305).trans ((sw_iadd f_188_2306).trans ((sw_ialoadS f_188_2307 g4).trans ((st_aload_n f_188_2308 rfl).trans (st_callS' f_188_2309 h_188_202 mn_186 rfl rfl rfl rfl))))))))))))))))))))))
theorem bL_law_2312 {o1 o3 o5 o6 : Option Value} {y0 x4 : Int} {a2 : Nat} (g1 : (0 : Int) ≤ (x4 + 1) ∧ (x4 + 1) < (sc.1 : Int) ∧ sc.1 ≤ 3584) (g2 : (0 : Int) ≤ (x4 + 2) ∧ (x4 + 2) < (sc.1 : Int) ∧ sc.1 ≤ 3584) (g3 : (0 : Int) ≤ (x4 + 3) ∧ (x4 + 3) < (sc.1 : Int) ∧ sc.1 ≤ 3584) (g4 : (0 : Int) ≤ (x4 + 4) ∧ (x4 + 4) < (sc.1 : Int) ∧ sc.1 ≤ 3584) (g5 : T a2 = (8, 0)) : XR sc d 188 2312 [some (.retAddr 0), o1, some (.ref a2), o3, some (xw x4), o5, o6] [xw y0] (T, z, xv V, J, R) = xret 188 (XR sc d 188) 2339 2342 [some (.retAddr 0), o1, some (.ref a2), o3, some (xw x4), some (xw y0), o6] [] (X sc d 154 [.ref a2, xw ((sc.2 (x4 + 1).toNat).toInt), xw ((sc.2 (x4 + 2).toNat).toInt), xw ((sc.2 (x4 + 3).toNat).toInt), xw ((sc.2 (x4 + 4).toNat).toInt)] (T, z, xv V, J, R)) :=
  (sw_istore (L' := [some (.retAddr 0), o1, some (.ref a2), o3, some (xw x4), some (xw y0), o6]) f_188_2312 (Nat.le_of_ble_eq_true rfl) rfl).trans ((st_aload_n f_188_2314 rfl).trans ((st_aload_nS f_188_2315 rfl).trans ((sw_iload f_188_2316 rfl).trans ((sw_iconst f_188_2318).trans ((sw_iadd f_188_2319).trans ((sw_ialoadS f_188_2320 g1).trans ((st_aload_nS f_188_2321 rfl).trans ((sw_iload f_188_2322 rfl).trans ((sw_iconst f_188_2324).trans ((sw_iadd f_188_2325).trans ((sw_ialoadS f_188_2326 g2).trans ((st_aload_nS f_188_2327 rfl).trans ((sw_iload f_188_2328 rfl).trans ((sw_iconst f_188_2330).trans ((sw_iadd f_188_2331).trans ((sw_ialoadS f_188_2332 g3).trans ((st_aload_nS f_188_2333 rfl).trans ((sw_iload f_188_2334 rfl).trans ((sw_iconst f_188_2336).trans ((sw_iadd f_188_2337).trans ((sw_ialoadS f_188_2338 g4).trans (st_callV' f_188_2339 h_188_204 mn_154 rfl rfl rfl rfl mo_154 g5 rfl))))))))))))))))))))))
theorem bL_law_2342 {o0 o1 o3 o4 o5 o6 : Option Value} {y0 : Int} {a2 : Nat} (g1 : T a2 = (8, 0)) : XR sc d 188 2342 [o0, o1, some (.ref a2), o3, o4, o5, o6] [xw y0] (T, z, xv V, J, R) = xret 188 (XR sc d 188) 2345 2348 [o0, o1, some (.ref a2), o3, o4, o5, some (xw y0)] [] (X sc d 92 [.ref a2] (T, z, xv V, J, R)) :=
  (sw_istore (L' := [o0, o1, some (.ref a2), o3, o4, o5, some (xw y0)]) f_188_2342 (Nat.le_of_ble_eq_true rfl) rfl).trans ((st_aload_n f_188_2344 rfl).trans (st_callV' f_188_2345 h_188_117 mn_92 rfl rfl rfl rfl mo_92 g1 rfl))
theorem bL_law_2348 {o0 o1 o2 o3 o4 o6 : Option Value} {x5 y0 : Int} (g1 : -2147483648 ≤ y0 ∧ y0 ≤ 2147483647) (g2 : -2147483648 ≤ x5 ∧ x5 ≤ 2147483647) : XR sc d 188 2348 [o0, o1, o2, o3, o4, some (xw x5), o6] [xw y0] (T, z, xv V, J, R) = if y0 = x5 then XR sc d 188 2355 [o0, o1, o2, o3, o4, some (xw x5), o6] [] (T, z, xv V, J, R) else XR sc d 188 2353 [o0, o1, o2, o3, o4, some (xw x5), o6] [] (T, z, xv V, J, R) :=
  (sw_iload f_188_2348 rfl).trans (sw_icmp_eq (t := 2355) f_188_2350 ⟨by decide, rfl⟩ g1 g2)
theorem bL_law_2353 {o0 o1 o2 o3 o4 o5 o6 : Option Value} : XR sc d 188 2353 [o0, o1, o2, o3, o4, o5, o6] [] (T, z, xv V, J, R) = some (.inl (some (xw 0)), (T, z, xv V, J, R)) :=
  (sw_iconst f_188_2353).trans (sw_zreturn f_188_2354 mr_188 (by decide))
theorem bL_law_2355 {o0 o1 o2 o3 o4 o6 : Option Value} {x5 : Int} (g1 : -2147483648 ≤ x5 ∧ x5 ≤ 2147483647) : XR sc d 188 2355 [o0, o1, o2, o3, o4, some (xw x5), o6] [] (T, z, xv V, J, R) = if x5 = 0 then XR sc d 188 2360 [o0, o1, o2, o3, o4, some (xw x5), o6] [] (T, z, xv V, J, R) else XR sc d 188 2372 [o0, o1, o2, o3, o4, some (xw x5), o6] [] (T, z, xv V, J, R) :=
  (sw_iload f_188_2355 rfl).trans (sw_if_ne (t := 2372) f_188_2357 ⟨by decide, rfl⟩ g1)
theorem bL_law_2360 {o0 o1 o2 o4 o5 : Option Value} {x6 : Int} {a3 : Nat} (g1 : T a3 = (34, (T a3).2)) (g2 : (0 : Int) ≤ 0 ∧ 0 < ((T a3).2 : Int) ∧ (T a3).2 ≤ 3584) (g3 : -2147483648 ≤ (jCmp (J a3 0) (jI x6)) ∧ (jCmp (J a3 0) (jI x6)) ≤ 2147483647) : XR sc d 188 2360 [o0, o1, o2, some (.ref a3), o4, o5, some (xw x6)] [] (T, z, xv V, J, R) = if (jCmp (J a3 0) (jI x6)) = 0 then XR sc d 188 2372 [o0, o1, o2, some (.ref a3), o4, o5, some (xw x6)] [] (T, z, xv V, J, R) else XR sc d 188 2370 [o0, o1, o2, some (.ref a3), o4, o5, some (xw x6)] [] (T, z, xv V, J, R) :=
  (st_aload_n f_188_2360 rfl).trans ((sw_iconst f_188_2361).trans ((sw_laload f_188_2362 g1 g2).trans ((sw_iload f_188_2363 rfl).trans ((sw_i2l f_188_2365).trans ((sw_lcmp f_188_2366).trans (sw_if_eq (t := 2372) f_188_2367 ⟨by decide, rfl⟩ g3))))))
theorem bL_law_2370 {o0 o1 o2 o3 o4 o5 o6 : Option Value} : XR sc d 188 2370 [o0, o1, o2, o3, o4, o5, o6] [] (T, z, xv V, J, R) = some (.inl (some (xw 0)), (T, z, xv V, J, R)) :=
  (sw_iconst f_188_2370).trans (sw_zreturn f_188_2371 mr_188 (by decide))
theorem bL_law_2372 {o0 o1 o2 o3 o4 o5 o6 : Option Value} : XR sc d 188 2372 [o0, o1, o2, o3, o4, o5, o6] [] (T, z, xv V, J, R) = XR sc d 188 2468 [o0, o1, o2, o3, o4, o5, o6] [] (T, z, xv V, J, R) :=
  st_goto (t := 2468) f_188_2372 ⟨by decide, rfl⟩
theorem bL_law_2375 {o2 o5 o6 : Option Value} {x4 : Int} {a1 a3 : Nat} (g1 : (0 : Int) ≤ (x4 + 1) ∧ (x4 + 1) < (sc.1 : Int) ∧ sc.1 ≤ 3584) (g2 : (0 : Int) ≤ (x4 + 2) ∧ (x4 + 2) < (sc.1 : Int) ∧ sc.1 ≤ 3584) (g3 : (0 : Int) ≤ (x4 + 3) ∧ (x4 + 3) < (sc.1 : Int) ∧ sc.1 ≤ 3584) : XR sc d 188 2375 [some (.retAddr 0), some (.ref a1), o2, some (.ref a3), some (xw x4), o5, o6] [] (T, z, xv V, J, R) = xret 188 (XR sc d 188) 2395 2398 [some (.retAddr 0), some (.ref a1), o2, some (.ref a3), some (xw x4), o5, o6] [] (X sc d 187 [.ref a1, xw ((sc.2 (x4 + 1).toNat).toInt), xw ((sc.2 (x4 + 2).toNat).toInt), xw ((sc.2 (x4 + 3).toNat).toInt), .ref a3] (T, z, xv V, J, R)) :=
  (st_aload_n f_188_2375 rfl).trans ((st_aload_nS f_188_2376 rfl).trans ((sw_iload f_188_2377 rfl).trans ((sw_iconst f_188_2379).trans ((sw_iadd f_188_2380).trans ((sw_ialoadS f_188_2381 g1).trans ((st_aload_nS f_188_2382 rfl).trans ((sw_iload f_188_2383 rfl).trans ((sw_iconst f_188_2385).trans ((sw_iadd f_188_2386).trans ((sw_ialoadS f_188_2387 g2).trans ((st_aload_nS f_188_2388 rfl).trans ((sw_iload f_188_2389 rfl).trans ((sw_iconst f_188_2391).trans ((sw_iadd f_188_2392).trans ((sw_ialoadS f_188_2393 g3).trans ((st_aload_n f_188_2394 rfl).trans (st_callS' f_188_2395 h_188_205 mn_187 rfl rfl rfl rfl)))))))))))))))))
theorem bL_law_2398 {o1 o3 o5 o6 : Option Value} {y0 x4 : Int} {a2 : Nat} (g1 : (0 : Int) ≤ (x4 + 1) ∧ (x4 + 1) < (sc.1 : Int) ∧ sc.1 ≤ 3584) (g2 : (0 : Int) ≤ (x4 + 2) ∧ (x4 + 2) < (sc.1 : Int) ∧ sc.1 ≤ 3584) (g3 : (0 : Int) ≤ (x4 + 3) ∧ (x4 + 3) < (sc.1 : Int) ∧ sc.1 ≤ 3584) (g4 : T a2 = (8, 0)) : XR sc d 188 2398 [some (.retAddr 0), o1, some (.ref a2), o3, some (xw x4), o5, o6] [xw y0] (T, z, xv V, J, R) = xret 188 (XR sc d 188) 2419 2422 [some (.retAddr 0), o1, some (.ref a2), o3, some (xw x4), some (xw y0), o6] [] (X sc d 155 [.ref a2, xw ((sc.2 (x4 + 1).toNat).toInt), xw ((sc.2 (x4 + 2).toNat).toInt), xw ((sc.2 (x4 + 3).toNat).toInt)] (T, z, xv V, J, R)) :=
  (sw_istore (L' := [some (.retAddr 0), o1, some (.ref a2), o3, some (xw x4), some (xw y0), o6]) f_188_2398 (Nat.le_of_ble_eq_true rfl) rfl).trans ((st_aload_n f_188_2400 rfl).trans ((st_aload_nS f_188_2401 rfl).trans ((sw_iload f_188_2402 rfl).trans ((sw_iconst f_188_2404).trans ((sw_iadd f_188_2405).trans ((sw_ialoadS f_188_2406 g1).trans ((st_aload_nS f_188_2407 rfl).trans ((sw_iload f_188_2408 rfl).trans ((sw_iconst f_188_2410).trans ((sw_iadd f_188_2411).trans ((sw_ialoadS f_188_2412 g2).trans ((st_aload_nS f_188_2413 rfl).trans ((sw_iload f_188_2414 rfl).trans ((sw_iconst f_188_2416).trans ((sw_iadd f_188_2417).trans ((sw_ialoadS f_188_2418 g3).trans (st_callV' f_188_2419 h_188_207 mn_155 rfl rfl rfl rfl mo_155 g4 rfl)))))))))))))))))
theorem bL_law_2422 {o0 o1 o3 o4 o5 o6 : Option Value} {y0 : Int} {a2 : Nat} (g1 : T a2 = (8, 0)) : XR sc d 188 2422 [o0, o1, some (.ref a2), o3, o4, o5, o6] [xw y0] (T, z, xv V, J, R) = xret 188 (XR sc d 188) 2425 2428 [o0, o1, some (.ref a2), o3, o4, o5, some (xw y0)] [] (X sc d 92 [.ref a2] (T, z, xv V, J, R)) :=
  (sw_istore (L' := [o0, o1, some (.ref a2), o3, o4, o5, some (xw y0)]) f_188_2422 (Nat.le_of_ble_eq_true rfl) rfl).trans ((st_aload_n f_188_2424 rfl).trans (st_callV' f_188_2425 h_188_117 mn_92 rfl rfl rfl rfl mo_92 g1 rfl))
theorem bL_law_2428 {o0 o1 o2 o3 o4 o6 : Option Value} {x5 y0 : Int} (g1 : -2147483648 ≤ y0 ∧ y0 ≤ 2147483647) (g2 : -2147483648 ≤ x5 ∧ x5 ≤ 2147483647) : XR sc d 188 2428 [o0, o1, o2, o3, o4, some (xw x5), o6] [xw y0] (T, z, xv V, J, R) = if y0 = x5 then XR sc d 188 2435 [o0, o1, o2, o3, o4, some (xw x5), o6] [] (T, z, xv V, J, R) else XR sc d 188 2433 [o0, o1, o2, o3, o4, some (xw x5), o6] [] (T, z, xv V, J, R) :=
  (sw_iload f_188_2428 rfl).trans (sw_icmp_eq (t := 2435) f_188_2430 ⟨by decide, rfl⟩ g1 g2)
theorem bL_law_2433 {o0 o1 o2 o3 o4 o5 o6 : Option Value} : XR sc d 188 2433 [o0, o1, o2, o3, o4, o5, o6] [] (T, z, xv V, J, R) = some (.inl (some (xw 0)), (T, z, xv V, J, R)) :=
  (sw_iconst f_188_2433).trans (sw_zreturn f_188_2434 mr_188 (by decide))
theorem bL_law_2435 {o0 o1 o2 o3 o4 o6 : Option Value} {x5 : Int} (g1 : -2147483648 ≤ x5 ∧ x5 ≤ 2147483647) : XR sc d 188 2435 [o0, o1, o2, o3, o4, some (xw x5), o6] [] (T, z, xv V, J, R) = if x5 = 0 then XR sc d 188 2440 [o0, o1, o2, o3, o4, some (xw x5), o6] [] (T, z, xv V, J, R) else XR sc d 188 2452 [o0, o1, o2, o3, o4, some (xw x5), o6] [] (T, z, xv V, J, R) :=
  (sw_iload f_188_2435 rfl).trans (sw_if_ne (t := 2452) f_188_2437 ⟨by decide, rfl⟩ g1)
theorem bL_law_2440 {o0 o1 o2 o4 o5 : Option Value} {x6 : Int} {a3 : Nat} (g1 : T a3 = (34, (T a3).2)) (g2 : (0 : Int) ≤ 0 ∧ 0 < ((T a3).2 : Int) ∧ (T a3).2 ≤ 3584) (g3 : -2147483648 ≤ (jCmp (J a3 0) (jI x6)) ∧ (jCmp (J a3 0) (jI x6)) ≤ 2147483647) : XR sc d 188 2440 [o0, o1, o2, some (.ref a3), o4, o5, some (xw x6)] [] (T, z, xv V, J, R) = if (jCmp (J a3 0) (jI x6)) = 0 then XR sc d 188 2452 [o0, o1, o2, some (.ref a3), o4, o5, some (xw x6)] [] (T, z, xv V, J, R) else XR sc d 188 2450 [o0, o1, o2, some (.ref a3), o4, o5, some (xw x6)] [] (T, z, xv V, J, R) :=
  (st_aload_n f_188_2440 rfl).trans ((sw_iconst f_188_2441).trans ((sw_laload f_188_2442 g1 g2).trans ((sw_iload f_188_2443 rfl).trans ((sw_i2l f_188_2445).trans ((sw_lcmp f_188_2446).trans (sw_if_eq (t := 2452) f_188_2447 ⟨by decide, rfl⟩ g3))))))
theorem bL_law_2450 {o0 o1 o2 o3 o4 o5 o6 : Option Value} : XR sc d 188 2450 [o0, o1, o2, o3, o4, o5, o6] [] (T, z, xv V, J, R) = some (.inl (some (xw 0)), (T, z, xv V, J, R)) :=
  (sw_iconst f_188_2450).trans (sw_zreturn f_188_2451 mr_188 (by decide))
theorem bL_law_2452 {o0 o1 o2 o3 o4 o5 o6 : Option Value} : XR sc d 188 2452 [o0, o1, o2, o3, o4, o5, o6] [] (T, z, xv V, J, R) = XR sc d 188 2468 [o0, o1, o2, o3, o4, o5, o6] [] (T, z, xv V, J, R) :=
  st_goto (t := 2468) f_188_2452 ⟨by decide, rfl⟩
theorem bL_law_2455 {o0 o2 o3 o4 o5 o6 : Option Value} {a1 : Nat} (g1 : T a1 = (7, 0)) : XR sc d 188 2455 [o0, some (.ref a1), o2, o3, o4, o5, o6] [] (T, z, xv V, J, R) = xret 188 (XR sc d 188) 2456 2459 [o0, some (.ref a1), o2, o3, o4, o5, o6] [] (X sc d 78 [.ref a1] (T, z, xv V, J, R)) :=
  (st_aload_n f_188_2455 rfl).trans (st_callV' f_188_2456 h_188_208 mn_78 rfl rfl rfl rfl mo_78 g1 rfl)
theorem bL_law_2459 {o0 o1 o3 o4 o5 o6 : Option Value} {s0 : Value} {a2 : Nat} (g1 : T a2 = (8, 0)) : XR sc d 188 2459 [o0, o1, some (.ref a2), o3, o4, o5, o6] [s0] (T, z, xv V, J, R) = xret 188 (XR sc d 188) 2460 2463 [o0, o1, some (.ref a2), o3, o4, o5, o6] [s0] (X sc d 156 [.ref a2] (T, z, xv V, J, R)) :=
  (st_aload_n f_188_2459 rfl).trans (st_callV' f_188_2460 h_188_211 mn_156 rfl rfl rfl rfl mo_156 g1 rfl)
theorem bL_law_2463 {o0 o1 o2 o3 o4 o5 o6 : Option Value} {y0 y1 : Int} (g1 : -2147483648 ≤ y1 ∧ y1 ≤ 2147483647) (g2 : -2147483648 ≤ y0 ∧ y0 ≤ 2147483647) : XR sc d 188 2463 [o0, o1, o2, o3, o4, o5, o6] [xw y0, xw y1] (T, z, xv V, J, R) = if y1 = y0 then XR sc d 188 2468 [o0, o1, o2, o3, o4, o5, o6] [] (T, z, xv V, J, R) else XR sc d 188 2466 [o0, o1, o2, o3, o4, o5, o6] [] (T, z, xv V, J, R) :=
  sw_icmp_eq (t := 2468) f_188_2463 ⟨by decide, rfl⟩ g1 g2
theorem bL_law_2466 {o0 o1 o2 o3 o4 o5 o6 : Option Value} : XR sc d 188 2466 [o0, o1, o2, o3, o4, o5, o6] [] (T, z, xv V, J, R) = some (.inl (some (xw 0)), (T, z, xv V, J, R)) :=
  (sw_iconst f_188_2466).trans (sw_zreturn f_188_2467 mr_188 (by decide))
theorem bL_law_2468 {o0 o1 o2 o3 o5 o6 : Option Value} {x4 : Int} : XR sc d 188 2468 [o0, o1, o2, o3, some (xw x4), o5, o6] [] (T, z, xv V, J, R) = XR sc d 188 23 [o0, o1, o2, o3, some (xw (x4 + 7)), o5, o6] [] (T, z, xv V, J, R) :=
  (sw_iinc (L' := [o0, o1, o2, o3, some (xw (x4 + 7)), o5, o6]) f_188_2468 rfl (Nat.le_of_ble_eq_true rfl) rfl).trans (st_goto (t := 23) f_188_2471 ⟨by decide, rfl⟩)
theorem bL_law_2474 {o0 o1 o2 o3 o4 o5 o6 : Option Value} : XR sc d 188 2474 [o0, o1, o2, o3, o4, o5, o6] [] (T, z, xv V, J, R) = some (.inl (some (xw 1)), (T, z, xv V, J, R)) :=
  (sw_iconst f_188_2474).trans (sw_zreturn f_188_2475 mr_188 (by decide))
end BLK
