/-! instructions, by program (gen2.py) -/
set_option maxRecDepth 100000 in
theorem f_160_0 : xft 160 0 = some (.aload_n 2) := by decide +kernel
set_option maxRecDepth 100000 in
theorem f_160_1 : xft 160 1 = some (.iconst 0) := by decide +kernel
set_option maxRecDepth 100000 in
theorem f_160_2 : xft 160 2 = some (.aload_n 0) := by decide +kernel
set_option maxRecDepth 100000 in
theorem f_160_3 : xft 160 3 = some (.iload_n 1) := by decide +kernel
set_option maxRecDepth 100000 in
theorem f_160_4 : xft 160 4 = some (.invokevirtual 7) := by decide +kernel
set_option maxRecDepth 100000 in
theorem f_160_7 : xft 160 7 = some (.i2l) := by decide +kernel
set_option maxRecDepth 100000 in
theorem f_160_8 : xft 160 8 = some (.lastore) := by decide +kernel
set_option maxRecDepth 100000 in
theorem f_160_9 : xft 160 9 = some (.goto 9) := by decide +kernel
set_option maxRecDepth 100000 in
theorem f_160_12 : xft 160 12 = some (.astore_n 3) := by decide +kernel
set_option maxRecDepth 100000 in
theorem f_160_13 : xft 160 13 = some (.iconst 1) := by decide +kernel
set_option maxRecDepth 100000 in
theorem f_160_14 : xft 160 14 = some (.ireturn) := by decide +kernel
set_option maxRecDepth 100000 in
theorem f_160_15 : xft 160 15 = some (.astore_n 3) := by decide +kernel
set_option maxRecDepth 100000 in
theorem f_160_16 : xft 160 16 = some (.iconst 2) := by decide +kernel
set_option maxRecDepth 100000 in
theorem f_160_17 : xft 160 17 = some (.ireturn) := by decide +kernel
set_option maxRecDepth 100000 in
theorem f_160_18 : xft 160 18 = some (.iconst 0) := by decide +kernel
set_option maxRecDepth 100000 in
theorem f_160_19 : xft 160 19 = some (.ireturn) := by decide +kernel
set_option maxRecDepth 100000 in
theorem f_161_0 : xft 161 0 = some (.aload 4) := by decide +kernel
set_option maxRecDepth 100000 in
theorem f_161_2 : xft 161 2 = some (.iconst 0) := by decide +kernel
set_option maxRecDepth 100000 in
theorem f_161_3 : xft 161 3 = some (.aload_n 0) := by decide +kernel
set_option maxRecDepth 100000 in
theorem f_161_4 : xft 161 4 = some (.iload_n 1) := by decide +kernel
set_option maxRecDepth 100000 in
theorem f_161_5 : xft 161 5 = some (.iload_n 2) := by decide +kernel
set_option maxRecDepth 100000 in
theorem f_161_6 : xft 161 6 = some (.iload_n 3) := by decide +kernel
set_option maxRecDepth 100000 in
theorem f_161_7 : xft 161 7 = some (.invokevirtual 17) := by decide +kernel
set_option maxRecDepth 100000 in
theorem f_161_10 : xft 161 10 = some (.i2l) := by decide +kernel
set_option maxRecDepth 100000 in
theorem f_161_11 : xft 161 11 = some (.lastore) := by decide +kernel
set_option maxRecDepth 100000 in
theorem f_161_12 : xft 161 12 = some (.goto 7) := by decide +kernel
set_option maxRecDepth 100000 in
theorem f_161_15 : xft 161 15 = some (.astore 5) := by decide +kernel
set_option maxRecDepth 100000 in
theorem f_161_17 : xft 161 17 = some (.iconst 1) := by decide +kernel
set_option maxRecDepth 100000 in
theorem f_161_18 : xft 161 18 = some (.ireturn) := by decide +kernel
set_option maxRecDepth 100000 in
theorem f_161_19 : xft 161 19 = some (.iconst 0) := by decide +kernel
set_option maxRecDepth 100000 in
theorem f_161_20 : xft 161 20 = some (.ireturn) := by decide +kernel
set_option maxRecDepth 100000 in
theorem f_162_0 : xft 162 0 = some (.aload 7) := by decide +kernel
set_option maxRecDepth 100000 in
theorem f_162_2 : xft 162 2 = some (.iconst 0) := by decide +kernel
set_option maxRecDepth 100000 in
theorem f_162_3 : xft 162 3 = some (.aload_n 0) := by decide +kernel
set_option maxRecDepth 100000 in
theorem f_162_4 : xft 162 4 = some (.iload_n 1) := by decide +kernel
set_option maxRecDepth 100000 in
theorem f_162_5 : xft 162 5 = some (.iload_n 2) := by decide +kernel
set_option maxRecDepth 100000 in
theorem f_162_6 : xft 162 6 = some (.iload_n 3) := by decide +kernel
set_option maxRecDepth 100000 in
theorem f_162_7 : xft 162 7 = some (.iload 4) := by decide +kernel
set_option maxRecDepth 100000 in
theorem f_162_9 : xft 162 9 = some (.iload 5) := by decide +kernel
set_option maxRecDepth 100000 in
theorem f_162_11 : xft 162 11 = some (.iload 6) := by decide +kernel
set_option maxRecDepth 100000 in
theorem f_162_13 : xft 162 13 = some (.invokevirtual 23) := by decide +kernel
set_option maxRecDepth 100000 in
theorem f_162_16 : xft 162 16 = some (.i2l) := by decide +kernel
set_option maxRecDepth 100000 in
theorem f_162_17 : xft 162 17 = some (.lastore) := by decide +kernel
set_option maxRecDepth 100000 in
theorem f_162_18 : xft 162 18 = some (.goto 15) := by decide +kernel
set_option maxRecDepth 100000 in
theorem f_162_21 : xft 162 21 = some (.astore 8) := by decide +kernel
set_option maxRecDepth 100000 in
theorem f_162_23 : xft 162 23 = some (.iconst 1) := by decide +kernel
set_option maxRecDepth 100000 in
theorem f_162_24 : xft 162 24 = some (.ireturn) := by decide +kernel
set_option maxRecDepth 100000 in
theorem f_162_25 : xft 162 25 = some (.astore 8) := by decide +kernel
set_option maxRecDepth 100000 in
theorem f_162_27 : xft 162 27 = some (.iconst 2) := by decide +kernel
set_option maxRecDepth 100000 in
theorem f_162_28 : xft 162 28 = some (.ireturn) := by decide +kernel
set_option maxRecDepth 100000 in
theorem f_162_29 : xft 162 29 = some (.astore 8) := by decide +kernel
set_option maxRecDepth 100000 in
theorem f_162_31 : xft 162 31 = some (.iconst 3) := by decide +kernel
set_option maxRecDepth 100000 in
theorem f_162_32 : xft 162 32 = some (.ireturn) := by decide +kernel
set_option maxRecDepth 100000 in
theorem f_162_33 : xft 162 33 = some (.iconst 0) := by decide +kernel
set_option maxRecDepth 100000 in
theorem f_162_34 : xft 162 34 = some (.ireturn) := by decide +kernel
set_option maxRecDepth 100000 in
theorem f_163_0 : xft 163 0 = some (.aload 6) := by decide +kernel
set_option maxRecDepth 100000 in
theorem f_163_2 : xft 163 2 = some (.iconst 0) := by decide +kernel
set_option maxRecDepth 100000 in
theorem f_163_3 : xft 163 3 = some (.aload_n 0) := by decide +kernel
set_option maxRecDepth 100000 in
theorem f_163_4 : xft 163 4 = some (.iload_n 1) := by decide +kernel
set_option maxRecDepth 100000 in
theorem f_163_5 : xft 163 5 = some (.iload_n 2) := by decide +kernel
set_option maxRecDepth 100000 in
theorem f_163_6 : xft 163 6 = some (.iload_n 3) := by decide +kernel
set_option maxRecDepth 100000 in
theorem f_163_7 : xft 163 7 = some (.iload 4) := by decide +kernel
set_option maxRecDepth 100000 in
theorem f_163_9 : xft 163 9 = some (.iload 5) := by decide +kernel
set_option maxRecDepth 100000 in
theorem f_163_11 : xft 163 11 = some (.invokevirtual 27) := by decide +kernel
set_option maxRecDepth 100000 in
theorem f_163_14 : xft 163 14 = some (.i2l) := by decide +kernel
set_option maxRecDepth 100000 in
theorem f_163_15 : xft 163 15 = some (.lastore) := by decide +kernel
set_option maxRecDepth 100000 in
theorem f_163_16 : xft 163 16 = some (.goto 11) := by decide +kernel
set_option maxRecDepth 100000 in
theorem f_163_19 : xft 163 19 = some (.astore 7) := by decide +kernel
set_option maxRecDepth 100000 in
theorem f_163_21 : xft 163 21 = some (.iconst 1) := by decide +kernel
set_option maxRecDepth 100000 in
theorem f_163_22 : xft 163 22 = some (.ireturn) := by decide +kernel
set_option maxRecDepth 100000 in
theorem f_163_23 : xft 163 23 = some (.astore 7) := by decide +kernel
set_option maxRecDepth 100000 in
theorem f_163_25 : xft 163 25 = some (.iconst 2) := by decide +kernel
set_option maxRecDepth 100000 in
theorem f_163_26 : xft 163 26 = some (.ireturn) := by decide +kernel
set_option maxRecDepth 100000 in
theorem f_163_27 : xft 163 27 = some (.iconst 0) := by decide +kernel
set_option maxRecDepth 100000 in
theorem f_163_28 : xft 163 28 = some (.ireturn) := by decide +kernel
set_option maxRecDepth 100000 in
theorem f_164_0 : xft 164 0 = some (.aload_n 3) := by decide +kernel
set_option maxRecDepth 100000 in
theorem f_164_1 : xft 164 1 = some (.iconst 0) := by decide +kernel
set_option maxRecDepth 100000 in
theorem f_164_2 : xft 164 2 = some (.aload_n 0) := by decide +kernel
set_option maxRecDepth 100000 in
theorem f_164_3 : xft 164 3 = some (.iload_n 1) := by decide +kernel
set_option maxRecDepth 100000 in
theorem f_164_4 : xft 164 4 = some (.iload_n 2) := by decide +kernel
set_option maxRecDepth 100000 in
theorem f_164_5 : xft 164 5 = some (.invokevirtual 31) := by decide +kernel
set_option maxRecDepth 100000 in
theorem f_164_8 : xft 164 8 = some (.i2l) := by decide +kernel
set_option maxRecDepth 100000 in
theorem f_164_9 : xft 164 9 = some (.lastore) := by decide +kernel
set_option maxRecDepth 100000 in
theorem f_164_10 : xft 164 10 = some (.goto 15) := by decide +kernel
set_option maxRecDepth 100000 in
theorem f_164_13 : xft 164 13 = some (.astore 4) := by decide +kernel
set_option maxRecDepth 100000 in
theorem f_164_15 : xft 164 15 = some (.iconst 1) := by decide +kernel
set_option maxRecDepth 100000 in
theorem f_164_16 : xft 164 16 = some (.ireturn) := by decide +kernel
set_option maxRecDepth 100000 in
theorem f_164_17 : xft 164 17 = some (.astore 4) := by decide +kernel
set_option maxRecDepth 100000 in
theorem f_164_19 : xft 164 19 = some (.iconst 2) := by decide +kernel
set_option maxRecDepth 100000 in
theorem f_164_20 : xft 164 20 = some (.ireturn) := by decide +kernel
set_option maxRecDepth 100000 in
theorem f_164_21 : xft 164 21 = some (.astore 4) := by decide +kernel
set_option maxRecDepth 100000 in
theorem f_164_23 : xft 164 23 = some (.iconst 3) := by decide +kernel
set_option maxRecDepth 100000 in
theorem f_164_24 : xft 164 24 = some (.ireturn) := by decide +kernel
set_option maxRecDepth 100000 in
theorem f_164_25 : xft 164 25 = some (.iconst 0) := by decide +kernel
set_option maxRecDepth 100000 in
theorem f_164_26 : xft 164 26 = some (.ireturn) := by decide +kernel
set_option maxRecDepth 100000 in
theorem f_165_0 : xft 165 0 = some (.aload_n 3) := by decide +kernel
set_option maxRecDepth 100000 in
theorem f_165_1 : xft 165 1 = some (.iconst 0) := by decide +kernel
set_option maxRecDepth 100000 in
theorem f_165_2 : xft 165 2 = some (.aload_n 0) := by decide +kernel
set_option maxRecDepth 100000 in
theorem f_165_3 : xft 165 3 = some (.iload_n 1) := by decide +kernel
set_option maxRecDepth 100000 in
theorem f_165_4 : xft 165 4 = some (.iload_n 2) := by decide +kernel
set_option maxRecDepth 100000 in
theorem f_165_5 : xft 165 5 = some (.invokevirtual 35) := by decide +kernel
set_option maxRecDepth 100000 in
theorem f_165_8 : xft 165 8 = some (.i2l) := by decide +kernel
set_option maxRecDepth 100000 in
theorem f_165_9 : xft 165 9 = some (.lastore) := by decide +kernel
set_option maxRecDepth 100000 in
theorem f_165_10 : xft 165 10 = some (.goto 15) := by decide +kernel
set_option maxRecDepth 100000 in
theorem f_165_13 : xft 165 13 = some (.astore 4) := by decide +kernel
set_option maxRecDepth 100000 in
theorem f_165_15 : xft 165 15 = some (.iconst 1) := by decide +kernel
set_option maxRecDepth 100000 in
theorem f_165_16 : xft 165 16 = some (.ireturn) := by decide +kernel
set_option maxRecDepth 100000 in
theorem f_165_17 : xft 165 17 = some (.astore 4) := by decide +kernel
set_option maxRecDepth 100000 in
theorem f_165_19 : xft 165 19 = some (.iconst 2) := by decide +kernel
set_option maxRecDepth 100000 in
theorem f_165_20 : xft 165 20 = some (.ireturn) := by decide +kernel
set_option maxRecDepth 100000 in
theorem f_165_21 : xft 165 21 = some (.astore 4) := by decide +kernel
set_option maxRecDepth 100000 in
theorem f_165_23 : xft 165 23 = some (.iconst 3) := by decide +kernel
set_option maxRecDepth 100000 in
theorem f_165_24 : xft 165 24 = some (.ireturn) := by decide +kernel
set_option maxRecDepth 100000 in
theorem f_165_25 : xft 165 25 = some (.iconst 0) := by decide +kernel
set_option maxRecDepth 100000 in
theorem f_165_26 : xft 165 26 = some (.ireturn) := by decide +kernel
set_option maxRecDepth 100000 in
theorem f_166_0 : xft 166 0 = some (.aload_n 3) := by decide +kernel
set_option maxRecDepth 100000 in
theorem f_166_1 : xft 166 1 = some (.iconst 0) := by decide +kernel
set_option maxRecDepth 100000 in
theorem f_166_2 : xft 166 2 = some (.aload_n 0) := by decide +kernel
set_option maxRecDepth 100000 in
theorem f_166_3 : xft 166 3 = some (.iload_n 1) := by decide +kernel
set_option maxRecDepth 100000 in
theorem f_166_4 : xft 166 4 = some (.iload_n 2) := by decide +kernel
set_option maxRecDepth 100000 in
theorem f_166_5 : xft 166 5 = some (.invokevirtual 38) := by decide +kernel
set_option maxRecDepth 100000 in
theorem f_166_8 : xft 166 8 = some (.ifCond .eq 7) := by decide +kernel
set_option maxRecDepth 100000 in
theorem f_166_11 : xft 166 11 = some (.lconst 1) := by decide +kernel
set_option maxRecDepth 100000 in
theorem f_166_12 : xft 166 12 = some (.goto 4) := by decide +kernel
set_option maxRecDepth 100000 in
theorem f_166_15 : xft 166 15 = some (.lconst 0) := by decide +kernel
set_option maxRecDepth 100000 in
theorem f_166_16 : xft 166 16 = some (.lastore) := by decide +kernel
set_option maxRecDepth 100000 in
theorem f_166_17 : xft 166 17 = some (.goto 7) := by decide +kernel
set_option maxRecDepth 100000 in
theorem f_166_20 : xft 166 20 = some (.astore 4) := by decide +kernel
set_option maxRecDepth 100000 in
theorem f_166_22 : xft 166 22 = some (.iconst 1) := by decide +kernel
set_option maxRecDepth 100000 in
theorem f_166_23 : xft 166 23 = some (.ireturn) := by decide +kernel
set_option maxRecDepth 100000 in
theorem f_166_24 : xft 166 24 = some (.iconst 0) := by decide +kernel
set_option maxRecDepth 100000 in
theorem f_166_25 : xft 166 25 = some (.ireturn) := by decide +kernel
set_option maxRecDepth 100000 in
theorem f_167_0 : xft 167 0 = some (.aload_n 3) := by decide +kernel
set_option maxRecDepth 100000 in
theorem f_167_1 : xft 167 1 = some (.iconst 0) := by decide +kernel
set_option maxRecDepth 100000 in
theorem f_167_2 : xft 167 2 = some (.aload_n 0) := by decide +kernel
set_option maxRecDepth 100000 in
theorem f_167_3 : xft 167 3 = some (.iload_n 1) := by decide +kernel
set_option maxRecDepth 100000 in
theorem f_167_4 : xft 167 4 = some (.iload_n 2) := by decide +kernel
set_option maxRecDepth 100000 in
theorem f_167_5 : xft 167 5 = some (.invokevirtual 42) := by decide +kernel
set_option maxRecDepth 100000 in
theorem f_167_8 : xft 167 8 = some (.i2l) := by decide +kernel
set_option maxRecDepth 100000 in
theorem f_167_9 : xft 167 9 = some (.lastore) := by decide +kernel
set_option maxRecDepth 100000 in
theorem f_167_10 : xft 167 10 = some (.goto 11) := by decide +kernel
set_option maxRecDepth 100000 in
theorem f_167_13 : xft 167 13 = some (.astore 4) := by decide +kernel
set_option maxRecDepth 100000 in
theorem f_167_15 : xft 167 15 = some (.iconst 1) := by decide +kernel
set_option maxRecDepth 100000 in
theorem f_167_16 : xft 167 16 = some (.ireturn) := by decide +kernel
set_option maxRecDepth 100000 in
theorem f_167_17 : xft 167 17 = some (.astore 4) := by decide +kernel
set_option maxRecDepth 100000 in
theorem f_167_19 : xft 167 19 = some (.iconst 2) := by decide +kernel
set_option maxRecDepth 100000 in
theorem f_167_20 : xft 167 20 = some (.ireturn) := by decide +kernel
set_option maxRecDepth 100000 in
theorem f_167_21 : xft 167 21 = some (.iconst 0) := by decide +kernel
set_option maxRecDepth 100000 in
theorem f_167_22 : xft 167 22 = some (.ireturn) := by decide +kernel
set_option maxRecDepth 100000 in
theorem f_168_0 : xft 168 0 = some (.aload 5) := by decide +kernel
set_option maxRecDepth 100000 in
theorem f_168_2 : xft 168 2 = some (.iconst 0) := by decide +kernel
set_option maxRecDepth 100000 in
theorem f_168_3 : xft 168 3 = some (.aload_n 0) := by decide +kernel
set_option maxRecDepth 100000 in
theorem f_168_4 : xft 168 4 = some (.iload_n 1) := by decide +kernel
set_option maxRecDepth 100000 in
theorem f_168_5 : xft 168 5 = some (.iload_n 2) := by decide +kernel
set_option maxRecDepth 100000 in
theorem f_168_6 : xft 168 6 = some (.iload_n 3) := by decide +kernel
set_option maxRecDepth 100000 in
theorem f_168_7 : xft 168 7 = some (.iload 4) := by decide +kernel
set_option maxRecDepth 100000 in
theorem f_168_9 : xft 168 9 = some (.invokevirtual 45) := by decide +kernel
set_option maxRecDepth 100000 in
theorem f_168_12 : xft 168 12 = some (.i2l) := by decide +kernel
set_option maxRecDepth 100000 in
theorem f_168_13 : xft 168 13 = some (.lastore) := by decide +kernel
set_option maxRecDepth 100000 in
theorem f_168_14 : xft 168 14 = some (.goto 15) := by decide +kernel
set_option maxRecDepth 100000 in
theorem f_168_17 : xft 168 17 = some (.astore 6) := by decide +kernel
set_option maxRecDepth 100000 in
theorem f_168_19 : xft 168 19 = some (.iconst 1) := by decide +kernel
set_option maxRecDepth 100000 in
theorem f_168_20 : xft 168 20 = some (.ireturn) := by decide +kernel
set_option maxRecDepth 100000 in
theorem f_168_21 : xft 168 21 = some (.astore 6) := by decide +kernel
set_option maxRecDepth 100000 in
theorem f_168_23 : xft 168 23 = some (.iconst 2) := by decide +kernel
set_option maxRecDepth 100000 in
theorem f_168_24 : xft 168 24 = some (.ireturn) := by decide +kernel
set_option maxRecDepth 100000 in
theorem f_168_25 : xft 168 25 = some (.astore 6) := by decide +kernel
set_option maxRecDepth 100000 in
theorem f_168_27 : xft 168 27 = some (.iconst 3) := by decide +kernel
set_option maxRecDepth 100000 in
theorem f_168_28 : xft 168 28 = some (.ireturn) := by decide +kernel
set_option maxRecDepth 100000 in
theorem f_168_29 : xft 168 29 = some (.iconst 0) := by decide +kernel
set_option maxRecDepth 100000 in
theorem f_168_30 : xft 168 30 = some (.ireturn) := by decide +kernel
set_option maxRecDepth 100000 in
theorem f_169_0 : xft 169 0 = some (.aload_n 2) := by decide +kernel
set_option maxRecDepth 100000 in
theorem f_169_1 : xft 169 1 = some (.iconst 0) := by decide +kernel
set_option maxRecDepth 100000 in
theorem f_169_2 : xft 169 2 = some (.aload_n 0) := by decide +kernel
set_option maxRecDepth 100000 in
theorem f_169_3 : xft 169 3 = some (.iload_n 1) := by decide +kernel
set_option maxRecDepth 100000 in
theorem f_169_4 : xft 169 4 = some (.invokevirtual 49) := by decide +kernel
set_option maxRecDepth 100000 in
theorem f_169_7 : xft 169 7 = some (.i2l) := by decide +kernel
set_option maxRecDepth 100000 in
theorem f_169_8 : xft 169 8 = some (.lastore) := by decide +kernel
set_option maxRecDepth 100000 in
theorem f_169_9 : xft 169 9 = some (.goto 9) := by decide +kernel
set_option maxRecDepth 100000 in
theorem f_169_12 : xft 169 12 = some (.astore_n 3) := by decide +kernel
set_option maxRecDepth 100000 in
theorem f_169_13 : xft 169 13 = some (.iconst 1) := by decide +kernel
set_option maxRecDepth 100000 in
theorem f_169_14 : xft 169 14 = some (.ireturn) := by decide +kernel
set_option maxRecDepth 100000 in
theorem f_169_15 : xft 169 15 = some (.astore_n 3) := by decide +kernel
set_option maxRecDepth 100000 in
theorem f_169_16 : xft 169 16 = some (.iconst 2) := by decide +kernel
set_option maxRecDepth 100000 in
theorem f_169_17 : xft 169 17 = some (.ireturn) := by decide +kernel
set_option maxRecDepth 100000 in
theorem f_169_18 : xft 169 18 = some (.iconst 0) := by decide +kernel
set_option maxRecDepth 100000 in
theorem f_169_19 : xft 169 19 = some (.ireturn) := by decide +kernel
set_option maxRecDepth 100000 in
theorem f_170_0 : xft 170 0 = some (.aload 5) := by decide +kernel
set_option maxRecDepth 100000 in
theorem f_170_2 : xft 170 2 = some (.iconst 0) := by decide +kernel
set_option maxRecDepth 100000 in
theorem f_170_3 : xft 170 3 = some (.aload_n 0) := by decide +kernel
set_option maxRecDepth 100000 in
theorem f_170_4 : xft 170 4 = some (.iload_n 1) := by decide +kernel
set_option maxRecDepth 100000 in
theorem f_170_5 : xft 170 5 = some (.iload_n 2) := by decide +kernel
set_option maxRecDepth 100000 in
theorem f_170_6 : xft 170 6 = some (.iload_n 3) := by decide +kernel
set_option maxRecDepth 100000 in
theorem f_170_7 : xft 170 7 = some (.iload 4) := by decide +kernel
set_option maxRecDepth 100000 in
theorem f_170_9 : xft 170 9 = some (.invokevirtual 52) := by decide +kernel
set_option maxRecDepth 100000 in
theorem f_170_12 : xft 170 12 = some (.i2l) := by decide +kernel
set_option maxRecDepth 100000 in
theorem f_170_13 : xft 170 13 = some (.lastore) := by decide +kernel
set_option maxRecDepth 100000 in
theorem f_170_14 : xft 170 14 = some (.goto 11) := by decide +kernel
set_option maxRecDepth 100000 in
theorem f_170_17 : xft 170 17 = some (.astore 6) := by decide +kernel
set_option maxRecDepth 100000 in
theorem f_170_19 : xft 170 19 = some (.iconst 1) := by decide +kernel
set_option maxRecDepth 100000 in
theorem f_170_20 : xft 170 20 = some (.ireturn) := by decide +kernel
set_option maxRecDepth 100000 in
theorem f_170_21 : xft 170 21 = some (.astore 6) := by decide +kernel
set_option maxRecDepth 100000 in
theorem f_170_23 : xft 170 23 = some (.iconst 2) := by decide +kernel
set_option maxRecDepth 100000 in
theorem f_170_24 : xft 170 24 = some (.ireturn) := by decide +kernel
set_option maxRecDepth 100000 in
theorem f_170_25 : xft 170 25 = some (.iconst 0) := by decide +kernel
set_option maxRecDepth 100000 in
theorem f_170_26 : xft 170 26 = some (.ireturn) := by decide +kernel
set_option maxRecDepth 100000 in
theorem f_171_0 : xft 171 0 = some (.aload 4) := by decide +kernel
set_option maxRecDepth 100000 in
theorem f_171_2 : xft 171 2 = some (.iconst 0) := by decide +kernel
set_option maxRecDepth 100000 in
theorem f_171_3 : xft 171 3 = some (.aload_n 0) := by decide +kernel
set_option maxRecDepth 100000 in
theorem f_171_4 : xft 171 4 = some (.iload_n 1) := by decide +kernel
set_option maxRecDepth 100000 in
theorem f_171_5 : xft 171 5 = some (.iload_n 2) := by decide +kernel
set_option maxRecDepth 100000 in
theorem f_171_6 : xft 171 6 = some (.iload_n 3) := by decide +kernel
set_option maxRecDepth 100000 in
theorem f_171_7 : xft 171 7 = some (.invokevirtual 55) := by decide +kernel
set_option maxRecDepth 100000 in
theorem f_171_10 : xft 171 10 = some (.i2l) := by decide +kernel
set_option maxRecDepth 100000 in
theorem f_171_11 : xft 171 11 = some (.lastore) := by decide +kernel
set_option maxRecDepth 100000 in
theorem f_171_12 : xft 171 12 = some (.goto 11) := by decide +kernel
set_option maxRecDepth 100000 in
theorem f_171_15 : xft 171 15 = some (.astore 5) := by decide +kernel
set_option maxRecDepth 100000 in
theorem f_171_17 : xft 171 17 = some (.iconst 1) := by decide +kernel
set_option maxRecDepth 100000 in
theorem f_171_18 : xft 171 18 = some (.ireturn) := by decide +kernel
set_option maxRecDepth 100000 in
theorem f_171_19 : xft 171 19 = some (.astore 5) := by decide +kernel
set_option maxRecDepth 100000 in
theorem f_171_21 : xft 171 21 = some (.iconst 2) := by decide +kernel
set_option maxRecDepth 100000 in
theorem f_171_22 : xft 171 22 = some (.ireturn) := by decide +kernel
set_option maxRecDepth 100000 in
theorem f_171_23 : xft 171 23 = some (.iconst 0) := by decide +kernel
set_option maxRecDepth 100000 in
theorem f_171_24 : xft 171 24 = some (.ireturn) := by decide +kernel
set_option maxRecDepth 100000 in
theorem f_172_0 : xft 172 0 = some (.aload 4) := by decide +kernel
set_option maxRecDepth 100000 in
theorem f_172_2 : xft 172 2 = some (.iconst 0) := by decide +kernel
set_option maxRecDepth 100000 in
theorem f_172_3 : xft 172 3 = some (.aload_n 0) := by decide +kernel
set_option maxRecDepth 100000 in
theorem f_172_4 : xft 172 4 = some (.iload_n 1) := by decide +kernel
set_option maxRecDepth 100000 in
theorem f_172_5 : xft 172 5 = some (.iload_n 2) := by decide +kernel
set_option maxRecDepth 100000 in
theorem f_172_6 : xft 172 6 = some (.iload_n 3) := by decide +kernel
set_option maxRecDepth 100000 in
theorem f_172_7 : xft 172 7 = some (.invokevirtual 58) := by decide +kernel
set_option maxRecDepth 100000 in
theorem f_172_10 : xft 172 10 = some (.i2l) := by decide +kernel
set_option maxRecDepth 100000 in
theorem f_172_11 : xft 172 11 = some (.lastore) := by decide +kernel
set_option maxRecDepth 100000 in
theorem f_172_12 : xft 172 12 = some (.goto 15) := by decide +kernel
set_option maxRecDepth 100000 in
theorem f_172_15 : xft 172 15 = some (.astore 5) := by decide +kernel
set_option maxRecDepth 100000 in
theorem f_172_17 : xft 172 17 = some (.iconst 1) := by decide +kernel
set_option maxRecDepth 100000 in
theorem f_172_18 : xft 172 18 = some (.ireturn) := by decide +kernel
set_option maxRecDepth 100000 in
theorem f_172_19 : xft 172 19 = some (.astore 5) := by decide +kernel
set_option maxRecDepth 100000 in
theorem f_172_21 : xft 172 21 = some (.iconst 2) := by decide +kernel
set_option maxRecDepth 100000 in
theorem f_172_22 : xft 172 22 = some (.ireturn) := by decide +kernel
set_option maxRecDepth 100000 in
theorem f_172_23 : xft 172 23 = some (.astore 5) := by decide +kernel
set_option maxRecDepth 100000 in
theorem f_172_25 : xft 172 25 = some (.iconst 3) := by decide +kernel
set_option maxRecDepth 100000 in
theorem f_172_26 : xft 172 26 = some (.ireturn) := by decide +kernel
set_option maxRecDepth 100000 in
theorem f_172_27 : xft 172 27 = some (.iconst 0) := by decide +kernel
set_option maxRecDepth 100000 in
theorem f_172_28 : xft 172 28 = some (.ireturn) := by decide +kernel
set_option maxRecDepth 100000 in
theorem f_173_0 : xft 173 0 = some (.aload_n 3) := by decide +kernel
set_option maxRecDepth 100000 in
theorem f_173_1 : xft 173 1 = some (.iconst 0) := by decide +kernel
set_option maxRecDepth 100000 in
theorem f_173_2 : xft 173 2 = some (.aload_n 0) := by decide +kernel
set_option maxRecDepth 100000 in
theorem f_173_3 : xft 173 3 = some (.iload_n 1) := by decide +kernel
set_option maxRecDepth 100000 in
theorem f_173_4 : xft 173 4 = some (.iload_n 2) := by decide +kernel
set_option maxRecDepth 100000 in
theorem f_173_5 : xft 173 5 = some (.invokevirtual 61) := by decide +kernel
set_option maxRecDepth 100000 in
theorem f_173_8 : xft 173 8 = some (.i2l) := by decide +kernel
set_option maxRecDepth 100000 in
theorem f_173_9 : xft 173 9 = some (.lastore) := by decide +kernel
set_option maxRecDepth 100000 in
theorem f_173_10 : xft 173 10 = some (.goto 11) := by decide +kernel
set_option maxRecDepth 100000 in
theorem f_173_13 : xft 173 13 = some (.astore 4) := by decide +kernel
set_option maxRecDepth 100000 in
theorem f_173_15 : xft 173 15 = some (.iconst 1) := by decide +kernel
set_option maxRecDepth 100000 in
theorem f_173_16 : xft 173 16 = some (.ireturn) := by decide +kernel
set_option maxRecDepth 100000 in
theorem f_173_17 : xft 173 17 = some (.astore 4) := by decide +kernel
set_option maxRecDepth 100000 in
theorem f_173_19 : xft 173 19 = some (.iconst 2) := by decide +kernel
set_option maxRecDepth 100000 in
theorem f_173_20 : xft 173 20 = some (.ireturn) := by decide +kernel
set_option maxRecDepth 100000 in
theorem f_173_21 : xft 173 21 = some (.iconst 0) := by decide +kernel
set_option maxRecDepth 100000 in
theorem f_173_22 : xft 173 22 = some (.ireturn) := by decide +kernel
set_option maxRecDepth 100000 in
theorem f_174_0 : xft 174 0 = some (.aload_n 2) := by decide +kernel
set_option maxRecDepth 100000 in
theorem f_174_1 : xft 174 1 = some (.iconst 0) := by decide +kernel
set_option maxRecDepth 100000 in
theorem f_174_2 : xft 174 2 = some (.aload_n 0) := by decide +kernel
set_option maxRecDepth 100000 in
theorem f_174_3 : xft 174 3 = some (.iload_n 1) := by decide +kernel
set_option maxRecDepth 100000 in
theorem f_174_4 : xft 174 4 = some (.invokevirtual 64) := by decide +kernel
set_option maxRecDepth 100000 in
theorem f_174_7 : xft 174 7 = some (.i2l) := by decide +kernel
set_option maxRecDepth 100000 in
theorem f_174_8 : xft 174 8 = some (.lastore) := by decide +kernel
set_option maxRecDepth 100000 in
theorem f_174_9 : xft 174 9 = some (.goto 6) := by decide +kernel
set_option maxRecDepth 100000 in
theorem f_174_12 : xft 174 12 = some (.astore_n 3) := by decide +kernel
set_option maxRecDepth 100000 in
theorem f_174_13 : xft 174 13 = some (.iconst 1) := by decide +kernel
set_option maxRecDepth 100000 in
theorem f_174_14 : xft 174 14 = some (.ireturn) := by decide +kernel
set_option maxRecDepth 100000 in
theorem f_174_15 : xft 174 15 = some (.iconst 0) := by decide +kernel
set_option maxRecDepth 100000 in
theorem f_174_16 : xft 174 16 = some (.ireturn) := by decide +kernel
set_option maxRecDepth 100000 in
theorem f_175_0 : xft 175 0 = some (.aload 5) := by decide +kernel
set_option maxRecDepth 100000 in
theorem f_175_2 : xft 175 2 = some (.iconst 0) := by decide +kernel
set_option maxRecDepth 100000 in
theorem f_175_3 : xft 175 3 = some (.aload_n 0) := by decide +kernel
set_option maxRecDepth 100000 in
theorem f_175_4 : xft 175 4 = some (.iload_n 1) := by decide +kernel
set_option maxRecDepth 100000 in
theorem f_175_5 : xft 175 5 = some (.iload_n 2) := by decide +kernel
set_option maxRecDepth 100000 in
theorem f_175_6 : xft 175 6 = some (.iload_n 3) := by decide +kernel
set_option maxRecDepth 100000 in
theorem f_175_7 : xft 175 7 = some (.iload 4) := by decide +kernel
set_option maxRecDepth 100000 in
theorem f_175_9 : xft 175 9 = some (.invokevirtual 67) := by decide +kernel
set_option maxRecDepth 100000 in
theorem f_175_12 : xft 175 12 = some (.i2l) := by decide +kernel
set_option maxRecDepth 100000 in
theorem f_175_13 : xft 175 13 = some (.lastore) := by decide +kernel
set_option maxRecDepth 100000 in
theorem f_175_14 : xft 175 14 = some (.goto 15) := by decide +kernel
set_option maxRecDepth 100000 in
theorem f_175_17 : xft 175 17 = some (.astore 6) := by decide +kernel
set_option maxRecDepth 100000 in
theorem f_175_19 : xft 175 19 = some (.iconst 1) := by decide +kernel
set_option maxRecDepth 100000 in
theorem f_175_20 : xft 175 20 = some (.ireturn) := by decide +kernel
set_option maxRecDepth 100000 in
theorem f_175_21 : xft 175 21 = some (.astore 6) := by decide +kernel
set_option maxRecDepth 100000 in
theorem f_175_23 : xft 175 23 = some (.iconst 2) := by decide +kernel
set_option maxRecDepth 100000 in
theorem f_175_24 : xft 175 24 = some (.ireturn) := by decide +kernel
set_option maxRecDepth 100000 in
theorem f_175_25 : xft 175 25 = some (.astore 6) := by decide +kernel
set_option maxRecDepth 100000 in
theorem f_175_27 : xft 175 27 = some (.iconst 3) := by decide +kernel
set_option maxRecDepth 100000 in
theorem f_175_28 : xft 175 28 = some (.ireturn) := by decide +kernel
set_option maxRecDepth 100000 in
theorem f_175_29 : xft 175 29 = some (.iconst 0) := by decide +kernel
set_option maxRecDepth 100000 in
theorem f_175_30 : xft 175 30 = some (.ireturn) := by decide +kernel
set_option maxRecDepth 100000 in
theorem f_176_0 : xft 176 0 = some (.aload 4) := by decide +kernel
set_option maxRecDepth 100000 in
theorem f_176_2 : xft 176 2 = some (.iconst 0) := by decide +kernel
set_option maxRecDepth 100000 in
theorem f_176_3 : xft 176 3 = some (.aload_n 0) := by decide +kernel
set_option maxRecDepth 100000 in
theorem f_176_4 : xft 176 4 = some (.iload_n 1) := by decide +kernel
set_option maxRecDepth 100000 in
theorem f_176_5 : xft 176 5 = some (.iload_n 2) := by decide +kernel
set_option maxRecDepth 100000 in
theorem f_176_6 : xft 176 6 = some (.iload_n 3) := by decide +kernel
set_option maxRecDepth 100000 in
theorem f_176_7 : xft 176 7 = some (.invokevirtual 70) := by decide +kernel
set_option maxRecDepth 100000 in
theorem f_176_10 : xft 176 10 = some (.i2l) := by decide +kernel
set_option maxRecDepth 100000 in
theorem f_176_11 : xft 176 11 = some (.lastore) := by decide +kernel
set_option maxRecDepth 100000 in
theorem f_176_12 : xft 176 12 = some (.goto 11) := by decide +kernel
set_option maxRecDepth 100000 in
theorem f_176_15 : xft 176 15 = some (.astore 5) := by decide +kernel
set_option maxRecDepth 100000 in
theorem f_176_17 : xft 176 17 = some (.iconst 1) := by decide +kernel
set_option maxRecDepth 100000 in
theorem f_176_18 : xft 176 18 = some (.ireturn) := by decide +kernel
set_option maxRecDepth 100000 in
theorem f_176_19 : xft 176 19 = some (.astore 5) := by decide +kernel
set_option maxRecDepth 100000 in
theorem f_176_21 : xft 176 21 = some (.iconst 2) := by decide +kernel
set_option maxRecDepth 100000 in
theorem f_176_22 : xft 176 22 = some (.ireturn) := by decide +kernel
set_option maxRecDepth 100000 in
theorem f_176_23 : xft 176 23 = some (.iconst 0) := by decide +kernel
set_option maxRecDepth 100000 in
theorem f_176_24 : xft 176 24 = some (.ireturn) := by decide +kernel
set_option maxRecDepth 100000 in
theorem f_177_0 : xft 177 0 = some (.aload 4) := by decide +kernel
set_option maxRecDepth 100000 in
theorem f_177_2 : xft 177 2 = some (.iconst 0) := by decide +kernel
set_option maxRecDepth 100000 in
theorem f_177_3 : xft 177 3 = some (.aload_n 0) := by decide +kernel
set_option maxRecDepth 100000 in
theorem f_177_4 : xft 177 4 = some (.iload_n 1) := by decide +kernel
set_option maxRecDepth 100000 in
theorem f_177_5 : xft 177 5 = some (.iload_n 2) := by decide +kernel
set_option maxRecDepth 100000 in
theorem f_177_6 : xft 177 6 = some (.iload_n 3) := by decide +kernel
set_option maxRecDepth 100000 in
theorem f_177_7 : xft 177 7 = some (.invokevirtual 73) := by decide +kernel
set_option maxRecDepth 100000 in
theorem f_177_10 : xft 177 10 = some (.i2l) := by decide +kernel
set_option maxRecDepth 100000 in
theorem f_177_11 : xft 177 11 = some (.lastore) := by decide +kernel
set_option maxRecDepth 100000 in
theorem f_177_12 : xft 177 12 = some (.goto 11) := by decide +kernel
set_option maxRecDepth 100000 in
theorem f_177_15 : xft 177 15 = some (.astore 5) := by decide +kernel
set_option maxRecDepth 100000 in
theorem f_177_17 : xft 177 17 = some (.iconst 1) := by decide +kernel
set_option maxRecDepth 100000 in
theorem f_177_18 : xft 177 18 = some (.ireturn) := by decide +kernel
set_option maxRecDepth 100000 in
theorem f_177_19 : xft 177 19 = some (.astore 5) := by decide +kernel
set_option maxRecDepth 100000 in
theorem f_177_21 : xft 177 21 = some (.iconst 2) := by decide +kernel
set_option maxRecDepth 100000 in
theorem f_177_22 : xft 177 22 = some (.ireturn) := by decide +kernel
set_option maxRecDepth 100000 in
theorem f_177_23 : xft 177 23 = some (.iconst 0) := by decide +kernel
set_option maxRecDepth 100000 in
theorem f_177_24 : xft 177 24 = some (.ireturn) := by decide +kernel
set_option maxRecDepth 100000 in
theorem f_178_0 : xft 178 0 = some (.aload 4) := by decide +kernel
set_option maxRecDepth 100000 in
theorem f_178_2 : xft 178 2 = some (.iconst 0) := by decide +kernel
set_option maxRecDepth 100000 in
theorem f_178_3 : xft 178 3 = some (.aload_n 0) := by decide +kernel
set_option maxRecDepth 100000 in
theorem f_178_4 : xft 178 4 = some (.iload_n 1) := by decide +kernel
set_option maxRecDepth 100000 in
theorem f_178_5 : xft 178 5 = some (.iload_n 2) := by decide +kernel
set_option maxRecDepth 100000 in
theorem f_178_6 : xft 178 6 = some (.iload_n 3) := by decide +kernel
set_option maxRecDepth 100000 in
theorem f_178_7 : xft 178 7 = some (.invokevirtual 76) := by decide +kernel
set_option maxRecDepth 100000 in
theorem f_178_10 : xft 178 10 = some (.i2l) := by decide +kernel
set_option maxRecDepth 100000 in
theorem f_178_11 : xft 178 11 = some (.lastore) := by decide +kernel
set_option maxRecDepth 100000 in
theorem f_178_12 : xft 178 12 = some (.goto 11) := by decide +kernel
set_option maxRecDepth 100000 in
theorem f_178_15 : xft 178 15 = some (.astore 5) := by decide +kernel
set_option maxRecDepth 100000 in
theorem f_178_17 : xft 178 17 = some (.iconst 1) := by decide +kernel
set_option maxRecDepth 100000 in
theorem f_178_18 : xft 178 18 = some (.ireturn) := by decide +kernel
set_option maxRecDepth 100000 in
theorem f_178_19 : xft 178 19 = some (.astore 5) := by decide +kernel
set_option maxRecDepth 100000 in
theorem f_178_21 : xft 178 21 = some (.iconst 2) := by decide +kernel
set_option maxRecDepth 100000 in
theorem f_178_22 : xft 178 22 = some (.ireturn) := by decide +kernel
set_option maxRecDepth 100000 in
theorem f_178_23 : xft 178 23 = some (.iconst 0) := by decide +kernel
set_option maxRecDepth 100000 in
theorem f_178_24 : xft 178 24 = some (.ireturn) := by decide +kernel
set_option maxRecDepth 100000 in
theorem f_179_0 : xft 179 0 = some (.aload 4) := by decide +kernel
set_option maxRecDepth 100000 in
theorem f_179_2 : xft 179 2 = some (.iconst 0) := by decide +kernel
set_option maxRecDepth 100000 in
theorem f_179_3 : xft 179 3 = some (.aload_n 0) := by decide +kernel
set_option maxRecDepth 100000 in
theorem f_179_4 : xft 179 4 = some (.iload_n 1) := by decide +kernel
set_option maxRecDepth 100000 in
theorem f_179_5 : xft 179 5 = some (.iload_n 2) := by decide +kernel
set_option maxRecDepth 100000 in
theorem f_179_6 : xft 179 6 = some (.iload_n 3) := by decide +kernel
set_option maxRecDepth 100000 in
theorem f_179_7 : xft 179 7 = some (.invokevirtual 79) := by decide +kernel
set_option maxRecDepth 100000 in
theorem f_179_10 : xft 179 10 = some (.i2l) := by decide +kernel
set_option maxRecDepth 100000 in
theorem f_179_11 : xft 179 11 = some (.lastore) := by decide +kernel
set_option maxRecDepth 100000 in
theorem f_179_12 : xft 179 12 = some (.goto 11) := by decide +kernel
set_option maxRecDepth 100000 in
theorem f_179_15 : xft 179 15 = some (.astore 5) := by decide +kernel
set_option maxRecDepth 100000 in
theorem f_179_17 : xft 179 17 = some (.iconst 1) := by decide +kernel
set_option maxRecDepth 100000 in
theorem f_179_18 : xft 179 18 = some (.ireturn) := by decide +kernel
set_option maxRecDepth 100000 in
theorem f_179_19 : xft 179 19 = some (.astore 5) := by decide +kernel
set_option maxRecDepth 100000 in
theorem f_179_21 : xft 179 21 = some (.iconst 2) := by decide +kernel
set_option maxRecDepth 100000 in
theorem f_179_22 : xft 179 22 = some (.ireturn) := by decide +kernel
set_option maxRecDepth 100000 in
theorem f_179_23 : xft 179 23 = some (.iconst 0) := by decide +kernel
set_option maxRecDepth 100000 in
theorem f_179_24 : xft 179 24 = some (.ireturn) := by decide +kernel
set_option maxRecDepth 100000 in
theorem f_180_0 : xft 180 0 = some (.aload 4) := by decide +kernel
set_option maxRecDepth 100000 in
theorem f_180_2 : xft 180 2 = some (.iconst 0) := by decide +kernel
set_option maxRecDepth 100000 in
theorem f_180_3 : xft 180 3 = some (.aload_n 0) := by decide +kernel
set_option maxRecDepth 100000 in
theorem f_180_4 : xft 180 4 = some (.iload_n 1) := by decide +kernel
set_option maxRecDepth 100000 in
theorem f_180_5 : xft 180 5 = some (.iload_n 2) := by decide +kernel
set_option maxRecDepth 100000 in
theorem f_180_6 : xft 180 6 = some (.iload_n 3) := by decide +kernel
set_option maxRecDepth 100000 in
theorem f_180_7 : xft 180 7 = some (.invokevirtual 82) := by decide +kernel
set_option maxRecDepth 100000 in
theorem f_180_10 : xft 180 10 = some (.i2l) := by decide +kernel
set_option maxRecDepth 100000 in
theorem f_180_11 : xft 180 11 = some (.lastore) := by decide +kernel
set_option maxRecDepth 100000 in
theorem f_180_12 : xft 180 12 = some (.goto 11) := by decide +kernel
set_option maxRecDepth 100000 in
theorem f_180_15 : xft 180 15 = some (.astore 5) := by decide +kernel
set_option maxRecDepth 100000 in
theorem f_180_17 : xft 180 17 = some (.iconst 1) := by decide +kernel
set_option maxRecDepth 100000 in
theorem f_180_18 : xft 180 18 = some (.ireturn) := by decide +kernel
set_option maxRecDepth 100000 in
theorem f_180_19 : xft 180 19 = some (.astore 5) := by decide +kernel
set_option maxRecDepth 100000 in
theorem f_180_21 : xft 180 21 = some (.iconst 2) := by decide +kernel
set_option maxRecDepth 100000 in
theorem f_180_22 : xft 180 22 = some (.ireturn) := by decide +kernel
set_option maxRecDepth 100000 in
theorem f_180_23 : xft 180 23 = some (.iconst 0) := by decide +kernel
set_option maxRecDepth 100000 in
theorem f_180_24 : xft 180 24 = some (.ireturn) := by decide +kernel
set_option maxRecDepth 100000 in
theorem f_181_0 : xft 181 0 = some (.aload 5) := by decide +kernel
set_option maxRecDepth 100000 in
theorem f_181_2 : xft 181 2 = some (.iconst 0) := by decide +kernel
set_option maxRecDepth 100000 in
theorem f_181_3 : xft 181 3 = some (.aload_n 0) := by decide +kernel
set_option maxRecDepth 100000 in
theorem f_181_4 : xft 181 4 = some (.iload_n 1) := by decide +kernel
set_option maxRecDepth 100000 in
theorem f_181_5 : xft 181 5 = some (.iload_n 2) := by decide +kernel
set_option maxRecDepth 100000 in
theorem f_181_6 : xft 181 6 = some (.iload_n 3) := by decide +kernel
set_option maxRecDepth 100000 in
theorem f_181_7 : xft 181 7 = some (.iload 4) := by decide +kernel
set_option maxRecDepth 100000 in
theorem f_181_9 : xft 181 9 = some (.invokevirtual 85) := by decide +kernel
set_option maxRecDepth 100000 in
theorem f_181_12 : xft 181 12 = some (.i2l) := by decide +kernel
set_option maxRecDepth 100000 in
theorem f_181_13 : xft 181 13 = some (.lastore) := by decide +kernel
set_option maxRecDepth 100000 in
theorem f_181_14 : xft 181 14 = some (.goto 11) := by decide +kernel
set_option maxRecDepth 100000 in
theorem f_181_17 : xft 181 17 = some (.astore 6) := by decide +kernel
set_option maxRecDepth 100000 in
theorem f_181_19 : xft 181 19 = some (.iconst 1) := by decide +kernel
set_option maxRecDepth 100000 in
theorem f_181_20 : xft 181 20 = some (.ireturn) := by decide +kernel
set_option maxRecDepth 100000 in
theorem f_181_21 : xft 181 21 = some (.astore 6) := by decide +kernel
set_option maxRecDepth 100000 in
theorem f_181_23 : xft 181 23 = some (.iconst 2) := by decide +kernel
set_option maxRecDepth 100000 in
theorem f_181_24 : xft 181 24 = some (.ireturn) := by decide +kernel
set_option maxRecDepth 100000 in
theorem f_181_25 : xft 181 25 = some (.iconst 0) := by decide +kernel
set_option maxRecDepth 100000 in
theorem f_181_26 : xft 181 26 = some (.ireturn) := by decide +kernel
set_option maxRecDepth 100000 in
theorem f_182_0 : xft 182 0 = some (.aload 4) := by decide +kernel
set_option maxRecDepth 100000 in
theorem f_182_2 : xft 182 2 = some (.iconst 0) := by decide +kernel
set_option maxRecDepth 100000 in
theorem f_182_3 : xft 182 3 = some (.aload_n 0) := by decide +kernel
set_option maxRecDepth 100000 in
theorem f_182_4 : xft 182 4 = some (.iload_n 1) := by decide +kernel
set_option maxRecDepth 100000 in
theorem f_182_5 : xft 182 5 = some (.iload_n 2) := by decide +kernel
set_option maxRecDepth 100000 in
theorem f_182_6 : xft 182 6 = some (.iload_n 3) := by decide +kernel
set_option maxRecDepth 100000 in
theorem f_182_7 : xft 182 7 = some (.invokevirtual 88) := by decide +kernel
set_option maxRecDepth 100000 in
theorem f_182_10 : xft 182 10 = some (.i2l) := by decide +kernel
set_option maxRecDepth 100000 in
theorem f_182_11 : xft 182 11 = some (.lastore) := by decide +kernel
set_option maxRecDepth 100000 in
theorem f_182_12 : xft 182 12 = some (.goto 11) := by decide +kernel
set_option maxRecDepth 100000 in
theorem f_182_15 : xft 182 15 = some (.astore 5) := by decide +kernel
set_option maxRecDepth 100000 in
theorem f_182_17 : xft 182 17 = some (.iconst 1) := by decide +kernel
set_option maxRecDepth 100000 in
theorem f_182_18 : xft 182 18 = some (.ireturn) := by decide +kernel
set_option maxRecDepth 100000 in
theorem f_182_19 : xft 182 19 = some (.astore 5) := by decide +kernel
set_option maxRecDepth 100000 in
theorem f_182_21 : xft 182 21 = some (.iconst 2) := by decide +kernel
set_option maxRecDepth 100000 in
theorem f_182_22 : xft 182 22 = some (.ireturn) := by decide +kernel
set_option maxRecDepth 100000 in
theorem f_182_23 : xft 182 23 = some (.iconst 0) := by decide +kernel
set_option maxRecDepth 100000 in
theorem f_182_24 : xft 182 24 = some (.ireturn) := by decide +kernel
set_option maxRecDepth 100000 in
theorem f_183_0 : xft 183 0 = some (.aload 7) := by decide +kernel
set_option maxRecDepth 100000 in
theorem f_183_2 : xft 183 2 = some (.iconst 0) := by decide +kernel
set_option maxRecDepth 100000 in
theorem f_183_3 : xft 183 3 = some (.aload_n 0) := by decide +kernel
set_option maxRecDepth 100000 in
theorem f_183_4 : xft 183 4 = some (.iload_n 1) := by decide +kernel
set_option maxRecDepth 100000 in
theorem f_183_5 : xft 183 5 = some (.iload_n 2) := by decide +kernel
set_option maxRecDepth 100000 in
theorem f_183_6 : xft 183 6 = some (.iload_n 3) := by decide +kernel
set_option maxRecDepth 100000 in
theorem f_183_7 : xft 183 7 = some (.iload 4) := by decide +kernel
set_option maxRecDepth 100000 in
theorem f_183_9 : xft 183 9 = some (.iload 5) := by decide +kernel
set_option maxRecDepth 100000 in
theorem f_183_11 : xft 183 11 = some (.iload 6) := by decide +kernel
set_option maxRecDepth 100000 in
theorem f_183_13 : xft 183 13 = some (.invokevirtual 91) := by decide +kernel
set_option maxRecDepth 100000 in
theorem f_183_16 : xft 183 16 = some (.i2l) := by decide +kernel
set_option maxRecDepth 100000 in
theorem f_183_17 : xft 183 17 = some (.lastore) := by decide +kernel
set_option maxRecDepth 100000 in
theorem f_183_18 : xft 183 18 = some (.goto 15) := by decide +kernel
set_option maxRecDepth 100000 in
theorem f_183_21 : xft 183 21 = some (.astore 8) := by decide +kernel
set_option maxRecDepth 100000 in
theorem f_183_23 : xft 183 23 = some (.iconst 1) := by decide +kernel
set_option maxRecDepth 100000 in
theorem f_183_24 : xft 183 24 = some (.ireturn) := by decide +kernel
set_option maxRecDepth 100000 in
theorem f_183_25 : xft 183 25 = some (.astore 8) := by decide +kernel
set_option maxRecDepth 100000 in
theorem f_183_27 : xft 183 27 = some (.iconst 2) := by decide +kernel
set_option maxRecDepth 100000 in
theorem f_183_28 : xft 183 28 = some (.ireturn) := by decide +kernel
set_option maxRecDepth 100000 in
theorem f_183_29 : xft 183 29 = some (.astore 8) := by decide +kernel
set_option maxRecDepth 100000 in
theorem f_183_31 : xft 183 31 = some (.iconst 3) := by decide +kernel
set_option maxRecDepth 100000 in
theorem f_183_32 : xft 183 32 = some (.ireturn) := by decide +kernel
set_option maxRecDepth 100000 in
theorem f_183_33 : xft 183 33 = some (.iconst 0) := by decide +kernel
set_option maxRecDepth 100000 in
theorem f_183_34 : xft 183 34 = some (.ireturn) := by decide +kernel
set_option maxRecDepth 100000 in
theorem f_184_0 : xft 184 0 = some (.aload_n 2) := by decide +kernel
set_option maxRecDepth 100000 in
theorem f_184_1 : xft 184 1 = some (.iconst 0) := by decide +kernel
set_option maxRecDepth 100000 in
theorem f_184_2 : xft 184 2 = some (.aload_n 0) := by decide +kernel
set_option maxRecDepth 100000 in
theorem f_184_3 : xft 184 3 = some (.iload_n 1) := by decide +kernel
set_option maxRecDepth 100000 in
theorem f_184_4 : xft 184 4 = some (.invokevirtual 95) := by decide +kernel
set_option maxRecDepth 100000 in
theorem f_184_7 : xft 184 7 = some (.i2l) := by decide +kernel
set_option maxRecDepth 100000 in
theorem f_184_8 : xft 184 8 = some (.lastore) := by decide +kernel
set_option maxRecDepth 100000 in
theorem f_184_9 : xft 184 9 = some (.goto 6) := by decide +kernel
set_option maxRecDepth 100000 in
theorem f_184_12 : xft 184 12 = some (.astore_n 3) := by decide +kernel
set_option maxRecDepth 100000 in
theorem f_184_13 : xft 184 13 = some (.iconst 1) := by decide +kernel
set_option maxRecDepth 100000 in
theorem f_184_14 : xft 184 14 = some (.ireturn) := by decide +kernel
set_option maxRecDepth 100000 in
theorem f_184_15 : xft 184 15 = some (.iconst 0) := by decide +kernel
set_option maxRecDepth 100000 in
theorem f_184_16 : xft 184 16 = some (.ireturn) := by decide +kernel
set_option maxRecDepth 100000 in
theorem f_185_0 : xft 185 0 = some (.aload 4) := by decide +kernel
set_option maxRecDepth 100000 in
theorem f_185_2 : xft 185 2 = some (.iconst 0) := by decide +kernel
set_option maxRecDepth 100000 in
theorem f_185_3 : xft 185 3 = some (.aload_n 0) := by decide +kernel
set_option maxRecDepth 100000 in
theorem f_185_4 : xft 185 4 = some (.iload_n 1) := by decide +kernel
set_option maxRecDepth 100000 in
theorem f_185_5 : xft 185 5 = some (.iload_n 2) := by decide +kernel
set_option maxRecDepth 100000 in
theorem f_185_6 : xft 185 6 = some (.iload_n 3) := by decide +kernel
set_option maxRecDepth 100000 in
theorem f_185_7 : xft 185 7 = some (.invokevirtual 98) := by decide +kernel
set_option maxRecDepth 100000 in
theorem f_185_10 : xft 185 10 = some (.i2l) := by decide +kernel
set_option maxRecDepth 100000 in
theorem f_185_11 : xft 185 11 = some (.lastore) := by decide +kernel
set_option maxRecDepth 100000 in
theorem f_185_12 : xft 185 12 = some (.goto 11) := by decide +kernel
set_option maxRecDepth 100000 in
theorem f_185_15 : xft 185 15 = some (.astore 5) := by decide +kernel
set_option maxRecDepth 100000 in
theorem f_185_17 : xft 185 17 = some (.iconst 1) := by decide +kernel
set_option maxRecDepth 100000 in
theorem f_185_18 : xft 185 18 = some (.ireturn) := by decide +kernel
set_option maxRecDepth 100000 in
theorem f_185_19 : xft 185 19 = some (.astore 5) := by decide +kernel
set_option maxRecDepth 100000 in
theorem f_185_21 : xft 185 21 = some (.iconst 2) := by decide +kernel
set_option maxRecDepth 100000 in
theorem f_185_22 : xft 185 22 = some (.ireturn) := by decide +kernel
set_option maxRecDepth 100000 in
theorem f_185_23 : xft 185 23 = some (.iconst 0) := by decide +kernel
set_option maxRecDepth 100000 in
theorem f_185_24 : xft 185 24 = some (.ireturn) := by decide +kernel
set_option maxRecDepth 100000 in
theorem f_186_0 : xft 186 0 = some (.aload 5) := by decide +kernel
set_option maxRecDepth 100000 in
theorem f_186_2 : xft 186 2 = some (.iconst 0) := by decide +kernel
set_option maxRecDepth 100000 in
theorem f_186_3 : xft 186 3 = some (.aload_n 0) := by decide +kernel
set_option maxRecDepth 100000 in
theorem f_186_4 : xft 186 4 = some (.iload_n 1) := by decide +kernel
set_option maxRecDepth 100000 in
theorem f_186_5 : xft 186 5 = some (.iload_n 2) := by decide +kernel
set_option maxRecDepth 100000 in
theorem f_186_6 : xft 186 6 = some (.iload_n 3) := by decide +kernel
set_option maxRecDepth 100000 in
theorem f_186_7 : xft 186 7 = some (.iload 4) := by decide +kernel
set_option maxRecDepth 100000 in
theorem f_186_9 : xft 186 9 = some (.invokevirtual 101) := by decide +kernel
set_option maxRecDepth 100000 in
theorem f_186_12 : xft 186 12 = some (.i2l) := by decide +kernel
set_option maxRecDepth 100000 in
theorem f_186_13 : xft 186 13 = some (.lastore) := by decide +kernel
set_option maxRecDepth 100000 in
theorem f_186_14 : xft 186 14 = some (.goto 11) := by decide +kernel
set_option maxRecDepth 100000 in
theorem f_186_17 : xft 186 17 = some (.astore 6) := by decide +kernel
set_option maxRecDepth 100000 in
theorem f_186_19 : xft 186 19 = some (.iconst 1) := by decide +kernel
set_option maxRecDepth 100000 in
theorem f_186_20 : xft 186 20 = some (.ireturn) := by decide +kernel
set_option maxRecDepth 100000 in
theorem f_186_21 : xft 186 21 = some (.astore 6) := by decide +kernel
set_option maxRecDepth 100000 in
theorem f_186_23 : xft 186 23 = some (.iconst 2) := by decide +kernel
set_option maxRecDepth 100000 in
theorem f_186_24 : xft 186 24 = some (.ireturn) := by decide +kernel
set_option maxRecDepth 100000 in
theorem f_186_25 : xft 186 25 = some (.iconst 0) := by decide +kernel
set_option maxRecDepth 100000 in
theorem f_186_26 : xft 186 26 = some (.ireturn) := by decide +kernel
set_option maxRecDepth 100000 in
theorem f_187_0 : xft 187 0 = some (.aload 4) := by decide +kernel
set_option maxRecDepth 100000 in
theorem f_187_2 : xft 187 2 = some (.iconst 0) := by decide +kernel
set_option maxRecDepth 100000 in
theorem f_187_3 : xft 187 3 = some (.aload_n 0) := by decide +kernel
set_option maxRecDepth 100000 in
theorem f_187_4 : xft 187 4 = some (.iload_n 1) := by decide +kernel
set_option maxRecDepth 100000 in
theorem f_187_5 : xft 187 5 = some (.iload_n 2) := by decide +kernel
set_option maxRecDepth 100000 in
theorem f_187_6 : xft 187 6 = some (.iload_n 3) := by decide +kernel
set_option maxRecDepth 100000 in
theorem f_187_7 : xft 187 7 = some (.invokevirtual 104) := by decide +kernel
set_option maxRecDepth 100000 in
theorem f_187_10 : xft 187 10 = some (.i2l) := by decide +kernel
set_option maxRecDepth 100000 in
theorem f_187_11 : xft 187 11 = some (.lastore) := by decide +kernel
set_option maxRecDepth 100000 in
theorem f_187_12 : xft 187 12 = some (.goto 11) := by decide +kernel
set_option maxRecDepth 100000 in
theorem f_187_15 : xft 187 15 = some (.astore 5) := by decide +kernel
set_option maxRecDepth 100000 in
theorem f_187_17 : xft 187 17 = some (.iconst 1) := by decide +kernel
set_option maxRecDepth 100000 in
theorem f_187_18 : xft 187 18 = some (.ireturn) := by decide +kernel
set_option maxRecDepth 100000 in
theorem f_187_19 : xft 187 19 = some (.astore 5) := by decide +kernel
set_option maxRecDepth 100000 in
theorem f_187_21 : xft 187 21 = some (.iconst 2) := by decide +kernel
set_option maxRecDepth 100000 in
theorem f_187_22 : xft 187 22 = some (.ireturn) := by decide +kernel
set_option maxRecDepth 100000 in
theorem f_187_23 : xft 187 23 = some (.iconst 0) := by decide +kernel
set_option maxRecDepth 100000 in
theorem f_187_24 : xft 187 24 = some (.ireturn) := by decide +kernel
set_option maxRecDepth 100000 in
theorem f_188_0 : xft 188 0 = some (.new 8) := by decide +kernel
set_option maxRecDepth 100000 in
theorem f_188_3 : xft 188 3 = some (.dup) := by decide +kernel
set_option maxRecDepth 100000 in
theorem f_188_4 : xft 188 4 = some (.invokespecial 107) := by decide +kernel
set_option maxRecDepth 100000 in
theorem f_188_7 : xft 188 7 = some (.astore_n 1) := by decide +kernel
set_option maxRecDepth 100000 in
theorem f_188_8 : xft 188 8 = some (.new 108) := by decide +kernel
set_option maxRecDepth 100000 in
theorem f_188_11 : xft 188 11 = some (.dup) := by decide +kernel
set_option maxRecDepth 100000 in
theorem f_188_12 : xft 188 12 = some (.invokespecial 110) := by decide +kernel
set_option maxRecDepth 100000 in
theorem f_188_15 : xft 188 15 = some (.astore_n 2) := by decide +kernel
set_option maxRecDepth 100000 in
theorem f_188_16 : xft 188 16 = some (.iconst 1) := by decide +kernel
set_option maxRecDepth 100000 in
theorem f_188_17 : xft 188 17 = some (.newarray .long) := by decide +kernel
set_option maxRecDepth 100000 in
theorem f_188_19 : xft 188 19 = some (.astore_n 3) := by decide +kernel
set_option maxRecDepth 100000 in
theorem f_188_20 : xft 188 20 = some (.iconst 0) := by decide +kernel
/-! blocks, by program (gen2.py) -/
section BLK
variable {sc : xS} {d : Nat} {T : Nat → Nat × Nat} {z : Nat × Nat} {V : Nat → Nat → Int} {J : Nat → Nat → Int64} {R : Nat → Nat → Option Nat}

end BLK
