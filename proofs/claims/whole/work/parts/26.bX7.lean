/-! instructions, by program (gen2.py) -/
set_option maxRecDepth 100000 in
theorem f_120_276 : xft 120 276 = some (.iload_n 3) := by decide +kernel
set_option maxRecDepth 100000 in
theorem f_120_277 : xft 120 277 = some (.iaload) := by decide +kernel
set_option maxRecDepth 100000 in
theorem f_120_278 : xft 120 278 = some (.if_icmp .ne 8) := by decide +kernel
set_option maxRecDepth 100000 in
theorem f_120_281 : xft 120 281 = some (.iload 5) := by decide +kernel
set_option maxRecDepth 100000 in
theorem f_120_283 : xft 120 283 = some (.goto 5) := by decide +kernel
set_option maxRecDepth 100000 in
theorem f_120_286 : xft 120 286 = some (.iload 4) := by decide +kernel
set_option maxRecDepth 100000 in
theorem f_120_288 : xft 120 288 = some (.istore 4) := by decide +kernel
set_option maxRecDepth 100000 in
theorem f_120_290 : xft 120 290 = some (.iinc 5 (-1)) := by decide +kernel
set_option maxRecDepth 100000 in
theorem f_120_293 : xft 120 293 = some (.goto (-57)) := by decide +kernel
set_option maxRecDepth 100000 in
theorem f_120_296 : xft 120 296 = some (.iload 4) := by decide +kernel
set_option maxRecDepth 100000 in
theorem f_120_298 : xft 120 298 = some (.istore_n 3) := by decide +kernel
set_option maxRecDepth 100000 in
theorem f_120_299 : xft 120 299 = some (.goto (-117)) := by decide +kernel
set_option maxRecDepth 100000 in
theorem f_120_302 : xft 120 302 = some (.iconst 0) := by decide +kernel
set_option maxRecDepth 100000 in
theorem f_120_303 : xft 120 303 = some (.ireturn) := by decide +kernel
set_option maxRecDepth 100000 in
theorem f_121_0 : xft 121 0 = some (.iconst 0) := by decide +kernel
set_option maxRecDepth 100000 in
theorem f_121_1 : xft 121 1 = some (.istore_n 2) := by decide +kernel
set_option maxRecDepth 100000 in
theorem f_121_2 : xft 121 2 = some (.iconst 0) := by decide +kernel
set_option maxRecDepth 100000 in
theorem f_121_3 : xft 121 3 = some (.istore_n 3) := by decide +kernel
set_option maxRecDepth 100000 in
theorem f_121_4 : xft 121 4 = some (.iload_n 3) := by decide +kernel
set_option maxRecDepth 100000 in
theorem f_121_5 : xft 121 5 = some (.aload_n 0) := by decide +kernel
set_option maxRecDepth 100000 in
theorem f_121_6 : xft 121 6 = some (.getfield 95) := by decide +kernel
set_option maxRecDepth 100000 in
theorem f_121_9 : xft 121 9 = some (.if_icmp .ge 26) := by decide +kernel
set_option maxRecDepth 100000 in
theorem f_121_12 : xft 121 12 = some (.iload_n 2) := by decide +kernel
set_option maxRecDepth 100000 in
theorem f_121_13 : xft 121 13 = some (.aload_n 0) := by decide +kernel
set_option maxRecDepth 100000 in
theorem f_121_14 : xft 121 14 = some (.iload_n 3) := by decide +kernel
set_option maxRecDepth 100000 in
theorem f_121_15 : xft 121 15 = some (.iload_n 1) := by decide +kernel
set_option maxRecDepth 100000 in
theorem f_121_16 : xft 121 16 = some (.invokevirtual 159) := by decide +kernel
set_option maxRecDepth 100000 in
theorem f_121_19 : xft 121 19 = some (.ifCond .eq 7) := by decide +kernel
set_option maxRecDepth 100000 in
theorem f_121_22 : xft 121 22 = some (.iconst 1) := by decide +kernel
set_option maxRecDepth 100000 in
theorem f_121_23 : xft 121 23 = some (.goto 4) := by decide +kernel
set_option maxRecDepth 100000 in
theorem f_121_26 : xft 121 26 = some (.iconst 0) := by decide +kernel
set_option maxRecDepth 100000 in
theorem f_121_27 : xft 121 27 = some (.iadd) := by decide +kernel
set_option maxRecDepth 100000 in
theorem f_121_28 : xft 121 28 = some (.istore_n 2) := by decide +kernel
set_option maxRecDepth 100000 in
theorem f_121_29 : xft 121 29 = some (.iinc 3 1) := by decide +kernel
set_option maxRecDepth 100000 in
theorem f_121_32 : xft 121 32 = some (.goto (-28)) := by decide +kernel
set_option maxRecDepth 100000 in
theorem f_121_35 : xft 121 35 = some (.iload_n 2) := by decide +kernel
set_option maxRecDepth 100000 in
theorem f_121_36 : xft 121 36 = some (.ireturn) := by decide +kernel
set_option maxRecDepth 100000 in
theorem f_122_0 : xft 122 0 = some (.aload_n 0) := by decide +kernel
set_option maxRecDepth 100000 in
theorem f_122_1 : xft 122 1 = some (.iload_n 1) := by decide +kernel
set_option maxRecDepth 100000 in
theorem f_122_2 : xft 122 2 = some (.aload_n 0) := by decide +kernel
set_option maxRecDepth 100000 in
theorem f_122_3 : xft 122 3 = some (.getfield 57) := by decide +kernel
set_option maxRecDepth 100000 in
theorem f_122_6 : xft 122 6 = some (.iload_n 2) := by decide +kernel
set_option maxRecDepth 100000 in
theorem f_122_7 : xft 122 7 = some (.iaload) := by decide +kernel
set_option maxRecDepth 100000 in
theorem f_122_8 : xft 122 8 = some (.aload_n 0) := by decide +kernel
set_option maxRecDepth 100000 in
theorem f_122_9 : xft 122 9 = some (.getfield 57) := by decide +kernel
set_option maxRecDepth 100000 in
theorem f_122_12 : xft 122 12 = some (.iload_n 2) := by decide +kernel
set_option maxRecDepth 100000 in
theorem f_122_13 : xft 122 13 = some (.iconst 1) := by decide +kernel
set_option maxRecDepth 100000 in
theorem f_122_14 : xft 122 14 = some (.iadd) := by decide +kernel
set_option maxRecDepth 100000 in
theorem f_122_15 : xft 122 15 = some (.iaload) := by decide +kernel
set_option maxRecDepth 100000 in
theorem f_122_16 : xft 122 16 = some (.invokevirtual 150) := by decide +kernel
set_option maxRecDepth 100000 in
theorem f_122_19 : xft 122 19 = some (.ifCond .eq 34) := by decide +kernel
set_option maxRecDepth 100000 in
theorem f_122_22 : xft 122 22 = some (.aload_n 0) := by decide +kernel
set_option maxRecDepth 100000 in
theorem f_122_23 : xft 122 23 = some (.getfield 51) := by decide +kernel
set_option maxRecDepth 100000 in
theorem f_122_26 : xft 122 26 = some (.iload_n 1) := by decide +kernel
set_option maxRecDepth 100000 in
theorem f_122_27 : xft 122 27 = some (.iaload) := by decide +kernel
set_option maxRecDepth 100000 in
theorem f_122_28 : xft 122 28 = some (.aload_n 0) := by decide +kernel
set_option maxRecDepth 100000 in
theorem f_122_29 : xft 122 29 = some (.aload_n 0) := by decide +kernel
set_option maxRecDepth 100000 in
theorem f_122_30 : xft 122 30 = some (.getfield 57) := by decide +kernel
set_option maxRecDepth 100000 in
theorem f_122_33 : xft 122 33 = some (.iload_n 2) := by decide +kernel
set_option maxRecDepth 100000 in
theorem f_122_34 : xft 122 34 = some (.iaload) := by decide +kernel
set_option maxRecDepth 100000 in
theorem f_122_35 : xft 122 35 = some (.aload_n 0) := by decide +kernel
set_option maxRecDepth 100000 in
theorem f_122_36 : xft 122 36 = some (.getfield 57) := by decide +kernel
set_option maxRecDepth 100000 in
theorem f_122_39 : xft 122 39 = some (.iload_n 2) := by decide +kernel
set_option maxRecDepth 100000 in
theorem f_122_40 : xft 122 40 = some (.iconst 1) := by decide +kernel
set_option maxRecDepth 100000 in
theorem f_122_41 : xft 122 41 = some (.iadd) := by decide +kernel
set_option maxRecDepth 100000 in
theorem f_122_42 : xft 122 42 = some (.iaload) := by decide +kernel
set_option maxRecDepth 100000 in
theorem f_122_43 : xft 122 43 = some (.invokevirtual 153) := by decide +kernel
set_option maxRecDepth 100000 in
theorem f_122_46 : xft 122 46 = some (.if_icmp .ne 7) := by decide +kernel
set_option maxRecDepth 100000 in
theorem f_122_49 : xft 122 49 = some (.iconst 1) := by decide +kernel
set_option maxRecDepth 100000 in
theorem f_122_50 : xft 122 50 = some (.goto 4) := by decide +kernel
set_option maxRecDepth 100000 in
theorem f_122_53 : xft 122 53 = some (.iconst 0) := by decide +kernel
set_option maxRecDepth 100000 in
theorem f_122_54 : xft 122 54 = some (.ireturn) := by decide +kernel
set_option maxRecDepth 100000 in
theorem f_123_0 : xft 123 0 = some (.iconst 0) := by decide +kernel
set_option maxRecDepth 100000 in
theorem f_123_1 : xft 123 1 = some (.istore_n 2) := by decide +kernel
set_option maxRecDepth 100000 in
theorem f_123_2 : xft 123 2 = some (.iload_n 2) := by decide +kernel
set_option maxRecDepth 100000 in
theorem f_123_3 : xft 123 3 = some (.aload_n 0) := by decide +kernel
set_option maxRecDepth 100000 in
theorem f_123_4 : xft 123 4 = some (.getfield 95) := by decide +kernel
set_option maxRecDepth 100000 in
theorem f_123_7 : xft 123 7 = some (.if_icmp .ge 74) := by decide +kernel
set_option maxRecDepth 100000 in
theorem f_123_10 : xft 123 10 = some (.aload_n 0) := by decide +kernel
set_option maxRecDepth 100000 in
theorem f_123_11 : xft 123 11 = some (.getfield 60) := by decide +kernel
set_option maxRecDepth 100000 in
theorem f_123_14 : xft 123 14 = some (.iload_n 2) := by decide +kernel
set_option maxRecDepth 100000 in
theorem f_123_15 : xft 123 15 = some (.iconst 0) := by decide +kernel
set_option maxRecDepth 100000 in
theorem f_123_16 : xft 123 16 = some (.iastore) := by decide +kernel
set_option maxRecDepth 100000 in
theorem f_123_17 : xft 123 17 = some (.iconst 0) := by decide +kernel
set_option maxRecDepth 100000 in
theorem f_123_18 : xft 123 18 = some (.istore_n 3) := by decide +kernel
set_option maxRecDepth 100000 in
theorem f_123_19 : xft 123 19 = some (.iload_n 3) := by decide +kernel
set_option maxRecDepth 100000 in
theorem f_123_20 : xft 123 20 = some (.iconst 1) := by decide +kernel
set_option maxRecDepth 100000 in
theorem f_123_21 : xft 123 21 = some (.iadd) := by decide +kernel
set_option maxRecDepth 100000 in
theorem f_123_22 : xft 123 22 = some (.aload_n 0) := by decide +kernel
set_option maxRecDepth 100000 in
theorem f_123_23 : xft 123 23 = some (.getfield 156) := by decide +kernel
set_option maxRecDepth 100000 in
theorem f_123_26 : xft 123 26 = some (.if_icmp .ge 49) := by decide +kernel
set_option maxRecDepth 100000 in
theorem f_123_29 : xft 123 29 = some (.aload_n 0) := by decide +kernel
set_option maxRecDepth 100000 in
theorem f_123_30 : xft 123 30 = some (.iload_n 3) := by decide +kernel
set_option maxRecDepth 100000 in
theorem f_123_31 : xft 123 31 = some (.invokevirtual 162) := by decide +kernel
set_option maxRecDepth 100000 in
theorem f_123_34 : xft 123 34 = some (.istore 4) := by decide +kernel
set_option maxRecDepth 100000 in
theorem f_123_36 : xft 123 36 = some (.aload_n 0) := by decide +kernel
set_option maxRecDepth 100000 in
theorem f_123_37 : xft 123 37 = some (.getfield 60) := by decide +kernel
set_option maxRecDepth 100000 in
theorem f_123_40 : xft 123 40 = some (.iload_n 2) := by decide +kernel
set_option maxRecDepth 100000 in
theorem f_123_41 : xft 123 41 = some (.aload_n 0) := by decide +kernel
set_option maxRecDepth 100000 in
theorem f_123_42 : xft 123 42 = some (.iload_n 2) := by decide +kernel
set_option maxRecDepth 100000 in
theorem f_123_43 : xft 123 43 = some (.iload_n 3) := by decide +kernel
set_option maxRecDepth 100000 in
theorem f_123_44 : xft 123 44 = some (.invokevirtual 159) := by decide +kernel
set_option maxRecDepth 100000 in
theorem f_123_47 : xft 123 47 = some (.ifCond .eq 15) := by decide +kernel
set_option maxRecDepth 100000 in
theorem f_123_50 : xft 123 50 = some (.iload_n 1) := by decide +kernel
set_option maxRecDepth 100000 in
theorem f_123_51 : xft 123 51 = some (.iload 4) := by decide +kernel
set_option maxRecDepth 100000 in
theorem f_123_53 : xft 123 53 = some (.iadd) := by decide +kernel
set_option maxRecDepth 100000 in
theorem f_123_54 : xft 123 54 = some (.iconst 1) := by decide +kernel
set_option maxRecDepth 100000 in
theorem f_123_55 : xft 123 55 = some (.isub) := by decide +kernel
set_option maxRecDepth 100000 in
theorem f_123_56 : xft 123 56 = some (.iload 4) := by decide +kernel
set_option maxRecDepth 100000 in
theorem f_123_58 : xft 123 58 = some (.idiv) := by decide +kernel
set_option maxRecDepth 100000 in
theorem f_123_59 : xft 123 59 = some (.goto 9) := by decide +kernel
set_option maxRecDepth 100000 in
theorem f_123_62 : xft 123 62 = some (.aload_n 0) := by decide +kernel
set_option maxRecDepth 100000 in
theorem f_123_63 : xft 123 63 = some (.getfield 60) := by decide +kernel
set_option maxRecDepth 100000 in
theorem f_123_66 : xft 123 66 = some (.iload_n 2) := by decide +kernel
set_option maxRecDepth 100000 in
theorem f_123_67 : xft 123 67 = some (.iaload) := by decide +kernel
set_option maxRecDepth 100000 in
theorem f_123_68 : xft 123 68 = some (.iastore) := by decide +kernel
set_option maxRecDepth 100000 in
theorem f_123_69 : xft 123 69 = some (.iinc 3 1) := by decide +kernel
set_option maxRecDepth 100000 in
theorem f_123_72 : xft 123 72 = some (.goto (-53)) := by decide +kernel
set_option maxRecDepth 100000 in
theorem f_123_75 : xft 123 75 = some (.iinc 2 1) := by decide +kernel
set_option maxRecDepth 100000 in
theorem f_123_78 : xft 123 78 = some (.goto (-76)) := by decide +kernel
set_option maxRecDepth 100000 in
theorem f_123_81 : xft 123 81 = some (.return_) := by decide +kernel
set_option maxRecDepth 100000 in
theorem f_124_0 : xft 124 0 = some (.aload_n 0) := by decide +kernel
set_option maxRecDepth 100000 in
theorem f_124_1 : xft 124 1 = some (.iload_n 1) := by decide +kernel
set_option maxRecDepth 100000 in
theorem f_124_2 : xft 124 2 = some (.invokevirtual 123) := by decide +kernel
set_option maxRecDepth 100000 in
theorem f_124_5 : xft 124 5 = some (.ifCond .eq 21) := by decide +kernel
set_option maxRecDepth 100000 in
theorem f_124_8 : xft 124 8 = some (.iload_n 2) := by decide +kernel
set_option maxRecDepth 100000 in
theorem f_124_9 : xft 124 9 = some (.invokestatic 138) := by decide +kernel
set_option maxRecDepth 100000 in
theorem f_124_12 : xft 124 12 = some (.ifCond .eq 14) := by decide +kernel
set_option maxRecDepth 100000 in
theorem f_124_15 : xft 124 15 = some (.iload_n 3) := by decide +kernel
set_option maxRecDepth 100000 in
theorem f_124_16 : xft 124 16 = some (.invokestatic 138) := by decide +kernel
set_option maxRecDepth 100000 in
theorem f_124_19 : xft 124 19 = some (.ifCond .eq 7) := by decide +kernel
set_option maxRecDepth 100000 in
theorem f_124_22 : xft 124 22 = some (.iconst 1) := by decide +kernel
set_option maxRecDepth 100000 in
theorem f_124_23 : xft 124 23 = some (.goto 4) := by decide +kernel
set_option maxRecDepth 100000 in
theorem f_124_26 : xft 124 26 = some (.iconst 0) := by decide +kernel
set_option maxRecDepth 100000 in
theorem f_124_27 : xft 124 27 = some (.istore 5) := by decide +kernel
set_option maxRecDepth 100000 in
theorem f_124_29 : xft 124 29 = some (.aload_n 0) := by decide +kernel
set_option maxRecDepth 100000 in
theorem f_124_30 : xft 124 30 = some (.iload 5) := by decide +kernel
set_option maxRecDepth 100000 in
theorem f_124_32 : xft 124 32 = some (.ifCond .ne 7) := by decide +kernel
set_option maxRecDepth 100000 in
theorem f_124_35 : xft 124 35 = some (.iconst 1) := by decide +kernel
set_option maxRecDepth 100000 in
theorem f_124_36 : xft 124 36 = some (.goto 25) := by decide +kernel
set_option maxRecDepth 100000 in
theorem f_124_39 : xft 124 39 = some (.iload_n 2) := by decide +kernel
set_option maxRecDepth 100000 in
theorem f_124_40 : xft 124 40 = some (.iload_n 3) := by decide +kernel
set_option maxRecDepth 100000 in
theorem f_124_41 : xft 124 41 = some (.if_icmp .eq 15) := by decide +kernel
set_option maxRecDepth 100000 in
theorem f_124_44 : xft 124 44 = some (.iload 4) := by decide +kernel
set_option maxRecDepth 100000 in
theorem f_124_46 : xft 124 46 = some (.iconst 1) := by decide +kernel
set_option maxRecDepth 100000 in
theorem f_124_47 : xft 124 47 = some (.sipush 9999) := by decide +kernel
set_option maxRecDepth 100000 in
theorem f_124_50 : xft 124 50 = some (.invokestatic 91) := by decide +kernel
set_option maxRecDepth 100000 in
theorem f_124_53 : xft 124 53 = some (.ifCond .ne 7) := by decide +kernel
set_option maxRecDepth 100000 in
theorem f_124_56 : xft 124 56 = some (.iconst 2) := by decide +kernel
set_option maxRecDepth 100000 in
theorem f_124_57 : xft 124 57 = some (.goto 4) := by decide +kernel
set_option maxRecDepth 100000 in
theorem f_124_60 : xft 124 60 = some (.iconst 0) := by decide +kernel
set_option maxRecDepth 100000 in
theorem f_124_61 : xft 124 61 = some (.invokevirtual 98) := by decide +kernel
set_option maxRecDepth 100000 in
theorem f_124_64 : xft 124 64 = some (.ifCond .eq 5) := by decide +kernel
set_option maxRecDepth 100000 in
theorem f_124_67 : xft 124 67 = some (.iconst 0) := by decide +kernel
set_option maxRecDepth 100000 in
theorem f_124_68 : xft 124 68 = some (.ireturn) := by decide +kernel
set_option maxRecDepth 100000 in
theorem f_124_69 : xft 124 69 = some (.aload_n 0) := by decide +kernel
set_option maxRecDepth 100000 in
theorem f_124_70 : xft 124 70 = some (.iload_n 2) := by decide +kernel
set_option maxRecDepth 100000 in
theorem f_124_71 : xft 124 71 = some (.iload_n 3) := by decide +kernel
set_option maxRecDepth 100000 in
theorem f_124_72 : xft 124 72 = some (.invokevirtual 165) := by decide +kernel
set_option maxRecDepth 100000 in
theorem f_124_75 : xft 124 75 = some (.ifCond .ne 5) := by decide +kernel
set_option maxRecDepth 100000 in
theorem f_124_78 : xft 124 78 = some (.iconst 0) := by decide +kernel
set_option maxRecDepth 100000 in
theorem f_124_79 : xft 124 79 = some (.ireturn) := by decide +kernel
set_option maxRecDepth 100000 in
theorem f_124_80 : xft 124 80 = some (.aload_n 0) := by decide +kernel
set_option maxRecDepth 100000 in
theorem f_124_81 : xft 124 81 = some (.iload 4) := by decide +kernel
set_option maxRecDepth 100000 in
theorem f_124_83 : xft 124 83 = some (.invokevirtual 168) := by decide +kernel
set_option maxRecDepth 100000 in
theorem f_124_86 : xft 124 86 = some (.aload_n 0) := by decide +kernel
set_option maxRecDepth 100000 in
theorem f_124_87 : xft 124 87 = some (.getfield 60) := by decide +kernel
set_option maxRecDepth 100000 in
theorem f_124_90 : xft 124 90 = some (.iload_n 1) := by decide +kernel
set_option maxRecDepth 100000 in
theorem f_124_91 : xft 124 91 = some (.iaload) := by decide +kernel
set_option maxRecDepth 100000 in
theorem f_124_92 : xft 124 92 = some (.ireturn) := by decide +kernel
set_option maxRecDepth 100000 in
theorem f_125_0 : xft 125 0 = some (.iload_n 1) := by decide +kernel
set_option maxRecDepth 100000 in
theorem f_125_1 : xft 125 1 = some (.invokestatic 138) := by decide +kernel
set_option maxRecDepth 100000 in
theorem f_125_4 : xft 125 4 = some (.ifCond .eq 18) := by decide +kernel
set_option maxRecDepth 100000 in
theorem f_125_7 : xft 125 7 = some (.iload_n 2) := by decide +kernel
set_option maxRecDepth 100000 in
theorem f_125_8 : xft 125 8 = some (.invokestatic 138) := by decide +kernel
set_option maxRecDepth 100000 in
theorem f_125_11 : xft 125 11 = some (.ifCond .eq 11) := by decide +kernel
set_option maxRecDepth 100000 in
theorem f_125_14 : xft 125 14 = some (.iload_n 3) := by decide +kernel
set_option maxRecDepth 100000 in
theorem f_125_15 : xft 125 15 = some (.ifCond .lt 7) := by decide +kernel
set_option maxRecDepth 100000 in
theorem f_125_18 : xft 125 18 = some (.iconst 1) := by decide +kernel
set_option maxRecDepth 100000 in
theorem f_125_19 : xft 125 19 = some (.goto 4) := by decide +kernel
set_option maxRecDepth 100000 in
theorem f_125_22 : xft 125 22 = some (.iconst 0) := by decide +kernel
set_option maxRecDepth 100000 in
theorem f_125_23 : xft 125 23 = some (.istore 4) := by decide +kernel
set_option maxRecDepth 100000 in
theorem f_125_25 : xft 125 25 = some (.aload_n 0) := by decide +kernel
set_option maxRecDepth 100000 in
theorem f_125_26 : xft 125 26 = some (.iload 4) := by decide +kernel
set_option maxRecDepth 100000 in
theorem f_125_28 : xft 125 28 = some (.ifCond .ne 7) := by decide +kernel
set_option maxRecDepth 100000 in
theorem f_125_31 : xft 125 31 = some (.iconst 1) := by decide +kernel
set_option maxRecDepth 100000 in
theorem f_125_32 : xft 125 32 = some (.goto 13) := by decide +kernel
set_option maxRecDepth 100000 in
theorem f_125_35 : xft 125 35 = some (.iload_n 1) := by decide +kernel
set_option maxRecDepth 100000 in
theorem f_125_36 : xft 125 36 = some (.iload_n 2) := by decide +kernel
set_option maxRecDepth 100000 in
theorem f_125_37 : xft 125 37 = some (.if_icmp .ne 7) := by decide +kernel
set_option maxRecDepth 100000 in
theorem f_125_40 : xft 125 40 = some (.iconst 2) := by decide +kernel
set_option maxRecDepth 100000 in
theorem f_125_41 : xft 125 41 = some (.goto 4) := by decide +kernel
set_option maxRecDepth 100000 in
theorem f_125_44 : xft 125 44 = some (.iconst 0) := by decide +kernel
set_option maxRecDepth 100000 in
theorem f_125_45 : xft 125 45 = some (.invokevirtual 98) := by decide +kernel
set_option maxRecDepth 100000 in
theorem f_125_48 : xft 125 48 = some (.ifCond .eq 5) := by decide +kernel
set_option maxRecDepth 100000 in
theorem f_125_51 : xft 125 51 = some (.iconst 0) := by decide +kernel
set_option maxRecDepth 100000 in
theorem f_125_52 : xft 125 52 = some (.ireturn) := by decide +kernel
set_option maxRecDepth 100000 in
theorem f_125_53 : xft 125 53 = some (.aload_n 0) := by decide +kernel
set_option maxRecDepth 100000 in
theorem f_125_54 : xft 125 54 = some (.iload_n 1) := by decide +kernel
set_option maxRecDepth 100000 in
theorem f_125_55 : xft 125 55 = some (.iload_n 2) := by decide +kernel
set_option maxRecDepth 100000 in
theorem f_125_56 : xft 125 56 = some (.invokevirtual 165) := by decide +kernel
set_option maxRecDepth 100000 in
theorem f_125_59 : xft 125 59 = some (.ifCond .eq 20) := by decide +kernel
set_option maxRecDepth 100000 in
theorem f_125_62 : xft 125 62 = some (.iload_n 3) := by decide +kernel
set_option maxRecDepth 100000 in
theorem f_125_63 : xft 125 63 = some (.aload_n 0) := by decide +kernel
set_option maxRecDepth 100000 in
theorem f_125_64 : xft 125 64 = some (.getfield 156) := by decide +kernel
set_option maxRecDepth 100000 in
theorem f_125_67 : xft 125 67 = some (.if_icmp .ge 12) := by decide +kernel
set_option maxRecDepth 100000 in
theorem f_125_70 : xft 125 70 = some (.aload_n 0) := by decide +kernel
set_option maxRecDepth 100000 in
theorem f_125_71 : xft 125 71 = some (.getfield 57) := by decide +kernel
set_option maxRecDepth 100000 in
theorem f_125_74 : xft 125 74 = some (.iload_n 3) := by decide +kernel
set_option maxRecDepth 100000 in
theorem f_125_75 : xft 125 75 = some (.iaload) := by decide +kernel
set_option maxRecDepth 100000 in
theorem f_125_76 : xft 125 76 = some (.goto 4) := by decide +kernel
set_option maxRecDepth 100000 in
theorem f_125_79 : xft 125 79 = some (.iconst (-1)) := by decide +kernel
set_option maxRecDepth 100000 in
theorem f_125_80 : xft 125 80 = some (.ireturn) := by decide +kernel
set_option maxRecDepth 100000 in
theorem f_126_0 : xft 126 0 = some (.iconst (-1)) := by decide +kernel
set_option maxRecDepth 100000 in
theorem f_126_1 : xft 126 1 = some (.istore_n 1) := by decide +kernel
set_option maxRecDepth 100000 in
theorem f_126_2 : xft 126 2 = some (.aload_n 0) := by decide +kernel
set_option maxRecDepth 100000 in
theorem f_126_3 : xft 126 3 = some (.getfield 95) := by decide +kernel
set_option maxRecDepth 100000 in
theorem f_126_6 : xft 126 6 = some (.iconst 1) := by decide +kernel
set_option maxRecDepth 100000 in
theorem f_126_7 : xft 126 7 = some (.isub) := by decide +kernel
set_option maxRecDepth 100000 in
theorem f_126_8 : xft 126 8 = some (.istore_n 2) := by decide +kernel
set_option maxRecDepth 100000 in
theorem f_126_9 : xft 126 9 = some (.iload_n 2) := by decide +kernel
set_option maxRecDepth 100000 in
theorem f_126_10 : xft 126 10 = some (.ifCond .lt 29) := by decide +kernel
set_option maxRecDepth 100000 in
theorem f_126_13 : xft 126 13 = some (.aload_n 0) := by decide +kernel
set_option maxRecDepth 100000 in
theorem f_126_14 : xft 126 14 = some (.getfield 60) := by decide +kernel
set_option maxRecDepth 100000 in
theorem f_126_17 : xft 126 17 = some (.iload_n 2) := by decide +kernel
set_option maxRecDepth 100000 in
theorem f_126_18 : xft 126 18 = some (.iaload) := by decide +kernel
set_option maxRecDepth 100000 in
theorem f_126_19 : xft 126 19 = some (.aload_n 0) := by decide +kernel
set_option maxRecDepth 100000 in
theorem f_126_20 : xft 126 20 = some (.iload_n 2) := by decide +kernel
set_option maxRecDepth 100000 in
theorem f_126_21 : xft 126 21 = some (.invokevirtual 135) := by decide +kernel
set_option maxRecDepth 100000 in
theorem f_126_24 : xft 126 24 = some (.if_icmp .le 7) := by decide +kernel
set_option maxRecDepth 100000 in
theorem f_126_27 : xft 126 27 = some (.iload_n 2) := by decide +kernel
set_option maxRecDepth 100000 in
theorem f_126_28 : xft 126 28 = some (.goto 4) := by decide +kernel
set_option maxRecDepth 100000 in
theorem f_126_31 : xft 126 31 = some (.iload_n 1) := by decide +kernel
set_option maxRecDepth 100000 in
theorem f_126_32 : xft 126 32 = some (.istore_n 1) := by decide +kernel
set_option maxRecDepth 100000 in
theorem f_126_33 : xft 126 33 = some (.iinc 2 (-1)) := by decide +kernel
set_option maxRecDepth 100000 in
theorem f_126_36 : xft 126 36 = some (.goto (-27)) := by decide +kernel
set_option maxRecDepth 100000 in
theorem f_126_39 : xft 126 39 = some (.iload_n 1) := by decide +kernel
set_option maxRecDepth 100000 in
theorem f_126_40 : xft 126 40 = some (.ireturn) := by decide +kernel
set_option maxRecDepth 100000 in
theorem f_127_0 : xft 127 0 = some (.iload_n 1) := by decide +kernel
set_option maxRecDepth 100000 in
theorem f_127_1 : xft 127 1 = some (.invokestatic 138) := by decide +kernel
set_option maxRecDepth 100000 in
theorem f_127_4 : xft 127 4 = some (.ifCond .eq 14) := by decide +kernel
set_option maxRecDepth 100000 in
theorem f_127_7 : xft 127 7 = some (.iload_n 2) := by decide +kernel
set_option maxRecDepth 100000 in
theorem f_127_8 : xft 127 8 = some (.invokestatic 138) := by decide +kernel
set_option maxRecDepth 100000 in
theorem f_127_11 : xft 127 11 = some (.ifCond .eq 7) := by decide +kernel
set_option maxRecDepth 100000 in
theorem f_127_14 : xft 127 14 = some (.iconst 1) := by decide +kernel
set_option maxRecDepth 100000 in
theorem f_127_15 : xft 127 15 = some (.goto 4) := by decide +kernel
set_option maxRecDepth 100000 in
theorem f_127_18 : xft 127 18 = some (.iconst 0) := by decide +kernel
set_option maxRecDepth 100000 in
theorem f_127_19 : xft 127 19 = some (.istore 4) := by decide +kernel
set_option maxRecDepth 100000 in
theorem f_127_21 : xft 127 21 = some (.iload_n 1) := by decide +kernel
set_option maxRecDepth 100000 in
theorem f_127_22 : xft 127 22 = some (.iload_n 2) := by decide +kernel
set_option maxRecDepth 100000 in
theorem f_127_23 : xft 127 23 = some (.if_icmp .eq 18) := by decide +kernel
set_option maxRecDepth 100000 in
theorem f_127_26 : xft 127 26 = some (.iload_n 3) := by decide +kernel
set_option maxRecDepth 100000 in
theorem f_127_27 : xft 127 27 = some (.iconst 1) := by decide +kernel
set_option maxRecDepth 100000 in
theorem f_127_28 : xft 127 28 = some (.sipush 9999) := by decide +kernel
set_option maxRecDepth 100000 in
theorem f_127_31 : xft 127 31 = some (.invokestatic 91) := by decide +kernel
set_option maxRecDepth 100000 in
theorem f_127_34 : xft 127 34 = some (.ifCond .eq 7) := by decide +kernel
set_option maxRecDepth 100000 in
theorem f_127_37 : xft 127 37 = some (.iconst 1) := by decide +kernel
set_option maxRecDepth 100000 in
theorem f_127_38 : xft 127 38 = some (.goto 4) := by decide +kernel
set_option maxRecDepth 100000 in
theorem f_127_41 : xft 127 41 = some (.iconst 0) := by decide +kernel
set_option maxRecDepth 100000 in
theorem f_127_42 : xft 127 42 = some (.istore 5) := by decide +kernel
set_option maxRecDepth 100000 in
theorem f_127_44 : xft 127 44 = some (.aload_n 0) := by decide +kernel
set_option maxRecDepth 100000 in
theorem f_127_45 : xft 127 45 = some (.iload 4) := by decide +kernel
set_option maxRecDepth 100000 in
theorem f_127_47 : xft 127 47 = some (.ifCond .ne 7) := by decide +kernel
set_option maxRecDepth 100000 in
theorem f_127_50 : xft 127 50 = some (.iconst 1) := by decide +kernel
set_option maxRecDepth 100000 in
theorem f_127_51 : xft 127 51 = some (.goto 26) := by decide +kernel
set_option maxRecDepth 100000 in
theorem f_127_54 : xft 127 54 = some (.iload 5) := by decide +kernel
set_option maxRecDepth 100000 in
theorem f_127_56 : xft 127 56 = some (.ifCond .ne 7) := by decide +kernel
set_option maxRecDepth 100000 in
theorem f_127_59 : xft 127 59 = some (.iconst 2) := by decide +kernel
set_option maxRecDepth 100000 in
theorem f_127_60 : xft 127 60 = some (.goto 17) := by decide +kernel
set_option maxRecDepth 100000 in
theorem f_127_63 : xft 127 63 = some (.aload_n 0) := by decide +kernel
set_option maxRecDepth 100000 in
theorem f_127_64 : xft 127 64 = some (.iload_n 1) := by decide +kernel
set_option maxRecDepth 100000 in
theorem f_127_65 : xft 127 65 = some (.iload_n 2) := by decide +kernel
set_option maxRecDepth 100000 in
theorem f_127_66 : xft 127 66 = some (.invokevirtual 165) := by decide +kernel
set_option maxRecDepth 100000 in
theorem f_127_69 : xft 127 69 = some (.ifCond .eq 7) := by decide +kernel
set_option maxRecDepth 100000 in
theorem f_127_72 : xft 127 72 = some (.iconst 0) := by decide +kernel
set_option maxRecDepth 100000 in
theorem f_127_73 : xft 127 73 = some (.goto 4) := by decide +kernel
set_option maxRecDepth 100000 in
theorem f_127_76 : xft 127 76 = some (.iconst 3) := by decide +kernel
set_option maxRecDepth 100000 in
theorem f_127_77 : xft 127 77 = some (.invokevirtual 98) := by decide +kernel
set_option maxRecDepth 100000 in
theorem f_127_80 : xft 127 80 = some (.ifCond .eq 5) := by decide +kernel
set_option maxRecDepth 100000 in
theorem f_127_83 : xft 127 83 = some (.iconst 0) := by decide +kernel
set_option maxRecDepth 100000 in
theorem f_127_84 : xft 127 84 = some (.ireturn) := by decide +kernel
set_option maxRecDepth 100000 in
theorem f_127_85 : xft 127 85 = some (.iconst 0) := by decide +kernel
set_option maxRecDepth 100000 in
theorem f_127_86 : xft 127 86 = some (.istore 6) := by decide +kernel
set_option maxRecDepth 100000 in
theorem f_127_88 : xft 127 88 = some (.aload_n 0) := by decide +kernel
set_option maxRecDepth 100000 in
theorem f_127_89 : xft 127 89 = some (.iload_n 3) := by decide +kernel
set_option maxRecDepth 100000 in
theorem f_127_90 : xft 127 90 = some (.invokevirtual 168) := by decide +kernel
set_option maxRecDepth 100000 in
theorem f_127_93 : xft 127 93 = some (.aload_n 0) := by decide +kernel
set_option maxRecDepth 100000 in
theorem f_127_94 : xft 127 94 = some (.invokevirtual 171) := by decide +kernel
set_option maxRecDepth 100000 in
theorem f_127_97 : xft 127 97 = some (.istore 7) := by decide +kernel
set_option maxRecDepth 100000 in
theorem f_127_99 : xft 127 99 = some (.iconst 1) := by decide +kernel
set_option maxRecDepth 100000 in
theorem f_127_100 : xft 127 100 = some (.istore 8) := by decide +kernel
set_option maxRecDepth 100000 in
theorem f_127_102 : xft 127 102 = some (.iload 8) := by decide +kernel
set_option maxRecDepth 100000 in
theorem f_127_104 : xft 127 104 = some (.ifCond .eq 53) := by decide +kernel
set_option maxRecDepth 100000 in
theorem f_127_107 : xft 127 107 = some (.iload 7) := by decide +kernel
set_option maxRecDepth 100000 in
theorem f_127_109 : xft 127 109 = some (.iconst (-1)) := by decide +kernel
set_option maxRecDepth 100000 in
theorem f_127_110 : xft 127 110 = some (.if_icmp .eq 47) := by decide +kernel
set_option maxRecDepth 100000 in
theorem f_127_113 : xft 127 113 = some (.aload_n 0) := by decide +kernel
set_option maxRecDepth 100000 in
theorem f_127_114 : xft 127 114 = some (.getfield 42) := by decide +kernel
set_option maxRecDepth 100000 in
theorem f_127_117 : xft 127 117 = some (.iload 7) := by decide +kernel
set_option maxRecDepth 100000 in
theorem f_127_119 : xft 127 119 = some (.iconst 1) := by decide +kernel
set_option maxRecDepth 100000 in
theorem f_127_120 : xft 127 120 = some (.bastore) := by decide +kernel
set_option maxRecDepth 100000 in
theorem f_127_121 : xft 127 121 = some (.aload_n 0) := by decide +kernel
set_option maxRecDepth 100000 in
theorem f_127_122 : xft 127 122 = some (.iload 7) := by decide +kernel
set_option maxRecDepth 100000 in
theorem f_127_124 : xft 127 124 = some (.invokevirtual 145) := by decide +kernel
set_option maxRecDepth 100000 in
theorem f_127_127 : xft 127 127 = some (.iinc 6 1) := by decide +kernel
set_option maxRecDepth 100000 in
theorem f_127_130 : xft 127 130 = some (.aload_n 0) := by decide +kernel
set_option maxRecDepth 100000 in
theorem f_127_131 : xft 127 131 = some (.iload_n 1) := by decide +kernel
set_option maxRecDepth 100000 in
theorem f_127_132 : xft 127 132 = some (.iload_n 2) := by decide +kernel
set_option maxRecDepth 100000 in
theorem f_127_133 : xft 127 133 = some (.invokevirtual 165) := by decide +kernel
set_option maxRecDepth 100000 in
theorem f_127_136 : xft 127 136 = some (.istore 8) := by decide +kernel
set_option maxRecDepth 100000 in
theorem f_127_138 : xft 127 138 = some (.iload 8) := by decide +kernel
set_option maxRecDepth 100000 in
theorem f_127_140 : xft 127 140 = some (.ifCond .eq (-38)) := by decide +kernel
set_option maxRecDepth 100000 in
theorem f_127_143 : xft 127 143 = some (.aload_n 0) := by decide +kernel
set_option maxRecDepth 100000 in
theorem f_127_144 : xft 127 144 = some (.iload_n 3) := by decide +kernel
set_option maxRecDepth 100000 in
theorem f_127_145 : xft 127 145 = some (.invokevirtual 168) := by decide +kernel
set_option maxRecDepth 100000 in
theorem f_127_148 : xft 127 148 = some (.aload_n 0) := by decide +kernel
set_option maxRecDepth 100000 in
theorem f_127_149 : xft 127 149 = some (.invokevirtual 171) := by decide +kernel
set_option maxRecDepth 100000 in
theorem f_127_152 : xft 127 152 = some (.istore 7) := by decide +kernel
set_option maxRecDepth 100000 in
theorem f_127_154 : xft 127 154 = some (.goto (-52)) := by decide +kernel
set_option maxRecDepth 100000 in
theorem f_127_157 : xft 127 157 = some (.iconst 0) := by decide +kernel
set_option maxRecDepth 100000 in
theorem f_127_158 : xft 127 158 = some (.istore 9) := by decide +kernel
set_option maxRecDepth 100000 in
theorem f_127_160 : xft 127 160 = some (.iload 9) := by decide +kernel
set_option maxRecDepth 100000 in
theorem f_127_162 : xft 127 162 = some (.aload_n 0) := by decide +kernel
set_option maxRecDepth 100000 in
theorem f_127_163 : xft 127 163 = some (.getfield 95) := by decide +kernel
set_option maxRecDepth 100000 in
theorem f_127_166 : xft 127 166 = some (.if_icmp .ge 34) := by decide +kernel
set_option maxRecDepth 100000 in
theorem f_127_169 : xft 127 169 = some (.iload 8) := by decide +kernel
set_option maxRecDepth 100000 in
theorem f_127_171 : xft 127 171 = some (.ifCond .eq 29) := by decide +kernel
set_option maxRecDepth 100000 in
theorem f_127_174 : xft 127 174 = some (.aload_n 0) := by decide +kernel
set_option maxRecDepth 100000 in
theorem f_127_175 : xft 127 175 = some (.getfield 36) := by decide +kernel
set_option maxRecDepth 100000 in
theorem f_127_178 : xft 127 178 = some (.iload 9) := by decide +kernel
set_option maxRecDepth 100000 in
theorem f_127_180 : xft 127 180 = some (.dup2) := by decide +kernel
set_option maxRecDepth 100000 in
theorem f_127_181 : xft 127 181 = some (.iaload) := by decide +kernel
set_option maxRecDepth 100000 in
theorem f_127_182 : xft 127 182 = some (.aload_n 0) := by decide +kernel
set_option maxRecDepth 100000 in
theorem f_127_183 : xft 127 183 = some (.getfield 60) := by decide +kernel
set_option maxRecDepth 100000 in
theorem f_127_186 : xft 127 186 = some (.iload 9) := by decide +kernel
set_option maxRecDepth 100000 in
theorem f_127_188 : xft 127 188 = some (.iaload) := by decide +kernel
set_option maxRecDepth 100000 in
theorem f_127_189 : xft 127 189 = some (.bipush 10) := by decide +kernel
set_option maxRecDepth 100000 in
theorem f_127_191 : xft 127 191 = some (.idiv) := by decide +kernel
set_option maxRecDepth 100000 in
theorem f_127_192 : xft 127 192 = some (.iadd) := by decide +kernel
set_option maxRecDepth 100000 in
theorem f_127_193 : xft 127 193 = some (.iastore) := by decide +kernel
set_option maxRecDepth 100000 in
theorem f_127_194 : xft 127 194 = some (.iinc 9 1) := by decide +kernel
set_option maxRecDepth 100000 in
theorem f_127_197 : xft 127 197 = some (.goto (-37)) := by decide +kernel
set_option maxRecDepth 100000 in
theorem f_127_200 : xft 127 200 = some (.iload 6) := by decide +kernel
set_option maxRecDepth 100000 in
theorem f_127_202 : xft 127 202 = some (.ireturn) := by decide +kernel
set_option maxRecDepth 100000 in
theorem f_128_0 : xft 128 0 = some (.iload_n 1) := by decide +kernel
set_option maxRecDepth 100000 in
theorem f_128_1 : xft 128 1 = some (.invokestatic 138) := by decide +kernel
set_option maxRecDepth 100000 in
theorem f_128_4 : xft 128 4 = some (.ifCond .eq 14) := by decide +kernel
set_option maxRecDepth 100000 in
theorem f_128_7 : xft 128 7 = some (.iload_n 2) := by decide +kernel
set_option maxRecDepth 100000 in
theorem f_128_8 : xft 128 8 = some (.invokestatic 138) := by decide +kernel
set_option maxRecDepth 100000 in
theorem f_128_11 : xft 128 11 = some (.ifCond .eq 7) := by decide +kernel
set_option maxRecDepth 100000 in
theorem f_128_14 : xft 128 14 = some (.iconst 1) := by decide +kernel
set_option maxRecDepth 100000 in
theorem f_128_15 : xft 128 15 = some (.goto 4) := by decide +kernel
set_option maxRecDepth 100000 in
theorem f_128_18 : xft 128 18 = some (.iconst 0) := by decide +kernel
set_option maxRecDepth 100000 in
theorem f_128_19 : xft 128 19 = some (.istore_n 3) := by decide +kernel
set_option maxRecDepth 100000 in
theorem f_128_20 : xft 128 20 = some (.aload_n 0) := by decide +kernel
set_option maxRecDepth 100000 in
theorem f_128_21 : xft 128 21 = some (.iload_n 3) := by decide +kernel
set_option maxRecDepth 100000 in
theorem f_128_22 : xft 128 22 = some (.ifCond .ne 7) := by decide +kernel
set_option maxRecDepth 100000 in
theorem f_128_25 : xft 128 25 = some (.iconst 1) := by decide +kernel
set_option maxRecDepth 100000 in
theorem f_128_26 : xft 128 26 = some (.goto 13) := by decide +kernel
set_option maxRecDepth 100000 in
theorem f_128_29 : xft 128 29 = some (.iload_n 1) := by decide +kernel
set_option maxRecDepth 100000 in
theorem f_128_30 : xft 128 30 = some (.iload_n 2) := by decide +kernel
set_option maxRecDepth 100000 in
theorem f_128_31 : xft 128 31 = some (.if_icmp .ne 7) := by decide +kernel
set_option maxRecDepth 100000 in
theorem f_128_34 : xft 128 34 = some (.iconst 2) := by decide +kernel
set_option maxRecDepth 100000 in
theorem f_128_35 : xft 128 35 = some (.goto 4) := by decide +kernel
set_option maxRecDepth 100000 in
theorem f_128_38 : xft 128 38 = some (.iconst 0) := by decide +kernel
set_option maxRecDepth 100000 in
theorem f_128_39 : xft 128 39 = some (.invokevirtual 98) := by decide +kernel
set_option maxRecDepth 100000 in
theorem f_128_42 : xft 128 42 = some (.ifCond .eq 5) := by decide +kernel
set_option maxRecDepth 100000 in
theorem f_128_45 : xft 128 45 = some (.iconst 0) := by decide +kernel
set_option maxRecDepth 100000 in
theorem f_128_46 : xft 128 46 = some (.ireturn) := by decide +kernel
set_option maxRecDepth 100000 in
theorem f_128_47 : xft 128 47 = some (.aload_n 0) := by decide +kernel
set_option maxRecDepth 100000 in
theorem f_128_48 : xft 128 48 = some (.iload_n 1) := by decide +kernel
set_option maxRecDepth 100000 in
theorem f_128_49 : xft 128 49 = some (.iload_n 2) := by decide +kernel
set_option maxRecDepth 100000 in
theorem f_128_50 : xft 128 50 = some (.invokevirtual 165) := by decide +kernel
set_option maxRecDepth 100000 in
theorem f_128_53 : xft 128 53 = some (.ifCond .ne 5) := by decide +kernel
set_option maxRecDepth 100000 in
theorem f_128_56 : xft 128 56 = some (.iconst (-1)) := by decide +kernel
set_option maxRecDepth 100000 in
theorem f_128_57 : xft 128 57 = some (.ireturn) := by decide +kernel
set_option maxRecDepth 100000 in
theorem f_128_58 : xft 128 58 = some (.sipush 9999) := by decide +kernel
set_option maxRecDepth 100000 in
theorem f_128_61 : xft 128 61 = some (.istore 4) := by decide +kernel
set_option maxRecDepth 100000 in
theorem f_128_63 : xft 128 63 = some (.iconst 0) := by decide +kernel
set_option maxRecDepth 100000 in
theorem f_128_64 : xft 128 64 = some (.istore 5) := by decide +kernel
set_option maxRecDepth 100000 in
theorem f_128_66 : xft 128 66 = some (.iload 5) := by decide +kernel
set_option maxRecDepth 100000 in
theorem f_128_68 : xft 128 68 = some (.iconst 1) := by decide +kernel
set_option maxRecDepth 100000 in
theorem f_128_69 : xft 128 69 = some (.iadd) := by decide +kernel
set_option maxRecDepth 100000 in
theorem f_128_70 : xft 128 70 = some (.aload_n 0) := by decide +kernel
set_option maxRecDepth 100000 in
theorem f_128_71 : xft 128 71 = some (.getfield 156) := by decide +kernel
set_option maxRecDepth 100000 in
theorem f_128_74 : xft 128 74 = some (.if_icmp .ge 88) := by decide +kernel
set_option maxRecDepth 100000 in
theorem f_128_77 : xft 128 77 = some (.aload_n 0) := by decide +kernel
set_option maxRecDepth 100000 in
theorem f_128_78 : xft 128 78 = some (.iload 5) := by decide +kernel
set_option maxRecDepth 100000 in
theorem f_128_80 : xft 128 80 = some (.invokevirtual 162) := by decide +kernel
set_option maxRecDepth 100000 in
theorem f_128_83 : xft 128 83 = some (.istore 6) := by decide +kernel
set_option maxRecDepth 100000 in
theorem f_128_85 : xft 128 85 = some (.iconst 0) := by decide +kernel
set_option maxRecDepth 100000 in
theorem f_128_86 : xft 128 86 = some (.istore 7) := by decide +kernel
set_option maxRecDepth 100000 in
theorem f_128_88 : xft 128 88 = some (.iload 7) := by decide +kernel
set_option maxRecDepth 100000 in
theorem f_128_90 : xft 128 90 = some (.aload_n 0) := by decide +kernel
set_option maxRecDepth 100000 in
theorem f_128_91 : xft 128 91 = some (.getfield 95) := by decide +kernel
set_option maxRecDepth 100000 in
theorem f_128_94 : xft 128 94 = some (.if_icmp .ge 62) := by decide +kernel
set_option maxRecDepth 100000 in
theorem f_128_97 : xft 128 97 = some (.aload_n 0) := by decide +kernel
set_option maxRecDepth 100000 in
theorem f_128_98 : xft 128 98 = some (.iload 7) := by decide +kernel
set_option maxRecDepth 100000 in
theorem f_128_100 : xft 128 100 = some (.iload 5) := by decide +kernel
set_option maxRecDepth 100000 in
theorem f_128_102 : xft 128 102 = some (.invokevirtual 159) := by decide +kernel
set_option maxRecDepth 100000 in
theorem f_128_105 : xft 128 105 = some (.ifCond .eq 21) := by decide +kernel
set_option maxRecDepth 100000 in
theorem f_128_108 : xft 128 108 = some (.iload 6) := by decide +kernel
set_option maxRecDepth 100000 in
theorem f_128_110 : xft 128 110 = some (.aload_n 0) := by decide +kernel
set_option maxRecDepth 100000 in
theorem f_128_111 : xft 128 111 = some (.iload 7) := by decide +kernel
set_option maxRecDepth 100000 in
theorem f_128_113 : xft 128 113 = some (.invokevirtual 135) := by decide +kernel
set_option maxRecDepth 100000 in
theorem f_128_116 : xft 128 116 = some (.imul) := by decide +kernel
set_option maxRecDepth 100000 in
theorem f_128_117 : xft 128 117 = some (.iload 4) := by decide +kernel
set_option maxRecDepth 100000 in
theorem f_128_119 : xft 128 119 = some (.if_icmp .ge 7) := by decide +kernel
set_option maxRecDepth 100000 in
theorem f_128_122 : xft 128 122 = some (.iconst 1) := by decide +kernel
set_option maxRecDepth 100000 in
theorem f_128_123 : xft 128 123 = some (.goto 4) := by decide +kernel
set_option maxRecDepth 100000 in
theorem f_128_126 : xft 128 126 = some (.iconst 0) := by decide +kernel
set_option maxRecDepth 100000 in
theorem f_128_127 : xft 128 127 = some (.istore 8) := by decide +kernel
set_option maxRecDepth 100000 in
theorem f_128_129 : xft 128 129 = some (.iload 8) := by decide +kernel
set_option maxRecDepth 100000 in
theorem f_128_131 : xft 128 131 = some (.ifCond .eq 15) := by decide +kernel
set_option maxRecDepth 100000 in
theorem f_128_134 : xft 128 134 = some (.iload 6) := by decide +kernel
set_option maxRecDepth 100000 in
theorem f_128_136 : xft 128 136 = some (.aload_n 0) := by decide +kernel
set_option maxRecDepth 100000 in
theorem f_128_137 : xft 128 137 = some (.iload 7) := by decide +kernel
set_option maxRecDepth 100000 in
theorem f_128_139 : xft 128 139 = some (.invokevirtual 135) := by decide +kernel
set_option maxRecDepth 100000 in
theorem f_128_142 : xft 128 142 = some (.imul) := by decide +kernel
set_option maxRecDepth 100000 in
theorem f_128_143 : xft 128 143 = some (.goto 5) := by decide +kernel
set_option maxRecDepth 100000 in
theorem f_128_146 : xft 128 146 = some (.iload 4) := by decide +kernel
set_option maxRecDepth 100000 in
theorem f_128_148 : xft 128 148 = some (.istore 4) := by decide +kernel
set_option maxRecDepth 100000 in
theorem f_128_150 : xft 128 150 = some (.iinc 7 1) := by decide +kernel
set_option maxRecDepth 100000 in
theorem f_128_153 : xft 128 153 = some (.goto (-65)) := by decide +kernel
set_option maxRecDepth 100000 in
theorem f_128_156 : xft 128 156 = some (.iinc 5 1) := by decide +kernel
set_option maxRecDepth 100000 in
theorem f_128_159 : xft 128 159 = some (.goto (-93)) := by decide +kernel
set_option maxRecDepth 100000 in
theorem f_128_162 : xft 128 162 = some (.iload 4) := by decide +kernel
set_option maxRecDepth 100000 in
theorem f_128_164 : xft 128 164 = some (.ireturn) := by decide +kernel
set_option maxRecDepth 100000 in
theorem f_129_0 : xft 129 0 = some (.aload_n 0) := by decide +kernel
set_option maxRecDepth 100000 in
theorem f_129_1 : xft 129 1 = some (.aload_n 0) := by decide +kernel
set_option maxRecDepth 100000 in
theorem f_129_2 : xft 129 2 = some (.iload_n 1) := by decide +kernel
set_option maxRecDepth 100000 in
theorem f_129_3 : xft 129 3 = some (.invokevirtual 123) := by decide +kernel
set_option maxRecDepth 100000 in
theorem f_129_6 : xft 129 6 = some (.ifCond .eq 7) := by decide +kernel
set_option maxRecDepth 100000 in
theorem f_129_9 : xft 129 9 = some (.iconst 0) := by decide +kernel
set_option maxRecDepth 100000 in
theorem f_129_10 : xft 129 10 = some (.goto 4) := by decide +kernel
set_option maxRecDepth 100000 in
theorem f_129_13 : xft 129 13 = some (.iconst 1) := by decide +kernel
set_option maxRecDepth 100000 in
theorem f_129_14 : xft 129 14 = some (.invokevirtual 98) := by decide +kernel
set_option maxRecDepth 100000 in
theorem f_129_17 : xft 129 17 = some (.ifCond .eq 5) := by decide +kernel
set_option maxRecDepth 100000 in
theorem f_129_20 : xft 129 20 = some (.iconst 0) := by decide +kernel
set_option maxRecDepth 100000 in
theorem f_129_21 : xft 129 21 = some (.ireturn) := by decide +kernel
set_option maxRecDepth 100000 in
theorem f_129_22 : xft 129 22 = some (.aload_n 0) := by decide +kernel
set_option maxRecDepth 100000 in
theorem f_129_23 : xft 129 23 = some (.getfield 36) := by decide +kernel
set_option maxRecDepth 100000 in
theorem f_129_26 : xft 129 26 = some (.iload_n 1) := by decide +kernel
set_option maxRecDepth 100000 in
theorem f_129_27 : xft 129 27 = some (.dup2) := by decide +kernel
set_option maxRecDepth 100000 in
theorem f_129_28 : xft 129 28 = some (.iaload) := by decide +kernel
set_option maxRecDepth 100000 in
theorem f_129_29 : xft 129 29 = some (.iconst 2) := by decide +kernel
set_option maxRecDepth 100000 in
theorem f_129_30 : xft 129 30 = some (.idiv) := by decide +kernel
set_option maxRecDepth 100000 in
theorem f_129_31 : xft 129 31 = some (.iastore) := by decide +kernel
set_option maxRecDepth 100000 in
theorem f_129_32 : xft 129 32 = some (.aload_n 0) := by decide +kernel
set_option maxRecDepth 100000 in
theorem f_129_33 : xft 129 33 = some (.getfield 36) := by decide +kernel
set_option maxRecDepth 100000 in
theorem f_129_36 : xft 129 36 = some (.iload_n 1) := by decide +kernel
set_option maxRecDepth 100000 in
theorem f_129_37 : xft 129 37 = some (.iaload) := by decide +kernel
set_option maxRecDepth 100000 in
theorem f_129_38 : xft 129 38 = some (.ireturn) := by decide +kernel
set_option maxRecDepth 100000 in
theorem f_130_0 : xft 130 0 = some (.aload_n 0) := by decide +kernel
set_option maxRecDepth 100000 in
theorem f_130_1 : xft 130 1 = some (.getfield 39) := by decide +kernel
set_option maxRecDepth 100000 in
theorem f_130_4 : xft 130 4 = some (.iload_n 1) := by decide +kernel
set_option maxRecDepth 100000 in
theorem f_130_5 : xft 130 5 = some (.iaload) := by decide +kernel
set_option maxRecDepth 100000 in
theorem f_130_6 : xft 130 6 = some (.iconst 4) := by decide +kernel
set_option maxRecDepth 100000 in
theorem f_130_7 : xft 130 7 = some (.if_icmp .ge 24) := by decide +kernel
set_option maxRecDepth 100000 in
theorem f_130_10 : xft 130 10 = some (.aload_n 0) := by decide +kernel
set_option maxRecDepth 100000 in
theorem f_130_11 : xft 130 11 = some (.iload_n 1) := by decide +kernel
set_option maxRecDepth 100000 in
theorem f_130_12 : xft 130 12 = some (.invokevirtual 128) := by decide +kernel
set_option maxRecDepth 100000 in
theorem f_130_15 : xft 130 15 = some (.ifCond .ne 16) := by decide +kernel
set_option maxRecDepth 100000 in
theorem f_130_18 : xft 130 18 = some (.aload_n 0) := by decide +kernel
set_option maxRecDepth 100000 in
theorem f_130_19 : xft 130 19 = some (.getfield 42) := by decide +kernel
set_option maxRecDepth 100000 in
theorem f_130_22 : xft 130 22 = some (.iload_n 1) := by decide +kernel
set_option maxRecDepth 100000 in
theorem f_130_23 : xft 130 23 = some (.baload) := by decide +kernel
set_option maxRecDepth 100000 in
theorem f_130_24 : xft 130 24 = some (.ifCond .ne 7) := by decide +kernel
set_option maxRecDepth 100000 in
theorem f_130_27 : xft 130 27 = some (.iconst 1) := by decide +kernel
set_option maxRecDepth 100000 in
theorem f_130_28 : xft 130 28 = some (.goto 4) := by decide +kernel
set_option maxRecDepth 100000 in
theorem f_130_31 : xft 130 31 = some (.iconst 0) := by decide +kernel
set_option maxRecDepth 100000 in
theorem f_130_32 : xft 130 32 = some (.ireturn) := by decide +kernel
set_option maxRecDepth 100000 in
theorem f_131_0 : xft 131 0 = some (.aload_n 0) := by decide +kernel
set_option maxRecDepth 100000 in
theorem f_131_1 : xft 131 1 = some (.iload_n 1) := by decide +kernel
set_option maxRecDepth 100000 in
theorem f_131_2 : xft 131 2 = some (.invokevirtual 123) := by decide +kernel
set_option maxRecDepth 100000 in
theorem f_131_5 : xft 131 5 = some (.ifCond .eq 15) := by decide +kernel
set_option maxRecDepth 100000 in
theorem f_131_8 : xft 131 8 = some (.aload_n 0) := by decide +kernel
set_option maxRecDepth 100000 in
theorem f_131_9 : xft 131 9 = some (.iload_n 2) := by decide +kernel
set_option maxRecDepth 100000 in
theorem f_131_10 : xft 131 10 = some (.invokevirtual 123) := by decide +kernel
set_option maxRecDepth 100000 in
theorem f_131_13 : xft 131 13 = some (.ifCond .eq 7) := by decide +kernel
set_option maxRecDepth 100000 in
theorem f_131_16 : xft 131 16 = some (.iconst 1) := by decide +kernel
set_option maxRecDepth 100000 in
theorem f_131_17 : xft 131 17 = some (.goto 4) := by decide +kernel
set_option maxRecDepth 100000 in
theorem f_131_20 : xft 131 20 = some (.iconst 0) := by decide +kernel
set_option maxRecDepth 100000 in
theorem f_131_21 : xft 131 21 = some (.istore 5) := by decide +kernel
set_option maxRecDepth 100000 in
theorem f_131_23 : xft 131 23 = some (.iload_n 1) := by decide +kernel
set_option maxRecDepth 100000 in
theorem f_131_24 : xft 131 24 = some (.iload_n 2) := by decide +kernel
set_option maxRecDepth 100000 in
theorem f_131_25 : xft 131 25 = some (.if_icmp .eq 28) := by decide +kernel
set_option maxRecDepth 100000 in
theorem f_131_28 : xft 131 28 = some (.iload_n 3) := by decide +kernel
set_option maxRecDepth 100000 in
theorem f_131_29 : xft 131 29 = some (.iconst 1) := by decide +kernel
set_option maxRecDepth 100000 in
theorem f_131_30 : xft 131 30 = some (.bipush 12) := by decide +kernel
set_option maxRecDepth 100000 in
theorem f_131_32 : xft 131 32 = some (.invokestatic 91) := by decide +kernel
set_option maxRecDepth 100000 in
theorem f_131_35 : xft 131 35 = some (.ifCond .eq 18) := by decide +kernel
set_option maxRecDepth 100000 in
theorem f_131_38 : xft 131 38 = some (.iload 4) := by decide +kernel
set_option maxRecDepth 100000 in
theorem f_131_40 : xft 131 40 = some (.iconst 1) := by decide +kernel
set_option maxRecDepth 100000 in
theorem f_131_41 : xft 131 41 = some (.bipush 50) := by decide +kernel
set_option maxRecDepth 100000 in
theorem f_131_43 : xft 131 43 = some (.invokestatic 91) := by decide +kernel
set_option maxRecDepth 100000 in
theorem f_131_46 : xft 131 46 = some (.ifCond .eq 7) := by decide +kernel
set_option maxRecDepth 100000 in
theorem f_131_49 : xft 131 49 = some (.iconst 1) := by decide +kernel
set_option maxRecDepth 100000 in
theorem f_131_50 : xft 131 50 = some (.goto 4) := by decide +kernel
set_option maxRecDepth 100000 in
theorem f_131_53 : xft 131 53 = some (.iconst 0) := by decide +kernel
set_option maxRecDepth 100000 in
theorem f_131_54 : xft 131 54 = some (.istore 6) := by decide +kernel
set_option maxRecDepth 100000 in
theorem f_131_56 : xft 131 56 = some (.aload_n 0) := by decide +kernel
set_option maxRecDepth 100000 in
theorem f_131_57 : xft 131 57 = some (.iload 5) := by decide +kernel
set_option maxRecDepth 100000 in
theorem f_131_59 : xft 131 59 = some (.ifCond .ne 7) := by decide +kernel
set_option maxRecDepth 100000 in
theorem f_131_62 : xft 131 62 = some (.iconst 1) := by decide +kernel
set_option maxRecDepth 100000 in
theorem f_131_63 : xft 131 63 = some (.goto 33) := by decide +kernel
set_option maxRecDepth 100000 in
theorem f_131_66 : xft 131 66 = some (.iload 6) := by decide +kernel
set_option maxRecDepth 100000 in
theorem f_131_68 : xft 131 68 = some (.ifCond .ne 7) := by decide +kernel
set_option maxRecDepth 100000 in
theorem f_131_71 : xft 131 71 = some (.iconst 2) := by decide +kernel
set_option maxRecDepth 100000 in
theorem f_131_72 : xft 131 72 = some (.goto 24) := by decide +kernel
set_option maxRecDepth 100000 in
theorem f_131_75 : xft 131 75 = some (.aload_n 0) := by decide +kernel
set_option maxRecDepth 100000 in
theorem f_131_76 : xft 131 76 = some (.iload_n 1) := by decide +kernel
set_option maxRecDepth 100000 in
theorem f_131_77 : xft 131 77 = some (.invokevirtual 175) := by decide +kernel
set_option maxRecDepth 100000 in
theorem f_131_80 : xft 131 80 = some (.ifCond .eq 15) := by decide +kernel
set_option maxRecDepth 100000 in
theorem f_131_83 : xft 131 83 = some (.aload_n 0) := by decide +kernel
set_option maxRecDepth 100000 in
theorem f_131_84 : xft 131 84 = some (.iload_n 2) := by decide +kernel
set_option maxRecDepth 100000 in
theorem f_131_85 : xft 131 85 = some (.invokevirtual 175) := by decide +kernel
set_option maxRecDepth 100000 in
theorem f_131_88 : xft 131 88 = some (.ifCond .eq 7) := by decide +kernel
set_option maxRecDepth 100000 in
theorem f_131_91 : xft 131 91 = some (.iconst 0) := by decide +kernel
set_option maxRecDepth 100000 in
theorem f_131_92 : xft 131 92 = some (.goto 4) := by decide +kernel
set_option maxRecDepth 100000 in
theorem f_131_95 : xft 131 95 = some (.iconst 3) := by decide +kernel
set_option maxRecDepth 100000 in
theorem f_131_96 : xft 131 96 = some (.invokevirtual 98) := by decide +kernel
set_option maxRecDepth 100000 in
theorem f_131_99 : xft 131 99 = some (.ifCond .eq 5) := by decide +kernel
set_option maxRecDepth 100000 in
theorem f_131_102 : xft 131 102 = some (.iconst 0) := by decide +kernel
set_option maxRecDepth 100000 in
theorem f_131_103 : xft 131 103 = some (.ireturn) := by decide +kernel
set_option maxRecDepth 100000 in
theorem f_131_104 : xft 131 104 = some (.aload_n 0) := by decide +kernel
set_option maxRecDepth 100000 in
theorem f_131_105 : xft 131 105 = some (.getfield 39) := by decide +kernel
set_option maxRecDepth 100000 in
theorem f_131_108 : xft 131 108 = some (.iload_n 1) := by decide +kernel
set_option maxRecDepth 100000 in
theorem f_131_109 : xft 131 109 = some (.dup2) := by decide +kernel
set_option maxRecDepth 100000 in
theorem f_131_110 : xft 131 110 = some (.iaload) := by decide +kernel
set_option maxRecDepth 100000 in
theorem f_131_111 : xft 131 111 = some (.iconst 1) := by decide +kernel
set_option maxRecDepth 100000 in
theorem f_131_112 : xft 131 112 = some (.iadd) := by decide +kernel
set_option maxRecDepth 100000 in
theorem f_131_113 : xft 131 113 = some (.iastore) := by decide +kernel
set_option maxRecDepth 100000 in
theorem f_131_114 : xft 131 114 = some (.aload_n 0) := by decide +kernel
set_option maxRecDepth 100000 in
theorem f_131_115 : xft 131 115 = some (.getfield 39) := by decide +kernel
set_option maxRecDepth 100000 in
theorem f_131_118 : xft 131 118 = some (.iload_n 2) := by decide +kernel
set_option maxRecDepth 100000 in
theorem f_131_119 : xft 131 119 = some (.dup2) := by decide +kernel
set_option maxRecDepth 100000 in
theorem f_131_120 : xft 131 120 = some (.iaload) := by decide +kernel
set_option maxRecDepth 100000 in
theorem f_131_121 : xft 131 121 = some (.iconst 1) := by decide +kernel
set_option maxRecDepth 100000 in
theorem f_131_122 : xft 131 122 = some (.iadd) := by decide +kernel
set_option maxRecDepth 100000 in
theorem f_131_123 : xft 131 123 = some (.iastore) := by decide +kernel
set_option maxRecDepth 100000 in
theorem f_131_124 : xft 131 124 = some (.aload_n 0) := by decide +kernel
set_option maxRecDepth 100000 in
theorem f_131_125 : xft 131 125 = some (.getfield 16) := by decide +kernel
set_option maxRecDepth 100000 in
theorem f_131_128 : xft 131 128 = some (.iload_n 1) := by decide +kernel
set_option maxRecDepth 100000 in
theorem f_131_129 : xft 131 129 = some (.iaload) := by decide +kernel
set_option maxRecDepth 100000 in
theorem f_131_130 : xft 131 130 = some (.aload_n 0) := by decide +kernel
set_option maxRecDepth 100000 in
theorem f_131_131 : xft 131 131 = some (.getfield 16) := by decide +kernel
set_option maxRecDepth 100000 in
theorem f_131_134 : xft 131 134 = some (.iload_n 2) := by decide +kernel
set_option maxRecDepth 100000 in
theorem f_131_135 : xft 131 135 = some (.iaload) := by decide +kernel
set_option maxRecDepth 100000 in
theorem f_131_136 : xft 131 136 = some (.if_icmp .ge 12) := by decide +kernel
set_option maxRecDepth 100000 in
theorem f_131_139 : xft 131 139 = some (.aload_n 0) := by decide +kernel
set_option maxRecDepth 100000 in
theorem f_131_140 : xft 131 140 = some (.getfield 16) := by decide +kernel
set_option maxRecDepth 100000 in
theorem f_131_143 : xft 131 143 = some (.iload_n 1) := by decide +kernel
set_option maxRecDepth 100000 in
theorem f_131_144 : xft 131 144 = some (.iaload) := by decide +kernel
set_option maxRecDepth 100000 in
theorem f_131_145 : xft 131 145 = some (.goto 9) := by decide +kernel
set_option maxRecDepth 100000 in
theorem f_131_148 : xft 131 148 = some (.aload_n 0) := by decide +kernel
set_option maxRecDepth 100000 in
theorem f_131_149 : xft 131 149 = some (.getfield 16) := by decide +kernel
set_option maxRecDepth 100000 in
theorem f_131_152 : xft 131 152 = some (.iload_n 2) := by decide +kernel
set_option maxRecDepth 100000 in
theorem f_131_153 : xft 131 153 = some (.iaload) := by decide +kernel
set_option maxRecDepth 100000 in
theorem f_131_154 : xft 131 154 = some (.istore 7) := by decide +kernel
set_option maxRecDepth 100000 in
theorem f_131_156 : xft 131 156 = some (.aload_n 0) := by decide +kernel
set_option maxRecDepth 100000 in
theorem f_131_157 : xft 131 157 = some (.getfield 22) := by decide +kernel
set_option maxRecDepth 100000 in
theorem f_131_160 : xft 131 160 = some (.iload_n 1) := by decide +kernel
set_option maxRecDepth 100000 in
theorem f_131_161 : xft 131 161 = some (.iaload) := by decide +kernel
set_option maxRecDepth 100000 in
theorem f_131_162 : xft 131 162 = some (.aload_n 0) := by decide +kernel
set_option maxRecDepth 100000 in
theorem f_131_163 : xft 131 163 = some (.getfield 22) := by decide +kernel
set_option maxRecDepth 100000 in
theorem f_131_166 : xft 131 166 = some (.iload_n 2) := by decide +kernel
set_option maxRecDepth 100000 in
theorem f_131_167 : xft 131 167 = some (.iaload) := by decide +kernel
set_option maxRecDepth 100000 in
theorem f_131_168 : xft 131 168 = some (.if_icmp .ge 12) := by decide +kernel
set_option maxRecDepth 100000 in
theorem f_131_171 : xft 131 171 = some (.aload_n 0) := by decide +kernel
set_option maxRecDepth 100000 in
theorem f_131_172 : xft 131 172 = some (.getfield 22) := by decide +kernel
set_option maxRecDepth 100000 in
theorem f_131_175 : xft 131 175 = some (.iload_n 1) := by decide +kernel
set_option maxRecDepth 100000 in
theorem f_131_176 : xft 131 176 = some (.iaload) := by decide +kernel
set_option maxRecDepth 100000 in
theorem f_131_177 : xft 131 177 = some (.goto 9) := by decide +kernel
set_option maxRecDepth 100000 in
theorem f_131_180 : xft 131 180 = some (.aload_n 0) := by decide +kernel
set_option maxRecDepth 100000 in
theorem f_131_181 : xft 131 181 = some (.getfield 22) := by decide +kernel
set_option maxRecDepth 100000 in
theorem f_131_184 : xft 131 184 = some (.iload_n 2) := by decide +kernel
set_option maxRecDepth 100000 in
theorem f_131_185 : xft 131 185 = some (.iaload) := by decide +kernel
set_option maxRecDepth 100000 in
theorem f_131_186 : xft 131 186 = some (.istore 8) := by decide +kernel
set_option maxRecDepth 100000 in
theorem f_131_188 : xft 131 188 = some (.iload_n 3) := by decide +kernel
set_option maxRecDepth 100000 in
theorem f_131_189 : xft 131 189 = some (.iload 7) := by decide +kernel
set_option maxRecDepth 100000 in
theorem f_131_191 : xft 131 191 = some (.imul) := by decide +kernel
set_option maxRecDepth 100000 in
theorem f_131_192 : xft 131 192 = some (.iload 4) := by decide +kernel
set_option maxRecDepth 100000 in
theorem f_131_194 : xft 131 194 = some (.imul) := by decide +kernel
set_option maxRecDepth 100000 in
theorem f_131_195 : xft 131 195 = some (.istore 9) := by decide +kernel
set_option maxRecDepth 100000 in
theorem f_131_197 : xft 131 197 = some (.iload 8) := by decide +kernel
set_option maxRecDepth 100000 in
theorem f_131_199 : xft 131 199 = some (.bipush 20) := by decide +kernel
set_option maxRecDepth 100000 in
theorem f_131_201 : xft 131 201 = some (.iload_n 3) := by decide +kernel
set_option maxRecDepth 100000 in
theorem f_131_202 : xft 131 202 = some (.isub) := by decide +kernel
set_option maxRecDepth 100000 in
theorem f_131_203 : xft 131 203 = some (.imul) := by decide +kernel
set_option maxRecDepth 100000 in
theorem f_131_204 : xft 131 204 = some (.iload 7) := by decide +kernel
set_option maxRecDepth 100000 in
theorem f_131_206 : xft 131 206 = some (.imul) := by decide +kernel
set_option maxRecDepth 100000 in
theorem f_131_207 : xft 131 207 = some (.istore 10) := by decide +kernel
set_option maxRecDepth 100000 in
theorem f_131_209 : xft 131 209 = some (.iload 9) := by decide +kernel
set_option maxRecDepth 100000 in
theorem f_131_211 : xft 131 211 = some (.iload 10) := by decide +kernel
set_option maxRecDepth 100000 in
theorem f_131_213 : xft 131 213 = some (.if_icmp .ge 8) := by decide +kernel
set_option maxRecDepth 100000 in
theorem f_131_216 : xft 131 216 = some (.iload 9) := by decide +kernel
set_option maxRecDepth 100000 in
theorem f_131_218 : xft 131 218 = some (.goto 5) := by decide +kernel
set_option maxRecDepth 100000 in
theorem f_131_221 : xft 131 221 = some (.iload 10) := by decide +kernel
set_option maxRecDepth 100000 in
theorem f_131_223 : xft 131 223 = some (.ireturn) := by decide +kernel
set_option maxRecDepth 100000 in
theorem f_132_0 : xft 132 0 = some (.iload_n 0) := by decide +kernel
set_option maxRecDepth 100000 in
theorem f_132_1 : xft 132 1 = some (.iconst 0) := by decide +kernel
set_option maxRecDepth 100000 in
theorem f_132_2 : xft 132 2 = some (.iconst 5) := by decide +kernel
set_option maxRecDepth 100000 in
theorem f_132_3 : xft 132 3 = some (.invokestatic 91) := by decide +kernel
set_option maxRecDepth 100000 in
theorem f_132_6 : xft 132 6 = some (.ireturn) := by decide +kernel
set_option maxRecDepth 100000 in
theorem f_133_0 : xft 133 0 = some (.iload_n 0) := by decide +kernel
set_option maxRecDepth 100000 in
theorem f_133_1 : xft 133 1 = some (.iconst 0) := by decide +kernel
set_option maxRecDepth 100000 in
theorem f_133_2 : xft 133 2 = some (.iconst 5) := by decide +kernel
set_option maxRecDepth 100000 in
theorem f_133_3 : xft 133 3 = some (.invokestatic 91) := by decide +kernel
set_option maxRecDepth 100000 in
theorem f_133_6 : xft 133 6 = some (.ireturn) := by decide +kernel
set_option maxRecDepth 100000 in
theorem f_134_0 : xft 134 0 = some (.iload_n 0) := by decide +kernel
set_option maxRecDepth 100000 in
theorem f_134_1 : xft 134 1 = some (.iconst 0) := by decide +kernel
set_option maxRecDepth 100000 in
theorem f_134_2 : xft 134 2 = some (.bipush 6) := by decide +kernel
set_option maxRecDepth 100000 in
theorem f_134_4 : xft 134 4 = some (.invokestatic 91) := by decide +kernel
set_option maxRecDepth 100000 in
theorem f_134_7 : xft 134 7 = some (.ireturn) := by decide +kernel
set_option maxRecDepth 100000 in
theorem f_135_0 : xft 135 0 = some (.aload_n 0) := by decide +kernel
set_option maxRecDepth 100000 in
theorem f_135_1 : xft 135 1 = some (.iload_n 3) := by decide +kernel
set_option maxRecDepth 100000 in
theorem f_135_2 : xft 135 2 = some (.ifCond .ne 7) := by decide +kernel
set_option maxRecDepth 100000 in
theorem f_135_5 : xft 135 5 = some (.iconst 1) := by decide +kernel
set_option maxRecDepth 100000 in
theorem f_135_6 : xft 135 6 = some (.goto 20) := by decide +kernel
set_option maxRecDepth 100000 in
theorem f_135_9 : xft 135 9 = some (.iload 4) := by decide +kernel
set_option maxRecDepth 100000 in
theorem f_135_11 : xft 135 11 = some (.iload 5) := by decide +kernel
set_option maxRecDepth 100000 in
theorem f_135_13 : xft 135 13 = some (.iload 6) := by decide +kernel
set_option maxRecDepth 100000 in
theorem f_135_15 : xft 135 15 = some (.invokestatic 91) := by decide +kernel
set_option maxRecDepth 100000 in
theorem f_135_18 : xft 135 18 = some (.ifCond .eq 7) := by decide +kernel
set_option maxRecDepth 100000 in
theorem f_135_21 : xft 135 21 = some (.iconst 0) := by decide +kernel
set_option maxRecDepth 100000 in
theorem f_135_22 : xft 135 22 = some (.goto 4) := by decide +kernel
set_option maxRecDepth 100000 in
theorem f_135_25 : xft 135 25 = some (.iconst 2) := by decide +kernel
set_option maxRecDepth 100000 in
theorem f_135_26 : xft 135 26 = some (.invokevirtual 98) := by decide +kernel
set_option maxRecDepth 100000 in
theorem f_135_29 : xft 135 29 = some (.ifCond .eq 5) := by decide +kernel
set_option maxRecDepth 100000 in
theorem f_135_32 : xft 135 32 = some (.iconst 0) := by decide +kernel
set_option maxRecDepth 100000 in
theorem f_135_33 : xft 135 33 = some (.ireturn) := by decide +kernel
set_option maxRecDepth 100000 in
theorem f_135_34 : xft 135 34 = some (.aload_n 1) := by decide +kernel
set_option maxRecDepth 100000 in
theorem f_135_35 : xft 135 35 = some (.iload_n 2) := by decide +kernel
set_option maxRecDepth 100000 in
theorem f_135_36 : xft 135 36 = some (.iaload) := by decide +kernel
set_option maxRecDepth 100000 in
theorem f_135_37 : xft 135 37 = some (.istore 7) := by decide +kernel
set_option maxRecDepth 100000 in
theorem f_135_39 : xft 135 39 = some (.aload_n 1) := by decide +kernel
set_option maxRecDepth 100000 in
theorem f_135_40 : xft 135 40 = some (.iload_n 2) := by decide +kernel
set_option maxRecDepth 100000 in
theorem f_135_41 : xft 135 41 = some (.iload 4) := by decide +kernel
set_option maxRecDepth 100000 in
theorem f_135_43 : xft 135 43 = some (.iastore) := by decide +kernel
set_option maxRecDepth 100000 in
theorem f_135_44 : xft 135 44 = some (.iload 7) := by decide +kernel
set_option maxRecDepth 100000 in
theorem f_135_46 : xft 135 46 = some (.ireturn) := by decide +kernel
set_option maxRecDepth 100000 in
theorem f_136_0 : xft 136 0 = some (.aload_n 0) := by decide +kernel
set_option maxRecDepth 100000 in
theorem f_136_1 : xft 136 1 = some (.aload_n 0) := by decide +kernel
set_option maxRecDepth 100000 in
theorem f_136_2 : xft 136 2 = some (.getfield 63) := by decide +kernel
set_option maxRecDepth 100000 in
theorem f_136_5 : xft 136 5 = some (.bipush 7) := by decide +kernel
set_option maxRecDepth 100000 in
theorem f_136_7 : xft 136 7 = some (.iload_n 1) := by decide +kernel
set_option maxRecDepth 100000 in
theorem f_136_8 : xft 136 8 = some (.imul) := by decide +kernel
set_option maxRecDepth 100000 in
theorem f_136_9 : xft 136 9 = some (.iload_n 2) := by decide +kernel
set_option maxRecDepth 100000 in
theorem f_136_10 : xft 136 10 = some (.iadd) := by decide +kernel
set_option maxRecDepth 100000 in
theorem f_136_11 : xft 136 11 = some (.iload_n 1) := by decide +kernel
set_option maxRecDepth 100000 in
theorem f_136_12 : xft 136 12 = some (.invokestatic 178) := by decide +kernel
set_option maxRecDepth 100000 in
theorem f_136_15 : xft 136 15 = some (.ifCond .eq 14) := by decide +kernel
set_option maxRecDepth 100000 in
theorem f_136_18 : xft 136 18 = some (.iload_n 2) := by decide +kernel
set_option maxRecDepth 100000 in
theorem f_136_19 : xft 136 19 = some (.invokestatic 181) := by decide +kernel
set_option maxRecDepth 100000 in
theorem f_136_22 : xft 136 22 = some (.ifCond .eq 7) := by decide +kernel
set_option maxRecDepth 100000 in
theorem f_136_25 : xft 136 25 = some (.iconst 1) := by decide +kernel
set_option maxRecDepth 100000 in
theorem f_136_26 : xft 136 26 = some (.goto 4) := by decide +kernel
set_option maxRecDepth 100000 in
theorem f_136_29 : xft 136 29 = some (.iconst 0) := by decide +kernel
set_option maxRecDepth 100000 in
theorem f_136_30 : xft 136 30 = some (.iload_n 3) := by decide +kernel
set_option maxRecDepth 100000 in
theorem f_136_31 : xft 136 31 = some (.bipush (-50)) := by decide +kernel
set_option maxRecDepth 100000 in
theorem f_136_33 : xft 136 33 = some (.bipush 50) := by decide +kernel
set_option maxRecDepth 100000 in
theorem f_136_35 : xft 136 35 = some (.invokevirtual 184) := by decide +kernel
set_option maxRecDepth 100000 in
theorem f_136_38 : xft 136 38 = some (.ireturn) := by decide +kernel
set_option maxRecDepth 100000 in
theorem f_137_0 : xft 137 0 = some (.aload_n 0) := by decide +kernel
set_option maxRecDepth 100000 in
theorem f_137_1 : xft 137 1 = some (.aload_n 0) := by decide +kernel
set_option maxRecDepth 100000 in
theorem f_137_2 : xft 137 2 = some (.getfield 66) := by decide +kernel
set_option maxRecDepth 100000 in
theorem f_137_5 : xft 137 5 = some (.bipush 7) := by decide +kernel
set_option maxRecDepth 100000 in
theorem f_137_7 : xft 137 7 = some (.iload_n 1) := by decide +kernel
set_option maxRecDepth 100000 in
theorem f_137_8 : xft 137 8 = some (.imul) := by decide +kernel
set_option maxRecDepth 100000 in
theorem f_137_9 : xft 137 9 = some (.iload_n 2) := by decide +kernel
set_option maxRecDepth 100000 in
theorem f_137_10 : xft 137 10 = some (.iadd) := by decide +kernel
set_option maxRecDepth 100000 in
theorem f_137_11 : xft 137 11 = some (.iload_n 1) := by decide +kernel
set_option maxRecDepth 100000 in
theorem f_137_12 : xft 137 12 = some (.invokestatic 188) := by decide +kernel
set_option maxRecDepth 100000 in
theorem f_137_15 : xft 137 15 = some (.ifCond .eq 14) := by decide +kernel
set_option maxRecDepth 100000 in
theorem f_137_18 : xft 137 18 = some (.iload_n 2) := by decide +kernel
set_option maxRecDepth 100000 in
theorem f_137_19 : xft 137 19 = some (.invokestatic 181) := by decide +kernel
set_option maxRecDepth 100000 in
theorem f_137_22 : xft 137 22 = some (.ifCond .eq 7) := by decide +kernel
set_option maxRecDepth 100000 in
theorem f_137_25 : xft 137 25 = some (.iconst 1) := by decide +kernel
set_option maxRecDepth 100000 in
theorem f_137_26 : xft 137 26 = some (.goto 4) := by decide +kernel
set_option maxRecDepth 100000 in
theorem f_137_29 : xft 137 29 = some (.iconst 0) := by decide +kernel
set_option maxRecDepth 100000 in
theorem f_137_30 : xft 137 30 = some (.iload_n 3) := by decide +kernel
set_option maxRecDepth 100000 in
theorem f_137_31 : xft 137 31 = some (.bipush (-50)) := by decide +kernel
set_option maxRecDepth 100000 in
theorem f_137_33 : xft 137 33 = some (.bipush 50) := by decide +kernel
set_option maxRecDepth 100000 in
theorem f_137_35 : xft 137 35 = some (.invokevirtual 184) := by decide +kernel
set_option maxRecDepth 100000 in
theorem f_137_38 : xft 137 38 = some (.ireturn) := by decide +kernel
set_option maxRecDepth 100000 in
theorem f_138_0 : xft 138 0 = some (.aload_n 0) := by decide +kernel
set_option maxRecDepth 100000 in
theorem f_138_1 : xft 138 1 = some (.aload_n 0) := by decide +kernel
set_option maxRecDepth 100000 in
theorem f_138_2 : xft 138 2 = some (.getfield 69) := by decide +kernel
set_option maxRecDepth 100000 in
theorem f_138_5 : xft 138 5 = some (.bipush 7) := by decide +kernel
set_option maxRecDepth 100000 in
theorem f_138_7 : xft 138 7 = some (.iload_n 1) := by decide +kernel
set_option maxRecDepth 100000 in
theorem f_138_8 : xft 138 8 = some (.imul) := by decide +kernel
set_option maxRecDepth 100000 in
theorem f_138_9 : xft 138 9 = some (.iload_n 2) := by decide +kernel
set_option maxRecDepth 100000 in
theorem f_138_10 : xft 138 10 = some (.iadd) := by decide +kernel
set_option maxRecDepth 100000 in
theorem f_138_11 : xft 138 11 = some (.iload_n 1) := by decide +kernel
set_option maxRecDepth 100000 in
theorem f_138_12 : xft 138 12 = some (.invokestatic 188) := by decide +kernel
set_option maxRecDepth 100000 in
theorem f_138_15 : xft 138 15 = some (.ifCond .eq 14) := by decide +kernel
set_option maxRecDepth 100000 in
theorem f_138_18 : xft 138 18 = some (.iload_n 2) := by decide +kernel
set_option maxRecDepth 100000 in
theorem f_138_19 : xft 138 19 = some (.invokestatic 181) := by decide +kernel
set_option maxRecDepth 100000 in
theorem f_138_22 : xft 138 22 = some (.ifCond .eq 7) := by decide +kernel
set_option maxRecDepth 100000 in
theorem f_138_25 : xft 138 25 = some (.iconst 1) := by decide +kernel
set_option maxRecDepth 100000 in
theorem f_138_26 : xft 138 26 = some (.goto 4) := by decide +kernel
set_option maxRecDepth 100000 in
theorem f_138_29 : xft 138 29 = some (.iconst 0) := by decide +kernel
set_option maxRecDepth 100000 in
theorem f_138_30 : xft 138 30 = some (.iload_n 3) := by decide +kernel
set_option maxRecDepth 100000 in
theorem f_138_31 : xft 138 31 = some (.iconst 0) := by decide +kernel
set_option maxRecDepth 100000 in
theorem f_138_32 : xft 138 32 = some (.bipush 20) := by decide +kernel
set_option maxRecDepth 100000 in
theorem f_138_34 : xft 138 34 = some (.invokevirtual 184) := by decide +kernel
set_option maxRecDepth 100000 in
theorem f_138_37 : xft 138 37 = some (.ireturn) := by decide +kernel
set_option maxRecDepth 100000 in
theorem f_139_0 : xft 139 0 = some (.aload_n 0) := by decide +kernel
set_option maxRecDepth 100000 in
theorem f_139_1 : xft 139 1 = some (.getfield 66) := by decide +kernel
set_option maxRecDepth 100000 in
theorem f_139_4 : xft 139 4 = some (.bipush 7) := by decide +kernel
set_option maxRecDepth 100000 in
theorem f_139_6 : xft 139 6 = some (.iload_n 2) := by decide +kernel
set_option maxRecDepth 100000 in
theorem f_139_7 : xft 139 7 = some (.imul) := by decide +kernel
set_option maxRecDepth 100000 in
theorem f_139_8 : xft 139 8 = some (.iload_n 3) := by decide +kernel
set_option maxRecDepth 100000 in
theorem f_139_9 : xft 139 9 = some (.iadd) := by decide +kernel
set_option maxRecDepth 100000 in
theorem f_139_10 : xft 139 10 = some (.iaload) := by decide +kernel
set_option maxRecDepth 100000 in
theorem f_139_11 : xft 139 11 = some (.aload_n 0) := by decide +kernel
set_option maxRecDepth 100000 in
theorem f_139_12 : xft 139 12 = some (.getfield 69) := by decide +kernel
set_option maxRecDepth 100000 in
theorem f_139_15 : xft 139 15 = some (.bipush 7) := by decide +kernel
set_option maxRecDepth 100000 in
theorem f_139_17 : xft 139 17 = some (.iload_n 2) := by decide +kernel
set_option maxRecDepth 100000 in
theorem f_139_18 : xft 139 18 = some (.imul) := by decide +kernel
set_option maxRecDepth 100000 in
theorem f_139_19 : xft 139 19 = some (.iload_n 3) := by decide +kernel
set_option maxRecDepth 100000 in
theorem f_139_20 : xft 139 20 = some (.iadd) := by decide +kernel
set_option maxRecDepth 100000 in
theorem f_139_21 : xft 139 21 = some (.iaload) := by decide +kernel
set_option maxRecDepth 100000 in
theorem f_139_22 : xft 139 22 = some (.isub) := by decide +kernel
set_option maxRecDepth 100000 in
theorem f_139_23 : xft 139 23 = some (.aload_n 0) := by decide +kernel
set_option maxRecDepth 100000 in
theorem f_139_24 : xft 139 24 = some (.getfield 63) := by decide +kernel
set_option maxRecDepth 100000 in
theorem f_139_27 : xft 139 27 = some (.bipush 7) := by decide +kernel
set_option maxRecDepth 100000 in
theorem f_139_29 : xft 139 29 = some (.iload_n 1) := by decide +kernel
set_option maxRecDepth 100000 in
theorem f_139_30 : xft 139 30 = some (.imul) := by decide +kernel
set_option maxRecDepth 100000 in
theorem f_139_31 : xft 139 31 = some (.iload_n 3) := by decide +kernel
set_option maxRecDepth 100000 in
theorem f_139_32 : xft 139 32 = some (.iadd) := by decide +kernel
set_option maxRecDepth 100000 in
theorem f_139_33 : xft 139 33 = some (.iaload) := by decide +kernel
set_option maxRecDepth 100000 in
theorem f_139_34 : xft 139 34 = some (.isub) := by decide +kernel
set_option maxRecDepth 100000 in
theorem f_139_35 : xft 139 35 = some (.ireturn) := by decide +kernel
set_option maxRecDepth 100000 in
theorem f_140_0 : xft 140 0 = some (.iload_n 3) := by decide +kernel
set_option maxRecDepth 100000 in
theorem f_140_1 : xft 140 1 = some (.aload_n 0) := by decide +kernel
set_option maxRecDepth 100000 in
theorem f_140_2 : xft 140 2 = some (.iload_n 1) := by decide +kernel
set_option maxRecDepth 100000 in
theorem f_140_3 : xft 140 3 = some (.iload_n 2) := by decide +kernel
set_option maxRecDepth 100000 in
theorem f_140_4 : xft 140 4 = some (.iload 4) := by decide +kernel
set_option maxRecDepth 100000 in
theorem f_140_6 : xft 140 6 = some (.invokevirtual 191) := by decide +kernel
set_option maxRecDepth 100000 in
theorem f_140_9 : xft 140 9 = some (.isub) := by decide +kernel
set_option maxRecDepth 100000 in
theorem f_140_10 : xft 140 10 = some (.istore 5) := by decide +kernel
set_option maxRecDepth 100000 in
theorem f_140_12 : xft 140 12 = some (.iload 5) := by decide +kernel
set_option maxRecDepth 100000 in
theorem f_140_14 : xft 140 14 = some (.ifCond .le 10) := by decide +kernel
set_option maxRecDepth 100000 in
theorem f_140_17 : xft 140 17 = some (.iconst 4) := by decide +kernel
set_option maxRecDepth 100000 in
theorem f_140_18 : xft 140 18 = some (.iload 5) := by decide +kernel
set_option maxRecDepth 100000 in
theorem f_140_20 : xft 140 20 = some (.imul) := by decide +kernel
set_option maxRecDepth 100000 in
theorem f_140_21 : xft 140 21 = some (.goto 4) := by decide +kernel
set_option maxRecDepth 100000 in
theorem f_140_24 : xft 140 24 = some (.iconst 0) := by decide +kernel
set_option maxRecDepth 100000 in
theorem f_140_25 : xft 140 25 = some (.ireturn) := by decide +kernel
set_option maxRecDepth 100000 in
theorem f_141_0 : xft 141 0 = some (.sipush (-200)) := by decide +kernel
set_option maxRecDepth 100000 in
theorem f_141_3 : xft 141 3 = some (.istore 4) := by decide +kernel
set_option maxRecDepth 100000 in
theorem f_141_5 : xft 141 5 = some (.iconst 0) := by decide +kernel
set_option maxRecDepth 100000 in
theorem f_141_6 : xft 141 6 = some (.istore 5) := by decide +kernel
set_option maxRecDepth 100000 in
theorem f_141_8 : xft 141 8 = some (.iload 5) := by decide +kernel
set_option maxRecDepth 100000 in
theorem f_141_10 : xft 141 10 = some (.iload_n 3) := by decide +kernel
set_option maxRecDepth 100000 in
theorem f_141_11 : xft 141 11 = some (.if_icmp .ge 43) := by decide +kernel
set_option maxRecDepth 100000 in
theorem f_141_14 : xft 141 14 = some (.iinc 4 1) := by decide +kernel
set_option maxRecDepth 100000 in
theorem f_141_17 : xft 141 17 = some (.iconst 0) := by decide +kernel
set_option maxRecDepth 100000 in
theorem f_141_18 : xft 141 18 = some (.istore 5) := by decide +kernel
set_option maxRecDepth 100000 in
theorem f_141_20 : xft 141 20 = some (.iconst 0) := by decide +kernel
set_option maxRecDepth 100000 in
theorem f_141_21 : xft 141 21 = some (.istore 6) := by decide +kernel
set_option maxRecDepth 100000 in
theorem f_141_23 : xft 141 23 = some (.iload 6) := by decide +kernel
set_option maxRecDepth 100000 in
theorem f_141_25 : xft 141 25 = some (.bipush 7) := by decide +kernel
set_option maxRecDepth 100000 in
theorem f_141_27 : xft 141 27 = some (.if_icmp .ge 24) := by decide +kernel
set_option maxRecDepth 100000 in
theorem f_141_30 : xft 141 30 = some (.iload 5) := by decide +kernel
set_option maxRecDepth 100000 in
theorem f_141_32 : xft 141 32 = some (.aload_n 0) := by decide +kernel
set_option maxRecDepth 100000 in
theorem f_141_33 : xft 141 33 = some (.iload_n 1) := by decide +kernel
set_option maxRecDepth 100000 in
theorem f_141_34 : xft 141 34 = some (.iload_n 2) := by decide +kernel
set_option maxRecDepth 100000 in
theorem f_141_35 : xft 141 35 = some (.iload 4) := by decide +kernel
set_option maxRecDepth 100000 in
theorem f_141_37 : xft 141 37 = some (.iload 6) := by decide +kernel
set_option maxRecDepth 100000 in
theorem f_141_39 : xft 141 39 = some (.invokevirtual 194) := by decide +kernel
set_option maxRecDepth 100000 in
theorem f_141_42 : xft 141 42 = some (.iadd) := by decide +kernel
set_option maxRecDepth 100000 in
theorem f_141_43 : xft 141 43 = some (.istore 5) := by decide +kernel
set_option maxRecDepth 100000 in
theorem f_141_45 : xft 141 45 = some (.iinc 6 1) := by decide +kernel
set_option maxRecDepth 100000 in
theorem f_141_48 : xft 141 48 = some (.goto (-25)) := by decide +kernel
set_option maxRecDepth 100000 in
theorem f_141_51 : xft 141 51 = some (.goto (-43)) := by decide +kernel
set_option maxRecDepth 100000 in
theorem f_141_54 : xft 141 54 = some (.iload 4) := by decide +kernel
set_option maxRecDepth 100000 in
theorem f_141_56 : xft 141 56 = some (.ireturn) := by decide +kernel
set_option maxRecDepth 100000 in
theorem f_142_0 : xft 142 0 = some (.aload_n 0) := by decide +kernel
set_option maxRecDepth 100000 in
theorem f_142_1 : xft 142 1 = some (.iload_n 1) := by decide +kernel
set_option maxRecDepth 100000 in
theorem f_142_2 : xft 142 2 = some (.invokestatic 178) := by decide +kernel
set_option maxRecDepth 100000 in
theorem f_142_5 : xft 142 5 = some (.ifCond .eq 15) := by decide +kernel
set_option maxRecDepth 100000 in
theorem f_142_8 : xft 142 8 = some (.iload_n 2) := by decide +kernel
set_option maxRecDepth 100000 in
theorem f_142_9 : xft 142 9 = some (.invokestatic 188) := by decide +kernel
set_option maxRecDepth 100000 in
theorem f_142_12 : xft 142 12 = some (.ifCond .eq 8) := by decide +kernel
set_option maxRecDepth 100000 in
theorem f_142_15 : xft 142 15 = some (.iload 4) := by decide +kernel
set_option maxRecDepth 100000 in
theorem f_142_17 : xft 142 17 = some (.ifCond .ne 7) := by decide +kernel
set_option maxRecDepth 100000 in
theorem f_142_20 : xft 142 20 = some (.iconst 1) := by decide +kernel
set_option maxRecDepth 100000 in
theorem f_142_21 : xft 142 21 = some (.goto 12) := by decide +kernel
set_option maxRecDepth 100000 in
theorem f_142_24 : xft 142 24 = some (.iload_n 3) := by decide +kernel
set_option maxRecDepth 100000 in
theorem f_142_25 : xft 142 25 = some (.ifCond .eq 7) := by decide +kernel
set_option maxRecDepth 100000 in
theorem f_142_28 : xft 142 28 = some (.iconst 0) := by decide +kernel
set_option maxRecDepth 100000 in
theorem f_142_29 : xft 142 29 = some (.goto 4) := by decide +kernel
set_option maxRecDepth 100000 in
theorem f_142_32 : xft 142 32 = some (.iconst 2) := by decide +kernel
set_option maxRecDepth 100000 in
theorem f_142_33 : xft 142 33 = some (.invokevirtual 98) := by decide +kernel
set_option maxRecDepth 100000 in
theorem f_142_36 : xft 142 36 = some (.ireturn) := by decide +kernel
set_option maxRecDepth 100000 in
theorem f_143_0 : xft 143 0 = some (.iload_n 0) := by decide +kernel
set_option maxRecDepth 100000 in
theorem f_143_1 : xft 143 1 = some (.iconst 1) := by decide +kernel
set_option maxRecDepth 100000 in
theorem f_143_2 : xft 143 2 = some (.sipush 3000) := by decide +kernel
set_option maxRecDepth 100000 in
theorem f_143_5 : xft 143 5 = some (.invokestatic 91) := by decide +kernel
set_option maxRecDepth 100000 in
theorem f_143_8 : xft 143 8 = some (.ireturn) := by decide +kernel
set_option maxRecDepth 100000 in
theorem f_144_0 : xft 144 0 = some (.aload_n 0) := by decide +kernel
set_option maxRecDepth 100000 in
theorem f_144_1 : xft 144 1 = some (.iload_n 1) := by decide +kernel
set_option maxRecDepth 100000 in
theorem f_144_2 : xft 144 2 = some (.iload_n 2) := by decide +kernel
set_option maxRecDepth 100000 in
theorem f_144_3 : xft 144 3 = some (.iload_n 3) := by decide +kernel
set_option maxRecDepth 100000 in
theorem f_144_4 : xft 144 4 = some (.invokestatic 198) := by decide +kernel
set_option maxRecDepth 100000 in
theorem f_144_7 : xft 144 7 = some (.iconst 1) := by decide +kernel
set_option maxRecDepth 100000 in
theorem f_144_8 : xft 144 8 = some (.invokevirtual 201) := by decide +kernel
set_option maxRecDepth 100000 in
theorem f_144_11 : xft 144 11 = some (.ifCond .eq 7) := by decide +kernel
set_option maxRecDepth 100000 in
theorem f_144_14 : xft 144 14 = some (.iconst 0) := by decide +kernel
set_option maxRecDepth 100000 in
theorem f_144_15 : xft 144 15 = some (.goto 10) := by decide +kernel
set_option maxRecDepth 100000 in
theorem f_144_18 : xft 144 18 = some (.aload_n 0) := by decide +kernel
set_option maxRecDepth 100000 in
theorem f_144_19 : xft 144 19 = some (.iload_n 1) := by decide +kernel
set_option maxRecDepth 100000 in
theorem f_144_20 : xft 144 20 = some (.iload_n 2) := by decide +kernel
set_option maxRecDepth 100000 in
theorem f_144_21 : xft 144 21 = some (.iload_n 3) := by decide +kernel
set_option maxRecDepth 100000 in
theorem f_144_22 : xft 144 22 = some (.invokevirtual 205) := by decide +kernel
set_option maxRecDepth 100000 in
theorem f_144_25 : xft 144 25 = some (.ireturn) := by decide +kernel
set_option maxRecDepth 100000 in
theorem f_145_0 : xft 145 0 = some (.aload_n 0) := by decide +kernel
set_option maxRecDepth 100000 in
theorem f_145_1 : xft 145 1 = some (.iload_n 1) := by decide +kernel
set_option maxRecDepth 100000 in
theorem f_145_2 : xft 145 2 = some (.iload_n 2) := by decide +kernel
set_option maxRecDepth 100000 in
theorem f_145_3 : xft 145 3 = some (.iload_n 3) := by decide +kernel
set_option maxRecDepth 100000 in
theorem f_145_4 : xft 145 4 = some (.invokevirtual 208) := by decide +kernel
set_option maxRecDepth 100000 in
theorem f_145_7 : xft 145 7 = some (.ireturn) := by decide +kernel
set_option maxRecDepth 100000 in
theorem f_146_0 : xft 146 0 = some (.aload_n 0) := by decide +kernel
set_option maxRecDepth 100000 in
theorem f_146_1 : xft 146 1 = some (.iload_n 1) := by decide +kernel
set_option maxRecDepth 100000 in
theorem f_146_2 : xft 146 2 = some (.iload_n 2) := by decide +kernel
set_option maxRecDepth 100000 in
theorem f_146_3 : xft 146 3 = some (.iload_n 3) := by decide +kernel
set_option maxRecDepth 100000 in
theorem f_146_4 : xft 146 4 = some (.invokestatic 198) := by decide +kernel
set_option maxRecDepth 100000 in
theorem f_146_7 : xft 146 7 = some (.iload 4) := by decide +kernel
set_option maxRecDepth 100000 in
theorem f_146_9 : xft 146 9 = some (.invokestatic 181) := by decide +kernel
set_option maxRecDepth 100000 in
theorem f_146_12 : xft 146 12 = some (.invokevirtual 201) := by decide +kernel
set_option maxRecDepth 100000 in
theorem f_146_15 : xft 146 15 = some (.ifCond .eq 7) := by decide +kernel
set_option maxRecDepth 100000 in
theorem f_146_18 : xft 146 18 = some (.iconst 0) := by decide +kernel
set_option maxRecDepth 100000 in
theorem f_146_19 : xft 146 19 = some (.goto 18) := by decide +kernel
set_option maxRecDepth 100000 in
theorem f_146_22 : xft 146 22 = some (.aload_n 0) := by decide +kernel
set_option maxRecDepth 100000 in
theorem f_146_23 : xft 146 23 = some (.iload_n 1) := by decide +kernel
set_option maxRecDepth 100000 in
theorem f_146_24 : xft 146 24 = some (.iload_n 2) := by decide +kernel
set_option maxRecDepth 100000 in
theorem f_146_25 : xft 146 25 = some (.aload_n 0) := by decide +kernel
set_option maxRecDepth 100000 in
theorem f_146_26 : xft 146 26 = some (.iload_n 1) := by decide +kernel
set_option maxRecDepth 100000 in
theorem f_146_27 : xft 146 27 = some (.iload_n 2) := by decide +kernel
set_option maxRecDepth 100000 in
theorem f_146_28 : xft 146 28 = some (.iload_n 3) := by decide +kernel
set_option maxRecDepth 100000 in
theorem f_146_29 : xft 146 29 = some (.invokevirtual 205) := by decide +kernel
set_option maxRecDepth 100000 in
theorem f_146_32 : xft 146 32 = some (.iload 4) := by decide +kernel
set_option maxRecDepth 100000 in
theorem f_146_34 : xft 146 34 = some (.invokevirtual 194) := by decide +kernel
set_option maxRecDepth 100000 in
theorem f_146_37 : xft 146 37 = some (.ireturn) := by decide +kernel
set_option maxRecDepth 100000 in
theorem f_147_0 : xft 147 0 = some (.aload_n 0) := by decide +kernel
set_option maxRecDepth 100000 in
theorem f_147_1 : xft 147 1 = some (.iload_n 1) := by decide +kernel
set_option maxRecDepth 100000 in
theorem f_147_2 : xft 147 2 = some (.iload_n 2) := by decide +kernel
set_option maxRecDepth 100000 in
theorem f_147_3 : xft 147 3 = some (.iload_n 3) := by decide +kernel
set_option maxRecDepth 100000 in
theorem f_147_4 : xft 147 4 = some (.invokestatic 198) := by decide +kernel
set_option maxRecDepth 100000 in
theorem f_147_7 : xft 147 7 = some (.iconst 1) := by decide +kernel
set_option maxRecDepth 100000 in
theorem f_147_8 : xft 147 8 = some (.invokevirtual 201) := by decide +kernel
set_option maxRecDepth 100000 in
theorem f_147_11 : xft 147 11 = some (.ifCond .eq 5) := by decide +kernel
set_option maxRecDepth 100000 in
theorem f_147_14 : xft 147 14 = some (.iconst 0) := by decide +kernel
set_option maxRecDepth 100000 in
theorem f_147_15 : xft 147 15 = some (.ireturn) := by decide +kernel
set_option maxRecDepth 100000 in
theorem f_147_16 : xft 147 16 = some (.aload_n 0) := by decide +kernel
set_option maxRecDepth 100000 in
theorem f_147_17 : xft 147 17 = some (.iload_n 1) := by decide +kernel
set_option maxRecDepth 100000 in
theorem f_147_18 : xft 147 18 = some (.iload_n 2) := by decide +kernel
set_option maxRecDepth 100000 in
theorem f_147_19 : xft 147 19 = some (.iload_n 3) := by decide +kernel
set_option maxRecDepth 100000 in
theorem f_147_20 : xft 147 20 = some (.invokevirtual 205) := by decide +kernel
set_option maxRecDepth 100000 in
theorem f_147_23 : xft 147 23 = some (.istore 4) := by decide +kernel
set_option maxRecDepth 100000 in
theorem f_147_25 : xft 147 25 = some (.iconst 0) := by decide +kernel
set_option maxRecDepth 100000 in
theorem f_147_26 : xft 147 26 = some (.istore 5) := by decide +kernel
set_option maxRecDepth 100000 in
theorem f_147_28 : xft 147 28 = some (.iconst 0) := by decide +kernel
set_option maxRecDepth 100000 in
theorem f_147_29 : xft 147 29 = some (.istore 6) := by decide +kernel
set_option maxRecDepth 100000 in
theorem f_147_31 : xft 147 31 = some (.iload 6) := by decide +kernel
set_option maxRecDepth 100000 in
theorem f_147_33 : xft 147 33 = some (.bipush 7) := by decide +kernel
set_option maxRecDepth 100000 in
theorem f_147_35 : xft 147 35 = some (.if_icmp .ge 35) := by decide +kernel
set_option maxRecDepth 100000 in
theorem f_147_38 : xft 147 38 = some (.iload 5) := by decide +kernel
set_option maxRecDepth 100000 in
theorem f_147_40 : xft 147 40 = some (.aload_n 0) := by decide +kernel
set_option maxRecDepth 100000 in
theorem f_147_41 : xft 147 41 = some (.iload_n 1) := by decide +kernel
set_option maxRecDepth 100000 in
theorem f_147_42 : xft 147 42 = some (.iload_n 2) := by decide +kernel
set_option maxRecDepth 100000 in
theorem f_147_43 : xft 147 43 = some (.iload 4) := by decide +kernel
set_option maxRecDepth 100000 in
theorem f_147_45 : xft 147 45 = some (.iload 6) := by decide +kernel
set_option maxRecDepth 100000 in
theorem f_147_47 : xft 147 47 = some (.invokevirtual 194) := by decide +kernel
set_option maxRecDepth 100000 in
theorem f_147_50 : xft 147 50 = some (.ifCond .le 10) := by decide +kernel
set_option maxRecDepth 100000 in
theorem f_147_53 : xft 147 53 = some (.iconst 1) := by decide +kernel
set_option maxRecDepth 100000 in
theorem f_147_54 : xft 147 54 = some (.iload 6) := by decide +kernel
set_option maxRecDepth 100000 in
theorem f_147_56 : xft 147 56 = some (.ishl) := by decide +kernel
set_option maxRecDepth 100000 in
theorem f_147_57 : xft 147 57 = some (.goto 4) := by decide +kernel
set_option maxRecDepth 100000 in
theorem f_147_60 : xft 147 60 = some (.iconst 0) := by decide +kernel
set_option maxRecDepth 100000 in
theorem f_147_61 : xft 147 61 = some (.ior) := by decide +kernel
set_option maxRecDepth 100000 in
theorem f_147_62 : xft 147 62 = some (.istore 5) := by decide +kernel
set_option maxRecDepth 100000 in
theorem f_147_64 : xft 147 64 = some (.iinc 6 1) := by decide +kernel
set_option maxRecDepth 100000 in
theorem f_147_67 : xft 147 67 = some (.goto (-36)) := by decide +kernel
set_option maxRecDepth 100000 in
theorem f_147_70 : xft 147 70 = some (.iconst 0) := by decide +kernel
set_option maxRecDepth 100000 in
theorem f_147_71 : xft 147 71 = some (.istore 6) := by decide +kernel
set_option maxRecDepth 100000 in
theorem f_147_73 : xft 147 73 = some (.iconst 0) := by decide +kernel
set_option maxRecDepth 100000 in
theorem f_147_74 : xft 147 74 = some (.istore 7) := by decide +kernel
set_option maxRecDepth 100000 in
theorem f_147_76 : xft 147 76 = some (.iload 7) := by decide +kernel
set_option maxRecDepth 100000 in
theorem f_147_78 : xft 147 78 = some (.bipush 7) := by decide +kernel
set_option maxRecDepth 100000 in
theorem f_147_80 : xft 147 80 = some (.if_icmp .ge 64) := by decide +kernel
set_option maxRecDepth 100000 in
theorem f_147_83 : xft 147 83 = some (.iload 5) := by decide +kernel
set_option maxRecDepth 100000 in
theorem f_147_85 : xft 147 85 = some (.iload 7) := by decide +kernel
set_option maxRecDepth 100000 in
theorem f_147_87 : xft 147 87 = some (.ishr) := by decide +kernel
set_option maxRecDepth 100000 in
theorem f_147_88 : xft 147 88 = some (.iconst 1) := by decide +kernel
set_option maxRecDepth 100000 in
theorem f_147_89 : xft 147 89 = some (.iand) := by decide +kernel
set_option maxRecDepth 100000 in
theorem f_147_90 : xft 147 90 = some (.ifCond .ne 27) := by decide +kernel
set_option maxRecDepth 100000 in
theorem f_147_93 : xft 147 93 = some (.iload 5) := by decide +kernel
set_option maxRecDepth 100000 in
theorem f_147_95 : xft 147 95 = some (.iconst 1) := by decide +kernel
set_option maxRecDepth 100000 in
theorem f_147_96 : xft 147 96 = some (.iload 7) := by decide +kernel
set_option maxRecDepth 100000 in
theorem f_147_98 : xft 147 98 = some (.ishl) := by decide +kernel
set_option maxRecDepth 100000 in
theorem f_147_99 : xft 147 99 = some (.iconst 1) := by decide +kernel
set_option maxRecDepth 100000 in
theorem f_147_100 : xft 147 100 = some (.isub) := by decide +kernel
set_option maxRecDepth 100000 in
theorem f_147_101 : xft 147 101 = some (.iand) := by decide +kernel
set_option maxRecDepth 100000 in
theorem f_147_102 : xft 147 102 = some (.ifCond .eq 15) := by decide +kernel
set_option maxRecDepth 100000 in
theorem f_147_105 : xft 147 105 = some (.iload 5) := by decide +kernel
set_option maxRecDepth 100000 in
theorem f_147_107 : xft 147 107 = some (.iload 7) := by decide +kernel
set_option maxRecDepth 100000 in
theorem f_147_109 : xft 147 109 = some (.ishr) := by decide +kernel
set_option maxRecDepth 100000 in
theorem f_147_110 : xft 147 110 = some (.ifCond .eq 7) := by decide +kernel
set_option maxRecDepth 100000 in
theorem f_147_113 : xft 147 113 = some (.iconst 1) := by decide +kernel
set_option maxRecDepth 100000 in
theorem f_147_114 : xft 147 114 = some (.goto 4) := by decide +kernel
set_option maxRecDepth 100000 in
theorem f_147_117 : xft 147 117 = some (.iconst 0) := by decide +kernel
set_option maxRecDepth 100000 in
theorem f_147_118 : xft 147 118 = some (.istore 8) := by decide +kernel
set_option maxRecDepth 100000 in
theorem f_147_120 : xft 147 120 = some (.iload 6) := by decide +kernel
set_option maxRecDepth 100000 in
theorem f_147_122 : xft 147 122 = some (.iload 8) := by decide +kernel
set_option maxRecDepth 100000 in
theorem f_147_124 : xft 147 124 = some (.ifCond .eq 10) := by decide +kernel
set_option maxRecDepth 100000 in
theorem f_147_127 : xft 147 127 = some (.iconst 1) := by decide +kernel
set_option maxRecDepth 100000 in
theorem f_147_128 : xft 147 128 = some (.iload 7) := by decide +kernel
set_option maxRecDepth 100000 in
theorem f_147_130 : xft 147 130 = some (.ishl) := by decide +kernel
set_option maxRecDepth 100000 in
theorem f_147_131 : xft 147 131 = some (.goto 4) := by decide +kernel
set_option maxRecDepth 100000 in
theorem f_147_134 : xft 147 134 = some (.iconst 0) := by decide +kernel
set_option maxRecDepth 100000 in
theorem f_147_135 : xft 147 135 = some (.ior) := by decide +kernel
set_option maxRecDepth 100000 in
theorem f_147_136 : xft 147 136 = some (.istore 6) := by decide +kernel
set_option maxRecDepth 100000 in
theorem f_147_138 : xft 147 138 = some (.iinc 7 1) := by decide +kernel
set_option maxRecDepth 100000 in
theorem f_147_141 : xft 147 141 = some (.goto (-65)) := by decide +kernel
set_option maxRecDepth 100000 in
theorem f_147_144 : xft 147 144 = some (.iload 6) := by decide +kernel
set_option maxRecDepth 100000 in
theorem f_147_146 : xft 147 146 = some (.ireturn) := by decide +kernel
set_option maxRecDepth 100000 in
theorem f_148_0 : xft 148 0 = some (.iconst 0) := by decide +kernel
set_option maxRecDepth 100000 in
theorem f_148_1 : xft 148 1 = some (.istore_n 2) := by decide +kernel
set_option maxRecDepth 100000 in
theorem f_148_2 : xft 148 2 = some (.iconst 0) := by decide +kernel
set_option maxRecDepth 100000 in
theorem f_148_3 : xft 148 3 = some (.istore_n 3) := by decide +kernel
set_option maxRecDepth 100000 in
theorem f_148_4 : xft 148 4 = some (.iload_n 3) := by decide +kernel
set_option maxRecDepth 100000 in
theorem f_148_5 : xft 148 5 = some (.bipush 7) := by decide +kernel
set_option maxRecDepth 100000 in
theorem f_148_7 : xft 148 7 = some (.if_icmp .ge 35) := by decide +kernel
set_option maxRecDepth 100000 in
theorem f_148_10 : xft 148 10 = some (.iload_n 2) := by decide +kernel
set_option maxRecDepth 100000 in
theorem f_148_11 : xft 148 11 = some (.ifCond .ne 19) := by decide +kernel
set_option maxRecDepth 100000 in
theorem f_148_14 : xft 148 14 = some (.aload_n 0) := by decide +kernel
set_option maxRecDepth 100000 in
theorem f_148_15 : xft 148 15 = some (.getfield 72) := by decide +kernel
set_option maxRecDepth 100000 in
theorem f_148_18 : xft 148 18 = some (.bipush 7) := by decide +kernel
set_option maxRecDepth 100000 in
theorem f_148_20 : xft 148 20 = some (.iload_n 1) := by decide +kernel
set_option maxRecDepth 100000 in
theorem f_148_21 : xft 148 21 = some (.imul) := by decide +kernel
set_option maxRecDepth 100000 in
theorem f_148_22 : xft 148 22 = some (.iload_n 3) := by decide +kernel
set_option maxRecDepth 100000 in
theorem f_148_23 : xft 148 23 = some (.iadd) := by decide +kernel
set_option maxRecDepth 100000 in
theorem f_148_24 : xft 148 24 = some (.iaload) := by decide +kernel
set_option maxRecDepth 100000 in
theorem f_148_25 : xft 148 25 = some (.bipush 100) := by decide +kernel
set_option maxRecDepth 100000 in
theorem f_148_27 : xft 148 27 = some (.if_icmp .lt 7) := by decide +kernel
set_option maxRecDepth 100000 in
theorem f_148_30 : xft 148 30 = some (.iconst 1) := by decide +kernel
set_option maxRecDepth 100000 in
theorem f_148_31 : xft 148 31 = some (.goto 4) := by decide +kernel
set_option maxRecDepth 100000 in
theorem f_148_34 : xft 148 34 = some (.iconst 0) := by decide +kernel
set_option maxRecDepth 100000 in
theorem f_148_35 : xft 148 35 = some (.istore_n 2) := by decide +kernel
set_option maxRecDepth 100000 in
theorem f_148_36 : xft 148 36 = some (.iinc 3 1) := by decide +kernel
set_option maxRecDepth 100000 in
theorem f_148_39 : xft 148 39 = some (.goto (-35)) := by decide +kernel
set_option maxRecDepth 100000 in
theorem f_148_42 : xft 148 42 = some (.iload_n 2) := by decide +kernel
set_option maxRecDepth 100000 in
theorem f_148_43 : xft 148 43 = some (.ireturn) := by decide +kernel
set_option maxRecDepth 100000 in
theorem f_149_0 : xft 149 0 = some (.iload 4) := by decide +kernel
set_option maxRecDepth 100000 in
theorem f_149_2 : xft 149 2 = some (.iconst 1) := by decide +kernel
set_option maxRecDepth 100000 in
theorem f_149_3 : xft 149 3 = some (.sipush 1000) := by decide +kernel
set_option maxRecDepth 100000 in
theorem f_149_6 : xft 149 6 = some (.invokestatic 91) := by decide +kernel
set_option maxRecDepth 100000 in
theorem f_149_9 : xft 149 9 = some (.ifCond .eq 28) := by decide +kernel
set_option maxRecDepth 100000 in
theorem f_149_12 : xft 149 12 = some (.iload 5) := by decide +kernel
set_option maxRecDepth 100000 in
theorem f_149_14 : xft 149 14 = some (.iconst 1) := by decide +kernel
set_option maxRecDepth 100000 in
theorem f_149_15 : xft 149 15 = some (.iconst 3) := by decide +kernel
set_option maxRecDepth 100000 in
theorem f_149_16 : xft 149 16 = some (.invokestatic 91) := by decide +kernel
set_option maxRecDepth 100000 in
theorem f_149_19 : xft 149 19 = some (.ifCond .eq 18) := by decide +kernel
set_option maxRecDepth 100000 in
theorem f_149_22 : xft 149 22 = some (.iload 6) := by decide +kernel
set_option maxRecDepth 100000 in
theorem f_149_24 : xft 149 24 = some (.iconst 1) := by decide +kernel
set_option maxRecDepth 100000 in
theorem f_149_25 : xft 149 25 = some (.bipush 10) := by decide +kernel
set_option maxRecDepth 100000 in
theorem f_149_27 : xft 149 27 = some (.invokestatic 91) := by decide +kernel
set_option maxRecDepth 100000 in
theorem f_149_30 : xft 149 30 = some (.ifCond .eq 7) := by decide +kernel
set_option maxRecDepth 100000 in
theorem f_149_33 : xft 149 33 = some (.iconst 1) := by decide +kernel
set_option maxRecDepth 100000 in
theorem f_149_34 : xft 149 34 = some (.goto 4) := by decide +kernel
set_option maxRecDepth 100000 in
theorem f_149_37 : xft 149 37 = some (.iconst 0) := by decide +kernel
set_option maxRecDepth 100000 in
theorem f_149_38 : xft 149 38 = some (.istore 7) := by decide +kernel
set_option maxRecDepth 100000 in
theorem f_149_40 : xft 149 40 = some (.iload_n 1) := by decide +kernel
set_option maxRecDepth 100000 in
theorem f_149_41 : xft 149 41 = some (.invokestatic 178) := by decide +kernel
set_option maxRecDepth 100000 in
theorem f_149_44 : xft 149 44 = some (.ifCond .eq 23) := by decide +kernel
set_option maxRecDepth 100000 in
theorem f_149_47 : xft 149 47 = some (.iload_n 2) := by decide +kernel
set_option maxRecDepth 100000 in
theorem f_149_48 : xft 149 48 = some (.invokestatic 188) := by decide +kernel
set_option maxRecDepth 100000 in
theorem f_149_51 : xft 149 51 = some (.ifCond .eq 16) := by decide +kernel
set_option maxRecDepth 100000 in
theorem f_149_54 : xft 149 54 = some (.iload_n 3) := by decide +kernel
set_option maxRecDepth 100000 in
theorem f_149_55 : xft 149 55 = some (.iconst 0) := by decide +kernel
set_option maxRecDepth 100000 in
theorem f_149_56 : xft 149 56 = some (.iconst 3) := by decide +kernel
set_option maxRecDepth 100000 in
theorem f_149_57 : xft 149 57 = some (.invokestatic 91) := by decide +kernel
set_option maxRecDepth 100000 in
theorem f_149_60 : xft 149 60 = some (.ifCond .eq 7) := by decide +kernel
set_option maxRecDepth 100000 in
theorem f_149_63 : xft 149 63 = some (.iconst 1) := by decide +kernel
set_option maxRecDepth 100000 in
theorem f_149_64 : xft 149 64 = some (.goto 4) := by decide +kernel
set_option maxRecDepth 100000 in
theorem f_149_67 : xft 149 67 = some (.iconst 0) := by decide +kernel
set_option maxRecDepth 100000 in
theorem f_149_68 : xft 149 68 = some (.istore 8) := by decide +kernel
set_option maxRecDepth 100000 in
theorem f_149_70 : xft 149 70 = some (.aload_n 0) := by decide +kernel
set_option maxRecDepth 100000 in
theorem f_149_71 : xft 149 71 = some (.iload 8) := by decide +kernel
set_option maxRecDepth 100000 in
theorem f_149_73 : xft 149 73 = some (.ifCond .ne 7) := by decide +kernel
set_option maxRecDepth 100000 in
theorem f_149_76 : xft 149 76 = some (.iconst 1) := by decide +kernel
set_option maxRecDepth 100000 in
theorem f_149_77 : xft 149 77 = some (.goto 34) := by decide +kernel
set_option maxRecDepth 100000 in
theorem f_149_80 : xft 149 80 = some (.iload 7) := by decide +kernel
set_option maxRecDepth 100000 in
theorem f_149_82 : xft 149 82 = some (.ifCond .ne 7) := by decide +kernel
set_option maxRecDepth 100000 in
theorem f_149_85 : xft 149 85 = some (.iconst 2) := by decide +kernel
set_option maxRecDepth 100000 in
theorem f_149_86 : xft 149 86 = some (.goto 25) := by decide +kernel
set_option maxRecDepth 100000 in
theorem f_149_89 : xft 149 89 = some (.aload_n 0) := by decide +kernel
set_option maxRecDepth 100000 in
theorem f_149_90 : xft 149 90 = some (.iload_n 1) := by decide +kernel
set_option maxRecDepth 100000 in
theorem f_149_91 : xft 149 91 = some (.invokevirtual 211) := by decide +kernel
set_option maxRecDepth 100000 in
theorem f_149_94 : xft 149 94 = some (.ifCond .ne 12) := by decide +kernel
set_option maxRecDepth 100000 in
theorem f_149_97 : xft 149 97 = some (.aload_n 0) := by decide +kernel
set_option maxRecDepth 100000 in
theorem f_149_98 : xft 149 98 = some (.getfield 214) := by decide +kernel
set_option maxRecDepth 100000 in
theorem f_149_101 : xft 149 101 = some (.bipush 60) := by decide +kernel
set_option maxRecDepth 100000 in
theorem f_149_103 : xft 149 103 = some (.if_icmp .ne 7) := by decide +kernel
set_option maxRecDepth 100000 in
theorem f_149_106 : xft 149 106 = some (.iconst 3) := by decide +kernel
set_option maxRecDepth 100000 in
theorem f_149_107 : xft 149 107 = some (.goto 4) := by decide +kernel
set_option maxRecDepth 100000 in
theorem f_149_110 : xft 149 110 = some (.iconst 0) := by decide +kernel
set_option maxRecDepth 100000 in
theorem f_149_111 : xft 149 111 = some (.invokevirtual 98) := by decide +kernel
set_option maxRecDepth 100000 in
theorem f_149_114 : xft 149 114 = some (.ifCond .eq 5) := by decide +kernel
set_option maxRecDepth 100000 in
theorem f_149_117 : xft 149 117 = some (.iconst 0) := by decide +kernel
set_option maxRecDepth 100000 in
theorem f_149_118 : xft 149 118 = some (.ireturn) := by decide +kernel
set_option maxRecDepth 100000 in
theorem f_149_119 : xft 149 119 = some (.aload_n 0) := by decide +kernel
set_option maxRecDepth 100000 in
theorem f_149_120 : xft 149 120 = some (.iload_n 1) := by decide +kernel
set_option maxRecDepth 100000 in
theorem f_149_121 : xft 149 121 = some (.iload_n 2) := by decide +kernel
set_option maxRecDepth 100000 in
theorem f_149_122 : xft 149 122 = some (.iload 4) := by decide +kernel
set_option maxRecDepth 100000 in
theorem f_149_124 : xft 149 124 = some (.iload 5) := by decide +kernel
set_option maxRecDepth 100000 in
theorem f_149_126 : xft 149 126 = some (.imul) := by decide +kernel
set_option maxRecDepth 100000 in
theorem f_149_127 : xft 149 127 = some (.invokevirtual 205) := by decide +kernel
set_option maxRecDepth 100000 in
theorem f_149_130 : xft 149 130 = some (.istore 9) := by decide +kernel
set_option maxRecDepth 100000 in
theorem f_149_132 : xft 149 132 = some (.iconst 0) := by decide +kernel
set_option maxRecDepth 100000 in
theorem f_149_133 : xft 149 133 = some (.istore 10) := by decide +kernel
set_option maxRecDepth 100000 in
theorem f_149_135 : xft 149 135 = some (.iconst 0) := by decide +kernel
set_option maxRecDepth 100000 in
theorem f_149_136 : xft 149 136 = some (.istore 11) := by decide +kernel
set_option maxRecDepth 100000 in
theorem f_149_138 : xft 149 138 = some (.iload 11) := by decide +kernel
set_option maxRecDepth 100000 in
theorem f_149_140 : xft 149 140 = some (.bipush 7) := by decide +kernel
set_option maxRecDepth 100000 in
theorem f_149_142 : xft 149 142 = some (.if_icmp .ge 172) := by decide +kernel
set_option maxRecDepth 100000 in
theorem f_149_145 : xft 149 145 = some (.aload_n 0) := by decide +kernel
set_option maxRecDepth 100000 in
theorem f_149_146 : xft 149 146 = some (.iload_n 1) := by decide +kernel
set_option maxRecDepth 100000 in
theorem f_149_147 : xft 149 147 = some (.iload_n 2) := by decide +kernel
set_option maxRecDepth 100000 in
theorem f_149_148 : xft 149 148 = some (.iload 9) := by decide +kernel
set_option maxRecDepth 100000 in
theorem f_149_150 : xft 149 150 = some (.iload 11) := by decide +kernel
set_option maxRecDepth 100000 in
theorem f_149_152 : xft 149 152 = some (.invokevirtual 194) := by decide +kernel
set_option maxRecDepth 100000 in
theorem f_149_155 : xft 149 155 = some (.istore 12) := by decide +kernel
set_option maxRecDepth 100000 in
theorem f_149_157 : xft 149 157 = some (.iload 12) := by decide +kernel
set_option maxRecDepth 100000 in
theorem f_149_159 : xft 149 159 = some (.bipush 40) := by decide +kernel
set_option maxRecDepth 100000 in
theorem f_149_161 : xft 149 161 = some (.if_icmp .le 14) := by decide +kernel
set_option maxRecDepth 100000 in
theorem f_149_164 : xft 149 164 = some (.iload 12) := by decide +kernel
set_option maxRecDepth 100000 in
theorem f_149_166 : xft 149 166 = some (.bipush 40) := by decide +kernel
set_option maxRecDepth 100000 in
theorem f_149_168 : xft 149 168 = some (.isub) := by decide +kernel
set_option maxRecDepth 100000 in
theorem f_149_169 : xft 149 169 = some (.iload 6) := by decide +kernel
set_option maxRecDepth 100000 in
theorem f_149_171 : xft 149 171 = some (.imul) := by decide +kernel
set_option maxRecDepth 100000 in
theorem f_149_172 : xft 149 172 = some (.goto 4) := by decide +kernel
set_option maxRecDepth 100000 in
theorem f_149_175 : xft 149 175 = some (.iconst 0) := by decide +kernel
set_option maxRecDepth 100000 in
theorem f_149_176 : xft 149 176 = some (.istore 13) := by decide +kernel
set_option maxRecDepth 100000 in
theorem f_149_178 : xft 149 178 = some (.bipush 7) := by decide +kernel
set_option maxRecDepth 100000 in
theorem f_149_180 : xft 149 180 = some (.iload_n 1) := by decide +kernel
set_option maxRecDepth 100000 in
theorem f_149_181 : xft 149 181 = some (.imul) := by decide +kernel
set_option maxRecDepth 100000 in
theorem f_149_182 : xft 149 182 = some (.iload 11) := by decide +kernel
set_option maxRecDepth 100000 in
theorem f_149_184 : xft 149 184 = some (.iadd) := by decide +kernel
set_option maxRecDepth 100000 in
theorem f_149_185 : xft 149 185 = some (.istore 14) := by decide +kernel
set_option maxRecDepth 100000 in
theorem f_149_187 : xft 149 187 = some (.iload 10) := by decide +kernel
set_option maxRecDepth 100000 in
theorem f_149_189 : xft 149 189 = some (.iload 12) := by decide +kernel
set_option maxRecDepth 100000 in
theorem f_149_191 : xft 149 191 = some (.bipush 40) := by decide +kernel
set_option maxRecDepth 100000 in
theorem f_149_193 : xft 149 193 = some (.if_icmp .le 7) := by decide +kernel
set_option maxRecDepth 100000 in
theorem f_149_196 : xft 149 196 = some (.iconst 1) := by decide +kernel
set_option maxRecDepth 100000 in
theorem f_149_197 : xft 149 197 = some (.goto 4) := by decide +kernel
set_option maxRecDepth 100000 in
theorem f_149_200 : xft 149 200 = some (.iconst 0) := by decide +kernel
set_option maxRecDepth 100000 in
theorem f_149_201 : xft 149 201 = some (.iadd) := by decide +kernel
set_option maxRecDepth 100000 in
theorem f_149_202 : xft 149 202 = some (.istore 10) := by decide +kernel
set_option maxRecDepth 100000 in
theorem f_149_204 : xft 149 204 = some (.aload_n 0) := by decide +kernel
set_option maxRecDepth 100000 in
theorem f_149_205 : xft 149 205 = some (.getfield 72) := by decide +kernel
set_option maxRecDepth 100000 in
theorem f_149_208 : xft 149 208 = some (.iload 14) := by decide +kernel
set_option maxRecDepth 100000 in
theorem f_149_210 : xft 149 210 = some (.dup2) := by decide +kernel
set_option maxRecDepth 100000 in
theorem f_149_211 : xft 149 211 = some (.iaload) := by decide +kernel
set_option maxRecDepth 100000 in
theorem f_149_212 : xft 149 212 = some (.iload 13) := by decide +kernel
set_option maxRecDepth 100000 in
theorem f_149_214 : xft 149 214 = some (.iadd) := by decide +kernel
set_option maxRecDepth 100000 in
theorem f_149_215 : xft 149 215 = some (.iastore) := by decide +kernel
set_option maxRecDepth 100000 in
theorem f_149_216 : xft 149 216 = some (.aload_n 0) := by decide +kernel
set_option maxRecDepth 100000 in
theorem f_149_217 : xft 149 217 = some (.getfield 75) := by decide +kernel
set_option maxRecDepth 100000 in
theorem f_149_220 : xft 149 220 = some (.bipush 6) := by decide +kernel
set_option maxRecDepth 100000 in
theorem f_149_222 : xft 149 222 = some (.iload 14) := by decide +kernel
set_option maxRecDepth 100000 in
theorem f_149_224 : xft 149 224 = some (.imul) := by decide +kernel
set_option maxRecDepth 100000 in
theorem f_149_225 : xft 149 225 = some (.iload_n 2) := by decide +kernel
set_option maxRecDepth 100000 in
theorem f_149_226 : xft 149 226 = some (.iadd) := by decide +kernel
set_option maxRecDepth 100000 in
theorem f_149_227 : xft 149 227 = some (.dup2) := by decide +kernel
set_option maxRecDepth 100000 in
theorem f_149_228 : xft 149 228 = some (.iaload) := by decide +kernel
set_option maxRecDepth 100000 in
theorem f_149_229 : xft 149 229 = some (.iload 13) := by decide +kernel
set_option maxRecDepth 100000 in
theorem f_149_231 : xft 149 231 = some (.iadd) := by decide +kernel
set_option maxRecDepth 100000 in
theorem f_149_232 : xft 149 232 = some (.iastore) := by decide +kernel
set_option maxRecDepth 100000 in
theorem f_149_233 : xft 149 233 = some (.aload_n 0) := by decide +kernel
set_option maxRecDepth 100000 in
theorem f_149_234 : xft 149 234 = some (.getfield 78) := by decide +kernel
set_option maxRecDepth 100000 in
theorem f_149_237 : xft 149 237 = some (.iconst 4) := by decide +kernel
set_option maxRecDepth 100000 in
theorem f_149_238 : xft 149 238 = some (.iload 14) := by decide +kernel
set_option maxRecDepth 100000 in
theorem f_149_240 : xft 149 240 = some (.imul) := by decide +kernel
set_option maxRecDepth 100000 in
theorem f_149_241 : xft 149 241 = some (.iload_n 3) := by decide +kernel
set_option maxRecDepth 100000 in
theorem f_149_242 : xft 149 242 = some (.iadd) := by decide +kernel
set_option maxRecDepth 100000 in
theorem f_149_243 : xft 149 243 = some (.dup2) := by decide +kernel
set_option maxRecDepth 100000 in
theorem f_149_244 : xft 149 244 = some (.iaload) := by decide +kernel
set_option maxRecDepth 100000 in
theorem f_149_245 : xft 149 245 = some (.iload 13) := by decide +kernel
set_option maxRecDepth 100000 in
theorem f_149_247 : xft 149 247 = some (.iadd) := by decide +kernel
set_option maxRecDepth 100000 in
theorem f_149_248 : xft 149 248 = some (.iastore) := by decide +kernel
set_option maxRecDepth 100000 in
theorem f_149_249 : xft 149 249 = some (.aload_n 0) := by decide +kernel
set_option maxRecDepth 100000 in
theorem f_149_250 : xft 149 250 = some (.getfield 81) := by decide +kernel
set_option maxRecDepth 100000 in
theorem f_149_253 : xft 149 253 = some (.iconst 4) := by decide +kernel
set_option maxRecDepth 100000 in
theorem f_149_254 : xft 149 254 = some (.iload 14) := by decide +kernel
set_option maxRecDepth 100000 in
theorem f_149_256 : xft 149 256 = some (.imul) := by decide +kernel
set_option maxRecDepth 100000 in
theorem f_149_257 : xft 149 257 = some (.iload 5) := by decide +kernel
set_option maxRecDepth 100000 in
theorem f_149_259 : xft 149 259 = some (.iadd) := by decide +kernel
set_option maxRecDepth 100000 in
theorem f_149_260 : xft 149 260 = some (.dup2) := by decide +kernel
set_option maxRecDepth 100000 in
theorem f_149_261 : xft 149 261 = some (.iaload) := by decide +kernel
set_option maxRecDepth 100000 in
theorem f_149_262 : xft 149 262 = some (.iload 13) := by decide +kernel
set_option maxRecDepth 100000 in
theorem f_149_264 : xft 149 264 = some (.iadd) := by decide +kernel
set_option maxRecDepth 100000 in
theorem f_149_265 : xft 149 265 = some (.iastore) := by decide +kernel
set_option maxRecDepth 100000 in
theorem f_149_266 : xft 149 266 = some (.aload_n 0) := by decide +kernel
set_option maxRecDepth 100000 in
theorem f_149_267 : xft 149 267 = some (.getfield 69) := by decide +kernel
set_option maxRecDepth 100000 in
theorem f_149_270 : xft 149 270 = some (.bipush 7) := by decide +kernel
set_option maxRecDepth 100000 in
theorem f_149_272 : xft 149 272 = some (.iload_n 2) := by decide +kernel
set_option maxRecDepth 100000 in
theorem f_149_273 : xft 149 273 = some (.imul) := by decide +kernel
set_option maxRecDepth 100000 in
theorem f_149_274 : xft 149 274 = some (.iload 11) := by decide +kernel
set_option maxRecDepth 100000 in
theorem f_149_276 : xft 149 276 = some (.iadd) := by decide +kernel
set_option maxRecDepth 100000 in
theorem f_149_277 : xft 149 277 = some (.dup2) := by decide +kernel
set_option maxRecDepth 100000 in
theorem f_149_278 : xft 149 278 = some (.iaload) := by decide +kernel
set_option maxRecDepth 100000 in
theorem f_149_279 : xft 149 279 = some (.iload 12) := by decide +kernel
set_option maxRecDepth 100000 in
theorem f_149_281 : xft 149 281 = some (.bipush 20) := by decide +kernel
set_option maxRecDepth 100000 in
theorem f_149_283 : xft 149 283 = some (.if_icmp .le 22) := by decide +kernel
set_option maxRecDepth 100000 in
theorem f_149_286 : xft 149 286 = some (.aload_n 0) := by decide +kernel
set_option maxRecDepth 100000 in
theorem f_149_287 : xft 149 287 = some (.getfield 69) := by decide +kernel
set_option maxRecDepth 100000 in
theorem f_149_290 : xft 149 290 = some (.bipush 7) := by decide +kernel
set_option maxRecDepth 100000 in
theorem f_149_292 : xft 149 292 = some (.iload_n 2) := by decide +kernel
set_option maxRecDepth 100000 in
theorem f_149_293 : xft 149 293 = some (.imul) := by decide +kernel
set_option maxRecDepth 100000 in
theorem f_149_294 : xft 149 294 = some (.iload 11) := by decide +kernel
set_option maxRecDepth 100000 in
theorem f_149_296 : xft 149 296 = some (.iadd) := by decide +kernel
set_option maxRecDepth 100000 in
theorem f_149_297 : xft 149 297 = some (.iaload) := by decide +kernel
set_option maxRecDepth 100000 in
theorem f_149_298 : xft 149 298 = some (.ifCond .le 7) := by decide +kernel
set_option maxRecDepth 100000 in
theorem f_149_301 : xft 149 301 = some (.iconst 1) := by decide +kernel
set_option maxRecDepth 100000 in
theorem f_149_302 : xft 149 302 = some (.goto 4) := by decide +kernel
set_option maxRecDepth 100000 in
theorem f_149_305 : xft 149 305 = some (.iconst 0) := by decide +kernel
set_option maxRecDepth 100000 in
theorem f_149_306 : xft 149 306 = some (.isub) := by decide +kernel
set_option maxRecDepth 100000 in
theorem f_149_307 : xft 149 307 = some (.iastore) := by decide +kernel
set_option maxRecDepth 100000 in
theorem f_149_308 : xft 149 308 = some (.iinc 11 1) := by decide +kernel
set_option maxRecDepth 100000 in
theorem f_149_311 : xft 149 311 = some (.goto (-173)) := by decide +kernel
set_option maxRecDepth 100000 in
theorem f_149_314 : xft 149 314 = some (.aload_n 0) := by decide +kernel
set_option maxRecDepth 100000 in
theorem f_149_315 : xft 149 315 = some (.dup) := by decide +kernel
set_option maxRecDepth 100000 in
theorem f_149_316 : xft 149 316 = some (.getfield 214) := by decide +kernel
set_option maxRecDepth 100000 in
theorem f_149_319 : xft 149 319 = some (.iconst 1) := by decide +kernel
set_option maxRecDepth 100000 in
theorem f_149_320 : xft 149 320 = some (.iadd) := by decide +kernel
set_option maxRecDepth 100000 in
theorem f_149_321 : xft 149 321 = some (.putfield 214) := by decide +kernel
set_option maxRecDepth 100000 in
theorem f_149_324 : xft 149 324 = some (.iload 10) := by decide +kernel
set_option maxRecDepth 100000 in
theorem f_149_326 : xft 149 326 = some (.ireturn) := by decide +kernel
set_option maxRecDepth 100000 in
theorem f_150_0 : xft 150 0 = some (.aload_n 0) := by decide +kernel
set_option maxRecDepth 100000 in
theorem f_150_1 : xft 150 1 = some (.iload_n 1) := by decide +kernel
set_option maxRecDepth 100000 in
theorem f_150_2 : xft 150 2 = some (.iconst 1) := by decide +kernel
set_option maxRecDepth 100000 in
theorem f_150_3 : xft 150 3 = some (.bipush 100) := by decide +kernel
set_option maxRecDepth 100000 in
theorem f_150_5 : xft 150 5 = some (.invokestatic 91) := by decide +kernel
set_option maxRecDepth 100000 in
theorem f_150_8 : xft 150 8 = some (.ifCond .eq 7) := by decide +kernel
set_option maxRecDepth 100000 in
theorem f_150_11 : xft 150 11 = some (.iconst 0) := by decide +kernel
set_option maxRecDepth 100000 in
theorem f_150_12 : xft 150 12 = some (.goto 4) := by decide +kernel
set_option maxRecDepth 100000 in
theorem f_150_15 : xft 150 15 = some (.iconst 1) := by decide +kernel
set_option maxRecDepth 100000 in
theorem f_150_16 : xft 150 16 = some (.invokevirtual 98) := by decide +kernel
set_option maxRecDepth 100000 in
theorem f_150_19 : xft 150 19 = some (.ifCond .eq 5) := by decide +kernel
set_option maxRecDepth 100000 in
theorem f_150_22 : xft 150 22 = some (.iconst 0) := by decide +kernel
set_option maxRecDepth 100000 in
theorem f_150_23 : xft 150 23 = some (.ireturn) := by decide +kernel
set_option maxRecDepth 100000 in
theorem f_150_24 : xft 150 24 = some (.iconst 0) := by decide +kernel
set_option maxRecDepth 100000 in
theorem f_150_25 : xft 150 25 = some (.istore_n 2) := by decide +kernel
set_option maxRecDepth 100000 in
theorem f_150_26 : xft 150 26 = some (.iload_n 2) := by decide +kernel
set_option maxRecDepth 100000 in
theorem f_150_27 : xft 150 27 = some (.bipush 42) := by decide +kernel
set_option maxRecDepth 100000 in
theorem f_150_29 : xft 150 29 = some (.if_icmp .ge 43) := by decide +kernel
set_option maxRecDepth 100000 in
theorem f_150_32 : xft 150 32 = some (.aload_n 0) := by decide +kernel
set_option maxRecDepth 100000 in
theorem f_150_33 : xft 150 33 = some (.getfield 72) := by decide +kernel
set_option maxRecDepth 100000 in
theorem f_150_36 : xft 150 36 = some (.iload_n 2) := by decide +kernel
set_option maxRecDepth 100000 in
theorem f_150_37 : xft 150 37 = some (.aload_n 0) := by decide +kernel
set_option maxRecDepth 100000 in
theorem f_150_38 : xft 150 38 = some (.getfield 72) := by decide +kernel
set_option maxRecDepth 100000 in
theorem f_150_41 : xft 150 41 = some (.iload_n 2) := by decide +kernel
set_option maxRecDepth 100000 in
theorem f_150_42 : xft 150 42 = some (.iaload) := by decide +kernel
set_option maxRecDepth 100000 in
theorem f_150_43 : xft 150 43 = some (.bipush 10) := by decide +kernel
set_option maxRecDepth 100000 in
theorem f_150_45 : xft 150 45 = some (.iload_n 1) := by decide +kernel
set_option maxRecDepth 100000 in
theorem f_150_46 : xft 150 46 = some (.imul) := by decide +kernel
set_option maxRecDepth 100000 in
theorem f_150_47 : xft 150 47 = some (.if_icmp .le 17) := by decide +kernel
set_option maxRecDepth 100000 in
theorem f_150_50 : xft 150 50 = some (.aload_n 0) := by decide +kernel
set_option maxRecDepth 100000 in
theorem f_150_51 : xft 150 51 = some (.getfield 72) := by decide +kernel
set_option maxRecDepth 100000 in
theorem f_150_54 : xft 150 54 = some (.iload_n 2) := by decide +kernel
set_option maxRecDepth 100000 in
theorem f_150_55 : xft 150 55 = some (.iaload) := by decide +kernel
set_option maxRecDepth 100000 in
theorem f_150_56 : xft 150 56 = some (.bipush 10) := by decide +kernel
set_option maxRecDepth 100000 in
theorem f_150_58 : xft 150 58 = some (.iload_n 1) := by decide +kernel
set_option maxRecDepth 100000 in
theorem f_150_59 : xft 150 59 = some (.imul) := by decide +kernel
set_option maxRecDepth 100000 in
theorem f_150_60 : xft 150 60 = some (.isub) := by decide +kernel
set_option maxRecDepth 100000 in
theorem f_150_61 : xft 150 61 = some (.goto 4) := by decide +kernel
set_option maxRecDepth 100000 in
theorem f_150_64 : xft 150 64 = some (.iconst 0) := by decide +kernel
set_option maxRecDepth 100000 in
theorem f_150_65 : xft 150 65 = some (.iastore) := by decide +kernel
set_option maxRecDepth 100000 in
theorem f_150_66 : xft 150 66 = some (.iinc 2 1) := by decide +kernel
set_option maxRecDepth 100000 in
theorem f_150_69 : xft 150 69 = some (.goto (-43)) := by decide +kernel
set_option maxRecDepth 100000 in
theorem f_150_72 : xft 150 72 = some (.iconst 0) := by decide +kernel
set_option maxRecDepth 100000 in
theorem f_150_73 : xft 150 73 = some (.istore_n 2) := by decide +kernel
set_option maxRecDepth 100000 in
theorem f_150_74 : xft 150 74 = some (.iconst 0) := by decide +kernel
set_option maxRecDepth 100000 in
theorem f_150_75 : xft 150 75 = some (.istore_n 3) := by decide +kernel
set_option maxRecDepth 100000 in
theorem f_150_76 : xft 150 76 = some (.iload_n 3) := by decide +kernel
set_option maxRecDepth 100000 in
theorem f_150_77 : xft 150 77 = some (.bipush 6) := by decide +kernel
set_option maxRecDepth 100000 in
theorem f_150_79 : xft 150 79 = some (.if_icmp .ge 25) := by decide +kernel
set_option maxRecDepth 100000 in
theorem f_150_82 : xft 150 82 = some (.iload_n 2) := by decide +kernel
set_option maxRecDepth 100000 in
theorem f_150_83 : xft 150 83 = some (.aload_n 0) := by decide +kernel
set_option maxRecDepth 100000 in
theorem f_150_84 : xft 150 84 = some (.iload_n 3) := by decide +kernel
set_option maxRecDepth 100000 in
theorem f_150_85 : xft 150 85 = some (.invokevirtual 211) := by decide +kernel
set_option maxRecDepth 100000 in
theorem f_150_88 : xft 150 88 = some (.ifCond .eq 7) := by decide +kernel
set_option maxRecDepth 100000 in
theorem f_150_91 : xft 150 91 = some (.iconst 1) := by decide +kernel
set_option maxRecDepth 100000 in
theorem f_150_92 : xft 150 92 = some (.goto 4) := by decide +kernel
set_option maxRecDepth 100000 in
theorem f_150_95 : xft 150 95 = some (.iconst 0) := by decide +kernel
set_option maxRecDepth 100000 in
theorem f_150_96 : xft 150 96 = some (.iadd) := by decide +kernel
set_option maxRecDepth 100000 in
theorem f_150_97 : xft 150 97 = some (.istore_n 2) := by decide +kernel
set_option maxRecDepth 100000 in
theorem f_150_98 : xft 150 98 = some (.iinc 3 1) := by decide +kernel
set_option maxRecDepth 100000 in
theorem f_150_101 : xft 150 101 = some (.goto (-25)) := by decide +kernel
set_option maxRecDepth 100000 in
theorem f_150_104 : xft 150 104 = some (.iload_n 2) := by decide +kernel
set_option maxRecDepth 100000 in
theorem f_150_105 : xft 150 105 = some (.ireturn) := by decide +kernel
set_option maxRecDepth 100000 in
theorem f_151_0 : xft 151 0 = some (.aload_n 0) := by decide +kernel
set_option maxRecDepth 100000 in
theorem f_151_1 : xft 151 1 = some (.iload_n 1) := by decide +kernel
set_option maxRecDepth 100000 in
theorem f_151_2 : xft 151 2 = some (.invokestatic 178) := by decide +kernel
set_option maxRecDepth 100000 in
theorem f_151_5 : xft 151 5 = some (.ifCond .eq 10) := by decide +kernel
set_option maxRecDepth 100000 in
theorem f_151_8 : xft 151 8 = some (.iload_n 2) := by decide +kernel
set_option maxRecDepth 100000 in
theorem f_151_9 : xft 151 9 = some (.invokestatic 181) := by decide +kernel
set_option maxRecDepth 100000 in
theorem f_151_12 : xft 151 12 = some (.ifCond .ne 7) := by decide +kernel
set_option maxRecDepth 100000 in
theorem f_151_15 : xft 151 15 = some (.iconst 1) := by decide +kernel
set_option maxRecDepth 100000 in
theorem f_151_16 : xft 151 16 = some (.goto 17) := by decide +kernel
set_option maxRecDepth 100000 in
theorem f_151_19 : xft 151 19 = some (.iload_n 3) := by decide +kernel
set_option maxRecDepth 100000 in
theorem f_151_20 : xft 151 20 = some (.iconst 0) := by decide +kernel
set_option maxRecDepth 100000 in
theorem f_151_21 : xft 151 21 = some (.iconst 2) := by decide +kernel
set_option maxRecDepth 100000 in
theorem f_151_22 : xft 151 22 = some (.invokestatic 91) := by decide +kernel
set_option maxRecDepth 100000 in
theorem f_151_25 : xft 151 25 = some (.ifCond .eq 7) := by decide +kernel
set_option maxRecDepth 100000 in
theorem f_151_28 : xft 151 28 = some (.iconst 0) := by decide +kernel
set_option maxRecDepth 100000 in
theorem f_151_29 : xft 151 29 = some (.goto 4) := by decide +kernel
set_option maxRecDepth 100000 in
theorem f_151_32 : xft 151 32 = some (.iconst 2) := by decide +kernel
set_option maxRecDepth 100000 in
theorem f_151_33 : xft 151 33 = some (.invokevirtual 98) := by decide +kernel
set_option maxRecDepth 100000 in
theorem f_151_36 : xft 151 36 = some (.ifCond .eq 5) := by decide +kernel
set_option maxRecDepth 100000 in
theorem f_151_39 : xft 151 39 = some (.iconst 0) := by decide +kernel
set_option maxRecDepth 100000 in
theorem f_151_40 : xft 151 40 = some (.ireturn) := by decide +kernel
set_option maxRecDepth 100000 in
theorem f_151_41 : xft 151 41 = some (.iload_n 3) := by decide +kernel
set_option maxRecDepth 100000 in
theorem f_151_42 : xft 151 42 = some (.ifCond .ne 17) := by decide +kernel
set_option maxRecDepth 100000 in
theorem f_151_45 : xft 151 45 = some (.aload_n 0) := by decide +kernel
set_option maxRecDepth 100000 in
theorem f_151_46 : xft 151 46 = some (.getfield 72) := by decide +kernel
set_option maxRecDepth 100000 in
theorem f_151_49 : xft 151 49 = some (.bipush 7) := by decide +kernel
set_option maxRecDepth 100000 in
theorem f_151_51 : xft 151 51 = some (.iload_n 1) := by decide +kernel
set_option maxRecDepth 100000 in
theorem f_151_52 : xft 151 52 = some (.imul) := by decide +kernel
set_option maxRecDepth 100000 in
theorem f_151_53 : xft 151 53 = some (.iload_n 2) := by decide +kernel
set_option maxRecDepth 100000 in
theorem f_151_54 : xft 151 54 = some (.iadd) := by decide +kernel
set_option maxRecDepth 100000 in
theorem f_151_55 : xft 151 55 = some (.iaload) := by decide +kernel
set_option maxRecDepth 100000 in
theorem f_151_56 : xft 151 56 = some (.goto 35) := by decide +kernel
set_option maxRecDepth 100000 in
theorem f_151_59 : xft 151 59 = some (.iload_n 3) := by decide +kernel
set_option maxRecDepth 100000 in
theorem f_151_60 : xft 151 60 = some (.iconst 1) := by decide +kernel
set_option maxRecDepth 100000 in
theorem f_151_61 : xft 151 61 = some (.if_icmp .ne 17) := by decide +kernel
set_option maxRecDepth 100000 in
theorem f_151_64 : xft 151 64 = some (.aload_n 0) := by decide +kernel
set_option maxRecDepth 100000 in
theorem f_151_65 : xft 151 65 = some (.getfield 63) := by decide +kernel
set_option maxRecDepth 100000 in
theorem f_151_68 : xft 151 68 = some (.bipush 7) := by decide +kernel
set_option maxRecDepth 100000 in
theorem f_151_70 : xft 151 70 = some (.iload_n 1) := by decide +kernel
set_option maxRecDepth 100000 in
theorem f_151_71 : xft 151 71 = some (.imul) := by decide +kernel
set_option maxRecDepth 100000 in
theorem f_151_72 : xft 151 72 = some (.iload_n 2) := by decide +kernel
set_option maxRecDepth 100000 in
theorem f_151_73 : xft 151 73 = some (.iadd) := by decide +kernel
set_option maxRecDepth 100000 in
theorem f_151_74 : xft 151 74 = some (.iaload) := by decide +kernel
set_option maxRecDepth 100000 in
theorem f_151_75 : xft 151 75 = some (.goto 16) := by decide +kernel
set_option maxRecDepth 100000 in
theorem f_151_78 : xft 151 78 = some (.aload_n 0) := by decide +kernel
set_option maxRecDepth 100000 in
theorem f_151_79 : xft 151 79 = some (.iload_n 1) := by decide +kernel
set_option maxRecDepth 100000 in
theorem f_151_80 : xft 151 80 = some (.invokevirtual 211) := by decide +kernel
set_option maxRecDepth 100000 in
theorem f_151_83 : xft 151 83 = some (.ifCond .eq 7) := by decide +kernel
set_option maxRecDepth 100000 in
theorem f_151_86 : xft 151 86 = some (.iconst 1) := by decide +kernel
set_option maxRecDepth 100000 in
theorem f_151_87 : xft 151 87 = some (.goto 4) := by decide +kernel
set_option maxRecDepth 100000 in
theorem f_151_90 : xft 151 90 = some (.iconst 0) := by decide +kernel
set_option maxRecDepth 100000 in
theorem f_151_91 : xft 151 91 = some (.ireturn) := by decide +kernel
set_option maxRecDepth 100000 in
theorem f_152_0 : xft 152 0 = some (.iload_n 2) := by decide +kernel
set_option maxRecDepth 100000 in
theorem f_152_1 : xft 152 1 = some (.ifCond .ne 26) := by decide +kernel
set_option maxRecDepth 100000 in
theorem f_152_4 : xft 152 4 = some (.iload_n 3) := by decide +kernel
set_option maxRecDepth 100000 in
theorem f_152_5 : xft 152 5 = some (.invokestatic 188) := by decide +kernel
set_option maxRecDepth 100000 in
theorem f_152_8 : xft 152 8 = some (.ifCond .eq 17) := by decide +kernel
set_option maxRecDepth 100000 in
theorem f_152_11 : xft 152 11 = some (.aload_n 0) := by decide +kernel
set_option maxRecDepth 100000 in
theorem f_152_12 : xft 152 12 = some (.getfield 75) := by decide +kernel
set_option maxRecDepth 100000 in
theorem f_152_15 : xft 152 15 = some (.bipush 6) := by decide +kernel
set_option maxRecDepth 100000 in
theorem f_152_17 : xft 152 17 = some (.iload_n 1) := by decide +kernel
set_option maxRecDepth 100000 in
theorem f_152_18 : xft 152 18 = some (.imul) := by decide +kernel
set_option maxRecDepth 100000 in
theorem f_152_19 : xft 152 19 = some (.iload_n 3) := by decide +kernel
set_option maxRecDepth 100000 in
theorem f_152_20 : xft 152 20 = some (.iadd) := by decide +kernel
set_option maxRecDepth 100000 in
theorem f_152_21 : xft 152 21 = some (.iaload) := by decide +kernel
set_option maxRecDepth 100000 in
theorem f_152_22 : xft 152 22 = some (.goto 4) := by decide +kernel
set_option maxRecDepth 100000 in
theorem f_152_25 : xft 152 25 = some (.iconst 0) := by decide +kernel
set_option maxRecDepth 100000 in
theorem f_152_26 : xft 152 26 = some (.ireturn) := by decide +kernel
set_option maxRecDepth 100000 in
theorem f_152_27 : xft 152 27 = some (.iload_n 3) := by decide +kernel
set_option maxRecDepth 100000 in
theorem f_152_28 : xft 152 28 = some (.iload_n 2) := by decide +kernel
set_option maxRecDepth 100000 in
theorem f_152_29 : xft 152 29 = some (.iconst 1) := by decide +kernel
set_option maxRecDepth 100000 in
theorem f_152_30 : xft 152 30 = some (.if_icmp .ne 7) := by decide +kernel
set_option maxRecDepth 100000 in
theorem f_152_33 : xft 152 33 = some (.iconst 0) := by decide +kernel
set_option maxRecDepth 100000 in
theorem f_152_34 : xft 152 34 = some (.goto 4) := by decide +kernel
set_option maxRecDepth 100000 in
theorem f_152_37 : xft 152 37 = some (.iconst 1) := by decide +kernel
set_option maxRecDepth 100000 in
theorem f_152_38 : xft 152 38 = some (.iconst 3) := by decide +kernel
set_option maxRecDepth 100000 in
theorem f_152_39 : xft 152 39 = some (.invokestatic 91) := by decide +kernel
set_option maxRecDepth 100000 in
theorem f_152_42 : xft 152 42 = some (.istore 4) := by decide +kernel
set_option maxRecDepth 100000 in
theorem f_152_44 : xft 152 44 = some (.iload 4) := by decide +kernel
set_option maxRecDepth 100000 in
theorem f_152_46 : xft 152 46 = some (.ifCond .ne 7) := by decide +kernel
set_option maxRecDepth 100000 in
theorem f_152_49 : xft 152 49 = some (.iconst 0) := by decide +kernel
set_option maxRecDepth 100000 in
theorem f_152_50 : xft 152 50 = some (.goto 31) := by decide +kernel
set_option maxRecDepth 100000 in
theorem f_152_53 : xft 152 53 = some (.iload_n 2) := by decide +kernel
set_option maxRecDepth 100000 in
theorem f_152_54 : xft 152 54 = some (.iconst 1) := by decide +kernel
set_option maxRecDepth 100000 in
theorem f_152_55 : xft 152 55 = some (.if_icmp .ne 16) := by decide +kernel
set_option maxRecDepth 100000 in
theorem f_152_58 : xft 152 58 = some (.aload_n 0) := by decide +kernel
set_option maxRecDepth 100000 in
theorem f_152_59 : xft 152 59 = some (.getfield 78) := by decide +kernel
set_option maxRecDepth 100000 in
theorem f_152_62 : xft 152 62 = some (.iconst 4) := by decide +kernel
set_option maxRecDepth 100000 in
theorem f_152_63 : xft 152 63 = some (.iload_n 1) := by decide +kernel
set_option maxRecDepth 100000 in
theorem f_152_64 : xft 152 64 = some (.imul) := by decide +kernel
set_option maxRecDepth 100000 in
theorem f_152_65 : xft 152 65 = some (.iload_n 3) := by decide +kernel
set_option maxRecDepth 100000 in
theorem f_152_66 : xft 152 66 = some (.iadd) := by decide +kernel
set_option maxRecDepth 100000 in
theorem f_152_67 : xft 152 67 = some (.iaload) := by decide +kernel
set_option maxRecDepth 100000 in
theorem f_152_68 : xft 152 68 = some (.goto 13) := by decide +kernel
set_option maxRecDepth 100000 in
theorem f_152_71 : xft 152 71 = some (.aload_n 0) := by decide +kernel
set_option maxRecDepth 100000 in
theorem f_152_72 : xft 152 72 = some (.getfield 81) := by decide +kernel
set_option maxRecDepth 100000 in
theorem f_152_75 : xft 152 75 = some (.iconst 4) := by decide +kernel
set_option maxRecDepth 100000 in
theorem f_152_76 : xft 152 76 = some (.iload_n 1) := by decide +kernel
set_option maxRecDepth 100000 in
theorem f_152_77 : xft 152 77 = some (.imul) := by decide +kernel
set_option maxRecDepth 100000 in
theorem f_152_78 : xft 152 78 = some (.iload_n 3) := by decide +kernel
set_option maxRecDepth 100000 in
theorem f_152_79 : xft 152 79 = some (.iadd) := by decide +kernel
set_option maxRecDepth 100000 in
theorem f_152_80 : xft 152 80 = some (.iaload) := by decide +kernel
set_option maxRecDepth 100000 in
theorem f_152_81 : xft 152 81 = some (.ireturn) := by decide +kernel
set_option maxRecDepth 100000 in
theorem f_153_0 : xft 153 0 = some (.aload_n 0) := by decide +kernel
set_option maxRecDepth 100000 in
theorem f_153_1 : xft 153 1 = some (.iload_n 1) := by decide +kernel
set_option maxRecDepth 100000 in
theorem f_153_2 : xft 153 2 = some (.invokestatic 178) := by decide +kernel
set_option maxRecDepth 100000 in
theorem f_153_5 : xft 153 5 = some (.ifCond .eq 10) := by decide +kernel
set_option maxRecDepth 100000 in
theorem f_153_8 : xft 153 8 = some (.iload_n 2) := by decide +kernel
set_option maxRecDepth 100000 in
theorem f_153_9 : xft 153 9 = some (.invokestatic 181) := by decide +kernel
set_option maxRecDepth 100000 in
theorem f_153_12 : xft 153 12 = some (.ifCond .ne 7) := by decide +kernel
set_option maxRecDepth 100000 in
theorem f_153_15 : xft 153 15 = some (.iconst 1) := by decide +kernel
set_option maxRecDepth 100000 in
theorem f_153_16 : xft 153 16 = some (.goto 17) := by decide +kernel
set_option maxRecDepth 100000 in
theorem f_153_19 : xft 153 19 = some (.iload_n 3) := by decide +kernel
set_option maxRecDepth 100000 in
theorem f_153_20 : xft 153 20 = some (.iconst 0) := by decide +kernel
set_option maxRecDepth 100000 in
theorem f_153_21 : xft 153 21 = some (.iconst 2) := by decide +kernel
set_option maxRecDepth 100000 in
theorem f_153_22 : xft 153 22 = some (.invokestatic 91) := by decide +kernel
set_option maxRecDepth 100000 in
theorem f_153_25 : xft 153 25 = some (.ifCond .eq 7) := by decide +kernel
set_option maxRecDepth 100000 in
theorem f_153_28 : xft 153 28 = some (.iconst 0) := by decide +kernel
set_option maxRecDepth 100000 in
theorem f_153_29 : xft 153 29 = some (.goto 4) := by decide +kernel
set_option maxRecDepth 100000 in
theorem f_153_32 : xft 153 32 = some (.iconst 2) := by decide +kernel
set_option maxRecDepth 100000 in
theorem f_153_33 : xft 153 33 = some (.invokevirtual 98) := by decide +kernel
set_option maxRecDepth 100000 in
theorem f_153_36 : xft 153 36 = some (.ireturn) := by decide +kernel
set_option maxRecDepth 100000 in
theorem f_154_0 : xft 154 0 = some (.aload_n 0) := by decide +kernel
set_option maxRecDepth 100000 in
theorem f_154_1 : xft 154 1 = some (.iload_n 1) := by decide +kernel
set_option maxRecDepth 100000 in
theorem f_154_2 : xft 154 2 = some (.iload_n 2) := by decide +kernel
set_option maxRecDepth 100000 in
theorem f_154_3 : xft 154 3 = some (.iload_n 3) := by decide +kernel
set_option maxRecDepth 100000 in
theorem f_154_4 : xft 154 4 = some (.invokevirtual 217) := by decide +kernel
set_option maxRecDepth 100000 in
theorem f_154_7 : xft 154 7 = some (.ifCond .eq 7) := by decide +kernel
set_option maxRecDepth 100000 in
theorem f_154_10 : xft 154 10 = some (.iconst 0) := by decide +kernel
set_option maxRecDepth 100000 in
theorem f_154_11 : xft 154 11 = some (.goto 16) := by decide +kernel
set_option maxRecDepth 100000 in
theorem f_154_14 : xft 154 14 = some (.aload_n 0) := by decide +kernel
set_option maxRecDepth 100000 in
theorem f_154_15 : xft 154 15 = some (.bipush 7) := by decide +kernel
set_option maxRecDepth 100000 in
theorem f_154_17 : xft 154 17 = some (.iload_n 1) := by decide +kernel
set_option maxRecDepth 100000 in
theorem f_154_18 : xft 154 18 = some (.imul) := by decide +kernel
set_option maxRecDepth 100000 in
theorem f_154_19 : xft 154 19 = some (.iload_n 2) := by decide +kernel
set_option maxRecDepth 100000 in
theorem f_154_20 : xft 154 20 = some (.iadd) := by decide +kernel
set_option maxRecDepth 100000 in
theorem f_154_21 : xft 154 21 = some (.iload_n 3) := by decide +kernel
set_option maxRecDepth 100000 in
theorem f_154_22 : xft 154 22 = some (.iload 4) := by decide +kernel
set_option maxRecDepth 100000 in
theorem f_154_24 : xft 154 24 = some (.invokevirtual 220) := by decide +kernel
set_option maxRecDepth 100000 in
theorem f_154_27 : xft 154 27 = some (.ireturn) := by decide +kernel
set_option maxRecDepth 100000 in
theorem f_155_0 : xft 155 0 = some (.aload_n 0) := by decide +kernel
set_option maxRecDepth 100000 in
theorem f_155_1 : xft 155 1 = some (.iload_n 1) := by decide +kernel
set_option maxRecDepth 100000 in
theorem f_155_2 : xft 155 2 = some (.iload_n 2) := by decide +kernel
set_option maxRecDepth 100000 in
theorem f_155_3 : xft 155 3 = some (.iload_n 3) := by decide +kernel
set_option maxRecDepth 100000 in
theorem f_155_4 : xft 155 4 = some (.invokevirtual 217) := by decide +kernel
set_option maxRecDepth 100000 in
theorem f_155_7 : xft 155 7 = some (.ifCond .eq 5) := by decide +kernel
set_option maxRecDepth 100000 in
theorem f_155_10 : xft 155 10 = some (.iconst 0) := by decide +kernel
set_option maxRecDepth 100000 in
theorem f_155_11 : xft 155 11 = some (.ireturn) := by decide +kernel
set_option maxRecDepth 100000 in
theorem f_155_12 : xft 155 12 = some (.iconst (-1)) := by decide +kernel
set_option maxRecDepth 100000 in
theorem f_155_13 : xft 155 13 = some (.istore 4) := by decide +kernel
set_option maxRecDepth 100000 in
theorem f_155_15 : xft 155 15 = some (.iconst 0) := by decide +kernel
set_option maxRecDepth 100000 in
theorem f_155_16 : xft 155 16 = some (.istore 5) := by decide +kernel
set_option maxRecDepth 100000 in
theorem f_155_18 : xft 155 18 = some (.iload 5) := by decide +kernel
set_option maxRecDepth 100000 in
theorem f_155_20 : xft 155 20 = some (.bipush 6) := by decide +kernel
set_option maxRecDepth 100000 in
theorem f_155_22 : xft 155 22 = some (.if_icmp .ge 62) := by decide +kernel
set_option maxRecDepth 100000 in
theorem f_155_25 : xft 155 25 = some (.aload_n 0) := by decide +kernel
set_option maxRecDepth 100000 in
theorem f_155_26 : xft 155 26 = some (.bipush 7) := by decide +kernel
set_option maxRecDepth 100000 in
theorem f_155_28 : xft 155 28 = some (.iload_n 1) := by decide +kernel
set_option maxRecDepth 100000 in
theorem f_155_29 : xft 155 29 = some (.imul) := by decide +kernel
set_option maxRecDepth 100000 in
theorem f_155_30 : xft 155 30 = some (.iload_n 2) := by decide +kernel
set_option maxRecDepth 100000 in
theorem f_155_31 : xft 155 31 = some (.iadd) := by decide +kernel
set_option maxRecDepth 100000 in
theorem f_155_32 : xft 155 32 = some (.iload_n 3) := by decide +kernel
set_option maxRecDepth 100000 in
theorem f_155_33 : xft 155 33 = some (.iload 5) := by decide +kernel
set_option maxRecDepth 100000 in
theorem f_155_35 : xft 155 35 = some (.invokevirtual 220) := by decide +kernel
set_option maxRecDepth 100000 in
theorem f_155_38 : xft 155 38 = some (.istore 6) := by decide +kernel
set_option maxRecDepth 100000 in
theorem f_155_40 : xft 155 40 = some (.iload 6) := by decide +kernel
set_option maxRecDepth 100000 in
theorem f_155_42 : xft 155 42 = some (.ifCond .le 32) := by decide +kernel
set_option maxRecDepth 100000 in
theorem f_155_45 : xft 155 45 = some (.iload 4) := by decide +kernel
set_option maxRecDepth 100000 in
theorem f_155_47 : xft 155 47 = some (.iconst (-1)) := by decide +kernel
set_option maxRecDepth 100000 in
theorem f_155_48 : xft 155 48 = some (.if_icmp .eq 21) := by decide +kernel
set_option maxRecDepth 100000 in
theorem f_155_51 : xft 155 51 = some (.iload 6) := by decide +kernel
set_option maxRecDepth 100000 in
theorem f_155_53 : xft 155 53 = some (.aload_n 0) := by decide +kernel
set_option maxRecDepth 100000 in
theorem f_155_54 : xft 155 54 = some (.bipush 7) := by decide +kernel
set_option maxRecDepth 100000 in
theorem f_155_56 : xft 155 56 = some (.iload_n 1) := by decide +kernel
set_option maxRecDepth 100000 in
theorem f_155_57 : xft 155 57 = some (.imul) := by decide +kernel
set_option maxRecDepth 100000 in
theorem f_155_58 : xft 155 58 = some (.iload_n 2) := by decide +kernel
set_option maxRecDepth 100000 in
theorem f_155_59 : xft 155 59 = some (.iadd) := by decide +kernel
set_option maxRecDepth 100000 in
theorem f_155_60 : xft 155 60 = some (.iload_n 3) := by decide +kernel
set_option maxRecDepth 100000 in
theorem f_155_61 : xft 155 61 = some (.iload 4) := by decide +kernel
set_option maxRecDepth 100000 in
theorem f_155_63 : xft 155 63 = some (.invokevirtual 220) := by decide +kernel
set_option maxRecDepth 100000 in
theorem f_155_66 : xft 155 66 = some (.if_icmp .le 8) := by decide +kernel
set_option maxRecDepth 100000 in
theorem f_155_69 : xft 155 69 = some (.iload 5) := by decide +kernel
set_option maxRecDepth 100000 in
theorem f_155_71 : xft 155 71 = some (.goto 5) := by decide +kernel
set_option maxRecDepth 100000 in
theorem f_155_74 : xft 155 74 = some (.iload 4) := by decide +kernel
set_option maxRecDepth 100000 in
theorem f_155_76 : xft 155 76 = some (.istore 4) := by decide +kernel
set_option maxRecDepth 100000 in
theorem f_155_78 : xft 155 78 = some (.iinc 5 1) := by decide +kernel
set_option maxRecDepth 100000 in
theorem f_155_81 : xft 155 81 = some (.goto (-63)) := by decide +kernel
set_option maxRecDepth 100000 in
theorem f_155_84 : xft 155 84 = some (.iload 4) := by decide +kernel
set_option maxRecDepth 100000 in
theorem f_155_86 : xft 155 86 = some (.ireturn) := by decide +kernel
set_option maxRecDepth 100000 in
theorem f_156_0 : xft 156 0 = some (.aload_n 0) := by decide +kernel
set_option maxRecDepth 100000 in
theorem f_156_1 : xft 156 1 = some (.iconst 0) := by decide +kernel
set_option maxRecDepth 100000 in
theorem f_156_2 : xft 156 2 = some (.putfield 84) := by decide +kernel
set_option maxRecDepth 100000 in
theorem f_156_5 : xft 156 5 = some (.aload_n 0) := by decide +kernel
set_option maxRecDepth 100000 in
theorem f_156_6 : xft 156 6 = some (.getfield 214) := by decide +kernel
set_option maxRecDepth 100000 in
theorem f_156_9 : xft 156 9 = some (.ireturn) := by decide +kernel
/-! blocks, by program (gen2.py) -/
section BLK
variable {sc : xS} {d : Nat} {T : Nat → Nat × Nat} {z : Nat × Nat} {V : Nat → Nat → Int} {J : Nat → Nat → Int64} {R : Nat → Nat → Option Nat}
theorem eX7_init {a0 : Nat} : X sc (d + 1) 91 [.ref a0] (T, z, xv V, J, R) = XR sc d 91 0 [some (.ref a0)] [] (T, z, xv V, J, R) :=
  (X_eq ⟨jl_91, by rw [mn_91]; rfl, rfl, by rw [lm_91]; exact Nat.le_of_ble_eq_true rfl⟩).trans (by unfold xent; rw [lm_91]; rfl)
theorem bX7_init_0 {a0 : Nat} (g1 : 1 ≤ d) (g2 : (va_up T z.1 (32, 8)) a0 = (8, 0)) (g3 : (va_up (va_up T z.1 (32, 8)) (z.1 + 1) (32, 64)) a0 = (8, 0)) (g4 : (va_up (va_up (va_up T z.1 (32, 8)) (z.1 + 1) (32, 64)) (z.1 + 2) (32, 40)) a0 = (8, 0)) (g5 : (va_up (va_up (va_up (va_up T z.1 (32, 8)) (z.1 + 1) (32, 64)) (z.1 + 2) (32, 40)) (z.1 + 3) (32, 40)) a0 = (8, 0)) (g6 : (va_up (va_up (va_up (va_up (va_up T z.1 (32, 8)) (z.1 + 1) (32, 64)) (z.1 + 2) (32, 40)) (z.1 + 3) (32, 40)) (z.1 + 4) (32, 40)) a0 = (8, 0)) (g7 : (va_up (va_up (va_up (va_up (va_up (va_up T z.1 (32, 8)) (z.1 + 1) (32, 64)) (z.1 + 2) (32, 40)) (z.1 + 3) (32, 40)) (z.1 + 4) (32, 40)) (z.1 + 5) (32, 40)) a0 = (8, 0)) (g8 : (va_up (va_up (va_up (va_up (va_up (va_up (va_up T z.1 (32, 8)) (z.1 + 1) (32, 64)) (z.1 + 2) (32, 40)) (z.1 + 3) (32, 40)) (z.1 + 4) (32, 40)) (z.1 + 5) (32, 40)) (z.1 + 6) (33, 40)) a0 = (8, 0)) (g9 : (va_up (va_up (va_up (va_up (va_up (va_up (va_up (va_up T z.1 (32, 8)) (z.1 + 1) (32, 64)) (z.1 + 2) (32, 40)) (z.1 + 3) (32, 40)) (z.1 + 4) (32, 40)) (z.1 + 5) (32, 40)) (z.1 + 6) (33, 40)) (z.1 + 7) (34, 40)) a0 = (8, 0)) (g10 : (va_up (va_up (va_up (va_up (va_up (va_up (va_up (va_up (va_up T z.1 (32, 8)) (z.1 + 1) (32, 64)) (z.1 + 2) (32, 40)) (z.1 + 3) (32, 40)) (z.1 + 4) (32, 40)) (z.1 + 5) (32, 40)) (z.1 + 6) (33, 40)) (z.1 + 7) (34, 40)) (z.1 + 8) (32, 40)) a0 = (8, 0)) (g11 : (va_up (va_up (va_up (va_up (va_up (va_up (va_up (va_up (va_up (va_up T z.1 (32, 8)) (z.1 + 1) (32, 64)) (z.1 + 2) (32, 40)) (z.1 + 3) (32, 40)) (z.1 + 4) (32, 40)) (z.1 + 5) (32, 40)) (z.1 + 6) (33, 40)) (z.1 + 7) (34, 40)) (z.1 + 8) (32, 40)) (z.1 + 9) (32, 40)) a0 = (8, 0)) (g12 : (va_up (va_up (va_up (va_up (va_up (va_up (va_up (va_up (va_up (va_up (va_up T z.1 (32, 8)) (z.1 + 1) (32, 64)) (z.1 + 2) (32, 40)) (z.1 + 3) (32, 40)) (z.1 + 4) (32, 40)) (z.1 + 5) (32, 40)) (z.1 + 6) (33, 40)) (z.1 + 7) (34, 40)) (z.1 + 8) (32, 40)) (z.1 + 9) (32, 40)) (z.1 + 10) (33, 40)) a0 = (8, 0)) (g13 : (va_up (va_up (va_up (va_up (va_up (va_up (va_up (va_up (va_up (va_up (va_up (va_up T z.1 (32, 8)) (z.1 + 1) (32, 64)) (z.1 + 2) (32, 40)) (z.1 + 3) (32, 40)) (z.1 + 4) (32, 40)) (z.1 + 5) (32, 40)) (z.1 + 6) (33, 40)) (z.1 + 7) (34, 40)) (z.1 + 8) (32, 40)) (z.1 + 9) (32, 40)) (z.1 + 10) (33, 40)) (z.1 + 11) (32, 40)) a0 = (8, 0)) (g14 : (va_up (va_up (va_up (va_up (va_up (va_up (va_up (va_up (va_up (va_up (va_up (va_up (va_up T z.1 (32, 8)) (z.1 + 1) (32, 64)) (z.1 + 2) (32, 40)) (z.1 + 3) (32, 40)) (z.1 + 4) (32, 40)) (z.1 + 5) (32, 40)) (z.1 + 6) (33, 40)) (z.1 + 7) (34, 40)) (z.1 + 8) (32, 40)) (z.1 + 9) (32, 40)) (z.1 + 10) (33, 40)) (z.1 + 11) (32, 40)) (z.1 + 12) (32, 40)) a0 = (8, 0)) (g15 : (va_up (va_up (va_up (va_up (va_up (va_up (va_up (va_up (va_up (va_up (va_up (va_up (va_up (va_up T z.1 (32, 8)) (z.1 + 1) (32, 64)) (z.1 + 2) (32, 40)) (z.1 + 3) (32, 40)) (z.1 + 4) (32, 40)) (z.1 + 5) (32, 40)) (z.1 + 6) (33, 40)) (z.1 + 7) (34, 40)) (z.1 + 8) (32, 40)) (z.1 + 9) (32, 40)) (z.1 + 10) (33, 40)) (z.1 + 11) (32, 40)) (z.1 + 12) (32, 40)) (z.1 + 13) (32, 40)) a0 = (8, 0)) (g16 : (va_up (va_up (va_up (va_up (va_up (va_up (va_up (va_up (va_up (va_up (va_up (va_up (va_up (va_up (va_up T z.1 (32, 8)) (z.1 + 1) (32, 64)) (z.1 + 2) (32, 40)) (z.1 + 3) (32, 40)) (z.1 + 4) (32, 40)) (z.1 + 5) (32, 40)) (z.1 + 6) (33, 40)) (z.1 + 7) (34, 40)) (z.1 + 8) (32, 40)) (z.1 + 9) (32, 40)) (z.1 + 10) (33, 40)) (z.1 + 11) (32, 40)) (z.1 + 12) (32, 40)) (z.1 + 13) (32, 40)) (z.1 + 14) (32, 8)) a0 = (8, 0)) (g17 : (va_up (va_up (va_up (va_up (va_up (va_up (va_up (va_up (va_up (va_up (va_up (va_up (va_up (va_up (va_up (va_up T z.1 (32, 8)) (z.1 + 1) (32, 64)) (z.1 + 2) (32, 40)) (z.1 + 3) (32, 40)) (z.1 + 4) (32, 40)) (z.1 + 5) (32, 40)) (z.1 + 6) (33, 40)) (z.1 + 7) (34, 40)) (z.1 + 8) (32, 40)) (z.1 + 9) (32, 40)) (z.1 + 10) (33, 40)) (z.1 + 11) (32, 40)) (z.1 + 12) (32, 40)) (z.1 + 13) (32, 40)) (z.1 + 14) (32, 8)) (z.1 + 15) (32, 8)) a0 = (8, 0)) (g18 : (va_up (va_up (va_up (va_up (va_up (va_up (va_up (va_up (va_up (va_up (va_up (va_up (va_up (va_up (va_up (va_up (va_up T z.1 (32, 8)) (z.1 + 1) (32, 64)) (z.1 + 2) (32, 40)) (z.1 + 3) (32, 40)) (z.1 + 4) (32, 40)) (z.1 + 5) (32, 40)) (z.1 + 6) (33, 40)) (z.1 + 7) (34, 40)) (z.1 + 8) (32, 40)) (z.1 + 9) (32, 40)) (z.1 + 10) (33, 40)) (z.1 + 11) (32, 40)) (z.1 + 12) (32, 40)) (z.1 + 13) (32, 40)) (z.1 + 14) (32, 8)) (z.1 + 15) (32, 8)) (z.1 + 16) (32, 40)) a0 = (8, 0)) (g19 : (va_up (va_up (va_up (va_up (va_up (va_up (va_up (va_up (va_up (va_up (va_up (va_up (va_up (va_up (va_up (va_up (va_up (va_up T z.1 (32, 8)) (z.1 + 1) (32, 64)) (z.1 + 2) (32, 40)) (z.1 + 3) (32, 40)) (z.1 + 4) (32, 40)) (z.1 + 5) (32, 40)) (z.1 + 6) (33, 40)) (z.1 + 7) (34, 40)) (z.1 + 8) (32, 40)) (z.1 + 9) (32, 40)) (z.1 + 10) (33, 40)) (z.1 + 11) (32, 40)) (z.1 + 12) (32, 40)) (z.1 + 13) (32, 40)) (z.1 + 14) (32, 8)) (z.1 + 15) (32, 8)) (z.1 + 16) (32, 40)) (z.1 + 17) (32, 42)) a0 = (8, 0)) (g20 : (va_up (va_up (va_up (va_up (va_up (va_up (va_up (va_up (va_up (va_up (va_up (va_up (va_up (va_up (va_up (va_up (va_up (va_up (va_up T z.1 (32, 8)) (z.1 + 1) (32, 64)) (z.1 + 2) (32, 40)) (z.1 + 3) (32, 40)) (z.1 + 4) (32, 40)) (z.1 + 5) (32, 40)) (z.1 + 6) (33, 40)) (z.1 + 7) (34, 40)) (z.1 + 8) (32, 40)) (z.1 + 9) (32, 40)) (z.1 + 10) (33, 40)) (z.1 + 11) (32, 40)) (z.1 + 12) (32, 40)) (z.1 + 13) (32, 40)) (z.1 + 14) (32, 8)) (z.1 + 15) (32, 8)) (z.1 + 16) (32, 40)) (z.1 + 17) (32, 42)) (z.1 + 18) (32, 42)) a0 = (8, 0)) (g21 : (va_up (va_up (va_up (va_up (va_up (va_up (va_up (va_up (va_up (va_up (va_up (va_up (va_up (va_up (va_up (va_up (va_up (va_up (va_up (va_up T z.1 (32, 8)) (z.1 + 1) (32, 64)) (z.1 + 2) (32, 40)) (z.1 + 3) (32, 40)) (z.1 + 4) (32, 40)) (z.1 + 5) (32, 40)) (z.1 + 6) (33, 40)) (z.1 + 7) (34, 40)) (z.1 + 8) (32, 40)) (z.1 + 9) (32, 40)) (z.1 + 10) (33, 40)) (z.1 + 11) (32, 40)) (z.1 + 12) (32, 40)) (z.1 + 13) (32, 40)) (z.1 + 14) (32, 8)) (z.1 + 15) (32, 8)) (z.1 + 16) (32, 40)) (z.1 + 17) (32, 42)) (z.1 + 18) (32, 42)) (z.1 + 19) (32, 42)) a0 = (8, 0)) (g22 : (va_up (va_up (va_up (va_up (va_up (va_up (va_up (va_up (va_up (va_up (va_up (va_up (va_up (va_up (va_up (va_up (va_up (va_up (va_up (va_up (va_up T z.1 (32, 8)) (z.1 + 1) (32, 64)) (z.1 + 2) (32, 40)) (z.1 + 3) (32, 40)) (z.1 + 4) (32, 40)) (z.1 + 5) (32, 40)) (z.1 + 6) (33, 40)) (z.1 + 7) (34, 40)) (z.1 + 8) (32, 40)) (z.1 + 9) (32, 40)) (z.1 + 10) (33, 40)) (z.1 + 11) (32, 40)) (z.1 + 12) (32, 40)) (z.1 + 13) (32, 40)) (z.1 + 14) (32, 8)) (z.1 + 15) (32, 8)) (z.1 + 16) (32, 40)) (z.1 + 17) (32, 42)) (z.1 + 18) (32, 42)) (z.1 + 19) (32, 42)) (z.1 + 20) (32, 42)) a0 = (8, 0)) (g23 : (va_up (va_up (va_up (va_up (va_up (va_up (va_up (va_up (va_up (va_up (va_up (va_up (va_up (va_up (va_up (va_up (va_up (va_up (va_up (va_up (va_up (va_up T z.1 (32, 8)) (z.1 + 1) (32, 64)) (z.1 + 2) (32, 40)) (z.1 + 3) (32, 40)) (z.1 + 4) (32, 40)) (z.1 + 5) (32, 40)) (z.1 + 6) (33, 40)) (z.1 + 7) (34, 40)) (z.1 + 8) (32, 40)) (z.1 + 9) (32, 40)) (z.1 + 10) (33, 40)) (z.1 + 11) (32, 40)) (z.1 + 12) (32, 40)) (z.1 + 13) (32, 40)) (z.1 + 14) (32, 8)) (z.1 + 15) (32, 8)) (z.1 + 16) (32, 40)) (z.1 + 17) (32, 42)) (z.1 + 18) (32, 42)) (z.1 + 19) (32, 42)) (z.1 + 20) (32, 42)) (z.1 + 21) (32, 252)) a0 = (8, 0)) (g24 : (va_up (va_up (va_up (va_up (va_up (va_up (va_up (va_up (va_up (va_up (va_up (va_up (va_up (va_up (va_up (va_up (va_up (va_up (va_up (va_up (va_up (va_up (va_up T z.1 (32, 8)) (z.1 + 1) (32, 64)) (z.1 + 2) (32, 40)) (z.1 + 3) (32, 40)) (z.1 + 4) (32, 40)) (z.1 + 5) (32, 40)) (z.1 + 6) (33, 40)) (z.1 + 7) (34, 40)) (z.1 + 8) (32, 40)) (z.1 + 9) (32, 40)) (z.1 + 10) (33, 40)) (z.1 + 11) (32, 40)) (z.1 + 12) (32, 40)) (z.1 + 13) (32, 40)) (z.1 + 14) (32, 8)) (z.1 + 15) (32, 8)) (z.1 + 16) (32, 40)) (z.1 + 17) (32, 42)) (z.1 + 18) (32, 42)) (z.1 + 19) (32, 42)) (z.1 + 20) (32, 42)) (z.1 + 21) (32, 252)) (z.1 + 22) (32, 168)) a0 = (8, 0)) (g25 : (va_up (va_up (va_up (va_up (va_up (va_up (va_up (va_up (va_up (va_up (va_up (va_up (va_up (va_up (va_up (va_up (va_up (va_up (va_up (va_up (va_up (va_up (va_up (va_up T z.1 (32, 8)) (z.1 + 1) (32, 64)) (z.1 + 2) (32, 40)) (z.1 + 3) (32, 40)) (z.1 + 4) (32, 40)) (z.1 + 5) (32, 40)) (z.1 + 6) (33, 40)) (z.1 + 7) (34, 40)) (z.1 + 8) (32, 40)) (z.1 + 9) (32, 40)) (z.1 + 10) (33, 40)) (z.1 + 11) (32, 40)) (z.1 + 12) (32, 40)) (z.1 + 13) (32, 40)) (z.1 + 14) (32, 8)) (z.1 + 15) (32, 8)) (z.1 + 16) (32, 40)) (z.1 + 17) (32, 42)) (z.1 + 18) (32, 42)) (z.1 + 19) (32, 42)) (z.1 + 20) (32, 42)) (z.1 + 21) (32, 252)) (z.1 + 22) (32, 168)) (z.1 + 23) (32, 168)) a0 = (8, 0)) : XR sc d 91 0 [some (.ref a0)] [] (T, z, xv V, J, R) = some (.inl none, ((va_up (va_up (va_up (va_up (va_up (va_up (va_up (va_up (va_up (va_up (va_up (va_up (va_up (va_up (va_up (va_up (va_up (va_up (va_up (va_up (va_up (va_up (va_up (va_up T z.1 (32, 8)) (z.1 + 1) (32, 64)) (z.1 + 2) (32, 40)) (z.1 + 3) (32, 40)) (z.1 + 4) (32, 40)) (z.1 + 5) (32, 40)) (z.1 + 6) (33, 40)) (z.1 + 7) (34, 40)) (z.1 + 8) (32, 40)) (z.1 + 9) (32, 40)) (z.1 + 10) (33, 40)) (z.1 + 11) (32, 40)) (z.1 + 12) (32, 40)) (z.1 + 13) (32, 40)) (z.1 + 14) (32, 8)) (z.1 + 15) (32, 8)) (z.1 + 16) (32, 40)) (z.1 + 17) (32, 42)) (z.1 + 18) (32, 42)) (z.1 + 19) (32, 42)) (z.1 + 20) (32, 42)) (z.1 + 21) (32, 252)) (z.1 + 22) (32, 168)) (z.1 + 23) (32, 168)), (z.1 + 24, z.2 + 8 + 64 + 40 + 40 + 40 + 40 + 40 + 40 + 40 + 40 + 40 + 40 + 40 + 40 + 8 + 8 + 40 + 42 + 42 + 42 + 42 + 252 + 168 + 168), xv (va_up (va_up (va_up (va_up (va_up (va_up (va_up (va_up (va_up (va_up (va_up (va_up (va_up (va_up (va_up (va_up (va_up (va_up (va_up (va_up (va_up (va_up (va_up (va_up V z.1 (fun _ => 0)) (z.1 + 1) (fun _ => 0)) (z.1 + 2) (fun _ => 0)) (z.1 + 3) (fun _ => 0)) (z.1 + 4) (fun _ => 0)) (z.1 + 5) (fun _ => 0)) (z.1 + 6) (fun _ => 0)) (z.1 + 7) (fun _ => 0)) (z.1 + 8) (fun _ => 0)) (z.1 + 9) (fun _ => 0)) (z.1 + 10) (fun _ => 0)) (z.1 + 11) (fun _ => 0)) (z.1 + 12) (fun _ => 0)) (z.1 + 13) (fun _ => 0)) (z.1 + 14) (fun _ => 0)) (z.1 + 15) (fun _ => 0)) (z.1 + 16) (fun _ => 0)) (z.1 + 17) (fun _ => 0)) (z.1 + 18) (fun _ => 0)) (z.1 + 19) (fun _ => 0)) (z.1 + 20) (fun _ => 0)) (z.1 + 21) (fun _ => 0)) (z.1 + 22) (fun _ => 0)) (z.1 + 23) (fun _ => 0)), (va_up (va_up (va_up (va_up (va_up (va_up (va_up (va_up (va_up (va_up (va_up (va_up (va_up (va_up (va_up (va_up (va_up (va_up (va_up (va_up (va_up (va_up (va_up (va_up J z.1 (fun _ => 0)) (z.1 + 1) (fun _ => 0)) (z.1 + 2) (fun _ => 0)) (z.1 + 3) (fun _ => 0)) (z.1 + 4) (fun _ => 0)) (z.1 + 5) (fun _ => 0)) (z.1 + 6) (fun _ => 0)) (z.1 + 7) (fun _ => 0)) (z.1 + 8) (fun _ => 0)) (z.1 + 9) (fun _ => 0)) (z.1 + 10) (fun _ => 0)) (z.1 + 11) (fun _ => 0)) (z.1 + 12) (fun _ => 0)) (z.1 + 13) (fun _ => 0)) (z.1 + 14) (fun _ => 0)) (z.1 + 15) (fun _ => 0)) (z.1 + 16) (fun _ => 0)) (z.1 + 17) (fun _ => 0)) (z.1 + 18) (fun _ => 0)) (z.1 + 19) (fun _ => 0)) (z.1 + 20) (fun _ => 0)) (z.1 + 21) (fun _ => 0)) (z.1 + 22) (fun _ => 0)) (z.1 + 23) (fun _ => 0)), (xup2 (va_up (xup2 (va_up (xup2 (va_up (xup2 (va_up (xup2 (va_up (xup2 (va_up (xup2 (va_up (xup2 (va_up (xup2 (va_up (xup2 (va_up (xup2 (va_up (xup2 (va_up (xup2 (va_up (xup2 (va_up (xup2 (va_up (xup2 (va_up (xup2 (va_up (xup2 (va_up (xup2 (va_up (xup2 (va_up (xup2 (va_up (xup2 (va_up (xup2 (va_up (xup2 (va_up R z.1 (fun _ => none)) a0 1 (some z.1)) (z.1 + 1) (fun _ => none)) a0 2 (some (z.1 + 1))) (z.1 + 2) (fun _ => none)) a0 4 (some (z.1 + 2))) (z.1 + 3) (fun _ => none)) a0 5 (some (z.1 + 3))) (z.1 + 4) (fun _ => none)) a0 6 (some (z.1 + 4))) (z.1 + 5) (fun _ => none)) a0 7 (some (z.1 + 5))) (z.1 + 6) (fun _ => none)) a0 8 (some (z.1 + 6))) (z.1 + 7) (fun _ => none)) a0 9 (some (z.1 + 7))) (z.1 + 8) (fun _ => none)) a0 10 (some (z.1 + 8))) (z.1 + 9) (fun _ => none)) a0 11 (some (z.1 + 9))) (z.1 + 10) (fun _ => none)) a0 12 (some (z.1 + 10))) (z.1 + 11) (fun _ => none)) a0 13 (some (z.1 + 11))) (z.1 + 12) (fun _ => none)) a0 14 (some (z.1 + 12))) (z.1 + 13) (fun _ => none)) a0 15 (some (z.1 + 13))) (z.1 + 14) (fun _ => none)) a0 16 (some (z.1 + 14))) (z.1 + 15) (fun _ => none)) a0 18 (some (z.1 + 15))) (z.1 + 16) (fun _ => none)) a0 19 (some (z.1 + 16))) (z.1 + 17) (fun _ => none)) a0 20 (some (z.1 + 17))) (z.1 + 18) (fun _ => none)) a0 21 (some (z.1 + 18))) (z.1 + 19) (fun _ => none)) a0 22 (some (z.1 + 19))) (z.1 + 20) (fun _ => none)) a0 23 (some (z.1 + 20))) (z.1 + 21) (fun _ => none)) a0 25 (some (z.1 + 21))) (z.1 + 22) (fun _ => none)) a0 26 (some (z.1 + 22))) (z.1 + 23) (fun _ => none)) a0 27 (some (z.1 + 23))))) :=
  (st_aload_n f_91_0 rfl).trans ((st_objinit f_91_1 r_91_1 t_91_1 ⟨g1, Nat.le_of_ble_eq_true rfl⟩).trans ((st_aload_n f_91_4 rfl).trans ((sw_bipush f_91_5 c8_8).trans ((sw_newI 8 f_91_7 ⟨rfl, by decide⟩).trans ((st_putR f_91_9 e_91_7 rfl (Or.inr n_91) g2).trans ((st_aload_n f_91_12 rfl).trans ((sw_bipush f_91_13 c8_64).trans ((sw_newI 64 f_91_15 ⟨rfl, by decide⟩).trans ((st_putR f_91_17 e_91_13 rfl (Or.inr n_91) g3).trans ((st_aload_n f_91_20 rfl).trans ((sw_bipush f_91_21 c8_40).trans ((sw_newI 40 f_91_23 ⟨rfl, by decide⟩).trans ((st_putR f_91_25 e_91_16 rfl (Or.inr n_91) g4).trans ((st_aload_n f_91_28 rfl).trans ((sw_bipush f_91_29 c8_40).trans ((sw_newI 40 f_91_31 ⟨rfl, by decide⟩).trans ((st_putR f_91_33 e_91_19 rfl (Or.inr n_91) g5).trans ((st_aload_n f_91_36 rfl).trans ((sw_bipush f_91_37 c8_40).trans ((sw_newI 40 f_91_39 ⟨rfl, by decide⟩).trans ((st_putR f_91_41 e_91_22 rfl (Or.inr n_91) g6).trans ((st_aload_n f_91_44 rfl).trans ((sw_bipush f_91_45 c8_40).trans ((sw_newI 40 f_91_47 ⟨rfl, by decide⟩).trans ((st_putR f_91_49 e_91_25 rfl (Or.inr n_91) g7).trans ((st_aload_n f_91_52 rfl).trans ((sw_bipush f_91_53 c8_40).trans ((sw_newZ 40 f_91_55 ⟨rfl, by decide⟩).trans ((st_putR f_91_57 e_91_28 rfl (Or.inr n_91) g8).trans ((st_aload_n f_91_60 rfl).trans ((sw_bipush f_91_61 c8_40).trans ((sw_newJ 40 f_91_63 ⟨rfl, by decide⟩).trans ((st_putR f_91_65 e_91_32 rfl (Or.inr n_91) g9).trans ((st_aload_n f_91_68 rfl).trans ((sw_bipush f_91_69 c8_40).trans ((sw_newI 40 f_91_71 ⟨rfl, by decide⟩).trans ((st_putR f_91_73 e_91_36 rfl (Or.inr n_91) g10).trans ((st_aload_n f_91_76 rfl).trans ((sw_bipush f_91_77 c8_40).trans ((sw_newI 40 f_91_79 ⟨rfl, by decide⟩).trans ((st_putR f_91_81 e_91_39 rfl (Or.inr n_91) g11).trans ((st_aload_n f_91_84 rfl).trans ((sw_bipush f_91_85 c8_40).trans ((sw_newZ 40 f_91_87 ⟨rfl, by decide⟩).trans ((st_putR f_91_89 e_91_42 rfl (Or.inr n_91) g12).trans ((st_aload_n f_91_92 rfl).trans ((sw_bipush f_91_93 c8_40).trans ((sw_newI 40 f_91_95 ⟨rfl, by decide⟩).trans ((st_putR f_91_97 e_91_45 rfl (Or.inr n_91) g13).trans ((st_aload_n f_91_100 rfl).trans ((sw_bipush f_91_101 c8_40).trans ((sw_newI 40 f_91_103 ⟨rfl, by decide⟩).trans ((st_putR f_91_105 e_91_48 rfl (Or.inr n_91) g14).trans ((st_aload_n f_91_108 rfl).trans ((sw_bipush f_91_109 c8_40).trans ((sw_newI 40 f_91_111 ⟨rfl, by decide⟩).trans ((st_putR f_91_113 e_91_51 rfl (Or.inr n_91) g15).trans ((st_aload_n f_91_116 rfl).trans ((sw_bipush f_91_117 c8_8).trans ((sw_newI 8 f_91_119 ⟨rfl, by decide⟩).trans ((st_putR f_91_121 e_91_54 rfl (Or.inr n_91) g16).trans ((st_aload_n f_91_124 rfl).trans ((sw_bipush f_91_125 c8_8).trans ((sw_newI 8 f_91_127 ⟨rfl, by decide⟩).trans ((st_putR f_91_129 e_91_57 rfl (Or.inr n_91) g17).trans ((st_aload_n f_91_132 rfl).trans ((sw_bipush f_91_133 c8_40).trans ((sw_newI 40 f_91_135 ⟨rfl, by decide⟩).trans ((st_putR f_91_137 e_91_60 rfl (Or.inr n_91) g18).trans ((st_aload_n f_91_140 rfl).trans ((sw_bipush f_91_141 c8_42).trans ((sw_newI 42 f_91_143 ⟨rfl, by decide⟩).trans ((st_putR f_91_145 e_91_63 rfl (Or.inr n_91) g19).trans ((st_aload_n f_91_148 rfl).trans ((sw_bipush f_91_149 c8_42).trans ((sw_newI 42 f_91_151 ⟨rfl, by decide⟩).trans ((st_putR f_91_153 e_91_66 rfl (Or.inr n_91) g20).trans ((st_aload_n f_91_156 rfl).trans ((sw_bipush f_91_157 c8_42).trans ((sw_newI 42 f_91_159 ⟨rfl, by decide⟩).trans ((st_putR f_91_161 e_91_69 rfl (Or.inr n_91) g21).trans ((st_aload_n f_91_164 rfl).trans ((sw_bipush f_91_165 c8_42).trans ((sw_newI 42 f_91_167 ⟨rfl, by decide⟩).trans ((st_putR f_91_169 e_91_72 rfl (Or.inr n_91) g22).trans ((st_aload_n f_91_172 rfl).trans ((sw_sipush f_91_173 c16_252).trans ((sw_newI 252 f_91_176 ⟨rfl, by decide⟩).trans ((st_putR f_91_178 e_91_75 rfl (Or.inr n_91) g23).trans ((st_aload_n f_91_181 rfl).trans ((sw_sipush f_91_182 c16_168).trans ((sw_newI 168 f_91_185 ⟨rfl, by decide⟩).trans ((st_putR f_91_187 e_91_78 rfl (Or.inr n_91) g24).trans ((st_aload_n f_91_190 rfl).trans ((sw_sipush f_91_191 c16_168).trans ((sw_newI 168 f_91_194 ⟨rfl, by decide⟩).trans ((st_putR f_91_196 e_91_81 rfl (Or.inr n_91) g25).trans (st_return f_91_199 mr_91))))))))))))))))))))))))))))))))))))))))))))))))))))))))))))))))))))))))))))))))))))))))))))))))))
theorem eX7_thrown {a0 : Nat} : X sc (d + 1) 92 [.ref a0] (T, z, xv V, J, R) = XR sc d 92 0 [some (.ref a0)] [] (T, z, xv V, J, R) :=
  (X_eq ⟨jl_92, by rw [mn_92]; rfl, rfl, by rw [lm_92]; exact Nat.le_of_ble_eq_true rfl⟩).trans (by unfold xent; rw [lm_92]; rfl)
theorem bX7_thrown_0 {a0 : Nat} (g1 : T a0 = (8, 0)) : XR sc d 92 0 [some (.ref a0)] [] (T, z, xv V, J, R) = some (.inl (some (xw (V a0 28))), (T, z, xv V, J, R)) :=
  (st_aload_n f_92_0 rfl).trans ((sw_getI f_92_1 e_92_84 (by decide) g1).trans (sw_ireturn f_92_4 mr_92))
theorem eX7_fails {x1 : Int} {a0 : Nat} : X sc (d + 1) 93 [.ref a0, xw x1] (T, z, xv V, J, R) = XR sc d 93 0 [some (.ref a0), some (xw x1)] [] (T, z, xv V, J, R) :=
  (X_eq ⟨jl_93, by rw [mn_93]; rfl, rfl, by rw [lm_93]; exact Nat.le_of_ble_eq_true rfl⟩).trans (by unfold xent; rw [lm_93]; rfl)
theorem bX7_fails_0 {x1 : Int} {a0 : Nat} (g1 : T a0 = (8, 0)) (g2 : -2147483648 ≤ x1 ∧ x1 ≤ 2147483647) : XR sc d 93 0 [some (.ref a0), some (xw x1)] [] (T, z, xv V, J, R) = if x1 ≤ 0 then XR sc d 93 13 [some (.ref a0), some (xw x1)] [] (T, z, xv (xup2 V a0 28 x1), J, R) else XR sc d 93 9 [some (.ref a0), some (xw x1)] [] (T, z, xv (xup2 V a0 28 x1), J, R) :=
  (st_aload_n f_93_0 rfl).trans ((sw_iload_n f_93_1 rfl).trans ((sw_putI f_93_2 e_93_84 (Or.inl rfl) (Or.inl rfl) g1).trans ((sw_iload_n f_93_5 rfl).trans (sw_if_le (t := 13) f_93_6 ⟨by decide, rfl⟩ g2))))
theorem bX7_fails_9 {o0 o1 : Option Value} : XR sc d 93 9 [o0, o1] [] (T, z, xv V, J, R) = XR sc d 93 14 [o0, o1] [xw 1] (T, z, xv V, J, R) :=
  (sw_iconst f_93_9).trans (st_goto (t := 14) f_93_10 ⟨by decide, rfl⟩)
theorem bX7_fails_13 {o0 o1 : Option Value} : XR sc d 93 13 [o0, o1] [] (T, z, xv V, J, R) = XR sc d 93 14 [o0, o1] [xw 0] (T, z, xv V, J, R) :=
  sw_iconst f_93_13
theorem bX7_fails_14 {o0 o1 : Option Value} {y0 : Int} (g1 : y0 = 0 ∨ y0 = 1) : XR sc d 93 14 [o0, o1] [xw y0] (T, z, xv V, J, R) = some (.inl (some (xw y0)), (T, z, xv V, J, R)) :=
  sw_zreturn f_93_14 mr_93 g1
theorem eX7_isIn {x0 x1 x2 : Int} : X sc (d + 1) 94 [xw x0, xw x1, xw x2] (T, z, xv V, J, R) = XR sc d 94 0 [some (xw x0), some (xw x1), some (xw x2)] [] (T, z, xv V, J, R) :=
  (X_eq ⟨jl_94, by rw [mn_94]; rfl, rfl, by rw [lm_94]; exact Nat.le_of_ble_eq_true rfl⟩).trans (by unfold xent; rw [lm_94]; rfl)
theorem bX7_isIn_0 {o2 : Option Value} {x0 x1 : Int} (g1 : -2147483648 ≤ x0 ∧ x0 ≤ 2147483647) (g2 : -2147483648 ≤ x1 ∧ x1 ≤ 2147483647) : XR sc d 94 0 [some (xw x0), some (xw x1), o2] [] (T, z, xv V, J, R) = if x0 < x1 then XR sc d 94 14 [some (xw x0), some (xw x1), o2] [] (T, z, xv V, J, R) else XR sc d 94 5 [some (xw x0), some (xw x1), o2] [] (T, z, xv V, J, R) :=
  (sw_iload_n f_94_0 rfl).trans ((sw_iload_n f_94_1 rfl).trans (sw_icmp_lt (t := 14) f_94_2 ⟨by decide, rfl⟩ g1 g2))
theorem bX7_isIn_5 {o1 : Option Value} {x0 x2 : Int} (g1 : -2147483648 ≤ x0 ∧ x0 ≤ 2147483647) (g2 : -2147483648 ≤ x2 ∧ x2 ≤ 2147483647) : XR sc d 94 5 [some (xw x0), o1, some (xw x2)] [] (T, z, xv V, J, R) = if x2 < x0 then XR sc d 94 14 [some (xw x0), o1, some (xw x2)] [] (T, z, xv V, J, R) else XR sc d 94 10 [some (xw x0), o1, some (xw x2)] [] (T, z, xv V, J, R) :=
  (sw_iload_n f_94_5 rfl).trans ((sw_iload_n f_94_6 rfl).trans (sw_icmp_gt (t := 14) f_94_7 ⟨by decide, rfl⟩ g1 g2))
theorem bX7_isIn_10 {o0 o1 o2 : Option Value} : XR sc d 94 10 [o0, o1, o2] [] (T, z, xv V, J, R) = XR sc d 94 15 [o0, o1, o2] [xw 1] (T, z, xv V, J, R) :=
  (sw_iconst f_94_10).trans (st_goto (t := 15) f_94_11 ⟨by decide, rfl⟩)
theorem bX7_isIn_14 {o0 o1 o2 : Option Value} : XR sc d 94 14 [o0, o1, o2] [] (T, z, xv V, J, R) = XR sc d 94 15 [o0, o1, o2] [xw 0] (T, z, xv V, J, R) :=
  sw_iconst f_94_14
theorem bX7_isIn_15 {o0 o1 o2 : Option Value} {y0 : Int} (g1 : y0 = 0 ∨ y0 = 1) : XR sc d 94 15 [o0, o1, o2] [xw y0] (T, z, xv V, J, R) = some (.inl (some (xw y0)), (T, z, xv V, J, R)) :=
  sw_zreturn f_94_15 mr_94 g1
theorem eX7_isHide {x1 : Int} {a0 : Nat} : X sc (d + 1) 95 [.ref a0, xw x1] (T, z, xv V, J, R) = XR sc d 95 0 [some (.ref a0), some (xw x1)] [] (T, z, xv V, J, R) :=
  (X_eq ⟨jl_95, by rw [mn_95]; rfl, rfl, by rw [lm_95]; exact Nat.le_of_ble_eq_true rfl⟩).trans (by unfold xent; rw [lm_95]; rfl)
theorem bX7_isHide_0 {x1 : Int} {a0 : Nat} (g1 : T a0 = (8, 0)) : XR sc d 95 0 [some (.ref a0), some (xw x1)] [] (T, z, xv V, J, R) = xret 95 (XR sc d 95) 8 11 [some (.ref a0), some (xw x1)] [] (X sc d 94 [xw x1, xw 0, xw ((V a0 0) - 1)] (T, z, xv V, J, R)) :=
  (sw_iload_n f_95_0 rfl).trans ((sw_iconst f_95_1).trans ((st_aload_n f_95_2 rfl).trans ((sw_getI f_95_3 e_95_88 (by decide) g1).trans ((sw_iconst f_95_6).trans ((sw_isub f_95_7).trans (st_callS' f_95_8 h_95_91 mn_94 rfl rfl rfl rfl))))))
theorem bX7_isHide_11 {o0 o1 : Option Value} {y0 : Int} (g1 : y0 = 0 ∨ y0 = 1) : XR sc d 95 11 [o0, o1] [xw y0] (T, z, xv V, J, R) = some (.inl (some (xw y0)), (T, z, xv V, J, R)) :=
  sw_zreturn f_95_11 mr_95 g1
theorem eX7_isPart {x1 : Int} {a0 : Nat} : X sc (d + 1) 96 [.ref a0, xw x1] (T, z, xv V, J, R) = XR sc d 96 0 [some (.ref a0), some (xw x1)] [] (T, z, xv V, J, R) :=
  (X_eq ⟨jl_96, by rw [mn_96]; rfl, rfl, by rw [lm_96]; exact Nat.le_of_ble_eq_true rfl⟩).trans (by unfold xent; rw [lm_96]; rfl)
theorem bX7_isPart_0 {x1 : Int} {a0 : Nat} (g1 : T a0 = (8, 0)) : XR sc d 96 0 [some (.ref a0), some (xw x1)] [] (T, z, xv V, J, R) = xret 96 (XR sc d 96) 8 11 [some (.ref a0), some (xw x1)] [] (X sc d 94 [xw x1, xw 0, xw ((V a0 3) - 1)] (T, z, xv V, J, R)) :=
  (sw_iload_n f_96_0 rfl).trans ((sw_iconst f_96_1).trans ((st_aload_n f_96_2 rfl).trans ((sw_getI f_96_3 e_96_95 (by decide) g1).trans ((sw_iconst f_96_6).trans ((sw_isub f_96_7).trans (st_callS' f_96_8 h_96_91 mn_94 rfl rfl rfl rfl))))))
theorem bX7_isPart_11 {o0 o1 : Option Value} {y0 : Int} (g1 : y0 = 0 ∨ y0 = 1) : XR sc d 96 11 [o0, o1] [xw y0] (T, z, xv V, J, R) = some (.inl (some (xw y0)), (T, z, xv V, J, R)) :=
  sw_zreturn f_96_11 mr_96 g1
theorem eX7_isRing {x0 : Int} : X sc (d + 1) 97 [xw x0] (T, z, xv V, J, R) = XR sc d 97 0 [some (xw x0)] [] (T, z, xv V, J, R) :=
  (X_eq ⟨jl_97, by rw [mn_97]; rfl, rfl, by rw [lm_97]; exact Nat.le_of_ble_eq_true rfl⟩).trans (by unfold xent; rw [lm_97]; rfl)
theorem bX7_isRing_0 {x0 : Int} : XR sc d 97 0 [some (xw x0)] [] (T, z, xv V, J, R) = xret 97 (XR sc d 97) 4 7 [some (xw x0)] [] (X sc d 94 [xw x0, xw 0, xw 7] (T, z, xv V, J, R)) :=
  (sw_iload_n f_97_0 rfl).trans ((sw_iconst f_97_1).trans ((sw_bipush f_97_2 c8_7).trans (st_callS' f_97_4 h_97_91 mn_94 rfl rfl rfl rfl)))
theorem bX7_isRing_7 {o0 : Option Value} {y0 : Int} (g1 : y0 = 0 ∨ y0 = 1) : XR sc d 97 7 [o0] [xw y0] (T, z, xv V, J, R) = some (.inl (some (xw y0)), (T, z, xv V, J, R)) :=
  sw_zreturn f_97_7 mr_97 g1
theorem eX7_isSquare {x0 x1 : Int} : X sc (d + 1) 98 [xw x0, xw x1] (T, z, xv V, J, R) = XR sc d 98 0 [some (xw x0), some (xw x1)] [] (T, z, xv V, J, R) :=
  (X_eq ⟨jl_98, by rw [mn_98]; rfl, rfl, by rw [lm_98]; exact Nat.le_of_ble_eq_true rfl⟩).trans (by unfold xent; rw [lm_98]; rfl)
theorem bX7_isSquare_0 {o1 : Option Value} {x0 : Int} : XR sc d 98 0 [some (xw x0), o1] [] (T, z, xv V, J, R) = xret 98 (XR sc d 98) 4 7 [some (xw x0), o1] [] (X sc d 94 [xw x0, xw 0, xw 11] (T, z, xv V, J, R)) :=
  (sw_iload_n f_98_0 rfl).trans ((sw_iconst f_98_1).trans ((sw_bipush f_98_2 c8_11).trans (st_callS' f_98_4 h_98_91 mn_94 rfl rfl rfl rfl)))
theorem bX7_isSquare_7 {o0 o1 : Option Value} {y0 : Int} (g1 : -2147483648 ≤ y0 ∧ y0 ≤ 2147483647) : XR sc d 98 7 [o0, o1] [xw y0] (T, z, xv V, J, R) = if y0 = 0 then XR sc d 98 24 [o0, o1] [] (T, z, xv V, J, R) else XR sc d 98 10 [o0, o1] [] (T, z, xv V, J, R) :=
  sw_if_eq (t := 24) f_98_7 ⟨by decide, rfl⟩ g1
theorem bX7_isSquare_10 {o0 : Option Value} {x1 : Int} : XR sc d 98 10 [o0, some (xw x1)] [] (T, z, xv V, J, R) = xret 98 (XR sc d 98) 14 17 [o0, some (xw x1)] [] (X sc d 94 [xw x1, xw 0, xw 7] (T, z, xv V, J, R)) :=
  (sw_iload_n f_98_10 rfl).trans ((sw_iconst f_98_11).trans ((sw_bipush f_98_12 c8_7).trans (st_callS' f_98_14 h_98_91 mn_94 rfl rfl rfl rfl)))
theorem bX7_isSquare_17 {o0 o1 : Option Value} {y0 : Int} (g1 : -2147483648 ≤ y0 ∧ y0 ≤ 2147483647) : XR sc d 98 17 [o0, o1] [xw y0] (T, z, xv V, J, R) = if y0 = 0 then XR sc d 98 24 [o0, o1] [] (T, z, xv V, J, R) else XR sc d 98 20 [o0, o1] [] (T, z, xv V, J, R) :=
  sw_if_eq (t := 24) f_98_17 ⟨by decide, rfl⟩ g1
theorem bX7_isSquare_20 {o0 o1 : Option Value} : XR sc d 98 20 [o0, o1] [] (T, z, xv V, J, R) = XR sc d 98 25 [o0, o1] [xw 1] (T, z, xv V, J, R) :=
  (sw_iconst f_98_20).trans (st_goto (t := 25) f_98_21 ⟨by decide, rfl⟩)
theorem bX7_isSquare_24 {o0 o1 : Option Value} : XR sc d 98 24 [o0, o1] [] (T, z, xv V, J, R) = XR sc d 98 25 [o0, o1] [xw 0] (T, z, xv V, J, R) :=
  sw_iconst f_98_24
theorem bX7_isSquare_25 {o0 o1 : Option Value} {y0 : Int} (g1 : y0 = 0 ∨ y0 = 1) : XR sc d 98 25 [o0, o1] [xw y0] (T, z, xv V, J, R) = some (.inl (some (xw y0)), (T, z, xv V, J, R)) :=
  sw_zreturn f_98_25 mr_98 g1
theorem eX7_hide {x1 : Int} {a0 : Nat} : X sc (d + 1) 99 [.ref a0, xw x1] (T, z, xv V, J, R) = XR sc d 99 0 [some (.ref a0), some (xw x1)] [] (T, z, xv V, J, R) :=
  (X_eq ⟨jl_99, by rw [mn_99]; rfl, rfl, by rw [lm_99]; exact Nat.le_of_ble_eq_true rfl⟩).trans (by unfold xent; rw [lm_99]; rfl)
theorem bX7_hide_0 {x1 : Int} {a0 : Nat} : XR sc d 99 0 [some (.ref a0), some (xw x1)] [] (T, z, xv V, J, R) = xret 99 (XR sc d 99) 5 8 [some (.ref a0), some (xw x1)] [.ref a0] (X sc d 94 [xw x1, xw 2, xw 9] (T, z, xv V, J, R)) :=
  (st_aload_n f_99_0 rfl).trans ((sw_iload_n f_99_1 rfl).trans ((sw_iconst f_99_2).trans ((sw_bipush f_99_3 c8_9).trans (st_callS' f_99_5 h_99_91 mn_94 rfl rfl rfl rfl))))
theorem bX7_hide_8 {o0 o1 : Option Value} {s1 : Value} {y0 : Int} (g1 : -2147483648 ≤ y0 ∧ y0 ≤ 2147483647) : XR sc d 99 8 [o0, o1] [xw y0, s1] (T, z, xv V, J, R) = if y0 = 0 then XR sc d 99 11 [o0, o1] [s1] (T, z, xv V, J, R) else XR sc d 99 15 [o0, o1] [s1] (T, z, xv V, J, R) :=
  sw_if_ne (t := 15) f_99_8 ⟨by decide, rfl⟩ g1
theorem bX7_hide_11 {o0 o1 : Option Value} {s0 : Value} : XR sc d 99 11 [o0, o1] [s0] (T, z, xv V, J, R) = XR sc d 99 29 [o0, o1] [xw 1, s0] (T, z, xv V, J, R) :=
  (sw_iconst f_99_11).trans (st_goto (t := 29) f_99_12 ⟨by decide, rfl⟩)
theorem bX7_hide_15 {o1 : Option Value} {s0 : Value} {a0 : Nat} (g1 : T a0 = (8, 0)) (g2 : -2147483648 ≤ (V a0 0) ∧ (V a0 0) ≤ 2147483647) : XR sc d 99 15 [some (.ref a0), o1] [s0] (T, z, xv V, J, R) = if (V a0 0) = 8 then XR sc d 99 24 [some (.ref a0), o1] [s0] (T, z, xv V, J, R) else XR sc d 99 28 [some (.ref a0), o1] [s0] (T, z, xv V, J, R) :=
  (st_aload_n f_99_15 rfl).trans ((sw_getI f_99_16 e_99_88 (by decide) g1).trans ((sw_bipush f_99_19 c8_8).trans (sw_icmp_ne (t := 28) f_99_21 ⟨by decide, rfl⟩ g2 ⟨by decide, by decide⟩)))
theorem bX7_hide_24 {o0 o1 : Option Value} {s0 : Value} : XR sc d 99 24 [o0, o1] [s0] (T, z, xv V, J, R) = XR sc d 99 29 [o0, o1] [xw 2, s0] (T, z, xv V, J, R) :=
  (sw_iconst f_99_24).trans (st_goto (t := 29) f_99_25 ⟨by decide, rfl⟩)
theorem bX7_hide_28 {o0 o1 : Option Value} {s0 : Value} : XR sc d 99 28 [o0, o1] [s0] (T, z, xv V, J, R) = XR sc d 99 29 [o0, o1] [xw 0, s0] (T, z, xv V, J, R) :=
  sw_iconst f_99_28
theorem bX7_hide_29 {o0 o1 : Option Value} {y0 : Int} {b1 : Nat} (g1 : T b1 = (8, 0)) : XR sc d 99 29 [o0, o1] [xw y0, .ref b1] (T, z, xv V, J, R) = xret 99 (XR sc d 99) 29 32 [o0, o1] [] (X sc d 93 [.ref b1, xw y0] (T, z, xv V, J, R)) :=
  st_callV' f_99_29 h_99_98 mn_93 rfl rfl rfl rfl mo_93 g1 rfl
theorem bX7_hide_32 {o0 o1 : Option Value} {y0 : Int} (g1 : -2147483648 ≤ y0 ∧ y0 ≤ 2147483647) : XR sc d 99 32 [o0, o1] [xw y0] (T, z, xv V, J, R) = if y0 = 0 then XR sc d 99 37 [o0, o1] [] (T, z, xv V, J, R) else XR sc d 99 35 [o0, o1] [] (T, z, xv V, J, R) :=
  sw_if_eq (t := 37) f_99_32 ⟨by decide, rfl⟩ g1
theorem bX7_hide_35 {o0 o1 : Option Value} : XR sc d 99 35 [o0, o1] [] (T, z, xv V, J, R) = some (.inl (some (xw 0)), (T, z, xv V, J, R)) :=
  (sw_iconst f_99_35).trans (sw_ireturn f_99_36 mr_99)
theorem bX7_hide_37 {x1 : Int} {a0 : Nat} (g1 : T a0 = (8, 0)) (g2 : R a0 1 = some ((R a0 1).getD 0)) (g3 : T ((R a0 1).getD 0) = (32, (T ((R a0 1).getD 0)).2)) (g4 : (0 : Int) ≤ (V a0 0) ∧ (V a0 0) < ((T ((R a0 1).getD 0)).2 : Int) ∧ (T ((R a0 1).getD 0)).2 ≤ 3584) : XR sc d 99 37 [some (.ref a0), some (xw x1)] [] (T, z, xv V, J, R) = some (.inl (some (xw (((xup2 (xup2 V ((R a0 1).getD 0) (V a0 0).toNat x1) a0 0 (((xup2 V ((R a0 1).getD 0) (V a0 0).toNat x1) a0 0) + 1)) a0 0) - 1))), (T, z, xv (xup2 (xup2 V ((R a0 1).getD 0) (V a0 0).toNat x1) a0 0 (((xup2 V ((R a0 1).getD 0) (V a0 0).toNat x1) a0 0) + 1)), J, R)) :=
  (st_aload_n f_99_37 rfl).trans ((st_getR f_99_38 e_99_7 (by decide) g1 g2).trans ((st_aload_n f_99_41 rfl).trans ((sw_getI f_99_42 e_99_88 (by decide) g1).trans ((sw_iload_n f_99_45 rfl).trans ((sw_iastore f_99_46 g3 g4).trans ((st_aload_n f_99_47 rfl).trans ((st_dup f_99_48 rfl).trans ((sw_getI f_99_49 e_99_88 (by decide) g1).trans ((sw_iconst f_99_52).trans ((sw_iadd f_99_53).trans ((sw_putI f_99_54 e_99_88 (Or.inl rfl) (Or.inl rfl) g1).trans ((st_aload_n f_99_57 rfl).trans ((sw_getI f_99_58 e_99_88 (by decide) g1).trans ((sw_iconst f_99_61).trans ((sw_isub f_99_62).trans (sw_ireturn f_99_63 mr_99))))))))))))))))
theorem eX7_fault {x1 x2 x3 : Int} {a0 : Nat} : X sc (d + 1) 100 [.ref a0, xw x1, xw x2, xw x3] (T, z, xv V, J, R) = XR sc d 100 0 [some (.ref a0), some (xw x1), some (xw x2), some (xw x3), none, none] [] (T, z, xv V, J, R) :=
  (X_eq ⟨jl_100, by rw [mn_100]; rfl, rfl, by rw [lm_100]; exact Nat.le_of_ble_eq_true rfl⟩).trans (by unfold xent; rw [lm_100]; rfl)
theorem bX7_fault_0 {o2 o3 o4 o5 : Option Value} {x1 : Int} {a0 : Nat} (g1 : T a0 = (8, 0)) : XR sc d 100 0 [some (.ref a0), some (xw x1), o2, o3, o4, o5] [] (T, z, xv V, J, R) = xret 100 (XR sc d 100) 3 6 [some (.ref a0), some (xw x1), o2, o3, o4, o5] [.ref a0] (X sc d 95 [.ref a0, xw x1] (T, z, xv V, J, R)) :=
  (st_aload_n f_100_0 rfl).trans ((st_aload_n f_100_1 rfl).trans ((sw_iload_n f_100_2 rfl).trans (st_callV' f_100_3 h_100_102 mn_95 rfl rfl rfl rfl mo_95 g1 rfl)))
theorem bX7_fault_6 {o0 o1 o2 o3 o4 o5 : Option Value} {s1 : Value} {y0 : Int} (g1 : -2147483648 ≤ y0 ∧ y0 ≤ 2147483647) : XR sc d 100 6 [o0, o1, o2, o3, o4, o5] [xw y0, s1] (T, z, xv V, J, R) = if y0 = 0 then XR sc d 100 21 [o0, o1, o2, o3, o4, o5] [s1] (T, z, xv V, J, R) else XR sc d 100 9 [o0, o1, o2, o3, o4, o5] [s1] (T, z, xv V, J, R) :=
  sw_if_eq (t := 21) f_100_6 ⟨by decide, rfl⟩ g1
theorem bX7_fault_9 {o0 o1 o4 o5 : Option Value} {s0 : Value} {x2 x3 : Int} : XR sc d 100 9 [o0, o1, some (xw x2), some (xw x3), o4, o5] [s0] (T, z, xv V, J, R) = xret 100 (XR sc d 100) 11 14 [o0, o1, some (xw x2), some (xw x3), o4, o5] [s0] (X sc d 98 [xw x2, xw x3] (T, z, xv V, J, R)) :=
  (sw_iload_n f_100_9 rfl).trans ((sw_iload_n f_100_10 rfl).trans (st_callS' f_100_11 h_100_105 mn_98 rfl rfl rfl rfl))
theorem bX7_fault_14 {o0 o1 o2 o3 o4 o5 : Option Value} {s1 : Value} {y0 : Int} (g1 : -2147483648 ≤ y0 ∧ y0 ≤ 2147483647) : XR sc d 100 14 [o0, o1, o2, o3, o4, o5] [xw y0, s1] (T, z, xv V, J, R) = if y0 = 0 then XR sc d 100 21 [o0, o1, o2, o3, o4, o5] [s1] (T, z, xv V, J, R) else XR sc d 100 17 [o0, o1, o2, o3, o4, o5] [s1] (T, z, xv V, J, R) :=
  sw_if_eq (t := 21) f_100_14 ⟨by decide, rfl⟩ g1
theorem bX7_fault_17 {o0 o1 o2 o3 o4 o5 : Option Value} {s0 : Value} : XR sc d 100 17 [o0, o1, o2, o3, o4, o5] [s0] (T, z, xv V, J, R) = XR sc d 100 22 [o0, o1, o2, o3, o4, o5] [xw 0, s0] (T, z, xv V, J, R) :=
  (sw_iconst f_100_17).trans (st_goto (t := 22) f_100_18 ⟨by decide, rfl⟩)
theorem bX7_fault_21 {o0 o1 o2 o3 o4 o5 : Option Value} {s0 : Value} : XR sc d 100 21 [o0, o1, o2, o3, o4, o5] [s0] (T, z, xv V, J, R) = XR sc d 100 22 [o0, o1, o2, o3, o4, o5] [xw 1, s0] (T, z, xv V, J, R) :=
  sw_iconst f_100_21
theorem bX7_fault_22 {o0 o1 o2 o3 o4 o5 : Option Value} {y0 : Int} {b1 : Nat} (g1 : T b1 = (8, 0)) : XR sc d 100 22 [o0, o1, o2, o3, o4, o5] [xw y0, .ref b1] (T, z, xv V, J, R) = xret 100 (XR sc d 100) 22 25 [o0, o1, o2, o3, o4, o5] [] (X sc d 93 [.ref b1, xw y0] (T, z, xv V, J, R)) :=
  st_callV' f_100_22 h_100_98 mn_93 rfl rfl rfl rfl mo_93 g1 rfl
theorem bX7_fault_25 {o0 o1 o2 o3 o4 o5 : Option Value} {y0 : Int} (g1 : -2147483648 ≤ y0 ∧ y0 ≤ 2147483647) : XR sc d 100 25 [o0, o1, o2, o3, o4, o5] [xw y0] (T, z, xv V, J, R) = if y0 = 0 then XR sc d 100 30 [o0, o1, o2, o3, o4, o5] [] (T, z, xv V, J, R) else XR sc d 100 28 [o0, o1, o2, o3, o4, o5] [] (T, z, xv V, J, R) :=
  sw_if_eq (t := 30) f_100_25 ⟨by decide, rfl⟩ g1
theorem bX7_fault_28 {o0 o1 o2 o3 o4 o5 : Option Value} : XR sc d 100 28 [o0, o1, o2, o3, o4, o5] [] (T, z, xv V, J, R) = some (.inl (some (xw 0)), (T, z, xv V, J, R)) :=
  (sw_iconst f_100_28).trans (sw_ireturn f_100_29 mr_100)
theorem bX7_fault_30 {o4 o5 : Option Value} {x1 x3 x2 : Int} {a0 : Nat} (g1 : T a0 = (8, 0)) (g2 : R a0 2 = some ((R a0 2).getD 0)) (g3 : T ((R a0 2).getD 0) = (32, (T ((R a0 2).getD 0)).2)) (g4 : (0 : Int) ≤ ((8 * x1) + x3) ∧ ((8 * x1) + x3) < ((T ((R a0 2).getD 0)).2 : Int) ∧ (T ((R a0 2).getD 0)).2 ≤ 3584) : XR sc d 100 30 [some (.ref a0), some (xw x1), some (xw x2), some (xw x3), o4, o5] [] (T, z, xv V, J, R) = XR sc d 100 53 [some (.ref a0), some (xw x1), some (xw x2), some (xw x3), some (xw 0), some (xw 0)] [] (T, z, xv (xup2 V ((R a0 2).getD 0) ((8 * x1) + x3).toNat (iOr (V ((R a0 2).getD 0) ((8 * x1) + x3).toNat) (iShl 1 x2))), J, R) :=
  (st_aload_n f_100_30 rfl).trans ((st_getR f_100_31 e_100_13 (by decide) g1 g2).trans ((sw_bipush f_100_34 c8_8).trans ((sw_iload_n f_100_36 rfl).trans ((sw_imul f_100_37).trans ((sw_iload_n f_100_38 rfl).trans ((sw_iadd f_100_39).trans ((st_dup2 f_100_40 rfl rfl).trans ((sw_iaload f_100_41 g3 g4).trans ((sw_iconst f_100_42).trans ((sw_iload_n f_100_43 rfl).trans ((sw_ishl f_100_44).trans ((sw_ior f_100_45).trans ((sw_iastore f_100_46 g3 g4).trans ((sw_iconst f_100_47).trans ((sw_istore (L' := [some (.ref a0), some (xw x1), some (xw x2), some (xw x3), some (xw 0), o5]) f_100_48 (Nat.le_of_ble_eq_true rfl) rfl).trans ((sw_iconst f_100_50).trans (sw_istore (L' := [some (.ref a0), some (xw x1), some (xw x2), some (xw x3), some (xw 0), some (xw 0)]) f_100_51 (Nat.le_of_ble_eq_true rfl) rfl)))))))))))))))))
theorem bX7_fault_53 {o0 o1 o2 o3 o4 : Option Value} {x5 : Int} (g1 : -2147483648 ≤ x5 ∧ x5 ≤ 2147483647) : XR sc d 100 53 [o0, o1, o2, o3, o4, some (xw x5)] [] (T, z, xv V, J, R) = if 96 ≤ x5 then XR sc d 100 94 [o0, o1, o2, o3, o4, some (xw x5)] [] (T, z, xv V, J, R) else XR sc d 100 60 [o0, o1, o2, o3, o4, some (xw x5)] [] (T, z, xv V, J, R) :=
  (sw_iload f_100_53 rfl).trans ((sw_bipush f_100_55 c8_96).trans (sw_icmp_ge (t := 94) f_100_57 ⟨by decide, rfl⟩ g1 ⟨by decide, by decide⟩))
theorem bX7_fault_60 {o2 o3 : Option Value} {x4 x1 x5 : Int} {a0 : Nat} (g1 : T a0 = (8, 0)) (g2 : R a0 2 = some ((R a0 2).getD 0)) (g3 : 0 ≤ x5 ∧ x5 ≤ 2147483647) (g4 : T ((R a0 2).getD 0) = (32, (T ((R a0 2).getD 0)).2)) (g5 : (0 : Int) ≤ ((8 * x1) + (x5 / 12)) ∧ ((8 * x1) + (x5 / 12)) < ((T ((R a0 2).getD 0)).2 : Int) ∧ (T ((R a0 2).getD 0)).2 ≤ 3584) : XR sc d 100 60 [some (.ref a0), some (xw x1), o2, o3, some (xw x4), some (xw x5)] [] (T, z, xv V, J, R) = XR sc d 100 53 [some (.ref a0), some (xw x1), o2, o3, some (xw (x4 + (iAnd (iShr (V ((R a0 2).getD 0) ((8 * x1) + (x5 / 12)).toNat) (x5 % 12)) 1))), some (xw (x5 + 1))] [] (T, z, xv V, J, R) :=
  (sw_iload f_100_60 rfl).trans ((st_aload_n f_100_62 rfl).trans ((st_getR f_100_63 e_100_13 (by decide) g1 g2).trans ((sw_bipush f_100_66 c8_8).trans ((sw_iload_n f_100_68 rfl).trans ((sw_imul f_100_69).trans ((sw_iload f_100_70 rfl).trans ((sw_bipush f_100_72 c8_12).trans ((sw_idiv f_100_74 ⟨by decide, by decide, g3⟩).trans ((sw_iadd f_100_75).trans ((sw_iaload f_100_76 g4 g5).trans ((sw_iload f_100_77 rfl).trans ((sw_bipush f_100_79 c8_12).trans ((sw_irem f_100_81 ⟨by decide, by decide, g3⟩).trans ((sw_ishr f_100_82).trans ((sw_iconst f_100_83).trans ((sw_iand f_100_84).trans ((sw_iadd f_100_85).trans ((sw_istore (L' := [some (.ref a0), some (xw x1), o2, o3, some (xw (x4 + (iAnd (iShr (V ((R a0 2).getD 0) ((8 * x1) + (x5 / 12)).toNat) (x5 % 12)) 1))), some (xw x5)]) f_100_86 (Nat.le_of_ble_eq_true rfl) rfl).trans ((sw_iinc (L' := [some (.ref a0), some (xw x1), o2, o3, some (xw (x4 + (iAnd (iShr (V ((R a0 2).getD 0) ((8 * x1) + (x5 / 12)).toNat) (x5 % 12)) 1))), some (xw (x5 + 1))]) f_100_88 rfl (Nat.le_of_ble_eq_true rfl) rfl).trans (st_goto (t := 53) f_100_91 ⟨by decide, rfl⟩))))))))))))))))))))
theorem bX7_fault_94 {o0 o1 o2 o3 o5 : Option Value} {x4 : Int} : XR sc d 100 94 [o0, o1, o2, o3, some (xw x4), o5] [] (T, z, xv V, J, R) = some (.inl (some (xw (96 - x4))), (T, z, xv V, J, R)) :=
  (sw_bipush f_100_94 c8_96).trans ((sw_iload f_100_96 rfl).trans ((sw_isub f_100_98).trans (sw_ireturn f_100_99 mr_100)))
theorem eX7_areSizes {x0 x1 : Int} : X sc (d + 1) 101 [xw x0, xw x1] (T, z, xv V, J, R) = XR sc d 101 0 [some (xw x0), some (xw x1)] [] (T, z, xv V, J, R) :=
  (X_eq ⟨jl_101, by rw [mn_101]; rfl, rfl, by rw [lm_101]; exact Nat.le_of_ble_eq_true rfl⟩).trans (by unfold xent; rw [lm_101]; rfl)
theorem bX7_areSizes_0 {o1 : Option Value} {x0 : Int} : XR sc d 101 0 [some (xw x0), o1] [] (T, z, xv V, J, R) = xret 101 (XR sc d 101) 4 7 [some (xw x0), o1] [] (X sc d 94 [xw x0, xw 1, xw 12] (T, z, xv V, J, R)) :=
  (sw_iload_n f_101_0 rfl).trans ((sw_iconst f_101_1).trans ((sw_bipush f_101_2 c8_12).trans (st_callS' f_101_4 h_101_91 mn_94 rfl rfl rfl rfl)))
theorem bX7_areSizes_7 {o0 o1 : Option Value} {y0 : Int} (g1 : -2147483648 ≤ y0 ∧ y0 ≤ 2147483647) : XR sc d 101 7 [o0, o1] [xw y0] (T, z, xv V, J, R) = if y0 = 0 then XR sc d 101 24 [o0, o1] [] (T, z, xv V, J, R) else XR sc d 101 10 [o0, o1] [] (T, z, xv V, J, R) :=
  sw_if_eq (t := 24) f_101_7 ⟨by decide, rfl⟩ g1
theorem bX7_areSizes_10 {o0 : Option Value} {x1 : Int} : XR sc d 101 10 [o0, some (xw x1)] [] (T, z, xv V, J, R) = xret 101 (XR sc d 101) 14 17 [o0, some (xw x1)] [] (X sc d 94 [xw x1, xw 1, xw 8] (T, z, xv V, J, R)) :=
  (sw_iload_n f_101_10 rfl).trans ((sw_iconst f_101_11).trans ((sw_bipush f_101_12 c8_8).trans (st_callS' f_101_14 h_101_91 mn_94 rfl rfl rfl rfl)))
theorem bX7_areSizes_17 {o0 o1 : Option Value} {y0 : Int} (g1 : -2147483648 ≤ y0 ∧ y0 ≤ 2147483647) : XR sc d 101 17 [o0, o1] [xw y0] (T, z, xv V, J, R) = if y0 = 0 then XR sc d 101 24 [o0, o1] [] (T, z, xv V, J, R) else XR sc d 101 20 [o0, o1] [] (T, z, xv V, J, R) :=
  sw_if_eq (t := 24) f_101_17 ⟨by decide, rfl⟩ g1
theorem bX7_areSizes_20 {o0 o1 : Option Value} : XR sc d 101 20 [o0, o1] [] (T, z, xv V, J, R) = XR sc d 101 25 [o0, o1] [xw 1] (T, z, xv V, J, R) :=
  (sw_iconst f_101_20).trans (st_goto (t := 25) f_101_21 ⟨by decide, rfl⟩)
theorem bX7_areSizes_24 {o0 o1 : Option Value} : XR sc d 101 24 [o0, o1] [] (T, z, xv V, J, R) = XR sc d 101 25 [o0, o1] [xw 0] (T, z, xv V, J, R) :=
  sw_iconst f_101_24
theorem bX7_areSizes_25 {o0 o1 : Option Value} {y0 : Int} (g1 : y0 = 0 ∨ y0 = 1) : XR sc d 101 25 [o0, o1] [xw y0] (T, z, xv V, J, R) = some (.inl (some (xw y0)), (T, z, xv V, J, R)) :=
  sw_zreturn f_101_25 mr_101 g1
theorem eX7_isWhole {x1 x2 x3 x4 x5 x6 : Int} {a0 : Nat} : X sc (d + 1) 102 [.ref a0, xw x1, xw x2, xw x3, xw x4, xw x5, xw x6] (T, z, xv V, J, R) = XR sc d 102 0 [some (.ref a0), some (xw x1), some (xw x2), some (xw x3), some (xw x4), some (xw x5), some (xw x6), none, none, none] [] (T, z, xv V, J, R) :=
  (X_eq ⟨jl_102, by rw [mn_102]; rfl, rfl, by rw [lm_102]; exact Nat.le_of_ble_eq_true rfl⟩).trans (by unfold xent; rw [lm_102]; rfl)
theorem bX7_isWhole_0 {o0 o1 o3 o5 o7 o8 o9 : Option Value} {x4 x2 x6 : Int} (g1 : -2147483648 ≤ x6 ∧ x6 ≤ 2147483647) : XR sc d 102 0 [o0, o1, some (xw x2), o3, some (xw x4), o5, some (xw x6), o7, o8, o9] [] (T, z, xv V, J, R) = if x6 = 0 then XR sc d 102 23 [o0, o1, some (xw x2), o3, some (xw x4), o5, some (xw x6), some (xw (iShl ((iShl 1 x4) - 1) x2)), o8, o9] [] (T, z, xv V, J, R) else XR sc d 102 15 [o0, o1, some (xw x2), o3, some (xw x4), o5, some (xw x6), some (xw (iShl ((iShl 1 x4) - 1) x2)), o8, o9] [] (T, z, xv V, J, R) :=
  (sw_iconst f_102_0).trans ((sw_iload f_102_1 rfl).trans ((sw_ishl f_102_3).trans ((sw_iconst f_102_4).trans ((sw_isub f_102_5).trans ((sw_iload_n f_102_6 rfl).trans ((sw_ishl f_102_7).trans ((sw_istore (L' := [o0, o1, some (xw x2), o3, some (xw x4), o5, some (xw x6), some (xw (iShl ((iShl 1 x4) - 1) x2)), o8, o9]) f_102_8 (Nat.le_of_ble_eq_true rfl) rfl).trans ((sw_iload f_102_10 rfl).trans (sw_if_eq (t := 23) f_102_12 ⟨by decide, rfl⟩ g1)))))))))
theorem bX7_isWhole_15 {o0 o1 o2 o4 o6 o7 o8 o9 : Option Value} {x3 x5 : Int} (g1 : -2147483648 ≤ (x3 + x5) ∧ (x3 + x5) ≤ 2147483647) : XR sc d 102 15 [o0, o1, o2, some (xw x3), o4, some (xw x5), o6, o7, o8, o9] [] (T, z, xv V, J, R) = if 5 < (x3 + x5) then XR sc d 102 27 [o0, o1, o2, some (xw x3), o4, some (xw x5), o6, o7, o8, o9] [] (T, z, xv V, J, R) else XR sc d 102 23 [o0, o1, o2, some (xw x3), o4, some (xw x5), o6, o7, o8, o9] [] (T, z, xv V, J, R) :=
  (sw_iload_n f_102_15 rfl).trans ((sw_iload f_102_16 rfl).trans ((sw_iadd f_102_18).trans ((sw_iconst f_102_19).trans (sw_icmp_gt (t := 27) f_102_20 ⟨by decide, rfl⟩ g1 ⟨by decide, by decide⟩))))
theorem bX7_isWhole_23 {o0 o1 o2 o3 o4 o5 o6 o7 o8 o9 : Option Value} : XR sc d 102 23 [o0, o1, o2, o3, o4, o5, o6, o7, o8, o9] [] (T, z, xv V, J, R) = XR sc d 102 28 [o0, o1, o2, o3, o4, o5, o6, o7, o8, o9] [xw 1] (T, z, xv V, J, R) :=
  (sw_iconst f_102_23).trans (st_goto (t := 28) f_102_24 ⟨by decide, rfl⟩)
theorem bX7_isWhole_27 {o0 o1 o2 o3 o4 o5 o6 o7 o8 o9 : Option Value} : XR sc d 102 27 [o0, o1, o2, o3, o4, o5, o6, o7, o8, o9] [] (T, z, xv V, J, R) = XR sc d 102 28 [o0, o1, o2, o3, o4, o5, o6, o7, o8, o9] [xw 0] (T, z, xv V, J, R) :=
  sw_iconst f_102_27
theorem bX7_isWhole_28 {o0 o1 o2 o4 o5 o6 o7 o8 o9 : Option Value} {y0 x3 : Int} : XR sc d 102 28 [o0, o1, o2, some (xw x3), o4, o5, o6, o7, o8, o9] [xw y0] (T, z, xv V, J, R) = XR sc d 102 33 [o0, o1, o2, some (xw x3), o4, o5, o6, o7, some (xw y0), some (xw x3)] [] (T, z, xv V, J, R) :=
  (sw_istore (L' := [o0, o1, o2, some (xw x3), o4, o5, o6, o7, some (xw y0), o9]) f_102_28 (Nat.le_of_ble_eq_true rfl) rfl).trans ((sw_iload_n f_102_30 rfl).trans (sw_istore (L' := [o0, o1, o2, some (xw x3), o4, o5, o6, o7, some (xw y0), some (xw x3)]) f_102_31 (Nat.le_of_ble_eq_true rfl) rfl))
theorem bX7_isWhole_33 {o0 o1 o2 o4 o6 o7 o8 : Option Value} {x9 x3 x5 : Int} (g1 : -2147483648 ≤ x9 ∧ x9 ≤ 2147483647) (g2 : -2147483648 ≤ (x3 + x5) ∧ (x3 + x5) ≤ 2147483647) : XR sc d 102 33 [o0, o1, o2, some (xw x3), o4, some (xw x5), o6, o7, o8, some (xw x9)] [] (T, z, xv V, J, R) = if (x3 + x5) ≤ x9 then XR sc d 102 78 [o0, o1, o2, some (xw x3), o4, some (xw x5), o6, o7, o8, some (xw x9)] [] (T, z, xv V, J, R) else XR sc d 102 42 [o0, o1, o2, some (xw x3), o4, some (xw x5), o6, o7, o8, some (xw x9)] [] (T, z, xv V, J, R) :=
  (sw_iload f_102_33 rfl).trans ((sw_iload_n f_102_35 rfl).trans ((sw_iload f_102_36 rfl).trans ((sw_iadd f_102_38).trans (sw_icmp_ge (t := 78) f_102_39 ⟨by decide, rfl⟩ g1 g2))))
theorem bX7_isWhole_42 {o0 o1 o2 o3 o4 o5 o6 o7 o9 : Option Value} {x8 : Int} (g1 : -2147483648 ≤ x8 ∧ x8 ≤ 2147483647) : XR sc d 102 42 [o0, o1, o2, o3, o4, o5, o6, o7, some (xw x8), o9] [] (T, z, xv V, J, R) = if x8 = 0 then XR sc d 102 69 [o0, o1, o2, o3, o4, o5, o6, o7, some (xw x8), o9] [] (T, z, xv V, J, R) else XR sc d 102 47 [o0, o1, o2, o3, o4, o5, o6, o7, some (xw x8), o9] [] (T, z, xv V, J, R) :=
  (sw_iload f_102_42 rfl).trans (sw_if_eq (t := 69) f_102_44 ⟨by decide, rfl⟩ g1)
theorem bX7_isWhole_47 {o2 o3 o4 o5 o6 o8 : Option Value} {x1 x9 x7 : Int} {a0 : Nat} (g1 : T a0 = (8, 0)) (g2 : R a0 2 = some ((R a0 2).getD 0)) (g3 : T ((R a0 2).getD 0) = (32, (T ((R a0 2).getD 0)).2)) (g4 : (0 : Int) ≤ ((8 * x1) + x9) ∧ ((8 * x1) + x9) < ((T ((R a0 2).getD 0)).2 : Int) ∧ (T ((R a0 2).getD 0)).2 ≤ 3584) (g5 : -2147483648 ≤ (iAnd (V ((R a0 2).getD 0) ((8 * x1) + x9).toNat) x7) ∧ (iAnd (V ((R a0 2).getD 0) ((8 * x1) + x9).toNat) x7) ≤ 2147483647) : XR sc d 102 47 [some (.ref a0), some (xw x1), o2, o3, o4, o5, o6, some (xw x7), o8, some (xw x9)] [] (T, z, xv V, J, R) = if (iAnd (V ((R a0 2).getD 0) ((8 * x1) + x9).toNat) x7) = 0 then XR sc d 102 65 [some (.ref a0), some (xw x1), o2, o3, o4, o5, o6, some (xw x7), o8, some (xw x9)] [] (T, z, xv V, J, R) else XR sc d 102 69 [some (.ref a0), some (xw x1), o2, o3, o4, o5, o6, some (xw x7), o8, some (xw x9)] [] (T, z, xv V, J, R) :=
  (st_aload_n f_102_47 rfl).trans ((st_getR f_102_48 e_102_13 (by decide) g1 g2).trans ((sw_bipush f_102_51 c8_8).trans ((sw_iload_n f_102_53 rfl).trans ((sw_imul f_102_54).trans ((sw_iload f_102_55 rfl).trans ((sw_iadd f_102_57).trans ((sw_iaload f_102_58 g3 g4).trans ((sw_iload f_102_59 rfl).trans ((sw_iand f_102_61).trans (sw_if_ne (t := 69) f_102_62 ⟨by decide, rfl⟩ g5))))))))))
theorem bX7_isWhole_65 {o0 o1 o2 o3 o4 o5 o6 o7 o8 o9 : Option Value} : XR sc d 102 65 [o0, o1, o2, o3, o4, o5, o6, o7, o8, o9] [] (T, z, xv V, J, R) = XR sc d 102 70 [o0, o1, o2, o3, o4, o5, o6, o7, o8, o9] [xw 1] (T, z, xv V, J, R) :=
  (sw_iconst f_102_65).trans (st_goto (t := 70) f_102_66 ⟨by decide, rfl⟩)
theorem bX7_isWhole_69 {o0 o1 o2 o3 o4 o5 o6 o7 o8 o9 : Option Value} : XR sc d 102 69 [o0, o1, o2, o3, o4, o5, o6, o7, o8, o9] [] (T, z, xv V, J, R) = XR sc d 102 70 [o0, o1, o2, o3, o4, o5, o6, o7, o8, o9] [xw 0] (T, z, xv V, J, R) :=
  sw_iconst f_102_69
theorem bX7_isWhole_70 {o0 o1 o2 o3 o4 o5 o6 o7 o8 : Option Value} {y0 x9 : Int} : XR sc d 102 70 [o0, o1, o2, o3, o4, o5, o6, o7, o8, some (xw x9)] [xw y0] (T, z, xv V, J, R) = XR sc d 102 33 [o0, o1, o2, o3, o4, o5, o6, o7, some (xw y0), some (xw (x9 + 1))] [] (T, z, xv V, J, R) :=
  (sw_istore (L' := [o0, o1, o2, o3, o4, o5, o6, o7, some (xw y0), some (xw x9)]) f_102_70 (Nat.le_of_ble_eq_true rfl) rfl).trans ((sw_iinc (L' := [o0, o1, o2, o3, o4, o5, o6, o7, some (xw y0), some (xw (x9 + 1))]) f_102_72 rfl (Nat.le_of_ble_eq_true rfl) rfl).trans (st_goto (t := 33) f_102_75 ⟨by decide, rfl⟩))
theorem bX7_isWhole_78 {o0 o1 o2 o3 o4 o5 o6 o7 o9 : Option Value} {x8 : Int} (g1 : x8 = 0 ∨ x8 = 1) : XR sc d 102 78 [o0, o1, o2, o3, o4, o5, o6, o7, some (xw x8), o9] [] (T, z, xv V, J, R) = some (.inl (some (xw x8)), (T, z, xv V, J, R)) :=
  (sw_iload f_102_78 rfl).trans (sw_zreturn f_102_80 mr_102 g1)
theorem eX7_thicknessOf {x1 x2 x3 : Int} {a0 : Nat} : X sc (d + 1) 103 [.ref a0, xw x1, xw x2, xw x3] (T, z, xv V, J, R) = XR sc d 103 0 [some (.ref a0), some (xw x1), some (xw x2), some (xw x3)] [] (T, z, xv V, J, R) :=
  (X_eq ⟨jl_103, by rw [mn_103]; rfl, rfl, by rw [lm_103]; exact Nat.le_of_ble_eq_true rfl⟩).trans (by unfold xent; rw [lm_103]; rfl)
theorem bX7_thicknessOf_0 {x1 x2 x3 : Int} {a0 : Nat} (g1 : T a0 = (8, 0)) (g2 : R a0 1 = some ((R a0 1).getD 0)) (g3 : T ((R a0 1).getD 0) = (32, (T ((R a0 1).getD 0)).2)) (g4 : (0 : Int) ≤ x1 ∧ x1 < ((T ((R a0 1).getD 0)).2 : Int) ∧ (T ((R a0 1).getD 0)).2 ≤ 3584) (g5 : -2147483648 ≤ (x2 + x3) ∧ (x2 + x3) ≤ 2147483647) : XR sc d 103 0 [some (.ref a0), some (xw x1), some (xw x2), some (xw x3)] [] (T, z, xv V, J, R) = if (x2 + x3) ≤ 5 then XR sc d 103 17 [some (.ref a0), some (xw x1), some (xw x2), some (xw x3)] [xw (V ((R a0 1).getD 0) x1.toNat)] (T, z, xv V, J, R) else XR sc d 103 13 [some (.ref a0), some (xw x1), some (xw x2), some (xw x3)] [xw (V ((R a0 1).getD 0) x1.toNat)] (T, z, xv V, J, R) :=
  (st_aload_n f_103_0 rfl).trans ((st_getR f_103_1 e_103_7 (by decide) g1 g2).trans ((sw_iload_n f_103_4 rfl).trans ((sw_iaload f_103_5 g3 g4).trans ((sw_iload_n f_103_6 rfl).trans ((sw_iload_n f_103_7 rfl).trans ((sw_iadd f_103_8).trans ((sw_iconst f_103_9).trans (sw_icmp_le (t := 17) f_103_10 ⟨by decide, rfl⟩ g5 ⟨by decide, by decide⟩))))))))
theorem bX7_thicknessOf_13 {o0 o1 o2 o3 : Option Value} {s0 : Value} : XR sc d 103 13 [o0, o1, o2, o3] [s0] (T, z, xv V, J, R) = XR sc d 103 18 [o0, o1, o2, o3] [xw 1, s0] (T, z, xv V, J, R) :=
  (sw_iconst f_103_13).trans (st_goto (t := 18) f_103_14 ⟨by decide, rfl⟩)
theorem bX7_thicknessOf_17 {o0 o1 o2 o3 : Option Value} {s0 : Value} : XR sc d 103 17 [o0, o1, o2, o3] [s0] (T, z, xv V, J, R) = XR sc d 103 18 [o0, o1, o2, o3] [xw 0, s0] (T, z, xv V, J, R) :=
  sw_iconst f_103_17
theorem bX7_thicknessOf_18 {o0 o1 o2 o3 : Option Value} {y0 y1 : Int} : XR sc d 103 18 [o0, o1, o2, o3] [xw y0, xw y1] (T, z, xv V, J, R) = some (.inl (some (xw (y1 - y0))), (T, z, xv V, J, R)) :=
  (sw_isub f_103_18).trans (sw_ireturn f_103_19 mr_103)
theorem eX7_cut {x1 x2 x3 x4 x5 x6 : Int} {a0 : Nat} : X sc (d + 1) 104 [.ref a0, xw x1, xw x2, xw x3, xw x4, xw x5, xw x6] (T, z, xv V, J, R) = XR sc d 104 0 [some (.ref a0), some (xw x1), some (xw x2), some (xw x3), some (xw x4), some (xw x5), some (xw x6), none, none, none, none] [] (T, z, xv V, J, R) :=
  (X_eq ⟨jl_104, by rw [mn_104]; rfl, rfl, by rw [lm_104]; exact Nat.le_of_ble_eq_true rfl⟩).trans (by unfold xent; rw [lm_104]; rfl)
theorem bX7_cut_0 {o2 o3 o4 o5 o6 o7 o8 o9 o10 : Option Value} {x1 : Int} {a0 : Nat} (g1 : T a0 = (8, 0)) : XR sc d 104 0 [some (.ref a0), some (xw x1), o2, o3, o4, o5, o6, o7, o8, o9, o10] [] (T, z, xv V, J, R) = xret 104 (XR sc d 104) 2 5 [some (.ref a0), some (xw x1), o2, o3, o4, o5, o6, o7, o8, o9, o10] [] (X sc d 95 [.ref a0, xw x1] (T, z, xv V, J, R)) :=
  (st_aload_n f_104_0 rfl).trans ((sw_iload_n f_104_1 rfl).trans (st_callV' f_104_2 h_104_102 mn_95 rfl rfl rfl rfl mo_95 g1 rfl))
theorem bX7_cut_5 {o0 o1 o2 o3 o4 o5 o6 o7 o8 o9 o10 : Option Value} {y0 : Int} (g1 : -2147483648 ≤ y0 ∧ y0 ≤ 2147483647) : XR sc d 104 5 [o0, o1, o2, o3, o4, o5, o6, o7, o8, o9, o10] [xw y0] (T, z, xv V, J, R) = if y0 = 0 then XR sc d 104 20 [o0, o1, o2, o3, o4, o5, o6, o7, o8, o9, o10] [] (T, z, xv V, J, R) else XR sc d 104 8 [o0, o1, o2, o3, o4, o5, o6, o7, o8, o9, o10] [] (T, z, xv V, J, R) :=
  sw_if_eq (t := 20) f_104_5 ⟨by decide, rfl⟩ g1
theorem bX7_cut_8 {o0 o1 o4 o5 o6 o7 o8 o9 o10 : Option Value} {x2 x3 : Int} : XR sc d 104 8 [o0, o1, some (xw x2), some (xw x3), o4, o5, o6, o7, o8, o9, o10] [] (T, z, xv V, J, R) = xret 104 (XR sc d 104) 10 13 [o0, o1, some (xw x2), some (xw x3), o4, o5, o6, o7, o8, o9, o10] [] (X sc d 98 [xw x2, xw x3] (T, z, xv V, J, R)) :=
  (sw_iload_n f_104_8 rfl).trans ((sw_iload_n f_104_9 rfl).trans (st_callS' f_104_10 h_104_105 mn_98 rfl rfl rfl rfl))
theorem bX7_cut_13 {o0 o1 o2 o3 o4 o5 o6 o7 o8 o9 o10 : Option Value} {y0 : Int} (g1 : -2147483648 ≤ y0 ∧ y0 ≤ 2147483647) : XR sc d 104 13 [o0, o1, o2, o3, o4, o5, o6, o7, o8, o9, o10] [xw y0] (T, z, xv V, J, R) = if y0 = 0 then XR sc d 104 20 [o0, o1, o2, o3, o4, o5, o6, o7, o8, o9, o10] [] (T, z, xv V, J, R) else XR sc d 104 16 [o0, o1, o2, o3, o4, o5, o6, o7, o8, o9, o10] [] (T, z, xv V, J, R) :=
  sw_if_eq (t := 20) f_104_13 ⟨by decide, rfl⟩ g1
theorem bX7_cut_16 {o0 o1 o2 o3 o4 o5 o6 o7 o8 o9 o10 : Option Value} : XR sc d 104 16 [o0, o1, o2, o3, o4, o5, o6, o7, o8, o9, o10] [] (T, z, xv V, J, R) = XR sc d 104 21 [o0, o1, o2, o3, o4, o5, o6, o7, o8, o9, o10] [xw 1] (T, z, xv V, J, R) :=
  (sw_iconst f_104_16).trans (st_goto (t := 21) f_104_17 ⟨by decide, rfl⟩)
theorem bX7_cut_20 {o0 o1 o2 o3 o4 o5 o6 o7 o8 o9 o10 : Option Value} : XR sc d 104 20 [o0, o1, o2, o3, o4, o5, o6, o7, o8, o9, o10] [] (T, z, xv V, J, R) = XR sc d 104 21 [o0, o1, o2, o3, o4, o5, o6, o7, o8, o9, o10] [xw 0] (T, z, xv V, J, R) :=
  sw_iconst f_104_20
theorem bX7_cut_21 {o0 o1 o2 o3 o6 o7 o8 o9 o10 : Option Value} {y0 x4 x5 : Int} : XR sc d 104 21 [o0, o1, o2, o3, some (xw x4), some (xw x5), o6, o7, o8, o9, o10] [xw y0] (T, z, xv V, J, R) = xret 104 (XR sc d 104) 27 30 [o0, o1, o2, o3, some (xw x4), some (xw x5), o6, some (xw y0), o8, o9, o10] [] (X sc d 101 [xw x4, xw x5] (T, z, xv V, J, R)) :=
  (sw_istore (L' := [o0, o1, o2, o3, some (xw x4), some (xw x5), o6, some (xw y0), o8, o9, o10]) f_104_21 (Nat.le_of_ble_eq_true rfl) rfl).trans ((sw_iload f_104_23 rfl).trans ((sw_iload f_104_25 rfl).trans (st_callS' f_104_27 h_104_109 mn_101 rfl rfl rfl rfl)))
theorem bX7_cut_30 {o0 o1 o2 o3 o4 o5 o6 o7 o8 o9 o10 : Option Value} {y0 : Int} (g1 : -2147483648 ≤ y0 ∧ y0 ≤ 2147483647) : XR sc d 104 30 [o0, o1, o2, o3, o4, o5, o6, o7, o8, o9, o10] [xw y0] (T, z, xv V, J, R) = if y0 = 0 then XR sc d 104 60 [o0, o1, o2, o3, o4, o5, o6, o7, o8, o9, o10] [] (T, z, xv V, J, R) else XR sc d 104 33 [o0, o1, o2, o3, o4, o5, o6, o7, o8, o9, o10] [] (T, z, xv V, J, R) :=
  sw_if_eq (t := 60) f_104_30 ⟨by decide, rfl⟩ g1
theorem bX7_cut_33 {o0 o1 o2 o3 o4 o5 o6 o8 o9 o10 : Option Value} {x7 : Int} (g1 : -2147483648 ≤ x7 ∧ x7 ≤ 2147483647) : XR sc d 104 33 [o0, o1, o2, o3, o4, o5, o6, some (xw x7), o8, o9, o10] [] (T, z, xv V, J, R) = if x7 = 0 then XR sc d 104 60 [o0, o1, o2, o3, o4, o5, o6, some (xw x7), o8, o9, o10] [] (T, z, xv V, J, R) else XR sc d 104 38 [o0, o1, o2, o3, o4, o5, o6, some (xw x7), o8, o9, o10] [] (T, z, xv V, J, R) :=
  (sw_iload f_104_33 rfl).trans (sw_if_eq (t := 60) f_104_35 ⟨by decide, rfl⟩ g1)
theorem bX7_cut_38 {o0 o1 o3 o5 o6 o7 o8 o9 o10 : Option Value} {x2 x4 : Int} (g1 : -2147483648 ≤ (x2 + x4) ∧ (x2 + x4) ≤ 2147483647) : XR sc d 104 38 [o0, o1, some (xw x2), o3, some (xw x4), o5, o6, o7, o8, o9, o10] [] (T, z, xv V, J, R) = if 12 < (x2 + x4) then XR sc d 104 60 [o0, o1, some (xw x2), o3, some (xw x4), o5, o6, o7, o8, o9, o10] [] (T, z, xv V, J, R) else XR sc d 104 47 [o0, o1, some (xw x2), o3, some (xw x4), o5, o6, o7, o8, o9, o10] [] (T, z, xv V, J, R) :=
  (sw_iload_n f_104_38 rfl).trans ((sw_iload f_104_39 rfl).trans ((sw_iadd f_104_41).trans ((sw_bipush f_104_42 c8_12).trans (sw_icmp_gt (t := 60) f_104_44 ⟨by decide, rfl⟩ g1 ⟨by decide, by decide⟩))))
theorem bX7_cut_47 {o0 o1 o2 o4 o6 o7 o8 o9 o10 : Option Value} {x3 x5 : Int} (g1 : -2147483648 ≤ (x3 + x5) ∧ (x3 + x5) ≤ 2147483647) : XR sc d 104 47 [o0, o1, o2, some (xw x3), o4, some (xw x5), o6, o7, o8, o9, o10] [] (T, z, xv V, J, R) = if 8 < (x3 + x5) then XR sc d 104 60 [o0, o1, o2, some (xw x3), o4, some (xw x5), o6, o7, o8, o9, o10] [] (T, z, xv V, J, R) else XR sc d 104 56 [o0, o1, o2, some (xw x3), o4, some (xw x5), o6, o7, o8, o9, o10] [] (T, z, xv V, J, R) :=
  (sw_iload_n f_104_47 rfl).trans ((sw_iload f_104_48 rfl).trans ((sw_iadd f_104_50).trans ((sw_bipush f_104_51 c8_8).trans (sw_icmp_gt (t := 60) f_104_53 ⟨by decide, rfl⟩ g1 ⟨by decide, by decide⟩))))
theorem bX7_cut_56 {o0 o1 o2 o3 o4 o5 o6 o7 o8 o9 o10 : Option Value} : XR sc d 104 56 [o0, o1, o2, o3, o4, o5, o6, o7, o8, o9, o10] [] (T, z, xv V, J, R) = XR sc d 104 61 [o0, o1, o2, o3, o4, o5, o6, o7, o8, o9, o10] [xw 1] (T, z, xv V, J, R) :=
  (sw_iconst f_104_56).trans (st_goto (t := 61) f_104_57 ⟨by decide, rfl⟩)
theorem bX7_cut_60 {o0 o1 o2 o3 o4 o5 o6 o7 o8 o9 o10 : Option Value} : XR sc d 104 60 [o0, o1, o2, o3, o4, o5, o6, o7, o8, o9, o10] [] (T, z, xv V, J, R) = XR sc d 104 61 [o0, o1, o2, o3, o4, o5, o6, o7, o8, o9, o10] [xw 0] (T, z, xv V, J, R) :=
  sw_iconst f_104_60
theorem bX7_cut_61 {o0 o1 o2 o3 o4 o5 o6 o7 o8 o9 o10 : Option Value} {y0 : Int} (g1 : -2147483648 ≤ y0 ∧ y0 ≤ 2147483647) : XR sc d 104 61 [o0, o1, o2, o3, o4, o5, o6, o7, o8, o9, o10] [xw y0] (T, z, xv V, J, R) = if y0 = 0 then XR sc d 104 97 [o0, o1, o2, o3, o4, o5, o6, o7, some (xw y0), o9, o10] [] (T, z, xv V, J, R) else XR sc d 104 68 [o0, o1, o2, o3, o4, o5, o6, o7, some (xw y0), o9, o10] [] (T, z, xv V, J, R) :=
  (sw_istore (L' := [o0, o1, o2, o3, o4, o5, o6, o7, some (xw y0), o9, o10]) f_104_61 (Nat.le_of_ble_eq_true rfl) rfl).trans ((sw_iload f_104_63 rfl).trans (sw_if_eq (t := 97) f_104_65 ⟨by decide, rfl⟩ g1))
theorem bX7_cut_68 {o7 o8 o9 o10 : Option Value} {x1 x2 x3 x4 x5 x6 : Int} {a0 : Nat} (g1 : T a0 = (8, 0)) : XR sc d 104 68 [some (.ref a0), some (xw x1), some (xw x2), some (xw x3), some (xw x4), some (xw x5), some (xw x6), o7, o8, o9, o10] [] (T, z, xv V, J, R) = xret 104 (XR sc d 104) 78 81 [some (.ref a0), some (xw x1), some (xw x2), some (xw x3), some (xw x4), some (xw x5), some (xw x6), o7, o8, o9, o10] [] (X sc d 102 [.ref a0, xw x1, xw x2, xw x3, xw x4, xw x5, xw x6] (T, z, xv V, J, R)) :=
  (st_aload_n f_104_68 rfl).trans ((sw_iload_n f_104_69 rfl).trans ((sw_iload_n f_104_70 rfl).trans ((sw_iload_n f_104_71 rfl).trans ((sw_iload f_104_72 rfl).trans ((sw_iload f_104_74 rfl).trans ((sw_iload f_104_76 rfl).trans (st_callV' f_104_78 h_104_112 mn_102 rfl rfl rfl rfl mo_102 g1 rfl)))))))
theorem bX7_cut_81 {o0 o1 o2 o3 o4 o5 o6 o7 o8 o9 o10 : Option Value} {y0 : Int} (g1 : -2147483648 ≤ y0 ∧ y0 ≤ 2147483647) : XR sc d 104 81 [o0, o1, o2, o3, o4, o5, o6, o7, o8, o9, o10] [xw y0] (T, z, xv V, J, R) = if y0 = 0 then XR sc d 104 97 [o0, o1, o2, o3, o4, o5, o6, o7, o8, o9, o10] [] (T, z, xv V, J, R) else XR sc d 104 84 [o0, o1, o2, o3, o4, o5, o6, o7, o8, o9, o10] [] (T, z, xv V, J, R) :=
  sw_if_eq (t := 97) f_104_81 ⟨by decide, rfl⟩ g1
theorem bX7_cut_84 {o1 o2 o3 o4 o5 o6 o7 o8 o9 o10 : Option Value} {a0 : Nat} (g1 : T a0 = (8, 0)) (g2 : -2147483648 ≤ (V a0 3) ∧ (V a0 3) ≤ 2147483647) : XR sc d 104 84 [some (.ref a0), o1, o2, o3, o4, o5, o6, o7, o8, o9, o10] [] (T, z, xv V, J, R) = if 40 ≤ (V a0 3) then XR sc d 104 97 [some (.ref a0), o1, o2, o3, o4, o5, o6, o7, o8, o9, o10] [] (T, z, xv V, J, R) else XR sc d 104 93 [some (.ref a0), o1, o2, o3, o4, o5, o6, o7, o8, o9, o10] [] (T, z, xv V, J, R) :=
  (st_aload_n f_104_84 rfl).trans ((sw_getI f_104_85 e_104_95 (by decide) g1).trans ((sw_bipush f_104_88 c8_40).trans (sw_icmp_ge (t := 97) f_104_90 ⟨by decide, rfl⟩ g2 ⟨by decide, by decide⟩)))
theorem bX7_cut_93 {o0 o1 o2 o3 o4 o5 o6 o7 o8 o9 o10 : Option Value} : XR sc d 104 93 [o0, o1, o2, o3, o4, o5, o6, o7, o8, o9, o10] [] (T, z, xv V, J, R) = XR sc d 104 98 [o0, o1, o2, o3, o4, o5, o6, o7, o8, o9, o10] [xw 1] (T, z, xv V, J, R) :=
  (sw_iconst f_104_93).trans (st_goto (t := 98) f_104_94 ⟨by decide, rfl⟩)
theorem bX7_cut_97 {o0 o1 o2 o3 o4 o5 o6 o7 o8 o9 o10 : Option Value} : XR sc d 104 97 [o0, o1, o2, o3, o4, o5, o6, o7, o8, o9, o10] [] (T, z, xv V, J, R) = XR sc d 104 98 [o0, o1, o2, o3, o4, o5, o6, o7, o8, o9, o10] [xw 0] (T, z, xv V, J, R) :=
  sw_iconst f_104_97
theorem bX7_cut_98 {o1 o2 o3 o4 o5 o6 o8 o9 o10 : Option Value} {y0 x7 : Int} {a0 : Nat} (g1 : -2147483648 ≤ x7 ∧ x7 ≤ 2147483647) : XR sc d 104 98 [some (.ref a0), o1, o2, o3, o4, o5, o6, some (xw x7), o8, o9, o10] [xw y0] (T, z, xv V, J, R) = if x7 = 0 then XR sc d 104 106 [some (.ref a0), o1, o2, o3, o4, o5, o6, some (xw x7), o8, some (xw y0), o10] [.ref a0] (T, z, xv V, J, R) else XR sc d 104 110 [some (.ref a0), o1, o2, o3, o4, o5, o6, some (xw x7), o8, some (xw y0), o10] [.ref a0] (T, z, xv V, J, R) :=
  (sw_istore (L' := [some (.ref a0), o1, o2, o3, o4, o5, o6, some (xw x7), o8, some (xw y0), o10]) f_104_98 (Nat.le_of_ble_eq_true rfl) rfl).trans ((st_aload_n f_104_100 rfl).trans ((sw_iload f_104_101 rfl).trans (sw_if_ne (t := 110) f_104_103 ⟨by decide, rfl⟩ g1)))
theorem bX7_cut_106 {o0 o1 o2 o3 o4 o5 o6 o7 o8 o9 o10 : Option Value} {s0 : Value} : XR sc d 104 106 [o0, o1, o2, o3, o4, o5, o6, o7, o8, o9, o10] [s0] (T, z, xv V, J, R) = XR sc d 104 129 [o0, o1, o2, o3, o4, o5, o6, o7, o8, o9, o10] [xw 1, s0] (T, z, xv V, J, R) :=
  (sw_iconst f_104_106).trans (st_goto (t := 129) f_104_107 ⟨by decide, rfl⟩)
theorem bX7_cut_110 {o0 o1 o2 o3 o4 o5 o6 o7 o9 o10 : Option Value} {s0 : Value} {x8 : Int} (g1 : -2147483648 ≤ x8 ∧ x8 ≤ 2147483647) : XR sc d 104 110 [o0, o1, o2, o3, o4, o5, o6, o7, some (xw x8), o9, o10] [s0] (T, z, xv V, J, R) = if x8 = 0 then XR sc d 104 115 [o0, o1, o2, o3, o4, o5, o6, o7, some (xw x8), o9, o10] [s0] (T, z, xv V, J, R) else XR sc d 104 119 [o0, o1, o2, o3, o4, o5, o6, o7, some (xw x8), o9, o10] [s0] (T, z, xv V, J, R) :=
  (sw_iload f_104_110 rfl).trans (sw_if_ne (t := 119) f_104_112 ⟨by decide, rfl⟩ g1)
theorem bX7_cut_115 {o0 o1 o2 o3 o4 o5 o6 o7 o8 o9 o10 : Option Value} {s0 : Value} : XR sc d 104 115 [o0, o1, o2, o3, o4, o5, o6, o7, o8, o9, o10] [s0] (T, z, xv V, J, R) = XR sc d 104 129 [o0, o1, o2, o3, o4, o5, o6, o7, o8, o9, o10] [xw 2, s0] (T, z, xv V, J, R) :=
  (sw_iconst f_104_115).trans (st_goto (t := 129) f_104_116 ⟨by decide, rfl⟩)
theorem bX7_cut_119 {o0 o1 o2 o3 o4 o5 o6 o7 o8 o10 : Option Value} {s0 : Value} {x9 : Int} (g1 : -2147483648 ≤ x9 ∧ x9 ≤ 2147483647) : XR sc d 104 119 [o0, o1, o2, o3, o4, o5, o6, o7, o8, some (xw x9), o10] [s0] (T, z, xv V, J, R) = if x9 = 0 then XR sc d 104 128 [o0, o1, o2, o3, o4, o5, o6, o7, o8, some (xw x9), o10] [s0] (T, z, xv V, J, R) else XR sc d 104 124 [o0, o1, o2, o3, o4, o5, o6, o7, o8, some (xw x9), o10] [s0] (T, z, xv V, J, R) :=
  (sw_iload f_104_119 rfl).trans (sw_if_eq (t := 128) f_104_121 ⟨by decide, rfl⟩ g1)
theorem bX7_cut_124 {o0 o1 o2 o3 o4 o5 o6 o7 o8 o9 o10 : Option Value} {s0 : Value} : XR sc d 104 124 [o0, o1, o2, o3, o4, o5, o6, o7, o8, o9, o10] [s0] (T, z, xv V, J, R) = XR sc d 104 129 [o0, o1, o2, o3, o4, o5, o6, o7, o8, o9, o10] [xw 0, s0] (T, z, xv V, J, R) :=
  (sw_iconst f_104_124).trans (st_goto (t := 129) f_104_125 ⟨by decide, rfl⟩)
theorem bX7_cut_128 {o0 o1 o2 o3 o4 o5 o6 o7 o8 o9 o10 : Option Value} {s0 : Value} : XR sc d 104 128 [o0, o1, o2, o3, o4, o5, o6, o7, o8, o9, o10] [s0] (T, z, xv V, J, R) = XR sc d 104 129 [o0, o1, o2, o3, o4, o5, o6, o7, o8, o9, o10] [xw 3, s0] (T, z, xv V, J, R) :=
  sw_iconst f_104_128
theorem bX7_cut_129 {o0 o1 o2 o3 o4 o5 o6 o7 o8 o9 o10 : Option Value} {y0 : Int} {b1 : Nat} (g1 : T b1 = (8, 0)) : XR sc d 104 129 [o0, o1, o2, o3, o4, o5, o6, o7, o8, o9, o10] [xw y0, .ref b1] (T, z, xv V, J, R) = xret 104 (XR sc d 104) 129 132 [o0, o1, o2, o3, o4, o5, o6, o7, o8, o9, o10] [] (X sc d 93 [.ref b1, xw y0] (T, z, xv V, J, R)) :=
  st_callV' f_104_129 h_104_98 mn_93 rfl rfl rfl rfl mo_93 g1 rfl
theorem bX7_cut_132 {o0 o1 o2 o3 o4 o5 o6 o7 o8 o9 o10 : Option Value} {y0 : Int} (g1 : -2147483648 ≤ y0 ∧ y0 ≤ 2147483647) : XR sc d 104 132 [o0, o1, o2, o3, o4, o5, o6, o7, o8, o9, o10] [xw y0] (T, z, xv V, J, R) = if y0 = 0 then XR sc d 104 137 [o0, o1, o2, o3, o4, o5, o6, o7, o8, o9, o10] [] (T, z, xv V, J, R) else XR sc d 104 135 [o0, o1, o2, o3, o4, o5, o6, o7, o8, o9, o10] [] (T, z, xv V, J, R) :=
  sw_if_eq (t := 137) f_104_132 ⟨by decide, rfl⟩ g1
theorem bX7_cut_135 {o0 o1 o2 o3 o4 o5 o6 o7 o8 o9 o10 : Option Value} : XR sc d 104 135 [o0, o1, o2, o3, o4, o5, o6, o7, o8, o9, o10] [] (T, z, xv V, J, R) = some (.inl (some (xw 0)), (T, z, xv V, J, R)) :=
  (sw_iconst f_104_135).trans (sw_ireturn f_104_136 mr_104)
theorem bX7_cut_137 {o0 o1 o2 o4 o5 o6 o7 o8 o9 o10 : Option Value} {x3 : Int} : XR sc d 104 137 [o0, o1, o2, some (xw x3), o4, o5, o6, o7, o8, o9, o10] [] (T, z, xv V, J, R) = XR sc d 104 140 [o0, o1, o2, some (xw x3), o4, o5, o6, o7, o8, o9, some (xw x3)] [] (T, z, xv V, J, R) :=
  (sw_iload_n f_104_137 rfl).trans (sw_istore (L' := [o0, o1, o2, some (xw x3), o4, o5, o6, o7, o8, o9, some (xw x3)]) f_104_138 (Nat.le_of_ble_eq_true rfl) rfl)
theorem bX7_cut_140 {o0 o1 o2 o4 o6 o7 o8 o9 : Option Value} {x10 x3 x5 : Int} (g1 : -2147483648 ≤ x10 ∧ x10 ≤ 2147483647) (g2 : -2147483648 ≤ (x3 + x5) ∧ (x3 + x5) ≤ 2147483647) : XR sc d 104 140 [o0, o1, o2, some (xw x3), o4, some (xw x5), o6, o7, o8, o9, some (xw x10)] [] (T, z, xv V, J, R) = if (x3 + x5) ≤ x10 then XR sc d 104 178 [o0, o1, o2, some (xw x3), o4, some (xw x5), o6, o7, o8, o9, some (xw x10)] [] (T, z, xv V, J, R) else XR sc d 104 149 [o0, o1, o2, some (xw x3), o4, some (xw x5), o6, o7, o8, o9, some (xw x10)] [] (T, z, xv V, J, R) :=
  (sw_iload f_104_140 rfl).trans ((sw_iload_n f_104_142 rfl).trans ((sw_iload f_104_143 rfl).trans ((sw_iadd f_104_145).trans (sw_icmp_ge (t := 178) f_104_146 ⟨by decide, rfl⟩ g1 g2))))
theorem bX7_cut_149 {o3 o5 o6 o7 o8 o9 : Option Value} {x1 x10 x4 x2 : Int} {a0 : Nat} (g1 : T a0 = (8, 0)) (g2 : R a0 2 = some ((R a0 2).getD 0)) (g3 : T ((R a0 2).getD 0) = (32, (T ((R a0 2).getD 0)).2)) (g4 : (0 : Int) ≤ ((8 * x1) + x10) ∧ ((8 * x1) + x10) < ((T ((R a0 2).getD 0)).2 : Int) ∧ (T ((R a0 2).getD 0)).2 ≤ 3584) : XR sc d 104 149 [some (.ref a0), some (xw x1), some (xw x2), o3, some (xw x4), o5, o6, o7, o8, o9, some (xw x10)] [] (T, z, xv V, J, R) = XR sc d 104 140 [some (.ref a0), some (xw x1), some (xw x2), o3, some (xw x4), o5, o6, o7, o8, o9, some (xw (x10 + 1))] [] (T, z, xv (xup2 V ((R a0 2).getD 0) ((8 * x1) + x10).toNat (iOr (V ((R a0 2).getD 0) ((8 * x1) + x10).toNat) (iShl ((iShl 1 x4) - 1) x2))), J, R) :=
  (st_aload_n f_104_149 rfl).trans ((st_getR f_104_150 e_104_13 (by decide) g1 g2).trans ((sw_bipush f_104_153 c8_8).trans ((sw_iload_n f_104_155 rfl).trans ((sw_imul f_104_156).trans ((sw_iload f_104_157 rfl).trans ((sw_iadd f_104_159).trans ((st_dup2 f_104_160 rfl rfl).trans ((sw_iaload f_104_161 g3 g4).trans ((sw_iconst f_104_162).trans ((sw_iload f_104_163 rfl).trans ((sw_ishl f_104_165).trans ((sw_iconst f_104_166).trans ((sw_isub f_104_167).trans ((sw_iload_n f_104_168 rfl).trans ((sw_ishl f_104_169).trans ((sw_ior f_104_170).trans ((sw_iastore f_104_171 g3 g4).trans ((sw_iinc (L' := [some (.ref a0), some (xw x1), some (xw x2), o3, some (xw x4), o5, o6, o7, o8, o9, some (xw (x10 + 1))]) f_104_172 rfl (Nat.le_of_ble_eq_true rfl) rfl).trans (st_goto (t := 140) f_104_175 ⟨by decide, rfl⟩)))))))))))))))))))
theorem bX7_cut_178 {o2 o6 o7 o8 o9 o10 : Option Value} {x4 x5 x1 x3 : Int} {a0 : Nat} (g1 : T a0 = (8, 0)) (g2 : R a0 4 = some ((R a0 4).getD 0)) (g3 : T ((R a0 4).getD 0) = (32, (T ((R a0 4).getD 0)).2)) (g4 : (0 : Int) ≤ (V a0 3) ∧ (V a0 3) < ((T ((R a0 4).getD 0)).2 : Int) ∧ (T ((R a0 4).getD 0)).2 ≤ 3584) (g5 : R a0 5 = some ((R a0 5).getD 0)) (g6 : T ((R a0 5).getD 0) = (32, (T ((R a0 5).getD 0)).2)) (g7 : (0 : Int) ≤ ((xup2 V ((R a0 4).getD 0) (V a0 3).toNat x4) a0 3) ∧ ((xup2 V ((R a0 4).getD 0) (V a0 3).toNat x4) a0 3) < ((T ((R a0 5).getD 0)).2 : Int) ∧ (T ((R a0 5).getD 0)).2 ≤ 3584) (g8 : R a0 6 = some ((R a0 6).getD 0)) : XR sc d 104 178 [some (.ref a0), some (xw x1), o2, some (xw x3), some (xw x4), some (xw x5), o6, o7, o8, o9, o10] [] (T, z, xv V, J, R) = xret 104 (XR sc d 104) 213 216 [some (.ref a0), some (xw x1), o2, some (xw x3), some (xw x4), some (xw x5), o6, o7, o8, o9, o10] [xw ((xup2 (xup2 V ((R a0 4).getD 0) (V a0 3).toNat x4) ((R a0 5).getD 0) ((xup2 V ((R a0 4).getD 0) (V a0 3).toNat x4) a0 3).toNat x5) a0 3), .ref ((R a0 6).getD 0)] (X sc d 103 [.ref a0, xw x1, xw x3, xw x5] (T, z, xv (xup2 (xup2 V ((R a0 4).getD 0) (V a0 3).toNat x4) ((R a0 5).getD 0) ((xup2 V ((R a0 4).getD 0) (V a0 3).toNat x4) a0 3).toNat x5), J, R)) :=
  (st_aload_n f_104_178 rfl).trans ((st_getR f_104_179 e_104_16 (by decide) g1 g2).trans ((st_aload_n f_104_182 rfl).trans ((sw_getI f_104_183 e_104_95 (by decide) g1).trans ((sw_iload f_104_186 rfl).trans ((sw_iastore f_104_188 g3 g4).trans ((st_aload_n f_104_189 rfl).trans ((st_getR f_104_190 e_104_19 (by decide) g1 g5).trans ((st_aload_n f_104_193 rfl).trans ((sw_getI f_104_194 e_104_95 (by decide) g1).trans ((sw_iload f_104_197 rfl).trans ((sw_iastore f_104_199 g6 g7).trans ((st_aload_n f_104_200 rfl).trans ((st_getR f_104_201 e_104_22 (by decide) g1 g8).trans ((st_aload_n f_104_204 rfl).trans ((sw_getI f_104_205 e_104_95 (by decide) g1).trans ((st_aload_n f_104_208 rfl).trans ((sw_iload_n f_104_209 rfl).trans ((sw_iload_n f_104_210 rfl).trans ((sw_iload f_104_211 rfl).trans (st_callV' f_104_213 h_104_116 mn_103 rfl rfl rfl rfl mo_103 g1 rfl))))))))))))))))))))
theorem bX7_cut_216 {o1 o2 o4 o5 o7 o8 o9 o10 : Option Value} {y0 y1 x3 x6 : Int} {b2 a0 : Nat} (g1 : T b2 = (32, (T b2).2)) (g2 : (0 : Int) ≤ y1 ∧ y1 < ((T b2).2 : Int) ∧ (T b2).2 ≤ 3584) (g3 : T a0 = (8, 0)) (g4 : R a0 7 = some ((R a0 7).getD 0)) (g5 : T ((R a0 7).getD 0) = (32, (T ((R a0 7).getD 0)).2)) (g6 : (0 : Int) ≤ ((xup2 V b2 y1.toNat y0) a0 3) ∧ ((xup2 V b2 y1.toNat y0) a0 3) < ((T ((R a0 7).getD 0)).2 : Int) ∧ (T ((R a0 7).getD 0)).2 ≤ 3584) (g7 : R a0 8 = some ((R a0 8).getD 0)) (g8 : T ((R a0 8).getD 0) = (33, (T ((R a0 8).getD 0)).2)) (g9 : (0 : Int) ≤ ((xup2 (xup2 V b2 y1.toNat y0) ((R a0 7).getD 0) ((xup2 V b2 y1.toNat y0) a0 3).toNat x3) a0 3) ∧ ((xup2 (xup2 V b2 y1.toNat y0) ((R a0 7).getD 0) ((xup2 V b2 y1.toNat y0) a0 3).toNat x3) a0 3) < ((T ((R a0 8).getD 0)).2 : Int) ∧ (T ((R a0 8).getD 0)).2 ≤ 3584) (g10 : x6 = 0 ∨ x6 = 1) (g11 : R a0 13 = some ((R a0 13).getD 0)) (g12 : T ((R a0 13).getD 0) = (32, (T ((R a0 13).getD 0)).2)) (g13 : (0 : Int) ≤ ((xup2 (xup2 (xup2 V b2 y1.toNat y0) ((R a0 7).getD 0) ((xup2 V b2 y1.toNat y0) a0 3).toNat x3) ((R a0 8).getD 0) ((xup2 (xup2 V b2 y1.toNat y0) ((R a0 7).getD 0) ((xup2 V b2 y1.toNat y0) a0 3).toNat x3) a0 3).toNat x6) a0 3) ∧ ((xup2 (xup2 (xup2 V b2 y1.toNat y0) ((R a0 7).getD 0) ((xup2 V b2 y1.toNat y0) a0 3).toNat x3) ((R a0 8).getD 0) ((xup2 (xup2 V b2 y1.toNat y0) ((R a0 7).getD 0) ((xup2 V b2 y1.toNat y0) a0 3).toNat x3) a0 3).toNat x6) a0 3) < ((T ((R a0 13).getD 0)).2 : Int) ∧ (T ((R a0 13).getD 0)).2 ≤ 3584) (g14 : R a0 14 = some ((R a0 14).getD 0)) (g15 : T ((R a0 14).getD 0) = (32, (T ((R a0 14).getD 0)).2)) (g16 : (0 : Int) ≤ ((xup2 (xup2 (xup2 (xup2 V b2 y1.toNat y0) ((R a0 7).getD 0) ((xup2 V b2 y1.toNat y0) a0 3).toNat x3) ((R a0 8).getD 0) ((xup2 (xup2 V b2 y1.toNat y0) ((R a0 7).getD 0) ((xup2 V b2 y1.toNat y0) a0 3).toNat x3) a0 3).toNat x6) ((R a0 13).getD 0) ((xup2 (xup2 (xup2 V b2 y1.toNat y0) ((R a0 7).getD 0) ((xup2 V b2 y1.toNat y0) a0 3).toNat x3) ((R a0 8).getD 0) ((xup2 (xup2 V b2 y1.toNat y0) ((R a0 7).getD 0) ((xup2 V b2 y1.toNat y0) a0 3).toNat x3) a0 3).toNat x6) a0 3).toNat (-1)) a0 3) ∧ ((xup2 (xup2 (xup2 (xup2 V b2 y1.toNat y0) ((R a0 7).getD 0) ((xup2 V b2 y1.toNat y0) a0 3).toNat x3) ((R a0 8).getD 0) ((xup2 (xup2 V b2 y1.toNat y0) ((R a0 7).getD 0) ((xup2 V b2 y1.toNat y0) a0 3).toNat x3) a0 3).toNat x6) ((R a0 13).getD 0) ((xup2 (xup2 (xup2 V b2 y1.toNat y0) ((R a0 7).getD 0) ((xup2 V b2 y1.toNat y0) a0 3).toNat x3) ((R a0 8).getD 0) ((xup2 (xup2 V b2 y1.toNat y0) ((R a0 7).getD 0) ((xup2 V b2 y1.toNat y0) a0 3).toNat x3) a0 3).toNat x6) a0 3).toNat (-1)) a0 3) < ((T ((R a0 14).getD 0)).2 : Int) ∧ (T ((R a0 14).getD 0)).2 ≤ 3584) (g17 : R a0 15 = some ((R a0 15).getD 0)) (g18 : T ((R a0 15).getD 0) = (32, (T ((R a0 15).getD 0)).2)) (g19 : (0 : Int) ≤ ((xup2 (xup2 (xup2 (xup2 (xup2 V b2 y1.toNat y0) ((R a0 7).getD 0) ((xup2 V b2 y1.toNat y0) a0 3).toNat x3) ((R a0 8).getD 0) ((xup2 (xup2 V b2 y1.toNat y0) ((R a0 7).getD 0) ((xup2 V b2 y1.toNat y0) a0 3).toNat x3) a0 3).toNat x6) ((R a0 13).getD 0) ((xup2 (xup2 (xup2 V b2 y1.toNat y0) ((R a0 7).getD 0) ((xup2 V b2 y1.toNat y0) a0 3).toNat x3) ((R a0 8).getD 0) ((xup2 (xup2 V b2 y1.toNat y0) ((R a0 7).getD 0) ((xup2 V b2 y1.toNat y0) a0 3).toNat x3) a0 3).toNat x6) a0 3).toNat (-1)) ((R a0 14).getD 0) ((xup2 (xup2 (xup2 (xup2 V b2 y1.toNat y0) ((R a0 7).getD 0) ((xup2 V b2 y1.toNat y0) a0 3).toNat x3) ((R a0 8).getD 0) ((xup2 (xup2 V b2 y1.toNat y0) ((R a0 7).getD 0) ((xup2 V b2 y1.toNat y0) a0 3).toNat x3) a0 3).toNat x6) ((R a0 13).getD 0) ((xup2 (xup2 (xup2 V b2 y1.toNat y0) ((R a0 7).getD 0) ((xup2 V b2 y1.toNat y0) a0 3).toNat x3) ((R a0 8).getD 0) ((xup2 (xup2 V b2 y1.toNat y0) ((R a0 7).getD 0) ((xup2 V b2 y1.toNat y0) a0 3).toNat x3) a0 3).toNat x6) a0 3).toNat (-1)) a0 3).toNat (-1)) a0 3) ∧ ((xup2 (xup2 (xup2 (xup2 (xup2 V b2 y1.toNat y0) ((R a0 7).getD 0) ((xup2 V b2 y1.toNat y0) a0 3).toNat x3) ((R a0 8).getD 0) ((xup2 (xup2 V b2 y1.toNat y0) ((R a0 7).getD 0) ((xup2 V b2 y1.toNat y0) a0 3).toNat x3) a0 3).toNat x6) ((R a0 13).getD 0) ((xup2 (xup2 (xup2 V b2 y1.toNat y0) ((R a0 7).getD 0) ((xup2 V b2 y1.toNat y0) a0 3).toNat x3) ((R a0 8).getD 0) ((xup2 (xup2 V b2 y1.toNat y0) ((R a0 7).getD 0) ((xup2 V b2 y1.toNat y0) a0 3).toNat x3) a0 3).toNat x6) a0 3).toNat (-1)) ((R a0 14).getD 0) ((xup2 (xup2 (xup2 (xup2 V b2 y1.toNat y0) ((R a0 7).getD 0) ((xup2 V b2 y1.toNat y0) a0 3).toNat x3) ((R a0 8).getD 0) ((xup2 (xup2 V b2 y1.toNat y0) ((R a0 7).getD 0) ((xup2 V b2 y1.toNat y0) a0 3).toNat x3) a0 3).toNat x6) ((R a0 13).getD 0) ((xup2 (xup2 (xup2 V b2 y1.toNat y0) ((R a0 7).getD 0) ((xup2 V b2 y1.toNat y0) a0 3).toNat x3) ((R a0 8).getD 0) ((xup2 (xup2 V b2 y1.toNat y0) ((R a0 7).getD 0) ((xup2 V b2 y1.toNat y0) a0 3).toNat x3) a0 3).toNat x6) a0 3).toNat (-1)) a0 3).toNat (-1)) a0 3) < ((T ((R a0 15).getD 0)).2 : Int) ∧ (T ((R a0 15).getD 0)).2 ≤ 3584) : XR sc d 104 216 [some (.ref a0), o1, o2, some (xw x3), o4, o5, some (xw x6), o7, o8, o9, o10] [xw y0, xw y1, .ref b2] (T, z, xv V, J, R) = some (.inl (some (xw (((xup2 (xup2 (xup2 (xup2 (xup2 (xup2 (xup2 V b2 y1.toNat y0) ((R a0 7).getD 0) ((xup2 V b2 y1.toNat y0) a0 3).toNat x3) ((R a0 8).getD 0) ((xup2 (xup2 V b2 y1.toNat y0) ((R a0 7).getD 0) ((xup2 V b2 y1.toNat y0) a0 3).toNat x3) a0 3).toNat x6) ((R a0 13).getD 0) ((xup2 (xup2 (xup2 V b2 y1.toNat y0) ((R a0 7).getD 0) ((xup2 V b2 y1.toNat y0) a0 3).toNat x3) ((R a0 8).getD 0) ((xup2 (xup2 V b2 y1.toNat y0) ((R a0 7).getD 0) ((xup2 V b2 y1.toNat y0) a0 3).toNat x3) a0 3).toNat x6) a0 3).toNat (-1)) ((R a0 14).getD 0) ((xup2 (xup2 (xup2 (xup2 V b2 y1.toNat y0) ((R a0 7).getD 0) ((xup2 V b2 y1.toNat y0) a0 3).toNat x3) ((R a0 8).getD 0) ((xup2 (xup2 V b2 y1.toNat y0) ((R a0 7).getD 0) ((xup2 V b2 y1.toNat y0) a0 3).toNat x3) a0 3).toNat x6) ((R a0 13).getD 0) ((xup2 (xup2 (xup2 V b2 y1.toNat y0) ((R a0 7).getD 0) ((xup2 V b2 y1.toNat y0) a0 3).toNat x3) ((R a0 8).getD 0) ((xup2 (xup2 V b2 y1.toNat y0) ((R a0 7).getD 0) ((xup2 V b2 y1.toNat y0) a0 3).toNat x3) a0 3).toNat x6) a0 3).toNat (-1)) a0 3).toNat (-1)) ((R a0 15).getD 0) ((xup2 (xup2 (xup2 (xup2 (xup2 V b2 y1.toNat y0) ((R a0 7).getD 0) ((xup2 V b2 y1.toNat y0) a0 3).toNat x3) ((R a0 8).getD 0) ((xup2 (xup2 V b2 y1.toNat y0) ((R a0 7).getD 0) ((xup2 V b2 y1.toNat y0) a0 3).toNat x3) a0 3).toNat x6) ((R a0 13).getD 0) ((xup2 (xup2 (xup2 V b2 y1.toNat y0) ((R a0 7).getD 0) ((xup2 V b2 y1.toNat y0) a0 3).toNat x3) ((R a0 8).getD 0) ((xup2 (xup2 V b2 y1.toNat y0) ((R a0 7).getD 0) ((xup2 V b2 y1.toNat y0) a0 3).toNat x3) a0 3).toNat x6) a0 3).toNat (-1)) ((R a0 14).getD 0) ((xup2 (xup2 (xup2 (xup2 V b2 y1.toNat y0) ((R a0 7).getD 0) ((xup2 V b2 y1.toNat y0) a0 3).toNat x3) ((R a0 8).getD 0) ((xup2 (xup2 V b2 y1.toNat y0) ((R a0 7).getD 0) ((xup2 V b2 y1.toNat y0) a0 3).toNat x3) a0 3).toNat x6) ((R a0 13).getD 0) ((xup2 (xup2 (xup2 V b2 y1.toNat y0) ((R a0 7).getD 0) ((xup2 V b2 y1.toNat y0) a0 3).toNat x3) ((R a0 8).getD 0) ((xup2 (xup2 V b2 y1.toNat y0) ((R a0 7).getD 0) ((xup2 V b2 y1.toNat y0) a0 3).toNat x3) a0 3).toNat x6) a0 3).toNat (-1)) a0 3).toNat (-1)) a0 3).toNat (-1)) a0 3 (((xup2 (xup2 (xup2 (xup2 (xup2 (xup2 V b2 y1.toNat y0) ((R a0 7).getD 0) ((xup2 V b2 y1.toNat y0) a0 3).toNat x3) ((R a0 8).getD 0) ((xup2 (xup2 V b2 y1.toNat y0) ((R a0 7).getD 0) ((xup2 V b2 y1.toNat y0) a0 3).toNat x3) a0 3).toNat x6) ((R a0 13).getD 0) ((xup2 (xup2 (xup2 V b2 y1.toNat y0) ((R a0 7).getD 0) ((xup2 V b2 y1.toNat y0) a0 3).toNat x3) ((R a0 8).getD 0) ((xup2 (xup2 V b2 y1.toNat y0) ((R a0 7).getD 0) ((xup2 V b2 y1.toNat y0) a0 3).toNat x3) a0 3).toNat x6) a0 3).toNat (-1)) ((R a0 14).getD 0) ((xup2 (xup2 (xup2 (xup2 V b2 y1.toNat y0) ((R a0 7).getD 0) ((xup2 V b2 y1.toNat y0) a0 3).toNat x3) ((R a0 8).getD 0) ((xup2 (xup2 V b2 y1.toNat y0) ((R a0 7).getD 0) ((xup2 V b2 y1.toNat y0) a0 3).toNat x3) a0 3).toNat x6) ((R a0 13).getD 0) ((xup2 (xup2 (xup2 V b2 y1.toNat y0) ((R a0 7).getD 0) ((xup2 V b2 y1.toNat y0) a0 3).toNat x3) ((R a0 8).getD 0) ((xup2 (xup2 V b2 y1.toNat y0) ((R a0 7).getD 0) ((xup2 V b2 y1.toNat y0) a0 3).toNat x3) a0 3).toNat x6) a0 3).toNat (-1)) a0 3).toNat (-1)) ((R a0 15).getD 0) ((xup2 (xup2 (xup2 (xup2 (xup2 V b2 y1.toNat y0) ((R a0 7).getD 0) ((xup2 V b2 y1.toNat y0) a0 3).toNat x3) ((R a0 8).getD 0) ((xup2 (xup2 V b2 y1.toNat y0) ((R a0 7).getD 0) ((xup2 V b2 y1.toNat y0) a0 3).toNat x3) a0 3).toNat x6) ((R a0 13).getD 0) ((xup2 (xup2 (xup2 V b2 y1.toNat y0) ((R a0 7).getD 0) ((xup2 V b2 y1.toNat y0) a0 3).toNat x3) ((R a0 8).getD 0) ((xup2 (xup2 V b2 y1.toNat y0) ((R a0 7).getD 0) ((xup2 V b2 y1.toNat y0) a0 3).toNat x3) a0 3).toNat x6) a0 3).toNat (-1)) ((R a0 14).getD 0) ((xup2 (xup2 (xup2 (xup2 V b2 y1.toNat y0) ((R a0 7).getD 0) ((xup2 V b2 y1.toNat y0) a0 3).toNat x3) ((R a0 8).getD 0) ((xup2 (xup2 V b2 y1.toNat y0) ((R a0 7).getD 0) ((xup2 V b2 y1.toNat y0) a0 3).toNat x3) a0 3).toNat x6) ((R a0 13).getD 0) ((xup2 (xup2 (xup2 V b2 y1.toNat y0) ((R a0 7).getD 0) ((xup2 V b2 y1.toNat y0) a0 3).toNat x3) ((R a0 8).getD 0) ((xup2 (xup2 V b2 y1.toNat y0) ((R a0 7).getD 0) ((xup2 V b2 y1.toNat y0) a0 3).toNat x3) a0 3).toNat x6) a0 3).toNat (-1)) a0 3).toNat (-1)) a0 3).toNat (-1)) a0 3) + 1)) a0 3) - 1))), (T, z, xv (xup2 (xup2 (xup2 (xup2 (xup2 (xup2 (xup2 V b2 y1.toNat y0) ((R a0 7).getD 0) ((xup2 V b2 y1.toNat y0) a0 3).toNat x3) ((R a0 8).getD 0) ((xup2 (xup2 V b2 y1.toNat y0) ((R a0 7).getD 0) ((xup2 V b2 y1.toNat y0) a0 3).toNat x3) a0 3).toNat x6) ((R a0 13).getD 0) ((xup2 (xup2 (xup2 V b2 y1.toNat y0) ((R a0 7).getD 0) ((xup2 V b2 y1.toNat y0) a0 3).toNat x3) ((R a0 8).getD 0) ((xup2 (xup2 V b2 y1.toNat y0) ((R a0 7).getD 0) ((xup2 V b2 y1.toNat y0) a0 3).toNat x3) a0 3).toNat x6) a0 3).toNat (-1)) ((R a0 14).getD 0) ((xup2 (xup2 (xup2 (xup2 V b2 y1.toNat y0) ((R a0 7).getD 0) ((xup2 V b2 y1.toNat y0) a0 3).toNat x3) ((R a0 8).getD 0) ((xup2 (xup2 V b2 y1.toNat y0) ((R a0 7).getD 0) ((xup2 V b2 y1.toNat y0) a0 3).toNat x3) a0 3).toNat x6) ((R a0 13).getD 0) ((xup2 (xup2 (xup2 V b2 y1.toNat y0) ((R a0 7).getD 0) ((xup2 V b2 y1.toNat y0) a0 3).toNat x3) ((R a0 8).getD 0) ((xup2 (xup2 V b2 y1.toNat y0) ((R a0 7).getD 0) ((xup2 V b2 y1.toNat y0) a0 3).toNat x3) a0 3).toNat x6) a0 3).toNat (-1)) a0 3).toNat (-1)) ((R a0 15).getD 0) ((xup2 (xup2 (xup2 (xup2 (xup2 V b2 y1.toNat y0) ((R a0 7).getD 0) ((xup2 V b2 y1.toNat y0) a0 3).toNat x3) ((R a0 8).getD 0) ((xup2 (xup2 V b2 y1.toNat y0) ((R a0 7).getD 0) ((xup2 V b2 y1.toNat y0) a0 3).toNat x3) a0 3).toNat x6) ((R a0 13).getD 0) ((xup2 (xup2 (xup2 V b2 y1.toNat y0) ((R a0 7).getD 0) ((xup2 V b2 y1.toNat y0) a0 3).toNat x3) ((R a0 8).getD 0) ((xup2 (xup2 V b2 y1.toNat y0) ((R a0 7).getD 0) ((xup2 V b2 y1.toNat y0) a0 3).toNat x3) a0 3).toNat x6) a0 3).toNat (-1)) ((R a0 14).getD 0) ((xup2 (xup2 (xup2 (xup2 V b2 y1.toNat y0) ((R a0 7).getD 0) ((xup2 V b2 y1.toNat y0) a0 3).toNat x3) ((R a0 8).getD 0) ((xup2 (xup2 V b2 y1.toNat y0) ((R a0 7).getD 0) ((xup2 V b2 y1.toNat y0) a0 3).toNat x3) a0 3).toNat x6) ((R a0 13).getD 0) ((xup2 (xup2 (xup2 V b2 y1.toNat y0) ((R a0 7).getD 0) ((xup2 V b2 y1.toNat y0) a0 3).toNat x3) ((R a0 8).getD 0) ((xup2 (xup2 V b2 y1.toNat y0) ((R a0 7).getD 0) ((xup2 V b2 y1.toNat y0) a0 3).toNat x3) a0 3).toNat x6) a0 3).toNat (-1)) a0 3).toNat (-1)) a0 3).toNat (-1)) a0 3 (((xup2 (xup2 (xup2 (xup2 (xup2 (xup2 V b2 y1.toNat y0) ((R a0 7).getD 0) ((xup2 V b2 y1.toNat y0) a0 3).toNat x3) ((R a0 8).getD 0) ((xup2 (xup2 V b2 y1.toNat y0) ((R a0 7).getD 0) ((xup2 V b2 y1.toNat y0) a0 3).toNat x3) a0 3).toNat x6) ((R a0 13).getD 0) ((xup2 (xup2 (xup2 V b2 y1.toNat y0) ((R a0 7).getD 0) ((xup2 V b2 y1.toNat y0) a0 3).toNat x3) ((R a0 8).getD 0) ((xup2 (xup2 V b2 y1.toNat y0) ((R a0 7).getD 0) ((xup2 V b2 y1.toNat y0) a0 3).toNat x3) a0 3).toNat x6) a0 3).toNat (-1)) ((R a0 14).getD 0) ((xup2 (xup2 (xup2 (xup2 V b2 y1.toNat y0) ((R a0 7).getD 0) ((xup2 V b2 y1.toNat y0) a0 3).toNat x3) ((R a0 8).getD 0) ((xup2 (xup2 V b2 y1.toNat y0) ((R a0 7).getD 0) ((xup2 V b2 y1.toNat y0) a0 3).toNat x3) a0 3).toNat x6) ((R a0 13).getD 0) ((xup2 (xup2 (xup2 V b2 y1.toNat y0) ((R a0 7).getD 0) ((xup2 V b2 y1.toNat y0) a0 3).toNat x3) ((R a0 8).getD 0) ((xup2 (xup2 V b2 y1.toNat y0) ((R a0 7).getD 0) ((xup2 V b2 y1.toNat y0) a0 3).toNat x3) a0 3).toNat x6) a0 3).toNat (-1)) a0 3).toNat (-1)) ((R a0 15).getD 0) ((xup2 (xup2 (xup2 (xup2 (xup2 V b2 y1.toNat y0) ((R a0 7).getD 0) ((xup2 V b2 y1.toNat y0) a0 3).toNat x3) ((R a0 8).getD 0) ((xup2 (xup2 V b2 y1.toNat y0) ((R a0 7).getD 0) ((xup2 V b2 y1.toNat y0) a0 3).toNat x3) a0 3).toNat x6) ((R a0 13).getD 0) ((xup2 (xup2 (xup2 V b2 y1.toNat y0) ((R a0 7).getD 0) ((xup2 V b2 y1.toNat y0) a0 3).toNat x3) ((R a0 8).getD 0) ((xup2 (xup2 V b2 y1.toNat y0) ((R a0 7).getD 0) ((xup2 V b2 y1.toNat y0) a0 3).toNat x3) a0 3).toNat x6) a0 3).toNat (-1)) ((R a0 14).getD 0) ((xup2 (xup2 (xup2 (xup2 V b2 y1.toNat y0) ((R a0 7).getD 0) ((xup2 V b2 y1.toNat y0) a0 3).toNat x3) ((R a0 8).getD 0) ((xup2 (xup2 V b2 y1.toNat y0) ((R a0 7).getD 0) ((xup2 V b2 y1.toNat y0) a0 3).toNat x3) a0 3).toNat x6) ((R a0 13).getD 0) ((xup2 (xup2 (xup2 V b2 y1.toNat y0) ((R a0 7).getD 0) ((xup2 V b2 y1.toNat y0) a0 3).toNat x3) ((R a0 8).getD 0) ((xup2 (xup2 V b2 y1.toNat y0) ((R a0 7).getD 0) ((xup2 V b2 y1.toNat y0) a0 3).toNat x3) a0 3).toNat x6) a0 3).toNat (-1)) a0 3).toNat (-1)) a0 3).toNat (-1)) a0 3) + 1)), J, R)) :=
  (sw_iastore f_104_216 g1 g2).trans ((st_aload_n f_104_217 rfl).trans ((st_getR f_104_218 e_104_25 (by decide) g3 g4).trans ((st_aload_n f_104_221 rfl).trans ((sw_getI f_104_222 e_104_95 (by decide) g3).trans ((sw_iload_n f_104_225 rfl).trans ((sw_iastore f_104_226 g5 g6).trans ((st_aload_n f_104_227 rfl).trans ((st_getR f_104_228 e_104_28 (by decide) g3 g7).trans ((st_aload_n f_104_231 rfl).trans ((sw_getI f_104_232 e_104_95 (by decide) g3).trans ((sw_iload f_104_235 rfl).trans ((sw_bastore f_104_237 g8 g9 g10).trans ((st_aload_n f_104_238 rfl).trans ((st_getR f_104_239 e_104_45 (by decide) g3 g11).trans ((st_aload_n f_104_242 rfl).trans ((sw_getI f_104_243 e_104_95 (by decide) g3).trans ((sw_iconst f_104_246).trans ((sw_iastore f_104_247 g12 g13).trans ((st_aload_n f_104_248 rfl).trans ((st_getR f_104_249 e_104_48 (by decide) g3 g14).trans ((st_aload_n f_104_252 rfl).trans ((sw_getI f_104_253 e_104_95 (by decide) g3).trans ((sw_iconst f_104_256).trans ((sw_iastore f_104_257 g15 g16).trans ((st_aload_n f_104_258 rfl).trans ((st_getR f_104_259 e_104_51 (by decide) g3 g17).trans ((st_aload_n f_104_262 rfl).trans ((sw_getI f_104_263 e_104_95 (by decide) g3).trans ((sw_iconst f_104_266).trans ((sw_iastore f_104_267 g18 g19).trans ((st_aload_n f_104_268 rfl).trans ((st_dup f_104_269 rfl).trans ((sw_getI f_104_270 e_104_95 (by decide) g3).trans ((sw_iconst f_104_273).trans ((sw_iadd f_104_274).trans ((sw_putI f_104_275 e_104_95 (Or.inl rfl) (Or.inl rfl) g3).trans ((st_aload_n f_104_278 rfl).trans ((sw_getI f_104_279 e_104_95 (by decide) g3).trans ((sw_iconst f_104_282).trans ((sw_isub f_104_283).trans (sw_ireturn f_104_284 mr_104)))))))))))))))))))))))))))))))))))))))))
theorem eX7_worth {x0 x1 x2 : Int} : X sc (d + 1) 105 [xw x0, xw x1, xw x2] (T, z, xv V, J, R) = XR sc d 105 0 [some (xw x0), some (xw x1), some (xw x2), none, none] [] (T, z, xv V, J, R) :=
  (X_eq ⟨jl_105, by rw [mn_105]; rfl, rfl, by rw [lm_105]; exact Nat.le_of_ble_eq_true rfl⟩).trans (by unfold xent; rw [lm_105]; rfl)
theorem bX7_worth_0 {o1 o2 o3 o4 : Option Value} {x0 : Int} : XR sc d 105 0 [some (xw x0), o1, o2, o3, o4] [] (T, z, xv V, J, R) = XR sc d 105 5 [some (xw x0), o1, o2, some (xw 0), some (xw x0)] [] (T, z, xv V, J, R) :=
  (sw_iconst f_105_0).trans ((sw_istore_n (L' := [some (xw x0), o1, o2, some (xw 0), o4]) f_105_1 (Nat.le_of_ble_eq_true rfl) rfl).trans ((sw_iload_n f_105_2 rfl).trans (sw_istore (L' := [some (xw x0), o1, o2, some (xw 0), some (xw x0)]) f_105_3 (Nat.le_of_ble_eq_true rfl) rfl)))
theorem bX7_worth_5 {o2 o3 : Option Value} {x4 x0 x1 : Int} (g1 : -2147483648 ≤ x4 ∧ x4 ≤ 2147483647) (g2 : -2147483648 ≤ (x0 + x1) ∧ (x0 + x1) ≤ 2147483647) : XR sc d 105 5 [some (xw x0), some (xw x1), o2, o3, some (xw x4)] [] (T, z, xv V, J, R) = if (x0 + x1) ≤ x4 then XR sc d 105 45 [some (xw x0), some (xw x1), o2, o3, some (xw x4)] [] (T, z, xv V, J, R) else XR sc d 105 13 [some (xw x0), some (xw x1), o2, o3, some (xw x4)] [] (T, z, xv V, J, R) :=
  (sw_iload f_105_5 rfl).trans ((sw_iload_n f_105_7 rfl).trans ((sw_iload_n f_105_8 rfl).trans ((sw_iadd f_105_9).trans (sw_icmp_ge (t := 45) f_105_10 ⟨by decide, rfl⟩ g1 g2))))
theorem bX7_worth_13 {o0 o1 : Option Value} {x3 x2 x4 : Int} (g1 : -2147483648 ≤ x4 ∧ x4 ≤ 2147483647) : XR sc d 105 13 [o0, o1, some (xw x2), some (xw x3), some (xw x4)] [] (T, z, xv V, J, R) = if 2 ≤ x4 then XR sc d 105 25 [o0, o1, some (xw x2), some (xw x3), some (xw x4)] [xw x2, xw x3] (T, z, xv V, J, R) else XR sc d 105 21 [o0, o1, some (xw x2), some (xw x3), some (xw x4)] [xw x2, xw x3] (T, z, xv V, J, R) :=
  (sw_iload_n f_105_13 rfl).trans ((sw_iload_n f_105_14 rfl).trans ((sw_iload f_105_15 rfl).trans ((sw_iconst f_105_17).trans (sw_icmp_ge (t := 25) f_105_18 ⟨by decide, rfl⟩ g1 ⟨by decide, by decide⟩))))
theorem bX7_worth_21 {o0 o1 o2 o3 o4 : Option Value} {s0 s1 : Value} : XR sc d 105 21 [o0, o1, o2, o3, o4] [s0, s1] (T, z, xv V, J, R) = XR sc d 105 36 [o0, o1, o2, o3, o4] [xw 3, s0, s1] (T, z, xv V, J, R) :=
  (sw_iconst f_105_21).trans (st_goto (t := 36) f_105_22 ⟨by decide, rfl⟩)
theorem bX7_worth_25 {o0 o1 o2 o3 : Option Value} {s0 s1 : Value} {x4 : Int} (g1 : -2147483648 ≤ x4 ∧ x4 ≤ 2147483647) : XR sc d 105 25 [o0, o1, o2, o3, some (xw x4)] [s0, s1] (T, z, xv V, J, R) = if 5 ≤ x4 then XR sc d 105 35 [o0, o1, o2, o3, some (xw x4)] [s0, s1] (T, z, xv V, J, R) else XR sc d 105 31 [o0, o1, o2, o3, some (xw x4)] [s0, s1] (T, z, xv V, J, R) :=
  (sw_iload f_105_25 rfl).trans ((sw_iconst f_105_27).trans (sw_icmp_ge (t := 35) f_105_28 ⟨by decide, rfl⟩ g1 ⟨by decide, by decide⟩))
theorem bX7_worth_31 {o0 o1 o2 o3 o4 : Option Value} {s0 s1 : Value} : XR sc d 105 31 [o0, o1, o2, o3, o4] [s0, s1] (T, z, xv V, J, R) = XR sc d 105 36 [o0, o1, o2, o3, o4] [xw 2, s0, s1] (T, z, xv V, J, R) :=
  (sw_iconst f_105_31).trans (st_goto (t := 36) f_105_32 ⟨by decide, rfl⟩)
theorem bX7_worth_35 {o0 o1 o2 o3 o4 : Option Value} {s0 s1 : Value} : XR sc d 105 35 [o0, o1, o2, o3, o4] [s0, s1] (T, z, xv V, J, R) = XR sc d 105 36 [o0, o1, o2, o3, o4] [xw 1, s0, s1] (T, z, xv V, J, R) :=
  sw_iconst f_105_35
theorem bX7_worth_36 {o0 o1 o2 o3 : Option Value} {y0 y1 y2 x4 : Int} : XR sc d 105 36 [o0, o1, o2, o3, some (xw x4)] [xw y0, xw y1, xw y2] (T, z, xv V, J, R) = XR sc d 105 5 [o0, o1, o2, some (xw (y2 + (y1 * y0))), some (xw (x4 + 1))] [] (T, z, xv V, J, R) :=
  (sw_imul f_105_36).trans ((sw_iadd f_105_37).trans ((sw_istore_n (L' := [o0, o1, o2, some (xw (y2 + (y1 * y0))), some (xw x4)]) f_105_38 (Nat.le_of_ble_eq_true rfl) rfl).trans ((sw_iinc (L' := [o0, o1, o2, some (xw (y2 + (y1 * y0))), some (xw (x4 + 1))]) f_105_39 rfl (Nat.le_of_ble_eq_true rfl) rfl).trans (st_goto (t := 5) f_105_42 ⟨by decide, rfl⟩))))
theorem bX7_worth_45 {o0 o1 o2 o4 : Option Value} {x3 : Int} : XR sc d 105 45 [o0, o1, o2, some (xw x3), o4] [] (T, z, xv V, J, R) = some (.inl (some (xw x3)), (T, z, xv V, J, R)) :=
  (sw_iload_n f_105_45 rfl).trans (sw_ireturn f_105_46 mr_105)
theorem eX7_find {x1 x2 x3 x4 x5 : Int} {a0 : Nat} : X sc (d + 1) 106 [.ref a0, xw x1, xw x2, xw x3, xw x4, xw x5] (T, z, xv V, J, R) = XR sc d 106 0 [some (.ref a0), some (xw x1), some (xw x2), some (xw x3), some (xw x4), some (xw x5), none, none, none, none, none, none] [] (T, z, xv V, J, R) :=
  (X_eq ⟨jl_106, by rw [mn_106]; rfl, rfl, by rw [lm_106]; exact Nat.le_of_ble_eq_true rfl⟩).trans (by unfold xent; rw [lm_106]; rfl)
theorem bX7_find_0 {o0 o1 o4 o5 o6 o7 o8 o9 o10 o11 : Option Value} {x2 x3 : Int} : XR sc d 106 0 [o0, o1, some (xw x2), some (xw x3), o4, o5, o6, o7, o8, o9, o10, o11] [] (T, z, xv V, J, R) = xret 106 (XR sc d 106) 2 5 [o0, o1, some (xw x2), some (xw x3), o4, o5, o6, o7, o8, o9, o10, o11] [] (X sc d 101 [xw x2, xw x3] (T, z, xv V, J, R)) :=
  (sw_iload_n f_106_0 rfl).trans ((sw_iload_n f_106_1 rfl).trans (st_callS' f_106_2 h_106_109 mn_101 rfl rfl rfl rfl))
theorem bX7_find_5 {o0 o1 o2 o3 o4 o5 o6 o7 o8 o9 o10 o11 : Option Value} {y0 : Int} (g1 : -2147483648 ≤ y0 ∧ y0 ≤ 2147483647) : XR sc d 106 5 [o0, o1, o2, o3, o4, o5, o6, o7, o8, o9, o10, o11] [xw y0] (T, z, xv V, J, R) = if y0 = 0 then XR sc d 106 23 [o0, o1, o2, o3, o4, o5, o6, o7, o8, o9, o10, o11] [] (T, z, xv V, J, R) else XR sc d 106 8 [o0, o1, o2, o3, o4, o5, o6, o7, o8, o9, o10, o11] [] (T, z, xv V, J, R) :=
  sw_if_eq (t := 23) f_106_5 ⟨by decide, rfl⟩ g1
theorem bX7_find_8 {o0 o1 o2 o3 o4 o6 o7 o8 o9 o10 o11 : Option Value} {x5 : Int} : XR sc d 106 8 [o0, o1, o2, o3, o4, some (xw x5), o6, o7, o8, o9, o10, o11] [] (T, z, xv V, J, R) = xret 106 (XR sc d 106) 13 16 [o0, o1, o2, o3, o4, some (xw x5), o6, o7, o8, o9, o10, o11] [] (X sc d 94 [xw x5, xw 1, xw 9] (T, z, xv V, J, R)) :=
  (sw_iload f_106_8 rfl).trans ((sw_iconst f_106_10).trans ((sw_bipush f_106_11 c8_9).trans (st_callS' f_106_13 h_106_91 mn_94 rfl rfl rfl rfl)))
theorem bX7_find_16 {o0 o1 o2 o3 o4 o5 o6 o7 o8 o9 o10 o11 : Option Value} {y0 : Int} (g1 : -2147483648 ≤ y0 ∧ y0 ≤ 2147483647) : XR sc d 106 16 [o0, o1, o2, o3, o4, o5, o6, o7, o8, o9, o10, o11] [xw y0] (T, z, xv V, J, R) = if y0 = 0 then XR sc d 106 23 [o0, o1, o2, o3, o4, o5, o6, o7, o8, o9, o10, o11] [] (T, z, xv V, J, R) else XR sc d 106 19 [o0, o1, o2, o3, o4, o5, o6, o7, o8, o9, o10, o11] [] (T, z, xv V, J, R) :=
  sw_if_eq (t := 23) f_106_16 ⟨by decide, rfl⟩ g1
theorem bX7_find_19 {o0 o1 o2 o3 o4 o5 o6 o7 o8 o9 o10 o11 : Option Value} : XR sc d 106 19 [o0, o1, o2, o3, o4, o5, o6, o7, o8, o9, o10, o11] [] (T, z, xv V, J, R) = XR sc d 106 24 [o0, o1, o2, o3, o4, o5, o6, o7, o8, o9, o10, o11] [xw 1] (T, z, xv V, J, R) :=
  (sw_iconst f_106_19).trans (st_goto (t := 24) f_106_20 ⟨by decide, rfl⟩)
theorem bX7_find_23 {o0 o1 o2 o3 o4 o5 o6 o7 o8 o9 o10 o11 : Option Value} : XR sc d 106 23 [o0, o1, o2, o3, o4, o5, o6, o7, o8, o9, o10, o11] [] (T, z, xv V, J, R) = XR sc d 106 24 [o0, o1, o2, o3, o4, o5, o6, o7, o8, o9, o10, o11] [xw 0] (T, z, xv V, J, R) :=
  sw_iconst f_106_23
theorem bX7_find_24 {o2 o3 o4 o5 o6 o7 o8 o9 o10 o11 : Option Value} {y0 x1 : Int} {a0 : Nat} (g1 : T a0 = (8, 0)) : XR sc d 106 24 [some (.ref a0), some (xw x1), o2, o3, o4, o5, o6, o7, o8, o9, o10, o11] [xw y0] (T, z, xv V, J, R) = xret 106 (XR sc d 106) 29 32 [some (.ref a0), some (xw x1), o2, o3, o4, o5, some (xw y0), o7, o8, o9, o10, o11] [.ref a0] (X sc d 95 [.ref a0, xw x1] (T, z, xv V, J, R)) :=
  (sw_istore (L' := [some (.ref a0), some (xw x1), o2, o3, o4, o5, some (xw y0), o7, o8, o9, o10, o11]) f_106_24 (Nat.le_of_ble_eq_true rfl) rfl).trans ((st_aload_n f_106_26 rfl).trans ((st_aload_n f_106_27 rfl).trans ((sw_iload_n f_106_28 rfl).trans (st_callV' f_106_29 h_106_102 mn_95 rfl rfl rfl rfl mo_95 g1 rfl))))
theorem bX7_find_32 {o0 o1 o2 o3 o4 o5 o6 o7 o8 o9 o10 o11 : Option Value} {s1 : Value} {y0 : Int} (g1 : -2147483648 ≤ y0 ∧ y0 ≤ 2147483647) : XR sc d 106 32 [o0, o1, o2, o3, o4, o5, o6, o7, o8, o9, o10, o11] [xw y0, s1] (T, z, xv V, J, R) = if y0 = 0 then XR sc d 106 35 [o0, o1, o2, o3, o4, o5, o6, o7, o8, o9, o10, o11] [s1] (T, z, xv V, J, R) else XR sc d 106 39 [o0, o1, o2, o3, o4, o5, o6, o7, o8, o9, o10, o11] [s1] (T, z, xv V, J, R) :=
  sw_if_ne (t := 39) f_106_32 ⟨by decide, rfl⟩ g1
theorem bX7_find_35 {o0 o1 o2 o3 o4 o5 o6 o7 o8 o9 o10 o11 : Option Value} {s0 : Value} : XR sc d 106 35 [o0, o1, o2, o3, o4, o5, o6, o7, o8, o9, o10, o11] [s0] (T, z, xv V, J, R) = XR sc d 106 49 [o0, o1, o2, o3, o4, o5, o6, o7, o8, o9, o10, o11] [xw 1, s0] (T, z, xv V, J, R) :=
  (sw_iconst f_106_35).trans (st_goto (t := 49) f_106_36 ⟨by decide, rfl⟩)
theorem bX7_find_39 {o0 o1 o2 o3 o4 o5 o7 o8 o9 o10 o11 : Option Value} {s0 : Value} {x6 : Int} (g1 : -2147483648 ≤ x6 ∧ x6 ≤ 2147483647) : XR sc d 106 39 [o0, o1, o2, o3, o4, o5, some (xw x6), o7, o8, o9, o10, o11] [s0] (T, z, xv V, J, R) = if x6 = 0 then XR sc d 106 48 [o0, o1, o2, o3, o4, o5, some (xw x6), o7, o8, o9, o10, o11] [s0] (T, z, xv V, J, R) else XR sc d 106 44 [o0, o1, o2, o3, o4, o5, some (xw x6), o7, o8, o9, o10, o11] [s0] (T, z, xv V, J, R) :=
  (sw_iload f_106_39 rfl).trans (sw_if_eq (t := 48) f_106_41 ⟨by decide, rfl⟩ g1)
theorem bX7_find_44 {o0 o1 o2 o3 o4 o5 o6 o7 o8 o9 o10 o11 : Option Value} {s0 : Value} : XR sc d 106 44 [o0, o1, o2, o3, o4, o5, o6, o7, o8, o9, o10, o11] [s0] (T, z, xv V, J, R) = XR sc d 106 49 [o0, o1, o2, o3, o4, o5, o6, o7, o8, o9, o10, o11] [xw 0, s0] (T, z, xv V, J, R) :=
  (sw_iconst f_106_44).trans (st_goto (t := 49) f_106_45 ⟨by decide, rfl⟩)
theorem bX7_find_48 {o0 o1 o2 o3 o4 o5 o6 o7 o8 o9 o10 o11 : Option Value} {s0 : Value} : XR sc d 106 48 [o0, o1, o2, o3, o4, o5, o6, o7, o8, o9, o10, o11] [s0] (T, z, xv V, J, R) = XR sc d 106 49 [o0, o1, o2, o3, o4, o5, o6, o7, o8, o9, o10, o11] [xw 2, s0] (T, z, xv V, J, R) :=
  sw_iconst f_106_48
theorem bX7_find_49 {o0 o1 o2 o3 o4 o5 o6 o7 o8 o9 o10 o11 : Option Value} {y0 : Int} {b1 : Nat} (g1 : T b1 = (8, 0)) : XR sc d 106 49 [o0, o1, o2, o3, o4, o5, o6, o7, o8, o9, o10, o11] [xw y0, .ref b1] (T, z, xv V, J, R) = xret 106 (XR sc d 106) 49 52 [o0, o1, o2, o3, o4, o5, o6, o7, o8, o9, o10, o11] [] (X sc d 93 [.ref b1, xw y0] (T, z, xv V, J, R)) :=
  st_callV' f_106_49 h_106_98 mn_93 rfl rfl rfl rfl mo_93 g1 rfl
theorem bX7_find_52 {o0 o1 o2 o3 o4 o5 o6 o7 o8 o9 o10 o11 : Option Value} {y0 : Int} (g1 : -2147483648 ≤ y0 ∧ y0 ≤ 2147483647) : XR sc d 106 52 [o0, o1, o2, o3, o4, o5, o6, o7, o8, o9, o10, o11] [xw y0] (T, z, xv V, J, R) = if y0 = 0 then XR sc d 106 57 [o0, o1, o2, o3, o4, o5, o6, o7, o8, o9, o10, o11] [] (T, z, xv V, J, R) else XR sc d 106 55 [o0, o1, o2, o3, o4, o5, o6, o7, o8, o9, o10, o11] [] (T, z, xv V, J, R) :=
  sw_if_eq (t := 57) f_106_52 ⟨by decide, rfl⟩ g1
theorem bX7_find_55 {o0 o1 o2 o3 o4 o5 o6 o7 o8 o9 o10 o11 : Option Value} : XR sc d 106 55 [o0, o1, o2, o3, o4, o5, o6, o7, o8, o9, o10, o11] [] (T, z, xv V, J, R) = some (.inl (some (xw 0)), (T, z, xv V, J, R)) :=
  (sw_iconst f_106_55).trans (sw_ireturn f_106_56 mr_106)
theorem bX7_find_57 {o0 o1 o2 o3 o4 o5 o6 o7 o8 o9 o10 o11 : Option Value} : XR sc d 106 57 [o0, o1, o2, o3, o4, o5, o6, o7, o8, o9, o10, o11] [] (T, z, xv V, J, R) = XR sc d 106 63 [o0, o1, o2, o3, o4, o5, o6, some (xw (-1)), some (xw 0), o9, o10, o11] [] (T, z, xv V, J, R) :=
  (sw_iconst f_106_57).trans ((sw_istore (L' := [o0, o1, o2, o3, o4, o5, o6, some (xw (-1)), o8, o9, o10, o11]) f_106_58 (Nat.le_of_ble_eq_true rfl) rfl).trans ((sw_iconst f_106_60).trans (sw_istore (L' := [o0, o1, o2, o3, o4, o5, o6, some (xw (-1)), some (xw 0), o9, o10, o11]) f_106_61 (Nat.le_of_ble_eq_true rfl) rfl)))
theorem bX7_find_63 {o0 o1 o2 o4 o5 o6 o7 o9 o10 o11 : Option Value} {x8 x3 : Int} (g1 : -2147483648 ≤ (x8 + x3) ∧ (x8 + x3) ≤ 2147483647) : XR sc d 106 63 [o0, o1, o2, some (xw x3), o4, o5, o6, o7, some (xw x8), o9, o10, o11] [] (T, z, xv V, J, R) = if 8 < (x8 + x3) then XR sc d 106 190 [o0, o1, o2, some (xw x3), o4, o5, o6, o7, some (xw x8), o9, o10, o11] [] (T, z, xv V, J, R) else XR sc d 106 72 [o0, o1, o2, some (xw x3), o4, o5, o6, o7, some (xw x8), o9, o10, o11] [] (T, z, xv V, J, R) :=
  (sw_iload f_106_63 rfl).trans ((sw_iload_n f_106_65 rfl).trans ((sw_iadd f_106_66).trans ((sw_bipush f_106_67 c8_8).trans (sw_icmp_gt (t := 190) f_106_69 ⟨by decide, rfl⟩ g1 ⟨by decide, by decide⟩))))
theorem bX7_find_72 {o0 o1 o2 o3 o4 o5 o6 o7 o8 o9 o10 o11 : Option Value} : XR sc d 106 72 [o0, o1, o2, o3, o4, o5, o6, o7, o8, o9, o10, o11] [] (T, z, xv V, J, R) = XR sc d 106 75 [o0, o1, o2, o3, o4, o5, o6, o7, o8, some (xw 0), o10, o11] [] (T, z, xv V, J, R) :=
  (sw_iconst f_106_72).trans (sw_istore (L' := [o0, o1, o2, o3, o4, o5, o6, o7, o8, some (xw 0), o10, o11]) f_106_73 (Nat.le_of_ble_eq_true rfl) rfl)
theorem bX7_find_75 {o0 o1 o3 o4 o5 o6 o7 o8 o10 o11 : Option Value} {x9 x2 : Int} (g1 : -2147483648 ≤ (x9 + x2) ∧ (x9 + x2) ≤ 2147483647) : XR sc d 106 75 [o0, o1, some (xw x2), o3, o4, o5, o6, o7, o8, some (xw x9), o10, o11] [] (T, z, xv V, J, R) = if 12 < (x9 + x2) then XR sc d 106 184 [o0, o1, some (xw x2), o3, o4, o5, o6, o7, o8, some (xw x9), o10, o11] [] (T, z, xv V, J, R) else XR sc d 106 84 [o0, o1, some (xw x2), o3, o4, o5, o6, o7, o8, some (xw x9), o10, o11] [] (T, z, xv V, J, R) :=
  (sw_iload f_106_75 rfl).trans ((sw_iload_n f_106_77 rfl).trans ((sw_iadd f_106_78).trans ((sw_bipush f_106_79 c8_12).trans (sw_icmp_gt (t := 184) f_106_81 ⟨by decide, rfl⟩ g1 ⟨by decide, by decide⟩))))
theorem bX7_find_84 {o5 o6 o7 o10 o11 : Option Value} {x1 x9 x8 x2 x3 x4 : Int} {a0 : Nat} (g1 : T a0 = (8, 0)) : XR sc d 106 84 [some (.ref a0), some (xw x1), some (xw x2), some (xw x3), some (xw x4), o5, o6, o7, some (xw x8), some (xw x9), o10, o11] [] (T, z, xv V, J, R) = xret 106 (XR sc d 106) 94 97 [some (.ref a0), some (xw x1), some (xw x2), some (xw x3), some (xw x4), o5, o6, o7, some (xw x8), some (xw x9), o10, o11] [] (X sc d 102 [.ref a0, xw x1, xw x9, xw x8, xw x2, xw x3, xw x4] (T, z, xv V, J, R)) :=
  (st_aload_n f_106_84 rfl).trans ((sw_iload_n f_106_85 rfl).trans ((sw_iload f_106_86 rfl).trans ((sw_iload f_106_88 rfl).trans ((sw_iload_n f_106_90 rfl).trans ((sw_iload_n f_106_91 rfl).trans ((sw_iload f_106_92 rfl).trans (st_callV' f_106_94 h_106_112 mn_102 rfl rfl rfl rfl mo_102 g1 rfl)))))))
theorem bX7_find_97 {o0 o1 o2 o3 o4 o5 o6 o7 o8 o9 o10 o11 : Option Value} {y0 : Int} (g1 : -2147483648 ≤ y0 ∧ y0 ≤ 2147483647) : XR sc d 106 97 [o0, o1, o2, o3, o4, o5, o6, o7, o8, o9, o10, o11] [xw y0] (T, z, xv V, J, R) = if y0 = 0 then XR sc d 106 117 [o0, o1, o2, o3, o4, o5, o6, o7, o8, o9, o10, o11] [] (T, z, xv V, J, R) else XR sc d 106 100 [o0, o1, o2, o3, o4, o5, o6, o7, o8, o9, o10, o11] [] (T, z, xv V, J, R) :=
  sw_if_eq (t := 117) f_106_97 ⟨by decide, rfl⟩ g1
theorem bX7_find_100 {o2 o4 o5 o6 o7 o9 o10 o11 : Option Value} {x1 x8 x3 : Int} {a0 : Nat} (g1 : T a0 = (8, 0)) : XR sc d 106 100 [some (.ref a0), some (xw x1), o2, some (xw x3), o4, o5, o6, o7, some (xw x8), o9, o10, o11] [] (T, z, xv V, J, R) = xret 106 (XR sc d 106) 105 108 [some (.ref a0), some (xw x1), o2, some (xw x3), o4, o5, o6, o7, some (xw x8), o9, o10, o11] [] (X sc d 103 [.ref a0, xw x1, xw x8, xw x3] (T, z, xv V, J, R)) :=
  (st_aload_n f_106_100 rfl).trans ((sw_iload_n f_106_101 rfl).trans ((sw_iload f_106_102 rfl).trans ((sw_iload_n f_106_104 rfl).trans (st_callV' f_106_105 h_106_116 mn_103 rfl rfl rfl rfl mo_103 g1 rfl))))
theorem bX7_find_108 {o0 o1 o2 o3 o4 o6 o7 o8 o9 o10 o11 : Option Value} {x5 y0 : Int} (g1 : -2147483648 ≤ y0 ∧ y0 ≤ 2147483647) (g2 : -2147483648 ≤ x5 ∧ x5 ≤ 2147483647) : XR sc d 106 108 [o0, o1, o2, o3, o4, some (xw x5), o6, o7, o8, o9, o10, o11] [xw y0] (T, z, xv V, J, R) = if y0 < x5 then XR sc d 106 117 [o0, o1, o2, o3, o4, some (xw x5), o6, o7, o8, o9, o10, o11] [] (T, z, xv V, J, R) else XR sc d 106 113 [o0, o1, o2, o3, o4, some (xw x5), o6, o7, o8, o9, o10, o11] [] (T, z, xv V, J, R) :=
  (sw_iload f_106_108 rfl).trans (sw_icmp_lt (t := 117) f_106_110 ⟨by decide, rfl⟩ g1 g2)
theorem bX7_find_113 {o0 o1 o2 o3 o4 o5 o6 o7 o8 o9 o10 o11 : Option Value} : XR sc d 106 113 [o0, o1, o2, o3, o4, o5, o6, o7, o8, o9, o10, o11] [] (T, z, xv V, J, R) = XR sc d 106 118 [o0, o1, o2, o3, o4, o5, o6, o7, o8, o9, o10, o11] [xw 1] (T, z, xv V, J, R) :=
  (sw_iconst f_106_113).trans (st_goto (t := 118) f_106_114 ⟨by decide, rfl⟩)
theorem bX7_find_117 {o0 o1 o2 o3 o4 o5 o6 o7 o8 o9 o10 o11 : Option Value} : XR sc d 106 117 [o0, o1, o2, o3, o4, o5, o6, o7, o8, o9, o10, o11] [] (T, z, xv V, J, R) = XR sc d 106 118 [o0, o1, o2, o3, o4, o5, o6, o7, o8, o9, o10, o11] [xw 0] (T, z, xv V, J, R) :=
  sw_iconst f_106_117
theorem bX7_find_118 {o0 o1 o2 o3 o4 o5 o6 o8 o9 o10 o11 : Option Value} {y0 x7 : Int} (g1 : -2147483648 ≤ x7 ∧ x7 ≤ 2147483647) : XR sc d 106 118 [o0, o1, o2, o3, o4, o5, o6, some (xw x7), o8, o9, o10, o11] [xw y0] (T, z, xv V, J, R) = if x7 = (-1) then XR sc d 106 146 [o0, o1, o2, o3, o4, o5, o6, some (xw x7), o8, o9, some (xw y0), o11] [] (T, z, xv V, J, R) else XR sc d 106 126 [o0, o1, o2, o3, o4, o5, o6, some (xw x7), o8, o9, some (xw y0), o11] [] (T, z, xv V, J, R) :=
  (sw_istore (L' := [o0, o1, o2, o3, o4, o5, o6, some (xw x7), o8, o9, some (xw y0), o11]) f_106_118 (Nat.le_of_ble_eq_true rfl) rfl).trans ((sw_iload f_106_120 rfl).trans ((sw_iconst f_106_122).trans (sw_icmp_eq (t := 146) f_106_123 ⟨by decide, rfl⟩ g1 ⟨by decide, by decide⟩)))
theorem bX7_find_126 {o0 o1 o4 o5 o6 o7 o9 o10 o11 : Option Value} {x8 x3 x2 : Int} : XR sc d 106 126 [o0, o1, some (xw x2), some (xw x3), o4, o5, o6, o7, some (xw x8), o9, o10, o11] [] (T, z, xv V, J, R) = xret 106 (XR sc d 106) 130 133 [o0, o1, some (xw x2), some (xw x3), o4, o5, o6, o7, some (xw x8), o9, o10, o11] [] (X sc d 105 [xw x8, xw x3, xw x2] (T, z, xv V, J, R)) :=
  (sw_iload f_106_126 rfl).trans ((sw_iload_n f_106_128 rfl).trans ((sw_iload_n f_106_129 rfl).trans (st_callS' f_106_130 h_106_120 mn_105 rfl rfl rfl rfl)))
theorem bX7_find_133 {o0 o1 o4 o5 o6 o8 o9 o10 o11 : Option Value} {s0 : Value} {x7 x3 x2 : Int} (g1 : 0 ≤ x7 ∧ x7 ≤ 2147483647) : XR sc d 106 133 [o0, o1, some (xw x2), some (xw x3), o4, o5, o6, some (xw x7), o8, o9, o10, o11] [s0] (T, z, xv V, J, R) = xret 106 (XR sc d 106) 140 143 [o0, o1, some (xw x2), some (xw x3), o4, o5, o6, some (xw x7), o8, o9, o10, o11] [s0] (X sc d 105 [xw (x7 / 12), xw x3, xw x2] (T, z, xv V, J, R)) :=
  (sw_iload f_106_133 rfl).trans ((sw_bipush f_106_135 c8_12).trans ((sw_idiv f_106_137 ⟨by decide, by decide, g1⟩).trans ((sw_iload_n f_106_138 rfl).trans ((sw_iload_n f_106_139 rfl).trans (st_callS' f_106_140 h_106_120 mn_105 rfl rfl rfl rfl)))))
theorem bX7_find_143 {o0 o1 o2 o3 o4 o5 o6 o7 o8 o9 o10 o11 : Option Value} {y0 y1 : Int} (g1 : -2147483648 ≤ y1 ∧ y1 ≤ 2147483647) (g2 : -2147483648 ≤ y0 ∧ y0 ≤ 2147483647) : XR sc d 106 143 [o0, o1, o2, o3, o4, o5, o6, o7, o8, o9, o10, o11] [xw y0, xw y1] (T, z, xv V, J, R) = if y0 ≤ y1 then XR sc d 106 150 [o0, o1, o2, o3, o4, o5, o6, o7, o8, o9, o10, o11] [] (T, z, xv V, J, R) else XR sc d 106 146 [o0, o1, o2, o3, o4, o5, o6, o7, o8, o9, o10, o11] [] (T, z, xv V, J, R) :=
  sw_icmp_ge (t := 150) f_106_143 ⟨by decide, rfl⟩ g1 g2
theorem bX7_find_146 {o0 o1 o2 o3 o4 o5 o6 o7 o8 o9 o10 o11 : Option Value} : XR sc d 106 146 [o0, o1, o2, o3, o4, o5, o6, o7, o8, o9, o10, o11] [] (T, z, xv V, J, R) = XR sc d 106 151 [o0, o1, o2, o3, o4, o5, o6, o7, o8, o9, o10, o11] [xw 1] (T, z, xv V, J, R) :=
  (sw_iconst f_106_146).trans (st_goto (t := 151) f_106_147 ⟨by decide, rfl⟩)
theorem bX7_find_150 {o0 o1 o2 o3 o4 o5 o6 o7 o8 o9 o10 o11 : Option Value} : XR sc d 106 150 [o0, o1, o2, o3, o4, o5, o6, o7, o8, o9, o10, o11] [] (T, z, xv V, J, R) = XR sc d 106 151 [o0, o1, o2, o3, o4, o5, o6, o7, o8, o9, o10, o11] [xw 0] (T, z, xv V, J, R) :=
  sw_iconst f_106_150
theorem bX7_find_151 {o0 o1 o2 o3 o4 o5 o6 o7 o8 o9 o11 : Option Value} {y0 x10 : Int} (g1 : -2147483648 ≤ x10 ∧ x10 ≤ 2147483647) : XR sc d 106 151 [o0, o1, o2, o3, o4, o5, o6, o7, o8, o9, some (xw x10), o11] [xw y0] (T, z, xv V, J, R) = if x10 = 0 then XR sc d 106 174 [o0, o1, o2, o3, o4, o5, o6, o7, o8, o9, some (xw x10), some (xw y0)] [] (T, z, xv V, J, R) else XR sc d 106 158 [o0, o1, o2, o3, o4, o5, o6, o7, o8, o9, some (xw x10), some (xw y0)] [] (T, z, xv V, J, R) :=
  (sw_istore (L' := [o0, o1, o2, o3, o4, o5, o6, o7, o8, o9, some (xw x10), some (xw y0)]) f_106_151 (Nat.le_of_ble_eq_true rfl) rfl).trans ((sw_iload f_106_153 rfl).trans (sw_if_eq (t := 174) f_106_155 ⟨by decide, rfl⟩ g1))
theorem bX7_find_158 {o0 o1 o2 o3 o4 o5 o6 o7 o8 o9 o10 : Option Value} {x11 : Int} (g1 : -2147483648 ≤ x11 ∧ x11 ≤ 2147483647) : XR sc d 106 158 [o0, o1, o2, o3, o4, o5, o6, o7, o8, o9, o10, some (xw x11)] [] (T, z, xv V, J, R) = if x11 = 0 then XR sc d 106 174 [o0, o1, o2, o3, o4, o5, o6, o7, o8, o9, o10, some (xw x11)] [] (T, z, xv V, J, R) else XR sc d 106 163 [o0, o1, o2, o3, o4, o5, o6, o7, o8, o9, o10, some (xw x11)] [] (T, z, xv V, J, R) :=
  (sw_iload f_106_158 rfl).trans (sw_if_eq (t := 174) f_106_160 ⟨by decide, rfl⟩ g1)
theorem bX7_find_163 {o0 o1 o2 o3 o4 o5 o6 o7 o10 o11 : Option Value} {x8 x9 : Int} : XR sc d 106 163 [o0, o1, o2, o3, o4, o5, o6, o7, some (xw x8), some (xw x9), o10, o11] [] (T, z, xv V, J, R) = XR sc d 106 176 [o0, o1, o2, o3, o4, o5, o6, o7, some (xw x8), some (xw x9), o10, o11] [xw ((12 * x8) + x9)] (T, z, xv V, J, R) :=
  (sw_bipush f_106_163 c8_12).trans ((sw_iload f_106_165 rfl).trans ((sw_imul f_106_167).trans ((sw_iload f_106_168 rfl).trans ((sw_iadd f_106_170).trans (st_goto (t := 176) f_106_171 ⟨by decide, rfl⟩)))))
theorem bX7_find_174 {o0 o1 o2 o3 o4 o5 o6 o8 o9 o10 o11 : Option Value} {x7 : Int} : XR sc d 106 174 [o0, o1, o2, o3, o4, o5, o6, some (xw x7), o8, o9, o10, o11] [] (T, z, xv V, J, R) = XR sc d 106 176 [o0, o1, o2, o3, o4, o5, o6, some (xw x7), o8, o9, o10, o11] [xw x7] (T, z, xv V, J, R) :=
  sw_iload f_106_174 rfl
theorem bX7_find_176 {o0 o1 o2 o3 o4 o5 o6 o7 o8 o10 o11 : Option Value} {y0 x9 : Int} : XR sc d 106 176 [o0, o1, o2, o3, o4, o5, o6, o7, o8, some (xw x9), o10, o11] [xw y0] (T, z, xv V, J, R) = XR sc d 106 75 [o0, o1, o2, o3, o4, o5, o6, some (xw y0), o8, some (xw (x9 + 1)), o10, o11] [] (T, z, xv V, J, R) :=
  (sw_istore (L' := [o0, o1, o2, o3, o4, o5, o6, some (xw y0), o8, some (xw x9), o10, o11]) f_106_176 (Nat.le_of_ble_eq_true rfl) rfl).trans ((sw_iinc (L' := [o0, o1, o2, o3, o4, o5, o6, some (xw y0), o8, some (xw (x9 + 1)), o10, o11]) f_106_178 rfl (Nat.le_of_ble_eq_true rfl) rfl).trans (st_goto (t := 75) f_106_181 ⟨by decide, rfl⟩))
theorem bX7_find_184 {o0 o1 o2 o3 o4 o5 o6 o7 o9 o10 o11 : Option Value} {x8 : Int} : XR sc d 106 184 [o0, o1, o2, o3, o4, o5, o6, o7, some (xw x8), o9, o10, o11] [] (T, z, xv V, J, R) = XR sc d 106 63 [o0, o1, o2, o3, o4, o5, o6, o7, some (xw (x8 + 1)), o9, o10, o11] [] (T, z, xv V, J, R) :=
  (sw_iinc (L' := [o0, o1, o2, o3, o4, o5, o6, o7, some (xw (x8 + 1)), o9, o10, o11]) f_106_184 rfl (Nat.le_of_ble_eq_true rfl) rfl).trans (st_goto (t := 63) f_106_187 ⟨by decide, rfl⟩)
theorem bX7_find_190 {o0 o1 o2 o3 o4 o5 o6 o8 o9 o10 o11 : Option Value} {x7 : Int} : XR sc d 106 190 [o0, o1, o2, o3, o4, o5, o6, some (xw x7), o8, o9, o10, o11] [] (T, z, xv V, J, R) = some (.inl (some (xw x7)), (T, z, xv V, J, R)) :=
  (sw_iload f_106_190 rfl).trans (sw_ireturn f_106_192 mr_106)
theorem eX7_skive {x1 x2 : Int} {a0 : Nat} : X sc (d + 1) 107 [.ref a0, xw x1, xw x2] (T, z, xv V, J, R) = XR sc d 107 0 [some (.ref a0), some (xw x1), some (xw x2), none] [] (T, z, xv V, J, R) :=
  (X_eq ⟨jl_107, by rw [mn_107]; rfl, rfl, by rw [lm_107]; exact Nat.le_of_ble_eq_true rfl⟩).trans (by unfold xent; rw [lm_107]; rfl)
theorem bX7_skive_0 {o2 o3 : Option Value} {x1 : Int} {a0 : Nat} (g1 : T a0 = (8, 0)) : XR sc d 107 0 [some (.ref a0), some (xw x1), o2, o3] [] (T, z, xv V, J, R) = xret 107 (XR sc d 107) 3 6 [some (.ref a0), some (xw x1), o2, o3] [.ref a0] (X sc d 96 [.ref a0, xw x1] (T, z, xv V, J, R)) :=
  (st_aload_n f_107_0 rfl).trans ((st_aload_n f_107_1 rfl).trans ((sw_iload_n f_107_2 rfl).trans (st_callV' f_107_3 h_107_123 mn_96 rfl rfl rfl rfl mo_96 g1 rfl)))
theorem bX7_skive_6 {o0 o1 o2 o3 : Option Value} {s1 : Value} {y0 : Int} (g1 : -2147483648 ≤ y0 ∧ y0 ≤ 2147483647) : XR sc d 107 6 [o0, o1, o2, o3] [xw y0, s1] (T, z, xv V, J, R) = if y0 = 0 then XR sc d 107 9 [o0, o1, o2, o3] [s1] (T, z, xv V, J, R) else XR sc d 107 13 [o0, o1, o2, o3] [s1] (T, z, xv V, J, R) :=
  sw_if_ne (t := 13) f_107_6 ⟨by decide, rfl⟩ g1
theorem bX7_skive_9 {o0 o1 o2 o3 : Option Value} {s0 : Value} : XR sc d 107 9 [o0, o1, o2, o3] [s0] (T, z, xv V, J, R) = XR sc d 107 51 [o0, o1, o2, o3] [xw 1, s0] (T, z, xv V, J, R) :=
  (sw_iconst f_107_9).trans (st_goto (t := 51) f_107_10 ⟨by decide, rfl⟩)
theorem bX7_skive_13 {o0 o1 o3 : Option Value} {s0 : Value} {x2 : Int} : XR sc d 107 13 [o0, o1, some (xw x2), o3] [s0] (T, z, xv V, J, R) = xret 107 (XR sc d 107) 17 20 [o0, o1, some (xw x2), o3] [s0] (X sc d 94 [xw x2, xw 1, xw 8] (T, z, xv V, J, R)) :=
  (sw_iload_n f_107_13 rfl).trans ((sw_iconst f_107_14).trans ((sw_bipush f_107_15 c8_8).trans (st_callS' f_107_17 h_107_91 mn_94 rfl rfl rfl rfl)))
theorem bX7_skive_20 {o0 o1 o2 o3 : Option Value} {s1 : Value} {y0 : Int} (g1 : -2147483648 ≤ y0 ∧ y0 ≤ 2147483647) : XR sc d 107 20 [o0, o1, o2, o3] [xw y0, s1] (T, z, xv V, J, R) = if y0 = 0 then XR sc d 107 33 [o0, o1, o2, o3] [s1] (T, z, xv V, J, R) else XR sc d 107 23 [o0, o1, o2, o3] [s1] (T, z, xv V, J, R) :=
  sw_if_eq (t := 33) f_107_20 ⟨by decide, rfl⟩ g1
theorem bX7_skive_23 {o3 : Option Value} {s0 : Value} {x2 x1 : Int} {a0 : Nat} (g1 : T a0 = (8, 0)) (g2 : R a0 6 = some ((R a0 6).getD 0)) (g3 : T ((R a0 6).getD 0) = (32, (T ((R a0 6).getD 0)).2)) (g4 : (0 : Int) ≤ x1 ∧ x1 < ((T ((R a0 6).getD 0)).2 : Int) ∧ (T ((R a0 6).getD 0)).2 ≤ 3584) (g5 : -2147483648 ≤ x2 ∧ x2 ≤ 2147483647) (g6 : -2147483648 ≤ (V ((R a0 6).getD 0) x1.toNat) ∧ (V ((R a0 6).getD 0) x1.toNat) ≤ 2147483647) : XR sc d 107 23 [some (.ref a0), some (xw x1), some (xw x2), o3] [s0] (T, z, xv V, J, R) = if x2 < (V ((R a0 6).getD 0) x1.toNat) then XR sc d 107 37 [some (.ref a0), some (xw x1), some (xw x2), o3] [s0] (T, z, xv V, J, R) else XR sc d 107 33 [some (.ref a0), some (xw x1), some (xw x2), o3] [s0] (T, z, xv V, J, R) :=
  (sw_iload_n f_107_23 rfl).trans ((st_aload_n f_107_24 rfl).trans ((st_getR f_107_25 e_107_22 (by decide) g1 g2).trans ((sw_iload_n f_107_28 rfl).trans ((sw_iaload f_107_29 g3 g4).trans (sw_icmp_lt (t := 37) f_107_30 ⟨by decide, rfl⟩ g5 g6)))))
theorem bX7_skive_33 {o0 o1 o2 o3 : Option Value} {s0 : Value} : XR sc d 107 33 [o0, o1, o2, o3] [s0] (T, z, xv V, J, R) = XR sc d 107 51 [o0, o1, o2, o3] [xw 2, s0] (T, z, xv V, J, R) :=
  (sw_iconst f_107_33).trans (st_goto (t := 51) f_107_34 ⟨by decide, rfl⟩)
theorem bX7_skive_37 {o2 o3 : Option Value} {s0 : Value} {x1 : Int} {a0 : Nat} (g1 : T a0 = (8, 0)) (g2 : R a0 11 = some ((R a0 11).getD 0)) (g3 : T ((R a0 11).getD 0) = (32, (T ((R a0 11).getD 0)).2)) (g4 : (0 : Int) ≤ x1 ∧ x1 < ((T ((R a0 11).getD 0)).2 : Int) ∧ (T ((R a0 11).getD 0)).2 ≤ 3584) (g5 : -2147483648 ≤ (V ((R a0 11).getD 0) x1.toNat) ∧ (V ((R a0 11).getD 0) x1.toNat) ≤ 2147483647) : XR sc d 107 37 [some (.ref a0), some (xw x1), o2, o3] [s0] (T, z, xv V, J, R) = if (V ((R a0 11).getD 0) x1.toNat) ≤ 0 then XR sc d 107 50 [some (.ref a0), some (xw x1), o2, o3] [s0] (T, z, xv V, J, R) else XR sc d 107 46 [some (.ref a0), some (xw x1), o2, o3] [s0] (T, z, xv V, J, R) :=
  (st_aload_n f_107_37 rfl).trans ((st_getR f_107_38 e_107_39 (by decide) g1 g2).trans ((sw_iload_n f_107_41 rfl).trans ((sw_iaload f_107_42 g3 g4).trans (sw_if_le (t := 50) f_107_43 ⟨by decide, rfl⟩ g5))))
theorem bX7_skive_46 {o0 o1 o2 o3 : Option Value} {s0 : Value} : XR sc d 107 46 [o0, o1, o2, o3] [s0] (T, z, xv V, J, R) = XR sc d 107 51 [o0, o1, o2, o3] [xw 3, s0] (T, z, xv V, J, R) :=
  (sw_iconst f_107_46).trans (st_goto (t := 51) f_107_47 ⟨by decide, rfl⟩)
theorem bX7_skive_50 {o0 o1 o2 o3 : Option Value} {s0 : Value} : XR sc d 107 50 [o0, o1, o2, o3] [s0] (T, z, xv V, J, R) = XR sc d 107 51 [o0, o1, o2, o3] [xw 0, s0] (T, z, xv V, J, R) :=
  sw_iconst f_107_50
theorem bX7_skive_51 {o0 o1 o2 o3 : Option Value} {y0 : Int} {b1 : Nat} (g1 : T b1 = (8, 0)) : XR sc d 107 51 [o0, o1, o2, o3] [xw y0, .ref b1] (T, z, xv V, J, R) = xret 107 (XR sc d 107) 51 54 [o0, o1, o2, o3] [] (X sc d 93 [.ref b1, xw y0] (T, z, xv V, J, R)) :=
  st_callV' f_107_51 h_107_98 mn_93 rfl rfl rfl rfl mo_93 g1 rfl
theorem bX7_skive_54 {o0 o1 o2 o3 : Option Value} {y0 : Int} (g1 : -2147483648 ≤ y0 ∧ y0 ≤ 2147483647) : XR sc d 107 54 [o0, o1, o2, o3] [xw y0] (T, z, xv V, J, R) = if y0 = 0 then XR sc d 107 59 [o0, o1, o2, o3] [] (T, z, xv V, J, R) else XR sc d 107 57 [o0, o1, o2, o3] [] (T, z, xv V, J, R) :=
  sw_if_eq (t := 59) f_107_54 ⟨by decide, rfl⟩ g1
theorem bX7_skive_57 {o0 o1 o2 o3 : Option Value} : XR sc d 107 57 [o0, o1, o2, o3] [] (T, z, xv V, J, R) = some (.inl (some (xw 0)), (T, z, xv V, J, R)) :=
  (sw_iconst f_107_57).trans (sw_ireturn f_107_58 mr_107)
theorem bX7_skive_59 {o3 : Option Value} {x1 x2 : Int} {a0 : Nat} (g1 : T a0 = (8, 0)) (g2 : R a0 6 = some ((R a0 6).getD 0)) (g3 : T ((R a0 6).getD 0) = (32, (T ((R a0 6).getD 0)).2)) (g4 : (0 : Int) ≤ x1 ∧ x1 < ((T ((R a0 6).getD 0)).2 : Int) ∧ (T ((R a0 6).getD 0)).2 ≤ 3584) : XR sc d 107 59 [some (.ref a0), some (xw x1), some (xw x2), o3] [] (T, z, xv V, J, R) = some (.inl (some (xw (V ((R a0 6).getD 0) x1.toNat))), (T, z, xv (xup2 V ((R a0 6).getD 0) x1.toNat x2), J, R)) :=
  (st_aload_n f_107_59 rfl).trans ((st_getR f_107_60 e_107_22 (by decide) g1 g2).trans ((sw_iload_n f_107_63 rfl).trans ((sw_iaload f_107_64 g3 g4).trans ((sw_istore_n (L' := [some (.ref a0), some (xw x1), some (xw x2), some (xw (V ((R a0 6).getD 0) x1.toNat))]) f_107_65 (Nat.le_of_ble_eq_true rfl) rfl).trans ((st_aload_n f_107_66 rfl).trans ((st_getR f_107_67 e_107_22 (by decide) g1 g2).trans ((sw_iload_n f_107_70 rfl).trans ((sw_iload_n f_107_71 rfl).trans ((sw_iastore f_107_72 g3 g4).trans ((sw_iload_n f_107_73 rfl).trans (sw_ireturn f_107_74 mr_107)))))))))))
theorem eX7_isBuckled {x1 : Int} {a0 : Nat} : X sc (d + 1) 108 [.ref a0, xw x1] (T, z, xv V, J, R) = XR sc d 108 0 [some (.ref a0), some (xw x1)] [] (T, z, xv V, J, R) :=
  (X_eq ⟨jl_108, by rw [mn_108]; rfl, rfl, by rw [lm_108]; exact Nat.le_of_ble_eq_true rfl⟩).trans (by unfold xent; rw [lm_108]; rfl)
theorem bX7_isBuckled_0 {x1 : Int} {a0 : Nat} (g1 : T a0 = (8, 0)) (g2 : R a0 13 = some ((R a0 13).getD 0)) (g3 : T ((R a0 13).getD 0) = (32, (T ((R a0 13).getD 0)).2)) (g4 : (0 : Int) ≤ x1 ∧ x1 < ((T ((R a0 13).getD 0)).2 : Int) ∧ (T ((R a0 13).getD 0)).2 ≤ 3584) (g5 : -2147483648 ≤ (V ((R a0 13).getD 0) x1.toNat) ∧ (V ((R a0 13).getD 0) x1.toNat) ≤ 2147483647) : XR sc d 108 0 [some (.ref a0), some (xw x1)] [] (T, z, xv V, J, R) = if (V ((R a0 13).getD 0) x1.toNat) = (-1) then XR sc d 108 14 [some (.ref a0), some (xw x1)] [] (T, z, xv V, J, R) else XR sc d 108 10 [some (.ref a0), some (xw x1)] [] (T, z, xv V, J, R) :=
  (st_aload_n f_108_0 rfl).trans ((st_getR f_108_1 e_108_45 (by decide) g1 g2).trans ((sw_iload_n f_108_4 rfl).trans ((sw_iaload f_108_5 g3 g4).trans ((sw_iconst f_108_6).trans (sw_icmp_eq (t := 14) f_108_7 ⟨by decide, rfl⟩ g5 ⟨by decide, by decide⟩)))))
theorem bX7_isBuckled_10 {o0 o1 : Option Value} : XR sc d 108 10 [o0, o1] [] (T, z, xv V, J, R) = XR sc d 108 15 [o0, o1] [xw 1] (T, z, xv V, J, R) :=
  (sw_iconst f_108_10).trans (st_goto (t := 15) f_108_11 ⟨by decide, rfl⟩)
theorem bX7_isBuckled_14 {o0 o1 : Option Value} : XR sc d 108 14 [o0, o1] [] (T, z, xv V, J, R) = XR sc d 108 15 [o0, o1] [xw 0] (T, z, xv V, J, R) :=
  sw_iconst f_108_14
theorem bX7_isBuckled_15 {o0 o1 : Option Value} {y0 : Int} (g1 : y0 = 0 ∨ y0 = 1) : XR sc d 108 15 [o0, o1] [xw y0] (T, z, xv V, J, R) = some (.inl (some (xw y0)), (T, z, xv V, J, R)) :=
  sw_zreturn f_108_15 mr_108 g1
theorem eX7_pierce {x1 x2 : Int} {a0 : Nat} : X sc (d + 1) 109 [.ref a0, xw x1, xw x2] (T, z, xv V, J, R) = XR sc d 109 0 [some (.ref a0), some (xw x1), some (xw x2), none, none, none, none, none] [] (T, z, xv V, J, R) :=
  (X_eq ⟨jl_109, by rw [mn_109]; rfl, rfl, by rw [lm_109]; exact Nat.le_of_ble_eq_true rfl⟩).trans (by unfold xent; rw [lm_109]; rfl)
theorem bX7_pierce_0 {o2 o3 o4 o5 o6 o7 : Option Value} {x1 : Int} {a0 : Nat} (g1 : T a0 = (8, 0)) : XR sc d 109 0 [some (.ref a0), some (xw x1), o2, o3, o4, o5, o6, o7] [] (T, z, xv V, J, R) = xret 109 (XR sc d 109) 2 5 [some (.ref a0), some (xw x1), o2, o3, o4, o5, o6, o7] [] (X sc d 96 [.ref a0, xw x1] (T, z, xv V, J, R)) :=
  (st_aload_n f_109_0 rfl).trans ((sw_iload_n f_109_1 rfl).trans (st_callV' f_109_2 h_109_123 mn_96 rfl rfl rfl rfl mo_96 g1 rfl))
theorem bX7_pierce_5 {o0 o1 o2 o3 o4 o5 o6 o7 : Option Value} {y0 : Int} (g1 : -2147483648 ≤ y0 ∧ y0 ≤ 2147483647) : XR sc d 109 5 [o0, o1, o2, o3, o4, o5, o6, o7] [xw y0] (T, z, xv V, J, R) = if y0 = 0 then XR sc d 109 32 [o0, o1, o2, some (xw y0), o4, o5, o6, o7] [] (T, z, xv V, J, R) else XR sc d 109 10 [o0, o1, o2, some (xw y0), o4, o5, o6, o7] [] (T, z, xv V, J, R) :=
  (sw_istore_n (L' := [o0, o1, o2, some (xw y0), o4, o5, o6, o7]) f_109_5 (Nat.le_of_ble_eq_true rfl) rfl).trans ((sw_iload_n f_109_6 rfl).trans (sw_if_eq (t := 32) f_109_7 ⟨by decide, rfl⟩ g1))
theorem bX7_pierce_10 {o3 o4 o5 o6 o7 : Option Value} {x2 x1 : Int} {a0 : Nat} (g1 : T a0 = (8, 0)) (g2 : R a0 4 = some ((R a0 4).getD 0)) (g3 : T ((R a0 4).getD 0) = (32, (T ((R a0 4).getD 0)).2)) (g4 : (0 : Int) ≤ x1 ∧ x1 < ((T ((R a0 4).getD 0)).2 : Int) ∧ (T ((R a0 4).getD 0)).2 ≤ 3584) : XR sc d 109 10 [some (.ref a0), some (xw x1), some (xw x2), o3, o4, o5, o6, o7] [] (T, z, xv V, J, R) = xret 109 (XR sc d 109) 22 25 [some (.ref a0), some (xw x1), some (xw x2), o3, o4, o5, o6, o7] [] (X sc d 94 [xw x2, xw 3, xw ((4 * (V ((R a0 4).getD 0) x1.toNat)) - 3)] (T, z, xv V, J, R)) :=
  (sw_iload_n f_109_10 rfl).trans ((sw_iconst f_109_11).trans ((sw_iconst f_109_12).trans ((st_aload_n f_109_13 rfl).trans ((st_getR f_109_14 e_109_16 (by decide) g1 g2).trans ((sw_iload_n f_109_17 rfl).trans ((sw_iaload f_109_18 g3 g4).trans ((sw_imul f_109_19).trans ((sw_iconst f_109_20).trans ((sw_isub f_109_21).trans (st_callS' f_109_22 h_109_91 mn_94 rfl rfl rfl rfl))))))))))
theorem bX7_pierce_25 {o0 o1 o2 o3 o4 o5 o6 o7 : Option Value} {y0 : Int} (g1 : -2147483648 ≤ y0 ∧ y0 ≤ 2147483647) : XR sc d 109 25 [o0, o1, o2, o3, o4, o5, o6, o7] [xw y0] (T, z, xv V, J, R) = if y0 = 0 then XR sc d 109 32 [o0, o1, o2, o3, o4, o5, o6, o7] [] (T, z, xv V, J, R) else XR sc d 109 28 [o0, o1, o2, o3, o4, o5, o6, o7] [] (T, z, xv V, J, R) :=
  sw_if_eq (t := 32) f_109_25 ⟨by decide, rfl⟩ g1
theorem bX7_pierce_28 {o0 o1 o2 o3 o4 o5 o6 o7 : Option Value} : XR sc d 109 28 [o0, o1, o2, o3, o4, o5, o6, o7] [] (T, z, xv V, J, R) = XR sc d 109 33 [o0, o1, o2, o3, o4, o5, o6, o7] [xw 1] (T, z, xv V, J, R) :=
  (sw_iconst f_109_28).trans (st_goto (t := 33) f_109_29 ⟨by decide, rfl⟩)
theorem bX7_pierce_32 {o0 o1 o2 o3 o4 o5 o6 o7 : Option Value} : XR sc d 109 32 [o0, o1, o2, o3, o4, o5, o6, o7] [] (T, z, xv V, J, R) = XR sc d 109 33 [o0, o1, o2, o3, o4, o5, o6, o7] [xw 0] (T, z, xv V, J, R) :=
  sw_iconst f_109_32
theorem bX7_pierce_33 {o0 o1 o2 o3 o4 o5 o6 o7 : Option Value} {y0 : Int} (g1 : -2147483648 ≤ y0 ∧ y0 ≤ 2147483647) : XR sc d 109 33 [o0, o1, o2, o3, o4, o5, o6, o7] [xw y0] (T, z, xv V, J, R) = if y0 = 0 then XR sc d 109 89 [o0, o1, o2, o3, some (xw y0), o5, o6, o7] [] (T, z, xv V, J, R) else XR sc d 109 40 [o0, o1, o2, o3, some (xw y0), o5, o6, o7] [] (T, z, xv V, J, R) :=
  (sw_istore (L' := [o0, o1, o2, o3, some (xw y0), o5, o6, o7]) f_109_33 (Nat.le_of_ble_eq_true rfl) rfl).trans ((sw_iload f_109_35 rfl).trans (sw_if_eq (t := 89) f_109_37 ⟨by decide, rfl⟩ g1))
theorem bX7_pierce_40 {o3 o4 o5 o6 o7 : Option Value} {x1 x2 : Int} {a0 : Nat} (g1 : T a0 = (8, 0)) (g2 : R a0 9 = some ((R a0 9).getD 0)) (g3 : T ((R a0 9).getD 0) = (34, (T ((R a0 9).getD 0)).2)) (g4 : (0 : Int) ≤ x1 ∧ x1 < ((T ((R a0 9).getD 0)).2 : Int) ∧ (T ((R a0 9).getD 0)).2 ≤ 3584) (g5 : -2147483648 ≤ (jCmp ((jShr (J ((R a0 9).getD 0) x1.toNat) (x2 - 1)) &&& (7 : Int64)) (Int64.ofNat 0)) ∧ (jCmp ((jShr (J ((R a0 9).getD 0) x1.toNat) (x2 - 1)) &&& (7 : Int64)) (Int64.ofNat 0)) ≤ 2147483647) : XR sc d 109 40 [some (.ref a0), some (xw x1), some (xw x2), o3, o4, o5, o6, o7] [] (T, z, xv V, J, R) = if (jCmp ((jShr (J ((R a0 9).getD 0) x1.toNat) (x2 - 1)) &&& (7 : Int64)) (Int64.ofNat 0)) = 0 then XR sc d 109 59 [some (.ref a0), some (xw x1), some (xw x2), o3, o4, o5, o6, o7] [] (T, z, xv V, J, R) else XR sc d 109 89 [some (.ref a0), some (xw x1), some (xw x2), o3, o4, o5, o6, o7] [] (T, z, xv V, J, R) :=
  (st_aload_n f_109_40 rfl).trans ((st_getR f_109_41 e_109_32 (by decide) g1 g2).trans ((sw_iload_n f_109_44 rfl).trans ((sw_laload f_109_45 g3 g4).trans ((sw_iload_n f_109_46 rfl).trans ((sw_iconst f_109_47).trans ((sw_isub f_109_48).trans ((sw_lshr f_109_49).trans ((st_ldc2 f_109_50 k_109_126).trans ((st_land f_109_53).trans ((st_lconst f_109_54).trans ((sw_lcmp f_109_55).trans (sw_if_ne (t := 89) f_109_56 ⟨by decide, rfl⟩ g5))))))))))))
theorem bX7_pierce_59 {o2 o3 o4 o5 o6 o7 : Option Value} {x1 : Int} {a0 : Nat} (g1 : T a0 = (8, 0)) (g2 : R a0 11 = some ((R a0 11).getD 0)) (g3 : T ((R a0 11).getD 0) = (32, (T ((R a0 11).getD 0)).2)) (g4 : (0 : Int) ≤ x1 ∧ x1 < ((T ((R a0 11).getD 0)).2 : Int) ∧ (T ((R a0 11).getD 0)).2 ≤ 3584) (g5 : -2147483648 ≤ (V ((R a0 11).getD 0) x1.toNat) ∧ (V ((R a0 11).getD 0) x1.toNat) ≤ 2147483647) : XR sc d 109 59 [some (.ref a0), some (xw x1), o2, o3, o4, o5, o6, o7] [] (T, z, xv V, J, R) = if (V ((R a0 11).getD 0) x1.toNat) = 0 then XR sc d 109 68 [some (.ref a0), some (xw x1), o2, o3, o4, o5, o6, o7] [] (T, z, xv V, J, R) else XR sc d 109 89 [some (.ref a0), some (xw x1), o2, o3, o4, o5, o6, o7] [] (T, z, xv V, J, R) :=
  (st_aload_n f_109_59 rfl).trans ((st_getR f_109_60 e_109_39 (by decide) g1 g2).trans ((sw_iload_n f_109_63 rfl).trans ((sw_iaload f_109_64 g3 g4).trans (sw_if_ne (t := 89) f_109_65 ⟨by decide, rfl⟩ g5))))
theorem bX7_pierce_68 {o2 o3 o4 o5 o6 o7 : Option Value} {x1 : Int} {a0 : Nat} (g1 : T a0 = (8, 0)) : XR sc d 109 68 [some (.ref a0), some (xw x1), o2, o3, o4, o5, o6, o7] [] (T, z, xv V, J, R) = xret 109 (XR sc d 109) 70 73 [some (.ref a0), some (xw x1), o2, o3, o4, o5, o6, o7] [] (X sc d 108 [.ref a0, xw x1] (T, z, xv V, J, R)) :=
  (st_aload_n f_109_68 rfl).trans ((sw_iload_n f_109_69 rfl).trans (st_callV' f_109_70 h_109_128 mn_108 rfl rfl rfl rfl mo_108 g1 rfl))
theorem bX7_pierce_73 {o0 o1 o2 o3 o4 o5 o6 o7 : Option Value} {y0 : Int} (g1 : -2147483648 ≤ y0 ∧ y0 ≤ 2147483647) : XR sc d 109 73 [o0, o1, o2, o3, o4, o5, o6, o7] [xw y0] (T, z, xv V, J, R) = if y0 = 0 then XR sc d 109 76 [o0, o1, o2, o3, o4, o5, o6, o7] [] (T, z, xv V, J, R) else XR sc d 109 89 [o0, o1, o2, o3, o4, o5, o6, o7] [] (T, z, xv V, J, R) :=
  sw_if_ne (t := 89) f_109_73 ⟨by decide, rfl⟩ g1
theorem bX7_pierce_76 {o2 o3 o4 o5 o6 o7 : Option Value} {x1 : Int} {a0 : Nat} (g1 : T a0 = (8, 0)) (g2 : R a0 12 = some ((R a0 12).getD 0)) (g3 : T ((R a0 12).getD 0) = (33, (T ((R a0 12).getD 0)).2)) (g4 : (0 : Int) ≤ x1 ∧ x1 < ((T ((R a0 12).getD 0)).2 : Int) ∧ (T ((R a0 12).getD 0)).2 ≤ 3584) (g5 : -2147483648 ≤ (V ((R a0 12).getD 0) x1.toNat) ∧ (V ((R a0 12).getD 0) x1.toNat) ≤ 2147483647) : XR sc d 109 76 [some (.ref a0), some (xw x1), o2, o3, o4, o5, o6, o7] [] (T, z, xv V, J, R) = if (V ((R a0 12).getD 0) x1.toNat) = 0 then XR sc d 109 85 [some (.ref a0), some (xw x1), o2, o3, o4, o5, o6, o7] [] (T, z, xv V, J, R) else XR sc d 109 89 [some (.ref a0), some (xw x1), o2, o3, o4, o5, o6, o7] [] (T, z, xv V, J, R) :=
  (st_aload_n f_109_76 rfl).trans ((st_getR f_109_77 e_109_42 (by decide) g1 g2).trans ((sw_iload_n f_109_80 rfl).trans ((sw_baload f_109_81 g3 g4).trans (sw_if_ne (t := 89) f_109_82 ⟨by decide, rfl⟩ g5))))
theorem bX7_pierce_85 {o0 o1 o2 o3 o4 o5 o6 o7 : Option Value} : XR sc d 109 85 [o0, o1, o2, o3, o4, o5, o6, o7] [] (T, z, xv V, J, R) = XR sc d 109 90 [o0, o1, o2, o3, o4, o5, o6, o7] [xw 1] (T, z, xv V, J, R) :=
  (sw_iconst f_109_85).trans (st_goto (t := 90) f_109_86 ⟨by decide, rfl⟩)
theorem bX7_pierce_89 {o0 o1 o2 o3 o4 o5 o6 o7 : Option Value} : XR sc d 109 89 [o0, o1, o2, o3, o4, o5, o6, o7] [] (T, z, xv V, J, R) = XR sc d 109 90 [o0, o1, o2, o3, o4, o5, o6, o7] [xw 0] (T, z, xv V, J, R) :=
  sw_iconst f_109_89
theorem bX7_pierce_90 {o1 o2 o4 o5 o6 o7 : Option Value} {y0 x3 : Int} {a0 : Nat} (g1 : -2147483648 ≤ x3 ∧ x3 ≤ 2147483647) : XR sc d 109 90 [some (.ref a0), o1, o2, some (xw x3), o4, o5, o6, o7] [xw y0] (T, z, xv V, J, R) = if x3 = 0 then XR sc d 109 97 [some (.ref a0), o1, o2, some (xw x3), o4, some (xw y0), o6, o7] [.ref a0] (T, z, xv V, J, R) else XR sc d 109 101 [some (.ref a0), o1, o2, some (xw x3), o4, some (xw y0), o6, o7] [.ref a0] (T, z, xv V, J, R) :=
  (sw_istore (L' := [some (.ref a0), o1, o2, some (xw x3), o4, some (xw y0), o6, o7]) f_109_90 (Nat.le_of_ble_eq_true rfl) rfl).trans ((st_aload_n f_109_92 rfl).trans ((sw_iload_n f_109_93 rfl).trans (sw_if_ne (t := 101) f_109_94 ⟨by decide, rfl⟩ g1)))
theorem bX7_pierce_97 {o0 o1 o2 o3 o4 o5 o6 o7 : Option Value} {s0 : Value} : XR sc d 109 97 [o0, o1, o2, o3, o4, o5, o6, o7] [s0] (T, z, xv V, J, R) = XR sc d 109 120 [o0, o1, o2, o3, o4, o5, o6, o7] [xw 1, s0] (T, z, xv V, J, R) :=
  (sw_iconst f_109_97).trans (st_goto (t := 120) f_109_98 ⟨by decide, rfl⟩)
theorem bX7_pierce_101 {o0 o1 o2 o3 o5 o6 o7 : Option Value} {s0 : Value} {x4 : Int} (g1 : -2147483648 ≤ x4 ∧ x4 ≤ 2147483647) : XR sc d 109 101 [o0, o1, o2, o3, some (xw x4), o5, o6, o7] [s0] (T, z, xv V, J, R) = if x4 = 0 then XR sc d 109 106 [o0, o1, o2, o3, some (xw x4), o5, o6, o7] [s0] (T, z, xv V, J, R) else XR sc d 109 110 [o0, o1, o2, o3, some (xw x4), o5, o6, o7] [s0] (T, z, xv V, J, R) :=
  (sw_iload f_109_101 rfl).trans (sw_if_ne (t := 110) f_109_103 ⟨by decide, rfl⟩ g1)
theorem bX7_pierce_106 {o0 o1 o2 o3 o4 o5 o6 o7 : Option Value} {s0 : Value} : XR sc d 109 106 [o0, o1, o2, o3, o4, o5, o6, o7] [s0] (T, z, xv V, J, R) = XR sc d 109 120 [o0, o1, o2, o3, o4, o5, o6, o7] [xw 2, s0] (T, z, xv V, J, R) :=
  (sw_iconst f_109_106).trans (st_goto (t := 120) f_109_107 ⟨by decide, rfl⟩)
theorem bX7_pierce_110 {o0 o1 o2 o3 o4 o6 o7 : Option Value} {s0 : Value} {x5 : Int} (g1 : -2147483648 ≤ x5 ∧ x5 ≤ 2147483647) : XR sc d 109 110 [o0, o1, o2, o3, o4, some (xw x5), o6, o7] [s0] (T, z, xv V, J, R) = if x5 = 0 then XR sc d 109 119 [o0, o1, o2, o3, o4, some (xw x5), o6, o7] [s0] (T, z, xv V, J, R) else XR sc d 109 115 [o0, o1, o2, o3, o4, some (xw x5), o6, o7] [s0] (T, z, xv V, J, R) :=
  (sw_iload f_109_110 rfl).trans (sw_if_eq (t := 119) f_109_112 ⟨by decide, rfl⟩ g1)
theorem bX7_pierce_115 {o0 o1 o2 o3 o4 o5 o6 o7 : Option Value} {s0 : Value} : XR sc d 109 115 [o0, o1, o2, o3, o4, o5, o6, o7] [s0] (T, z, xv V, J, R) = XR sc d 109 120 [o0, o1, o2, o3, o4, o5, o6, o7] [xw 0, s0] (T, z, xv V, J, R) :=
  (sw_iconst f_109_115).trans (st_goto (t := 120) f_109_116 ⟨by decide, rfl⟩)
theorem bX7_pierce_119 {o0 o1 o2 o3 o4 o5 o6 o7 : Option Value} {s0 : Value} : XR sc d 109 119 [o0, o1, o2, o3, o4, o5, o6, o7] [s0] (T, z, xv V, J, R) = XR sc d 109 120 [o0, o1, o2, o3, o4, o5, o6, o7] [xw 3, s0] (T, z, xv V, J, R) :=
  sw_iconst f_109_119
theorem bX7_pierce_120 {o0 o1 o2 o3 o4 o5 o6 o7 : Option Value} {y0 : Int} {b1 : Nat} (g1 : T b1 = (8, 0)) : XR sc d 109 120 [o0, o1, o2, o3, o4, o5, o6, o7] [xw y0, .ref b1] (T, z, xv V, J, R) = xret 109 (XR sc d 109) 120 123 [o0, o1, o2, o3, o4, o5, o6, o7] [] (X sc d 93 [.ref b1, xw y0] (T, z, xv V, J, R)) :=
  st_callV' f_109_120 h_109_98 mn_93 rfl rfl rfl rfl mo_93 g1 rfl
theorem bX7_pierce_123 {o0 o1 o2 o3 o4 o5 o6 o7 : Option Value} {y0 : Int} (g1 : -2147483648 ≤ y0 ∧ y0 ≤ 2147483647) : XR sc d 109 123 [o0, o1, o2, o3, o4, o5, o6, o7] [xw y0] (T, z, xv V, J, R) = if y0 = 0 then XR sc d 109 128 [o0, o1, o2, o3, o4, o5, o6, o7] [] (T, z, xv V, J, R) else XR sc d 109 126 [o0, o1, o2, o3, o4, o5, o6, o7] [] (T, z, xv V, J, R) :=
  sw_if_eq (t := 128) f_109_123 ⟨by decide, rfl⟩ g1
theorem bX7_pierce_126 {o0 o1 o2 o3 o4 o5 o6 o7 : Option Value} : XR sc d 109 126 [o0, o1, o2, o3, o4, o5, o6, o7] [] (T, z, xv V, J, R) = some (.inl (some (xw 0)), (T, z, xv V, J, R)) :=
  (sw_iconst f_109_126).trans (sw_ireturn f_109_127 mr_109)
theorem bX7_pierce_128 {o3 o4 o5 o6 o7 : Option Value} {x1 x2 : Int} {a0 : Nat} (g1 : T a0 = (8, 0)) (g2 : R a0 9 = some ((R a0 9).getD 0)) (g3 : T ((R a0 9).getD 0) = (34, (T ((R a0 9).getD 0)).2)) (g4 : (0 : Int) ≤ x1 ∧ x1 < ((T ((R a0 9).getD 0)).2 : Int) ∧ (T ((R a0 9).getD 0)).2 ≤ 3584) : XR sc d 109 128 [some (.ref a0), some (xw x1), some (xw x2), o3, o4, o5, o6, o7] [] (T, z, xv V, J, R) = XR sc d 109 146 [some (.ref a0), some (xw x1), some (xw x2), o3, o4, o5, some (xw 0), some (xw 0)] [] (T, z, xv V, (xup2 J ((R a0 9).getD 0) x1.toNat ((J ((R a0 9).getD 0) x1.toNat) ||| (jShl (Int64.ofNat 1) x2))), R) :=
  (st_aload_n f_109_128 rfl).trans ((st_getR f_109_129 e_109_32 (by decide) g1 g2).trans ((sw_iload_n f_109_132 rfl).trans ((st_dup2 f_109_133 rfl rfl).trans ((sw_laload f_109_134 g3 g4).trans ((st_lconst f_109_135).trans ((sw_iload_n f_109_136 rfl).trans ((sw_lshl f_109_137).trans ((st_lor f_109_138).trans ((sw_lastore f_109_139 g3 g4).trans ((sw_iconst f_109_140).trans ((sw_istore (L' := [some (.ref a0), some (xw x1), some (xw x2), o3, o4, o5, some (xw 0), o7]) f_109_141 (Nat.le_of_ble_eq_true rfl) rfl).trans ((sw_iconst f_109_143).trans (sw_istore (L' := [some (.ref a0), some (xw x1), some (xw x2), o3, o4, o5, some (xw 0), some (xw 0)]) f_109_144 (Nat.le_of_ble_eq_true rfl) rfl)))))))))))))
theorem bX7_pierce_146 {o0 o1 o3 o4 o5 o6 : Option Value} {x7 x2 : Int} (g1 : -2147483648 ≤ x7 ∧ x7 ≤ 2147483647) (g2 : -2147483648 ≤ x2 ∧ x2 ≤ 2147483647) : XR sc d 109 146 [o0, o1, some (xw x2), o3, o4, o5, o6, some (xw x7)] [] (T, z, xv V, J, R) = if x2 ≤ x7 then XR sc d 109 175 [o0, o1, some (xw x2), o3, o4, o5, o6, some (xw x7)] [] (T, z, xv V, J, R) else XR sc d 109 152 [o0, o1, some (xw x2), o3, o4, o5, o6, some (xw x7)] [] (T, z, xv V, J, R) :=
  (sw_iload f_109_146 rfl).trans ((sw_iload_n f_109_148 rfl).trans (sw_icmp_ge (t := 175) f_109_149 ⟨by decide, rfl⟩ g1 g2))
theorem bX7_pierce_152 {o2 o3 o4 o5 : Option Value} {x6 x1 x7 : Int} {a0 : Nat} (g1 : T a0 = (8, 0)) (g2 : R a0 9 = some ((R a0 9).getD 0)) (g3 : T ((R a0 9).getD 0) = (34, (T ((R a0 9).getD 0)).2)) (g4 : (0 : Int) ≤ x1 ∧ x1 < ((T ((R a0 9).getD 0)).2 : Int) ∧ (T ((R a0 9).getD 0)).2 ≤ 3584) : XR sc d 109 152 [some (.ref a0), some (xw x1), o2, o3, o4, o5, some (xw x6), some (xw x7)] [] (T, z, xv V, J, R) = XR sc d 109 146 [some (.ref a0), some (xw x1), o2, o3, o4, o5, some (xw (x6 + (jToI ((jShr (J ((R a0 9).getD 0) x1.toNat) x7) &&& (Int64.ofNat 1))))), some (xw (x7 + 1))] [] (T, z, xv V, J, R) :=
  (sw_iload f_109_152 rfl).trans ((st_aload_n f_109_154 rfl).trans ((st_getR f_109_155 e_109_32 (by decide) g1 g2).trans ((sw_iload_n f_109_158 rfl).trans ((sw_laload f_109_159 g3 g4).trans ((sw_iload f_109_160 rfl).trans ((sw_lshr f_109_162).trans ((st_lconst f_109_163).trans ((st_land f_109_164).trans ((sw_l2i f_109_165).trans ((sw_iadd f_109_166).trans ((sw_istore (L' := [some (.ref a0), some (xw x1), o2, o3, o4, o5, some (xw (x6 + (jToI ((jShr (J ((R a0 9).getD 0) x1.toNat) x7) &&& (Int64.ofNat 1))))), some (xw x7)]) f_109_167 (Nat.le_of_ble_eq_true rfl) rfl).trans ((sw_iinc (L' := [some (.ref a0), some (xw x1), o2, o3, o4, o5, some (xw (x6 + (jToI ((jShr (J ((R a0 9).getD 0) x1.toNat) x7) &&& (Int64.ofNat 1))))), some (xw (x7 + 1))]) f_109_169 rfl (Nat.le_of_ble_eq_true rfl) rfl).trans (st_goto (t := 146) f_109_172 ⟨by decide, rfl⟩)))))))))))))
theorem bX7_pierce_175 {o0 o1 o2 o3 o4 o5 o7 : Option Value} {x6 : Int} : XR sc d 109 175 [o0, o1, o2, o3, o4, o5, some (xw x6), o7] [] (T, z, xv V, J, R) = some (.inl (some (xw x6)), (T, z, xv V, J, R)) :=
  (sw_iload f_109_175 rfl).trans (sw_ireturn f_109_177 mr_109)
theorem eX7_holesOf {x1 : Int} {a0 : Nat} : X sc (d + 1) 110 [.ref a0, xw x1] (T, z, xv V, J, R) = XR sc d 110 0 [some (.ref a0), some (xw x1), none, none] [] (T, z, xv V, J, R) :=
  (X_eq ⟨jl_110, by rw [mn_110]; rfl, rfl, by rw [lm_110]; exact Nat.le_of_ble_eq_true rfl⟩).trans (by unfold xent; rw [lm_110]; rfl)
theorem bX7_holesOf_0 {o0 o1 o2 o3 : Option Value} : XR sc d 110 0 [o0, o1, o2, o3] [] (T, z, xv V, J, R) = XR sc d 110 4 [o0, o1, some (xw 0), some (xw 0)] [] (T, z, xv V, J, R) :=
  (sw_iconst f_110_0).trans ((sw_istore_n (L' := [o0, o1, some (xw 0), o3]) f_110_1 (Nat.le_of_ble_eq_true rfl) rfl).trans ((sw_iconst f_110_2).trans (sw_istore_n (L' := [o0, o1, some (xw 0), some (xw 0)]) f_110_3 (Nat.le_of_ble_eq_true rfl) rfl)))
theorem bX7_holesOf_4 {o2 : Option Value} {x3 x1 : Int} {a0 : Nat} (g1 : T a0 = (8, 0)) (g2 : R a0 4 = some ((R a0 4).getD 0)) (g3 : T ((R a0 4).getD 0) = (32, (T ((R a0 4).getD 0)).2)) (g4 : (0 : Int) ≤ x1 ∧ x1 < ((T ((R a0 4).getD 0)).2 : Int) ∧ (T ((R a0 4).getD 0)).2 ≤ 3584) (g5 : -2147483648 ≤ x3 ∧ x3 ≤ 2147483647) (g6 : -2147483648 ≤ (4 * (V ((R a0 4).getD 0) x1.toNat)) ∧ (4 * (V ((R a0 4).getD 0) x1.toNat)) ≤ 2147483647) : XR sc d 110 4 [some (.ref a0), some (xw x1), o2, some (xw x3)] [] (T, z, xv V, J, R) = if (4 * (V ((R a0 4).getD 0) x1.toNat)) < x3 then XR sc d 110 36 [some (.ref a0), some (xw x1), o2, some (xw x3)] [] (T, z, xv V, J, R) else XR sc d 110 16 [some (.ref a0), some (xw x1), o2, some (xw x3)] [] (T, z, xv V, J, R) :=
  (sw_iload_n f_110_4 rfl).trans ((sw_iconst f_110_5).trans ((st_aload_n f_110_6 rfl).trans ((st_getR f_110_7 e_110_16 (by decide) g1 g2).trans ((sw_iload_n f_110_10 rfl).trans ((sw_iaload f_110_11 g3 g4).trans ((sw_imul f_110_12).trans (sw_icmp_gt (t := 36) f_110_13 ⟨by decide, rfl⟩ g5 g6)))))))
theorem bX7_holesOf_16 {x2 x1 x3 : Int} {a0 : Nat} (g1 : T a0 = (8, 0)) (g2 : R a0 9 = some ((R a0 9).getD 0)) (g3 : T ((R a0 9).getD 0) = (34, (T ((R a0 9).getD 0)).2)) (g4 : (0 : Int) ≤ x1 ∧ x1 < ((T ((R a0 9).getD 0)).2 : Int) ∧ (T ((R a0 9).getD 0)).2 ≤ 3584) : XR sc d 110 16 [some (.ref a0), some (xw x1), some (xw x2), some (xw x3)] [] (T, z, xv V, J, R) = XR sc d 110 4 [some (.ref a0), some (xw x1), some (xw (x2 + (jToI ((jShr (J ((R a0 9).getD 0) x1.toNat) x3) &&& (Int64.ofNat 1))))), some (xw (x3 + 1))] [] (T, z, xv V, J, R) :=
  (sw_iload_n f_110_16 rfl).trans ((st_aload_n f_110_17 rfl).trans ((st_getR f_110_18 e_110_32 (by decide) g1 g2).trans ((sw_iload_n f_110_21 rfl).trans ((sw_laload f_110_22 g3 g4).trans ((sw_iload_n f_110_23 rfl).trans ((sw_lshr f_110_24).trans ((st_lconst f_110_25).trans ((st_land f_110_26).trans ((sw_l2i f_110_27).trans ((sw_iadd f_110_28).trans ((sw_istore_n (L' := [some (.ref a0), some (xw x1), some (xw (x2 + (jToI ((jShr (J ((R a0 9).getD 0) x1.toNat) x3) &&& (Int64.ofNat 1))))), some (xw x3)]) f_110_29 (Nat.le_of_ble_eq_true rfl) rfl).trans ((sw_iinc (L' := [some (.ref a0), some (xw x1), some (xw (x2 + (jToI ((jShr (J ((R a0 9).getD 0) x1.toNat) x3) &&& (Int64.ofNat 1))))), some (xw (x3 + 1))]) f_110_30 rfl (Nat.le_of_ble_eq_true rfl) rfl).trans (st_goto (t := 4) f_110_33 ⟨by decide, rfl⟩)))))))))))))
theorem bX7_holesOf_36 {o0 o1 o3 : Option Value} {x2 : Int} : XR sc d 110 36 [o0, o1, some (xw x2), o3] [] (T, z, xv V, J, R) = some (.inl (some (xw x2)), (T, z, xv V, J, R)) :=
  (sw_iload_n f_110_36 rfl).trans (sw_ireturn f_110_37 mr_110)
theorem eX7_match {x1 x2 : Int} {a0 : Nat} : X sc (d + 1) 111 [.ref a0, xw x1, xw x2] (T, z, xv V, J, R) = XR sc d 111 0 [some (.ref a0), some (xw x1), some (xw x2), none] [] (T, z, xv V, J, R) :=
  (X_eq ⟨jl_111, by rw [mn_111]; rfl, rfl, by rw [lm_111]; exact Nat.le_of_ble_eq_true rfl⟩).trans (by unfold xent; rw [lm_111]; rfl)
theorem bX7_match_0 {o2 o3 : Option Value} {x1 : Int} {a0 : Nat} (g1 : T a0 = (8, 0)) : XR sc d 111 0 [some (.ref a0), some (xw x1), o2, o3] [] (T, z, xv V, J, R) = xret 111 (XR sc d 111) 2 5 [some (.ref a0), some (xw x1), o2, o3] [] (X sc d 96 [.ref a0, xw x1] (T, z, xv V, J, R)) :=
  (st_aload_n f_111_0 rfl).trans ((sw_iload_n f_111_1 rfl).trans (st_callV' f_111_2 h_111_123 mn_96 rfl rfl rfl rfl mo_96 g1 rfl))
theorem bX7_match_5 {o0 o1 o2 o3 : Option Value} {y0 : Int} (g1 : -2147483648 ≤ y0 ∧ y0 ≤ 2147483647) : XR sc d 111 5 [o0, o1, o2, o3] [xw y0] (T, z, xv V, J, R) = if y0 = 0 then XR sc d 111 20 [o0, o1, o2, o3] [] (T, z, xv V, J, R) else XR sc d 111 8 [o0, o1, o2, o3] [] (T, z, xv V, J, R) :=
  sw_if_eq (t := 20) f_111_5 ⟨by decide, rfl⟩ g1
theorem bX7_match_8 {o1 o3 : Option Value} {x2 : Int} {a0 : Nat} (g1 : T a0 = (8, 0)) : XR sc d 111 8 [some (.ref a0), o1, some (xw x2), o3] [] (T, z, xv V, J, R) = xret 111 (XR sc d 111) 10 13 [some (.ref a0), o1, some (xw x2), o3] [] (X sc d 96 [.ref a0, xw x2] (T, z, xv V, J, R)) :=
  (st_aload_n f_111_8 rfl).trans ((sw_iload_n f_111_9 rfl).trans (st_callV' f_111_10 h_111_123 mn_96 rfl rfl rfl rfl mo_96 g1 rfl))
theorem bX7_match_13 {o0 o1 o2 o3 : Option Value} {y0 : Int} (g1 : -2147483648 ≤ y0 ∧ y0 ≤ 2147483647) : XR sc d 111 13 [o0, o1, o2, o3] [xw y0] (T, z, xv V, J, R) = if y0 = 0 then XR sc d 111 20 [o0, o1, o2, o3] [] (T, z, xv V, J, R) else XR sc d 111 16 [o0, o1, o2, o3] [] (T, z, xv V, J, R) :=
  sw_if_eq (t := 20) f_111_13 ⟨by decide, rfl⟩ g1
theorem bX7_match_16 {o0 o1 o2 o3 : Option Value} : XR sc d 111 16 [o0, o1, o2, o3] [] (T, z, xv V, J, R) = XR sc d 111 21 [o0, o1, o2, o3] [xw 1] (T, z, xv V, J, R) :=
  (sw_iconst f_111_16).trans (st_goto (t := 21) f_111_17 ⟨by decide, rfl⟩)
theorem bX7_match_20 {o0 o1 o2 o3 : Option Value} : XR sc d 111 20 [o0, o1, o2, o3] [] (T, z, xv V, J, R) = XR sc d 111 21 [o0, o1, o2, o3] [xw 0] (T, z, xv V, J, R) :=
  sw_iconst f_111_20
theorem bX7_match_21 {o1 o2 o3 : Option Value} {y0 : Int} {a0 : Nat} (g1 : -2147483648 ≤ y0 ∧ y0 ≤ 2147483647) : XR sc d 111 21 [some (.ref a0), o1, o2, o3] [xw y0] (T, z, xv V, J, R) = if y0 = 0 then XR sc d 111 31 [some (.ref a0), o1, o2, some (xw y0)] [.ref a0] (T, z, xv V, J, R) else XR sc d 111 27 [some (.ref a0), o1, o2, some (xw y0)] [.ref a0] (T, z, xv V, J, R) :=
  (sw_istore_n (L' := [some (.ref a0), o1, o2, some (xw y0)]) f_111_21 (Nat.le_of_ble_eq_true rfl) rfl).trans ((st_aload_n f_111_22 rfl).trans ((sw_iload_n f_111_23 rfl).trans (sw_if_eq (t := 31) f_111_24 ⟨by decide, rfl⟩ g1)))
theorem bX7_match_27 {o0 o1 o2 o3 : Option Value} {s0 : Value} : XR sc d 111 27 [o0, o1, o2, o3] [s0] (T, z, xv V, J, R) = XR sc d 111 32 [o0, o1, o2, o3] [xw 0, s0] (T, z, xv V, J, R) :=
  (sw_iconst f_111_27).trans (st_goto (t := 32) f_111_28 ⟨by decide, rfl⟩)
theorem bX7_match_31 {o0 o1 o2 o3 : Option Value} {s0 : Value} : XR sc d 111 31 [o0, o1, o2, o3] [s0] (T, z, xv V, J, R) = XR sc d 111 32 [o0, o1, o2, o3] [xw 1, s0] (T, z, xv V, J, R) :=
  sw_iconst f_111_31
theorem bX7_match_32 {o0 o1 o2 o3 : Option Value} {y0 : Int} {b1 : Nat} (g1 : T b1 = (8, 0)) : XR sc d 111 32 [o0, o1, o2, o3] [xw y0, .ref b1] (T, z, xv V, J, R) = xret 111 (XR sc d 111) 32 35 [o0, o1, o2, o3] [] (X sc d 93 [.ref b1, xw y0] (T, z, xv V, J, R)) :=
  st_callV' f_111_32 h_111_98 mn_93 rfl rfl rfl rfl mo_93 g1 rfl
theorem bX7_match_35 {o0 o1 o2 o3 : Option Value} {y0 : Int} (g1 : -2147483648 ≤ y0 ∧ y0 ≤ 2147483647) : XR sc d 111 35 [o0, o1, o2, o3] [xw y0] (T, z, xv V, J, R) = if y0 = 0 then XR sc d 111 38 [o0, o1, o2, o3] [] (T, z, xv V, J, R) else XR sc d 111 117 [o0, o1, o2, o3] [] (T, z, xv V, J, R) :=
  sw_if_ne (t := 117) f_111_35 ⟨by decide, rfl⟩ g1
theorem bX7_match_38 {o3 : Option Value} {x1 x2 : Int} {a0 : Nat} (g1 : T a0 = (8, 0)) (g2 : R a0 8 = some ((R a0 8).getD 0)) (g3 : T ((R a0 8).getD 0) = (33, (T ((R a0 8).getD 0)).2)) (g4 : (0 : Int) ≤ x1 ∧ x1 < ((T ((R a0 8).getD 0)).2 : Int) ∧ (T ((R a0 8).getD 0)).2 ≤ 3584) (g5 : (0 : Int) ≤ x2 ∧ x2 < ((T ((R a0 8).getD 0)).2 : Int) ∧ (T ((R a0 8).getD 0)).2 ≤ 3584) (g6 : -2147483648 ≤ (V ((R a0 8).getD 0) x1.toNat) ∧ (V ((R a0 8).getD 0) x1.toNat) ≤ 2147483647) (g7 : -2147483648 ≤ (V ((R a0 8).getD 0) x2.toNat) ∧ (V ((R a0 8).getD 0) x2.toNat) ≤ 2147483647) : XR sc d 111 38 [some (.ref a0), some (xw x1), some (xw x2), o3] [] (T, z, xv V, J, R) = if (V ((R a0 8).getD 0) x1.toNat) = (V ((R a0 8).getD 0) x2.toNat) then XR sc d 111 53 [some (.ref a0), some (xw x1), some (xw x2), o3] [] (T, z, xv V, J, R) else XR sc d 111 117 [some (.ref a0), some (xw x1), some (xw x2), o3] [] (T, z, xv V, J, R) :=
  (st_aload_n f_111_38 rfl).trans ((st_getR f_111_39 e_111_28 (by decide) g1 g2).trans ((sw_iload_n f_111_42 rfl).trans ((sw_baload f_111_43 g3 g4).trans ((st_aload_n f_111_44 rfl).trans ((st_getR f_111_45 e_111_28 (by decide) g1 g2).trans ((sw_iload_n f_111_48 rfl).trans ((sw_baload f_111_49 g3 g5).trans (sw_icmp_ne (t := 117) f_111_50 ⟨by decide, rfl⟩ g6 g7))))))))
theorem bX7_match_53 {o3 : Option Value} {x1 x2 : Int} {a0 : Nat} (g1 : T a0 = (8, 0)) (g2 : R a0 4 = some ((R a0 4).getD 0)) (g3 : T ((R a0 4).getD 0) = (32, (T ((R a0 4).getD 0)).2)) (g4 : (0 : Int) ≤ x1 ∧ x1 < ((T ((R a0 4).getD 0)).2 : Int) ∧ (T ((R a0 4).getD 0)).2 ≤ 3584) (g5 : (0 : Int) ≤ x2 ∧ x2 < ((T ((R a0 4).getD 0)).2 : Int) ∧ (T ((R a0 4).getD 0)).2 ≤ 3584) (g6 : -2147483648 ≤ (V ((R a0 4).getD 0) x1.toNat) ∧ (V ((R a0 4).getD 0) x1.toNat) ≤ 2147483647) (g7 : -2147483648 ≤ (V ((R a0 4).getD 0) x2.toNat) ∧ (V ((R a0 4).getD 0) x2.toNat) ≤ 2147483647) : XR sc d 111 53 [some (.ref a0), some (xw x1), some (xw x2), o3] [] (T, z, xv V, J, R) = if (V ((R a0 4).getD 0) x1.toNat) = (V ((R a0 4).getD 0) x2.toNat) then XR sc d 111 68 [some (.ref a0), some (xw x1), some (xw x2), o3] [] (T, z, xv V, J, R) else XR sc d 111 117 [some (.ref a0), some (xw x1), some (xw x2), o3] [] (T, z, xv V, J, R) :=
  (st_aload_n f_111_53 rfl).trans ((st_getR f_111_54 e_111_16 (by decide) g1 g2).trans ((sw_iload_n f_111_57 rfl).trans ((sw_iaload f_111_58 g3 g4).trans ((st_aload_n f_111_59 rfl).trans ((st_getR f_111_60 e_111_16 (by decide) g1 g2).trans ((sw_iload_n f_111_63 rfl).trans ((sw_iaload f_111_64 g3 g5).trans (sw_icmp_ne (t := 117) f_111_65 ⟨by decide, rfl⟩ g6 g7))))))))
theorem bX7_match_68 {o3 : Option Value} {x1 x2 : Int} {a0 : Nat} (g1 : T a0 = (8, 0)) (g2 : R a0 5 = some ((R a0 5).getD 0)) (g3 : T ((R a0 5).getD 0) = (32, (T ((R a0 5).getD 0)).2)) (g4 : (0 : Int) ≤ x1 ∧ x1 < ((T ((R a0 5).getD 0)).2 : Int) ∧ (T ((R a0 5).getD 0)).2 ≤ 3584) (g5 : (0 : Int) ≤ x2 ∧ x2 < ((T ((R a0 5).getD 0)).2 : Int) ∧ (T ((R a0 5).getD 0)).2 ≤ 3584) (g6 : -2147483648 ≤ (V ((R a0 5).getD 0) x1.toNat) ∧ (V ((R a0 5).getD 0) x1.toNat) ≤ 2147483647) (g7 : -2147483648 ≤ (V ((R a0 5).getD 0) x2.toNat) ∧ (V ((R a0 5).getD 0) x2.toNat) ≤ 2147483647) : XR sc d 111 68 [some (.ref a0), some (xw x1), some (xw x2), o3] [] (T, z, xv V, J, R) = if (V ((R a0 5).getD 0) x1.toNat) = (V ((R a0 5).getD 0) x2.toNat) then XR sc d 111 83 [some (.ref a0), some (xw x1), some (xw x2), o3] [] (T, z, xv V, J, R) else XR sc d 111 117 [some (.ref a0), some (xw x1), some (xw x2), o3] [] (T, z, xv V, J, R) :=
  (st_aload_n f_111_68 rfl).trans ((st_getR f_111_69 e_111_19 (by decide) g1 g2).trans ((sw_iload_n f_111_72 rfl).trans ((sw_iaload f_111_73 g3 g4).trans ((st_aload_n f_111_74 rfl).trans ((st_getR f_111_75 e_111_19 (by decide) g1 g2).trans ((sw_iload_n f_111_78 rfl).trans ((sw_iaload f_111_79 g3 g5).trans (sw_icmp_ne (t := 117) f_111_80 ⟨by decide, rfl⟩ g6 g7))))))))
theorem bX7_match_83 {o3 : Option Value} {x1 x2 : Int} {a0 : Nat} (g1 : T a0 = (8, 0)) (g2 : R a0 6 = some ((R a0 6).getD 0)) (g3 : T ((R a0 6).getD 0) = (32, (T ((R a0 6).getD 0)).2)) (g4 : (0 : Int) ≤ x1 ∧ x1 < ((T ((R a0 6).getD 0)).2 : Int) ∧ (T ((R a0 6).getD 0)).2 ≤ 3584) (g5 : (0 : Int) ≤ x2 ∧ x2 < ((T ((R a0 6).getD 0)).2 : Int) ∧ (T ((R a0 6).getD 0)).2 ≤ 3584) (g6 : -2147483648 ≤ (V ((R a0 6).getD 0) x1.toNat) ∧ (V ((R a0 6).getD 0) x1.toNat) ≤ 2147483647) (g7 : -2147483648 ≤ (V ((R a0 6).getD 0) x2.toNat) ∧ (V ((R a0 6).getD 0) x2.toNat) ≤ 2147483647) : XR sc d 111 83 [some (.ref a0), some (xw x1), some (xw x2), o3] [] (T, z, xv V, J, R) = if (V ((R a0 6).getD 0) x1.toNat) = (V ((R a0 6).getD 0) x2.toNat) then XR sc d 111 98 [some (.ref a0), some (xw x1), some (xw x2), o3] [] (T, z, xv V, J, R) else XR sc d 111 117 [some (.ref a0), some (xw x1), some (xw x2), o3] [] (T, z, xv V, J, R) :=
  (st_aload_n f_111_83 rfl).trans ((st_getR f_111_84 e_111_22 (by decide) g1 g2).trans ((sw_iload_n f_111_87 rfl).trans ((sw_iaload f_111_88 g3 g4).trans ((st_aload_n f_111_89 rfl).trans ((st_getR f_111_90 e_111_22 (by decide) g1 g2).trans ((sw_iload_n f_111_93 rfl).trans ((sw_iaload f_111_94 g3 g5).trans (sw_icmp_ne (t := 117) f_111_95 ⟨by decide, rfl⟩ g6 g7))))))))
theorem bX7_match_98 {o3 : Option Value} {x1 x2 : Int} {a0 : Nat} (g1 : T a0 = (8, 0)) (g2 : R a0 7 = some ((R a0 7).getD 0)) (g3 : T ((R a0 7).getD 0) = (32, (T ((R a0 7).getD 0)).2)) (g4 : (0 : Int) ≤ x1 ∧ x1 < ((T ((R a0 7).getD 0)).2 : Int) ∧ (T ((R a0 7).getD 0)).2 ≤ 3584) (g5 : (0 : Int) ≤ x2 ∧ x2 < ((T ((R a0 7).getD 0)).2 : Int) ∧ (T ((R a0 7).getD 0)).2 ≤ 3584) (g6 : -2147483648 ≤ (V ((R a0 7).getD 0) x1.toNat) ∧ (V ((R a0 7).getD 0) x1.toNat) ≤ 2147483647) (g7 : -2147483648 ≤ (V ((R a0 7).getD 0) x2.toNat) ∧ (V ((R a0 7).getD 0) x2.toNat) ≤ 2147483647) : XR sc d 111 98 [some (.ref a0), some (xw x1), some (xw x2), o3] [] (T, z, xv V, J, R) = if (V ((R a0 7).getD 0) x1.toNat) = (V ((R a0 7).getD 0) x2.toNat) then XR sc d 111 113 [some (.ref a0), some (xw x1), some (xw x2), o3] [] (T, z, xv V, J, R) else XR sc d 111 117 [some (.ref a0), some (xw x1), some (xw x2), o3] [] (T, z, xv V, J, R) :=
  (st_aload_n f_111_98 rfl).trans ((st_getR f_111_99 e_111_25 (by decide) g1 g2).trans ((sw_iload_n f_111_102 rfl).trans ((sw_iaload f_111_103 g3 g4).trans ((st_aload_n f_111_104 rfl).trans ((st_getR f_111_105 e_111_25 (by decide) g1 g2).trans ((sw_iload_n f_111_108 rfl).trans ((sw_iaload f_111_109 g3 g5).trans (sw_icmp_ne (t := 117) f_111_110 ⟨by decide, rfl⟩ g6 g7))))))))
theorem bX7_match_113 {o0 o1 o2 o3 : Option Value} : XR sc d 111 113 [o0, o1, o2, o3] [] (T, z, xv V, J, R) = XR sc d 111 118 [o0, o1, o2, o3] [xw 1] (T, z, xv V, J, R) :=
  (sw_iconst f_111_113).trans (st_goto (t := 118) f_111_114 ⟨by decide, rfl⟩)
theorem bX7_match_117 {o0 o1 o2 o3 : Option Value} : XR sc d 111 117 [o0, o1, o2, o3] [] (T, z, xv V, J, R) = XR sc d 111 118 [o0, o1, o2, o3] [xw 0] (T, z, xv V, J, R) :=
  sw_iconst f_111_117
theorem bX7_match_118 {o0 o1 o2 o3 : Option Value} {y0 : Int} (g1 : y0 = 0 ∨ y0 = 1) : XR sc d 111 118 [o0, o1, o2, o3] [xw y0] (T, z, xv V, J, R) = some (.inl (some (xw y0)), (T, z, xv V, J, R)) :=
  sw_zreturn f_111_118 mr_111 g1
theorem eX7_strength {x1 : Int} {a0 : Nat} : X sc (d + 1) 112 [.ref a0, xw x1] (T, z, xv V, J, R) = XR sc d 112 0 [some (.ref a0), some (xw x1), none] [] (T, z, xv V, J, R) :=
  (X_eq ⟨jl_112, by rw [mn_112]; rfl, rfl, by rw [lm_112]; exact Nat.le_of_ble_eq_true rfl⟩).trans (by unfold xent; rw [lm_112]; rfl)
theorem bX7_strength_0 {o2 : Option Value} {x1 : Int} {a0 : Nat} (g1 : T a0 = (8, 0)) (g2 : R a0 5 = some ((R a0 5).getD 0)) (g3 : T ((R a0 5).getD 0) = (32, (T ((R a0 5).getD 0)).2)) (g4 : (0 : Int) ≤ x1 ∧ x1 < ((T ((R a0 5).getD 0)).2 : Int) ∧ (T ((R a0 5).getD 0)).2 ≤ 3584) (g5 : R a0 6 = some ((R a0 6).getD 0)) (g6 : T ((R a0 6).getD 0) = (32, (T ((R a0 6).getD 0)).2)) (g7 : (0 : Int) ≤ x1 ∧ x1 < ((T ((R a0 6).getD 0)).2 : Int) ∧ (T ((R a0 6).getD 0)).2 ≤ 3584) (g8 : R a0 9 = some ((R a0 9).getD 0)) (g9 : T ((R a0 9).getD 0) = (34, (T ((R a0 9).getD 0)).2)) (g10 : (0 : Int) ≤ x1 ∧ x1 < ((T ((R a0 9).getD 0)).2 : Int) ∧ (T ((R a0 9).getD 0)).2 ≤ 3584) (g11 : -2147483648 ≤ (jCmp (J ((R a0 9).getD 0) x1.toNat) (Int64.ofNat 0)) ∧ (jCmp (J ((R a0 9).getD 0) x1.toNat) (Int64.ofNat 0)) ≤ 2147483647) : XR sc d 112 0 [some (.ref a0), some (xw x1), o2] [] (T, z, xv V, J, R) = if (jCmp (J ((R a0 9).getD 0) x1.toNat) (Int64.ofNat 0)) = 0 then XR sc d 112 28 [some (.ref a0), some (xw x1), some (xw ((10 * (V ((R a0 5).getD 0) x1.toNat)) * (V ((R a0 6).getD 0) x1.toNat)))] [] (T, z, xv V, J, R) else XR sc d 112 32 [some (.ref a0), some (xw x1), some (xw ((10 * (V ((R a0 5).getD 0) x1.toNat)) * (V ((R a0 6).getD 0) x1.toNat)))] [] (T, z, xv V, J, R) :=
  (sw_bipush f_112_0 c8_10).trans ((st_aload_n f_112_2 rfl).trans ((st_getR f_112_3 e_112_19 (by decide) g1 g2).trans ((sw_iload_n f_112_6 rfl).trans ((sw_iaload f_112_7 g3 g4).trans ((sw_imul f_112_8).trans ((st_aload_n f_112_9 rfl).trans ((st_getR f_112_10 e_112_22 (by decide) g1 g5).trans ((sw_iload_n f_112_13 rfl).trans ((sw_iaload f_112_14 g6 g7).trans ((sw_imul f_112_15).trans ((sw_istore_n (L' := [some (.ref a0), some (xw x1), some (xw ((10 * (V ((R a0 5).getD 0) x1.toNat)) * (V ((R a0 6).getD 0) x1.toNat)))]) f_112_16 (Nat.le_of_ble_eq_true rfl) rfl).trans ((st_aload_n f_112_17 rfl).trans ((st_getR f_112_18 e_112_32 (by decide) g1 g8).trans ((sw_iload_n f_112_21 rfl).trans ((sw_laload f_112_22 g9 g10).trans ((st_lconst f_112_23).trans ((sw_lcmp f_112_24).trans (sw_if_ne (t := 32) f_112_25 ⟨by decide, rfl⟩ g11))))))))))))))))))
theorem bX7_strength_28 {o0 o1 : Option Value} {x2 : Int} : XR sc d 112 28 [o0, o1, some (xw x2)] [] (T, z, xv V, J, R) = XR sc d 112 37 [o0, o1, some (xw x2)] [xw x2] (T, z, xv V, J, R) :=
  (sw_iload_n f_112_28 rfl).trans (st_goto (t := 37) f_112_29 ⟨by decide, rfl⟩)
theorem bX7_strength_32 {o0 o1 : Option Value} {x2 : Int} (g1 : 0 ≤ (3 * x2) ∧ (3 * x2) ≤ 2147483647) : XR sc d 112 32 [o0, o1, some (xw x2)] [] (T, z, xv V, J, R) = XR sc d 112 37 [o0, o1, some (xw x2)] [xw ((3 * x2) / 4)] (T, z, xv V, J, R) :=
  (sw_iconst f_112_32).trans ((sw_iload_n f_112_33 rfl).trans ((sw_imul f_112_34).trans ((sw_iconst f_112_35).trans (sw_idiv f_112_36 ⟨by decide, by decide, g1⟩))))
theorem bX7_strength_37 {o2 : Option Value} {x1 y0 : Int} {a0 : Nat} (g1 : T a0 = (8, 0)) (g2 : R a0 10 = some ((R a0 10).getD 0)) (g3 : T ((R a0 10).getD 0) = (32, (T ((R a0 10).getD 0)).2)) (g4 : (0 : Int) ≤ x1 ∧ x1 < ((T ((R a0 10).getD 0)).2 : Int) ∧ (T ((R a0 10).getD 0)).2 ≤ 3584) (g5 : -2147483648 ≤ (y0 - (V ((R a0 10).getD 0) x1.toNat)) ∧ (y0 - (V ((R a0 10).getD 0) x1.toNat)) ≤ 2147483647) : XR sc d 112 37 [some (.ref a0), some (xw x1), o2] [xw y0] (T, z, xv V, J, R) = if 0 ≤ (y0 - (V ((R a0 10).getD 0) x1.toNat)) then XR sc d 112 53 [some (.ref a0), some (xw x1), some (xw (y0 - (V ((R a0 10).getD 0) x1.toNat)))] [] (T, z, xv V, J, R) else XR sc d 112 49 [some (.ref a0), some (xw x1), some (xw (y0 - (V ((R a0 10).getD 0) x1.toNat)))] [] (T, z, xv V, J, R) :=
  (st_aload_n f_112_37 rfl).trans ((st_getR f_112_38 e_112_36 (by decide) g1 g2).trans ((sw_iload_n f_112_41 rfl).trans ((sw_iaload f_112_42 g3 g4).trans ((sw_isub f_112_43).trans ((sw_istore_n (L' := [some (.ref a0), some (xw x1), some (xw (y0 - (V ((R a0 10).getD 0) x1.toNat)))]) f_112_44 (Nat.le_of_ble_eq_true rfl) rfl).trans ((sw_iload_n f_112_45 rfl).trans (sw_if_ge (t := 53) f_112_46 ⟨by decide, rfl⟩ g5)))))))
theorem bX7_strength_49 {o0 o1 o2 : Option Value} : XR sc d 112 49 [o0, o1, o2] [] (T, z, xv V, J, R) = XR sc d 112 54 [o0, o1, o2] [xw 0] (T, z, xv V, J, R) :=
  (sw_iconst f_112_49).trans (st_goto (t := 54) f_112_50 ⟨by decide, rfl⟩)
theorem bX7_strength_53 {o0 o1 : Option Value} {x2 : Int} : XR sc d 112 53 [o0, o1, some (xw x2)] [] (T, z, xv V, J, R) = XR sc d 112 54 [o0, o1, some (xw x2)] [xw x2] (T, z, xv V, J, R) :=
  sw_iload_n f_112_53 rfl
theorem bX7_strength_54 {o0 o1 o2 : Option Value} {y0 : Int} : XR sc d 112 54 [o0, o1, o2] [xw y0] (T, z, xv V, J, R) = some (.inl (some (xw y0)), (T, z, xv V, J, R)) :=
  sw_ireturn f_112_54 mr_112
theorem eX7_part {x1 x2 : Int} {a0 : Nat} : X sc (d + 1) 113 [.ref a0, xw x1, xw x2] (T, z, xv V, J, R) = XR sc d 113 0 [some (.ref a0), some (xw x1), some (xw x2)] [] (T, z, xv V, J, R) :=
  (X_eq ⟨jl_113, by rw [mn_113]; rfl, rfl, by rw [lm_113]; exact Nat.le_of_ble_eq_true rfl⟩).trans (by unfold xent; rw [lm_113]; rfl)
theorem bX7_part_0 {o2 : Option Value} {x1 : Int} {a0 : Nat} (g1 : T a0 = (8, 0)) : XR sc d 113 0 [some (.ref a0), some (xw x1), o2] [] (T, z, xv V, J, R) = xret 113 (XR sc d 113) 3 6 [some (.ref a0), some (xw x1), o2] [.ref a0] (X sc d 96 [.ref a0, xw x1] (T, z, xv V, J, R)) :=
  (st_aload_n f_113_0 rfl).trans ((st_aload_n f_113_1 rfl).trans ((sw_iload_n f_113_2 rfl).trans (st_callV' f_113_3 h_113_123 mn_96 rfl rfl rfl rfl mo_96 g1 rfl)))
theorem bX7_part_6 {o0 o1 o2 : Option Value} {s1 : Value} {y0 : Int} (g1 : -2147483648 ≤ y0 ∧ y0 ≤ 2147483647) : XR sc d 113 6 [o0, o1, o2] [xw y0, s1] (T, z, xv V, J, R) = if y0 = 0 then XR sc d 113 9 [o0, o1, o2] [s1] (T, z, xv V, J, R) else XR sc d 113 13 [o0, o1, o2] [s1] (T, z, xv V, J, R) :=
  sw_if_ne (t := 13) f_113_6 ⟨by decide, rfl⟩ g1
theorem bX7_part_9 {o0 o1 o2 : Option Value} {s0 : Value} : XR sc d 113 9 [o0, o1, o2] [s0] (T, z, xv V, J, R) = XR sc d 113 28 [o0, o1, o2] [xw 1, s0] (T, z, xv V, J, R) :=
  (sw_iconst f_113_9).trans (st_goto (t := 28) f_113_10 ⟨by decide, rfl⟩)
theorem bX7_part_13 {o0 o1 : Option Value} {s0 : Value} {x2 : Int} : XR sc d 113 13 [o0, o1, some (xw x2)] [s0] (T, z, xv V, J, R) = xret 113 (XR sc d 113) 17 20 [o0, o1, some (xw x2)] [s0] (X sc d 94 [xw x2, xw 0, xw 10] (T, z, xv V, J, R)) :=
  (sw_iload_n f_113_13 rfl).trans ((sw_iconst f_113_14).trans ((sw_bipush f_113_15 c8_10).trans (st_callS' f_113_17 h_113_91 mn_94 rfl rfl rfl rfl)))
theorem bX7_part_20 {o0 o1 o2 : Option Value} {s1 : Value} {y0 : Int} (g1 : -2147483648 ≤ y0 ∧ y0 ≤ 2147483647) : XR sc d 113 20 [o0, o1, o2] [xw y0, s1] (T, z, xv V, J, R) = if y0 = 0 then XR sc d 113 27 [o0, o1, o2] [s1] (T, z, xv V, J, R) else XR sc d 113 23 [o0, o1, o2] [s1] (T, z, xv V, J, R) :=
  sw_if_eq (t := 27) f_113_20 ⟨by decide, rfl⟩ g1
theorem bX7_part_23 {o0 o1 o2 : Option Value} {s0 : Value} : XR sc d 113 23 [o0, o1, o2] [s0] (T, z, xv V, J, R) = XR sc d 113 28 [o0, o1, o2] [xw 0, s0] (T, z, xv V, J, R) :=
  (sw_iconst f_113_23).trans (st_goto (t := 28) f_113_24 ⟨by decide, rfl⟩)
theorem bX7_part_27 {o0 o1 o2 : Option Value} {s0 : Value} : XR sc d 113 27 [o0, o1, o2] [s0] (T, z, xv V, J, R) = XR sc d 113 28 [o0, o1, o2] [xw 2, s0] (T, z, xv V, J, R) :=
  sw_iconst f_113_27
theorem bX7_part_28 {o0 o1 o2 : Option Value} {y0 : Int} {b1 : Nat} (g1 : T b1 = (8, 0)) : XR sc d 113 28 [o0, o1, o2] [xw y0, .ref b1] (T, z, xv V, J, R) = xret 113 (XR sc d 113) 28 31 [o0, o1, o2] [] (X sc d 93 [.ref b1, xw y0] (T, z, xv V, J, R)) :=
  st_callV' f_113_28 h_113_98 mn_93 rfl rfl rfl rfl mo_93 g1 rfl
theorem bX7_part_31 {o0 o1 o2 : Option Value} {y0 : Int} (g1 : -2147483648 ≤ y0 ∧ y0 ≤ 2147483647) : XR sc d 113 31 [o0, o1, o2] [xw y0] (T, z, xv V, J, R) = if y0 = 0 then XR sc d 113 36 [o0, o1, o2] [] (T, z, xv V, J, R) else XR sc d 113 34 [o0, o1, o2] [] (T, z, xv V, J, R) :=
  sw_if_eq (t := 36) f_113_31 ⟨by decide, rfl⟩ g1
theorem bX7_part_34 {o0 o1 o2 : Option Value} : XR sc d 113 34 [o0, o1, o2] [] (T, z, xv V, J, R) = some (.inl (some (xw 0)), (T, z, xv V, J, R)) :=
  (sw_iconst f_113_34).trans (sw_ireturn f_113_35 mr_113)
theorem bX7_part_36 {o0 o1 : Option Value} {x2 : Int} : XR sc d 113 36 [o0, o1, some (xw x2)] [] (T, z, xv V, J, R) = XR sc d 113 37 [o0, o1, some (xw x2)] [xw x2] (T, z, xv V, J, R) :=
  sw_iload_n f_113_36 rfl
theorem bX7_part_92 {o2 : Option Value} {x1 : Int} {a0 : Nat} (g1 : T a0 = (8, 0)) (g2 : R a0 4 = some ((R a0 4).getD 0)) (g3 : T ((R a0 4).getD 0) = (32, (T ((R a0 4).getD 0)).2)) (g4 : (0 : Int) ≤ x1 ∧ x1 < ((T ((R a0 4).getD 0)).2 : Int) ∧ (T ((R a0 4).getD 0)).2 ≤ 3584) : XR sc d 113 92 [some (.ref a0), some (xw x1), o2] [] (T, z, xv V, J, R) = some (.inl (some (xw (V ((R a0 4).getD 0) x1.toNat))), (T, z, xv V, J, R)) :=
  (st_aload_n f_113_92 rfl).trans ((st_getR f_113_93 e_113_16 (by decide) g1 g2).trans ((sw_iload_n f_113_96 rfl).trans ((sw_iaload f_113_97 g3 g4).trans (sw_ireturn f_113_98 mr_113))))
theorem bX7_part_99 {o2 : Option Value} {x1 : Int} {a0 : Nat} (g1 : T a0 = (8, 0)) (g2 : R a0 5 = some ((R a0 5).getD 0)) (g3 : T ((R a0 5).getD 0) = (32, (T ((R a0 5).getD 0)).2)) (g4 : (0 : Int) ≤ x1 ∧ x1 < ((T ((R a0 5).getD 0)).2 : Int) ∧ (T ((R a0 5).getD 0)).2 ≤ 3584) : XR sc d 113 99 [some (.ref a0), some (xw x1), o2] [] (T, z, xv V, J, R) = some (.inl (some (xw (V ((R a0 5).getD 0) x1.toNat))), (T, z, xv V, J, R)) :=
  (st_aload_n f_113_99 rfl).trans ((st_getR f_113_100 e_113_19 (by decide) g1 g2).trans ((sw_iload_n f_113_103 rfl).trans ((sw_iaload f_113_104 g3 g4).trans (sw_ireturn f_113_105 mr_113))))
theorem bX7_part_106 {o2 : Option Value} {x1 : Int} {a0 : Nat} (g1 : T a0 = (8, 0)) (g2 : R a0 6 = some ((R a0 6).getD 0)) (g3 : T ((R a0 6).getD 0) = (32, (T ((R a0 6).getD 0)).2)) (g4 : (0 : Int) ≤ x1 ∧ x1 < ((T ((R a0 6).getD 0)).2 : Int) ∧ (T ((R a0 6).getD 0)).2 ≤ 3584) : XR sc d 113 106 [some (.ref a0), some (xw x1), o2] [] (T, z, xv V, J, R) = some (.inl (some (xw (V ((R a0 6).getD 0) x1.toNat))), (T, z, xv V, J, R)) :=
  (st_aload_n f_113_106 rfl).trans ((st_getR f_113_107 e_113_22 (by decide) g1 g2).trans ((sw_iload_n f_113_110 rfl).trans ((sw_iaload f_113_111 g3 g4).trans (sw_ireturn f_113_112 mr_113))))
theorem bX7_part_113 {o2 : Option Value} {x1 : Int} {a0 : Nat} (g1 : T a0 = (8, 0)) (g2 : R a0 7 = some ((R a0 7).getD 0)) (g3 : T ((R a0 7).getD 0) = (32, (T ((R a0 7).getD 0)).2)) (g4 : (0 : Int) ≤ x1 ∧ x1 < ((T ((R a0 7).getD 0)).2 : Int) ∧ (T ((R a0 7).getD 0)).2 ≤ 3584) : XR sc d 113 113 [some (.ref a0), some (xw x1), o2] [] (T, z, xv V, J, R) = some (.inl (some (xw (V ((R a0 7).getD 0) x1.toNat))), (T, z, xv V, J, R)) :=
  (st_aload_n f_113_113 rfl).trans ((st_getR f_113_114 e_113_25 (by decide) g1 g2).trans ((sw_iload_n f_113_117 rfl).trans ((sw_iaload f_113_118 g3 g4).trans (sw_ireturn f_113_119 mr_113))))
theorem bX7_part_120 {o2 : Option Value} {x1 : Int} {a0 : Nat} (g1 : T a0 = (8, 0)) : XR sc d 113 120 [some (.ref a0), some (xw x1), o2] [] (T, z, xv V, J, R) = xret 113 (XR sc d 113) 122 125 [some (.ref a0), some (xw x1), o2] [] (X sc d 110 [.ref a0, xw x1] (T, z, xv V, J, R)) :=
  (st_aload_n f_113_120 rfl).trans ((sw_iload_n f_113_121 rfl).trans (st_callV' f_113_122 h_113_131 mn_110 rfl rfl rfl rfl mo_110 g1 rfl))
theorem bX7_part_125 {o0 o1 o2 : Option Value} {y0 : Int} : XR sc d 113 125 [o0, o1, o2] [xw y0] (T, z, xv V, J, R) = some (.inl (some (xw y0)), (T, z, xv V, J, R)) :=
  sw_ireturn f_113_125 mr_113
theorem bX7_part_126 {o2 : Option Value} {x1 : Int} {a0 : Nat} (g1 : T a0 = (8, 0)) (g2 : R a0 10 = some ((R a0 10).getD 0)) (g3 : T ((R a0 10).getD 0) = (32, (T ((R a0 10).getD 0)).2)) (g4 : (0 : Int) ≤ x1 ∧ x1 < ((T ((R a0 10).getD 0)).2 : Int) ∧ (T ((R a0 10).getD 0)).2 ≤ 3584) : XR sc d 113 126 [some (.ref a0), some (xw x1), o2] [] (T, z, xv V, J, R) = some (.inl (some (xw (V ((R a0 10).getD 0) x1.toNat))), (T, z, xv V, J, R)) :=
  (st_aload_n f_113_126 rfl).trans ((st_getR f_113_127 e_113_36 (by decide) g1 g2).trans ((sw_iload_n f_113_130 rfl).trans ((sw_iaload f_113_131 g3 g4).trans (sw_ireturn f_113_132 mr_113))))
theorem bX7_part_133 {o2 : Option Value} {x1 : Int} {a0 : Nat} (g1 : T a0 = (8, 0)) : XR sc d 113 133 [some (.ref a0), some (xw x1), o2] [] (T, z, xv V, J, R) = xret 113 (XR sc d 113) 135 138 [some (.ref a0), some (xw x1), o2] [] (X sc d 112 [.ref a0, xw x1] (T, z, xv V, J, R)) :=
  (st_aload_n f_113_133 rfl).trans ((sw_iload_n f_113_134 rfl).trans (st_callV' f_113_135 h_113_135 mn_112 rfl rfl rfl rfl mo_112 g1 rfl))
theorem bX7_part_138 {o0 o1 o2 : Option Value} {y0 : Int} : XR sc d 113 138 [o0, o1, o2] [xw y0] (T, z, xv V, J, R) = some (.inl (some (xw y0)), (T, z, xv V, J, R)) :=
  sw_ireturn f_113_138 mr_113
theorem bX7_part_139 {o2 : Option Value} {x1 : Int} {a0 : Nat} (g1 : T a0 = (8, 0)) (g2 : R a0 13 = some ((R a0 13).getD 0)) (g3 : T ((R a0 13).getD 0) = (32, (T ((R a0 13).getD 0)).2)) (g4 : (0 : Int) ≤ x1 ∧ x1 < ((T ((R a0 13).getD 0)).2 : Int) ∧ (T ((R a0 13).getD 0)).2 ≤ 3584) (g5 : R a0 14 = some ((R a0 14).getD 0)) (g6 : T ((R a0 14).getD 0) = (32, (T ((R a0 14).getD 0)).2)) (g7 : (0 : Int) ≤ x1 ∧ x1 < ((T ((R a0 14).getD 0)).2 : Int) ∧ (T ((R a0 14).getD 0)).2 ≤ 3584) (g8 : -2147483648 ≤ (V ((R a0 13).getD 0) x1.toNat) ∧ (V ((R a0 13).getD 0) x1.toNat) ≤ 2147483647) (g9 : -2147483648 ≤ (V ((R a0 14).getD 0) x1.toNat) ∧ (V ((R a0 14).getD 0) x1.toNat) ≤ 2147483647) : XR sc d 113 139 [some (.ref a0), some (xw x1), o2] [] (T, z, xv V, J, R) = if (V ((R a0 14).getD 0) x1.toNat) ≤ (V ((R a0 13).getD 0) x1.toNat) then XR sc d 113 163 [some (.ref a0), some (xw x1), o2] [] (T, z, xv V, J, R) else XR sc d 113 154 [some (.ref a0), some (xw x1), o2] [] (T, z, xv V, J, R) :=
  (st_aload_n f_113_139 rfl).trans ((st_getR f_113_140 e_113_45 (by decide) g1 g2).trans ((sw_iload_n f_113_143 rfl).trans ((sw_iaload f_113_144 g3 g4).trans ((st_aload_n f_113_145 rfl).trans ((st_getR f_113_146 e_113_48 (by decide) g1 g5).trans ((sw_iload_n f_113_149 rfl).trans ((sw_iaload f_113_150 g6 g7).trans (sw_icmp_ge (t := 163) f_113_151 ⟨by decide, rfl⟩ g8 g9))))))))
theorem bX7_part_154 {o2 : Option Value} {x1 : Int} {a0 : Nat} (g1 : T a0 = (8, 0)) (g2 : R a0 13 = some ((R a0 13).getD 0)) (g3 : T ((R a0 13).getD 0) = (32, (T ((R a0 13).getD 0)).2)) (g4 : (0 : Int) ≤ x1 ∧ x1 < ((T ((R a0 13).getD 0)).2 : Int) ∧ (T ((R a0 13).getD 0)).2 ≤ 3584) : XR sc d 113 154 [some (.ref a0), some (xw x1), o2] [] (T, z, xv V, J, R) = XR sc d 113 169 [some (.ref a0), some (xw x1), o2] [xw (V ((R a0 13).getD 0) x1.toNat)] (T, z, xv V, J, R) :=
  (st_aload_n f_113_154 rfl).trans ((st_getR f_113_155 e_113_45 (by decide) g1 g2).trans ((sw_iload_n f_113_158 rfl).trans ((sw_iaload f_113_159 g3 g4).trans (st_goto (t := 169) f_113_160 ⟨by decide, rfl⟩))))
theorem bX7_part_163 {o2 : Option Value} {x1 : Int} {a0 : Nat} (g1 : T a0 = (8, 0)) (g2 : R a0 14 = some ((R a0 14).getD 0)) (g3 : T ((R a0 14).getD 0) = (32, (T ((R a0 14).getD 0)).2)) (g4 : (0 : Int) ≤ x1 ∧ x1 < ((T ((R a0 14).getD 0)).2 : Int) ∧ (T ((R a0 14).getD 0)).2 ≤ 3584) : XR sc d 113 163 [some (.ref a0), some (xw x1), o2] [] (T, z, xv V, J, R) = XR sc d 113 169 [some (.ref a0), some (xw x1), o2] [xw (V ((R a0 14).getD 0) x1.toNat)] (T, z, xv V, J, R) :=
  (st_aload_n f_113_163 rfl).trans ((st_getR f_113_164 e_113_48 (by decide) g1 g2).trans ((sw_iload_n f_113_167 rfl).trans (sw_iaload f_113_168 g3 g4)))
theorem bX7_part_169 {o0 o1 o2 : Option Value} {y0 : Int} : XR sc d 113 169 [o0, o1, o2] [xw y0] (T, z, xv V, J, R) = some (.inl (some (xw y0)), (T, z, xv V, J, R)) :=
  sw_ireturn f_113_169 mr_113
theorem bX7_part_170 {o2 : Option Value} {x1 : Int} {a0 : Nat} (g1 : T a0 = (8, 0)) (g2 : R a0 13 = some ((R a0 13).getD 0)) (g3 : T ((R a0 13).getD 0) = (32, (T ((R a0 13).getD 0)).2)) (g4 : (0 : Int) ≤ x1 ∧ x1 < ((T ((R a0 13).getD 0)).2 : Int) ∧ (T ((R a0 13).getD 0)).2 ≤ 3584) (g5 : R a0 14 = some ((R a0 14).getD 0)) (g6 : T ((R a0 14).getD 0) = (32, (T ((R a0 14).getD 0)).2)) (g7 : (0 : Int) ≤ x1 ∧ x1 < ((T ((R a0 14).getD 0)).2 : Int) ∧ (T ((R a0 14).getD 0)).2 ≤ 3584) (g8 : -2147483648 ≤ (V ((R a0 13).getD 0) x1.toNat) ∧ (V ((R a0 13).getD 0) x1.toNat) ≤ 2147483647) (g9 : -2147483648 ≤ (V ((R a0 14).getD 0) x1.toNat) ∧ (V ((R a0 14).getD 0) x1.toNat) ≤ 2147483647) : XR sc d 113 170 [some (.ref a0), some (xw x1), o2] [] (T, z, xv V, J, R) = if (V ((R a0 14).getD 0) x1.toNat) ≤ (V ((R a0 13).getD 0) x1.toNat) then XR sc d 113 194 [some (.ref a0), some (xw x1), o2] [] (T, z, xv V, J, R) else XR sc d 113 185 [some (.ref a0), some (xw x1), o2] [] (T, z, xv V, J, R) :=
  (st_aload_n f_113_170 rfl).trans ((st_getR f_113_171 e_113_45 (by decide) g1 g2).trans ((sw_iload_n f_113_174 rfl).trans ((sw_iaload f_113_175 g3 g4).trans ((st_aload_n f_113_176 rfl).trans ((st_getR f_113_177 e_113_48 (by decide) g1 g5).trans ((sw_iload_n f_113_180 rfl).trans ((sw_iaload f_113_181 g6 g7).trans (sw_icmp_ge (t := 194) f_113_182 ⟨by decide, rfl⟩ g8 g9))))))))
theorem bX7_part_185 {o2 : Option Value} {x1 : Int} {a0 : Nat} (g1 : T a0 = (8, 0)) (g2 : R a0 14 = some ((R a0 14).getD 0)) (g3 : T ((R a0 14).getD 0) = (32, (T ((R a0 14).getD 0)).2)) (g4 : (0 : Int) ≤ x1 ∧ x1 < ((T ((R a0 14).getD 0)).2 : Int) ∧ (T ((R a0 14).getD 0)).2 ≤ 3584) : XR sc d 113 185 [some (.ref a0), some (xw x1), o2] [] (T, z, xv V, J, R) = XR sc d 113 200 [some (.ref a0), some (xw x1), o2] [xw (V ((R a0 14).getD 0) x1.toNat)] (T, z, xv V, J, R) :=
  (st_aload_n f_113_185 rfl).trans ((st_getR f_113_186 e_113_48 (by decide) g1 g2).trans ((sw_iload_n f_113_189 rfl).trans ((sw_iaload f_113_190 g3 g4).trans (st_goto (t := 200) f_113_191 ⟨by decide, rfl⟩))))
theorem bX7_part_194 {o2 : Option Value} {x1 : Int} {a0 : Nat} (g1 : T a0 = (8, 0)) (g2 : R a0 13 = some ((R a0 13).getD 0)) (g3 : T ((R a0 13).getD 0) = (32, (T ((R a0 13).getD 0)).2)) (g4 : (0 : Int) ≤ x1 ∧ x1 < ((T ((R a0 13).getD 0)).2 : Int) ∧ (T ((R a0 13).getD 0)).2 ≤ 3584) : XR sc d 113 194 [some (.ref a0), some (xw x1), o2] [] (T, z, xv V, J, R) = XR sc d 113 200 [some (.ref a0), some (xw x1), o2] [xw (V ((R a0 13).getD 0) x1.toNat)] (T, z, xv V, J, R) :=
  (st_aload_n f_113_194 rfl).trans ((st_getR f_113_195 e_113_45 (by decide) g1 g2).trans ((sw_iload_n f_113_198 rfl).trans (sw_iaload f_113_199 g3 g4)))
theorem bX7_part_200 {o0 o1 o2 : Option Value} {y0 : Int} : XR sc d 113 200 [o0, o1, o2] [xw y0] (T, z, xv V, J, R) = some (.inl (some (xw y0)), (T, z, xv V, J, R)) :=
  sw_ireturn f_113_200 mr_113
theorem bX7_part_201 {o2 : Option Value} {x1 : Int} {a0 : Nat} (g1 : T a0 = (8, 0)) (g2 : R a0 15 = some ((R a0 15).getD 0)) (g3 : T ((R a0 15).getD 0) = (32, (T ((R a0 15).getD 0)).2)) (g4 : (0 : Int) ≤ x1 ∧ x1 < ((T ((R a0 15).getD 0)).2 : Int) ∧ (T ((R a0 15).getD 0)).2 ≤ 3584) : XR sc d 113 201 [some (.ref a0), some (xw x1), o2] [] (T, z, xv V, J, R) = some (.inl (some (xw (V ((R a0 15).getD 0) x1.toNat))), (T, z, xv V, J, R)) :=
  (st_aload_n f_113_201 rfl).trans ((st_getR f_113_202 e_113_51 (by decide) g1 g2).trans ((sw_iload_n f_113_205 rfl).trans ((sw_iaload f_113_206 g3 g4).trans (sw_ireturn f_113_207 mr_113))))
theorem bX7_part_208 {o2 : Option Value} {x1 : Int} {a0 : Nat} (g1 : T a0 = (8, 0)) (g2 : R a0 12 = some ((R a0 12).getD 0)) (g3 : T ((R a0 12).getD 0) = (33, (T ((R a0 12).getD 0)).2)) (g4 : (0 : Int) ≤ x1 ∧ x1 < ((T ((R a0 12).getD 0)).2 : Int) ∧ (T ((R a0 12).getD 0)).2 ≤ 3584) (g5 : -2147483648 ≤ (V ((R a0 12).getD 0) x1.toNat) ∧ (V ((R a0 12).getD 0) x1.toNat) ≤ 2147483647) : XR sc d 113 208 [some (.ref a0), some (xw x1), o2] [] (T, z, xv V, J, R) = if (V ((R a0 12).getD 0) x1.toNat) = 0 then XR sc d 113 221 [some (.ref a0), some (xw x1), o2] [] (T, z, xv V, J, R) else XR sc d 113 217 [some (.ref a0), some (xw x1), o2] [] (T, z, xv V, J, R) :=
  (st_aload_n f_113_208 rfl).trans ((st_getR f_113_209 e_113_42 (by decide) g1 g2).trans ((sw_iload_n f_113_212 rfl).trans ((sw_baload f_113_213 g3 g4).trans (sw_if_eq (t := 221) f_113_214 ⟨by decide, rfl⟩ g5))))
theorem bX7_part_217 {o0 o1 o2 : Option Value} : XR sc d 113 217 [o0, o1, o2] [] (T, z, xv V, J, R) = XR sc d 113 222 [o0, o1, o2] [xw 1] (T, z, xv V, J, R) :=
  (sw_iconst f_113_217).trans (st_goto (t := 222) f_113_218 ⟨by decide, rfl⟩)
theorem bX7_part_221 {o0 o1 o2 : Option Value} : XR sc d 113 221 [o0, o1, o2] [] (T, z, xv V, J, R) = XR sc d 113 222 [o0, o1, o2] [xw 0] (T, z, xv V, J, R) :=
  sw_iconst f_113_221
theorem bX7_part_222 {o0 o1 o2 : Option Value} {y0 : Int} : XR sc d 113 222 [o0, o1, o2] [xw y0] (T, z, xv V, J, R) = some (.inl (some (xw y0)), (T, z, xv V, J, R)) :=
  sw_ireturn f_113_222 mr_113
theorem eX7_placeOf {x1 x2 : Int} {a0 : Nat} : X sc (d + 1) 114 [.ref a0, xw x1, xw x2] (T, z, xv V, J, R) = XR sc d 114 0 [some (.ref a0), some (xw x1), some (xw x2), none, none, none] [] (T, z, xv V, J, R) :=
  (X_eq ⟨jl_114, by rw [mn_114]; rfl, rfl, by rw [lm_114]; exact Nat.le_of_ble_eq_true rfl⟩).trans (by unfold xent; rw [lm_114]; rfl)
theorem bX7_placeOf_0 {o0 o1 o3 o4 o5 : Option Value} {x2 : Int} : XR sc d 114 0 [o0, o1, some (xw x2), o3, o4, o5] [] (T, z, xv V, J, R) = XR sc d 114 5 [o0, o1, some (xw x2), some (xw x2), some (xw 0), o5] [] (T, z, xv V, J, R) :=
  (sw_iload_n f_114_0 rfl).trans ((sw_istore_n (L' := [o0, o1, some (xw x2), some (xw x2), o4, o5]) f_114_1 (Nat.le_of_ble_eq_true rfl) rfl).trans ((sw_iconst f_114_2).trans (sw_istore (L' := [o0, o1, some (xw x2), some (xw x2), some (xw 0), o5]) f_114_3 (Nat.le_of_ble_eq_true rfl) rfl)))
theorem bX7_placeOf_5 {o2 o3 o5 : Option Value} {x4 x1 : Int} {a0 : Nat} (g1 : T a0 = (8, 0)) (g2 : R a0 4 = some ((R a0 4).getD 0)) (g3 : T ((R a0 4).getD 0) = (32, (T ((R a0 4).getD 0)).2)) (g4 : (0 : Int) ≤ x1 ∧ x1 < ((T ((R a0 4).getD 0)).2 : Int) ∧ (T ((R a0 4).getD 0)).2 ≤ 3584) (g5 : -2147483648 ≤ x4 ∧ x4 ≤ 2147483647) (g6 : -2147483648 ≤ (4 * (V ((R a0 4).getD 0) x1.toNat)) ∧ (4 * (V ((R a0 4).getD 0) x1.toNat)) ≤ 2147483647) : XR sc d 114 5 [some (.ref a0), some (xw x1), o2, o3, some (xw x4), o5] [] (T, z, xv V, J, R) = if (4 * (V ((R a0 4).getD 0) x1.toNat)) < x4 then XR sc d 114 72 [some (.ref a0), some (xw x1), o2, o3, some (xw x4), o5] [] (T, z, xv V, J, R) else XR sc d 114 18 [some (.ref a0), some (xw x1), o2, o3, some (xw x4), o5] [] (T, z, xv V, J, R) :=
  (sw_iload f_114_5 rfl).trans ((sw_iconst f_114_7).trans ((st_aload_n f_114_8 rfl).trans ((st_getR f_114_9 e_114_16 (by decide) g1 g2).trans ((sw_iload_n f_114_12 rfl).trans ((sw_iaload f_114_13 g3 g4).trans ((sw_imul f_114_14).trans (sw_icmp_gt (t := 72) f_114_15 ⟨by decide, rfl⟩ g5 g6)))))))
theorem bX7_placeOf_18 {o2 o3 o5 : Option Value} {x1 x4 : Int} {a0 : Nat} (g1 : T a0 = (8, 0)) (g2 : R a0 9 = some ((R a0 9).getD 0)) (g3 : T ((R a0 9).getD 0) = (34, (T ((R a0 9).getD 0)).2)) (g4 : (0 : Int) ≤ x1 ∧ x1 < ((T ((R a0 9).getD 0)).2 : Int) ∧ (T ((R a0 9).getD 0)).2 ≤ 3584) (g5 : -2147483648 ≤ (jCmp ((jShr (J ((R a0 9).getD 0) x1.toNat) x4) &&& (Int64.ofNat 1)) (Int64.ofNat 1)) ∧ (jCmp ((jShr (J ((R a0 9).getD 0) x1.toNat) x4) &&& (Int64.ofNat 1)) (Int64.ofNat 1)) ≤ 2147483647) : XR sc d 114 18 [some (.ref a0), some (xw x1), o2, o3, some (xw x4), o5] [] (T, z, xv V, J, R) = if (jCmp ((jShr (J ((R a0 9).getD 0) x1.toNat) x4) &&& (Int64.ofNat 1)) (Int64.ofNat 1)) = 0 then XR sc d 114 34 [some (.ref a0), some (xw x1), o2, o3, some (xw x4), o5] [] (T, z, xv V, J, R) else XR sc d 114 38 [some (.ref a0), some (xw x1), o2, o3, some (xw x4), o5] [] (T, z, xv V, J, R) :=
  (st_aload_n f_114_18 rfl).trans ((st_getR f_114_19 e_114_32 (by decide) g1 g2).trans ((sw_iload_n f_114_22 rfl).trans ((sw_laload f_114_23 g3 g4).trans ((sw_iload f_114_24 rfl).trans ((sw_lshr f_114_26).trans ((st_lconst f_114_27).trans ((st_land f_114_28).trans ((st_lconst f_114_29).trans ((sw_lcmp f_114_30).trans (sw_if_ne (t := 38) f_114_31 ⟨by decide, rfl⟩ g5))))))))))
theorem bX7_placeOf_34 {o0 o1 o2 o3 o4 o5 : Option Value} : XR sc d 114 34 [o0, o1, o2, o3, o4, o5] [] (T, z, xv V, J, R) = XR sc d 114 39 [o0, o1, o2, o3, o4, o5] [xw 1] (T, z, xv V, J, R) :=
  (sw_iconst f_114_34).trans (st_goto (t := 39) f_114_35 ⟨by decide, rfl⟩)
theorem bX7_placeOf_38 {o0 o1 o2 o3 o4 o5 : Option Value} : XR sc d 114 38 [o0, o1, o2, o3, o4, o5] [] (T, z, xv V, J, R) = XR sc d 114 39 [o0, o1, o2, o3, o4, o5] [xw 0] (T, z, xv V, J, R) :=
  sw_iconst f_114_38
theorem bX7_placeOf_39 {o0 o1 o2 o3 o4 o5 : Option Value} {y0 : Int} (g1 : -2147483648 ≤ y0 ∧ y0 ≤ 2147483647) : XR sc d 114 39 [o0, o1, o2, o3, o4, o5] [xw y0] (T, z, xv V, J, R) = if y0 = 0 then XR sc d 114 53 [o0, o1, o2, o3, o4, some (xw y0)] [] (T, z, xv V, J, R) else XR sc d 114 46 [o0, o1, o2, o3, o4, some (xw y0)] [] (T, z, xv V, J, R) :=
  (sw_istore (L' := [o0, o1, o2, o3, o4, some (xw y0)]) f_114_39 (Nat.le_of_ble_eq_true rfl) rfl).trans ((sw_iload f_114_41 rfl).trans (sw_if_eq (t := 53) f_114_43 ⟨by decide, rfl⟩ g1))
theorem bX7_placeOf_46 {o0 o1 o2 o4 o5 : Option Value} {x3 : Int} (g1 : -2147483648 ≤ x3 ∧ x3 ≤ 2147483647) : XR sc d 114 46 [o0, o1, o2, some (xw x3), o4, o5] [] (T, z, xv V, J, R) = if x3 = 0 then XR sc d 114 50 [o0, o1, o2, some (xw x3), o4, o5] [] (T, z, xv V, J, R) else XR sc d 114 53 [o0, o1, o2, some (xw x3), o4, o5] [] (T, z, xv V, J, R) :=
  (sw_iload_n f_114_46 rfl).trans (sw_if_ne (t := 53) f_114_47 ⟨by decide, rfl⟩ g1)
theorem bX7_placeOf_50 {o0 o1 o2 o3 o5 : Option Value} {x4 : Int} : XR sc d 114 50 [o0, o1, o2, o3, some (xw x4), o5] [] (T, z, xv V, J, R) = some (.inl (some (xw x4)), (T, z, xv V, J, R)) :=
  (sw_iload f_114_50 rfl).trans (sw_ireturn f_114_52 mr_114)
theorem bX7_placeOf_53 {o0 o1 o2 o4 : Option Value} {x3 x5 : Int} (g1 : -2147483648 ≤ x5 ∧ x5 ≤ 2147483647) : XR sc d 114 53 [o0, o1, o2, some (xw x3), o4, some (xw x5)] [] (T, z, xv V, J, R) = if x5 = 0 then XR sc d 114 63 [o0, o1, o2, some (xw x3), o4, some (xw x5)] [xw x3] (T, z, xv V, J, R) else XR sc d 114 59 [o0, o1, o2, some (xw x3), o4, some (xw x5)] [xw x3] (T, z, xv V, J, R) :=
  (sw_iload_n f_114_53 rfl).trans ((sw_iload f_114_54 rfl).trans (sw_if_eq (t := 63) f_114_56 ⟨by decide, rfl⟩ g1))
theorem bX7_placeOf_59 {o0 o1 o2 o3 o4 o5 : Option Value} {s0 : Value} : XR sc d 114 59 [o0, o1, o2, o3, o4, o5] [s0] (T, z, xv V, J, R) = XR sc d 114 64 [o0, o1, o2, o3, o4, o5] [xw 1, s0] (T, z, xv V, J, R) :=
  (sw_iconst f_114_59).trans (st_goto (t := 64) f_114_60 ⟨by decide, rfl⟩)
theorem bX7_placeOf_63 {o0 o1 o2 o3 o4 o5 : Option Value} {s0 : Value} : XR sc d 114 63 [o0, o1, o2, o3, o4, o5] [s0] (T, z, xv V, J, R) = XR sc d 114 64 [o0, o1, o2, o3, o4, o5] [xw 0, s0] (T, z, xv V, J, R) :=
  sw_iconst f_114_63
theorem bX7_placeOf_64 {o0 o1 o2 o3 o5 : Option Value} {y0 y1 x4 : Int} : XR sc d 114 64 [o0, o1, o2, o3, some (xw x4), o5] [xw y0, xw y1] (T, z, xv V, J, R) = XR sc d 114 5 [o0, o1, o2, some (xw (y1 - y0)), some (xw (x4 + 1)), o5] [] (T, z, xv V, J, R) :=
  (sw_isub f_114_64).trans ((sw_istore_n (L' := [o0, o1, o2, some (xw (y1 - y0)), some (xw x4), o5]) f_114_65 (Nat.le_of_ble_eq_true rfl) rfl).trans ((sw_iinc (L' := [o0, o1, o2, some (xw (y1 - y0)), some (xw (x4 + 1)), o5]) f_114_66 rfl (Nat.le_of_ble_eq_true rfl) rfl).trans (st_goto (t := 5) f_114_69 ⟨by decide, rfl⟩)))
theorem bX7_placeOf_72 {o0 o1 o2 o3 o4 o5 : Option Value} : XR sc d 114 72 [o0, o1, o2, o3, o4, o5] [] (T, z, xv V, J, R) = some (.inl (some (xw (-1))), (T, z, xv V, J, R)) :=
  (sw_iconst f_114_72).trans (sw_ireturn f_114_73 mr_114)
theorem eX7_frees {x1 : Int} {a0 : Nat} : X sc (d + 1) 115 [.ref a0, xw x1] (T, z, xv V, J, R) = XR sc d 115 0 [some (.ref a0), some (xw x1)] [] (T, z, xv V, J, R) :=
  (X_eq ⟨jl_115, by rw [mn_115]; rfl, rfl, by rw [lm_115]; exact Nat.le_of_ble_eq_true rfl⟩).trans (by unfold xent; rw [lm_115]; rfl)
theorem bX7_frees_0 {x1 : Int} {a0 : Nat} (g1 : T a0 = (8, 0)) (g2 : R a0 13 = some ((R a0 13).getD 0)) (g3 : T ((R a0 13).getD 0) = (32, (T ((R a0 13).getD 0)).2)) (g4 : (0 : Int) ≤ x1 ∧ x1 < ((T ((R a0 13).getD 0)).2 : Int) ∧ (T ((R a0 13).getD 0)).2 ≤ 3584) (g5 : R a0 14 = some ((R a0 14).getD 0)) (g6 : T ((R a0 14).getD 0) = (32, (T ((R a0 14).getD 0)).2)) (g7 : (0 : Int) ≤ x1 ∧ x1 < ((T ((R a0 14).getD 0)).2 : Int) ∧ (T ((R a0 14).getD 0)).2 ≤ 3584) (g8 : R a0 15 = some ((R a0 15).getD 0)) (g9 : T ((R a0 15).getD 0) = (32, (T ((R a0 15).getD 0)).2)) (g10 : (0 : Int) ≤ x1 ∧ x1 < ((T ((R a0 15).getD 0)).2 : Int) ∧ (T ((R a0 15).getD 0)).2 ≤ 3584) : XR sc d 115 0 [some (.ref a0), some (xw x1)] [] (T, z, xv V, J, R) = some (.inl none, (T, z, xv (xup2 (xup2 (xup2 V ((R a0 13).getD 0) x1.toNat (-1)) ((R a0 14).getD 0) x1.toNat (-1)) ((R a0 15).getD 0) x1.toNat (-1)), J, R)) :=
  (st_aload_n f_115_0 rfl).trans ((st_getR f_115_1 e_115_45 (by decide) g1 g2).trans ((sw_iload_n f_115_4 rfl).trans ((sw_iconst f_115_5).trans ((sw_iastore f_115_6 g3 g4).trans ((st_aload_n f_115_7 rfl).trans ((st_getR f_115_8 e_115_48 (by decide) g1 g5).trans ((sw_iload_n f_115_11 rfl).trans ((sw_iconst f_115_12).trans ((sw_iastore f_115_13 g6 g7).trans ((st_aload_n f_115_14 rfl).trans ((st_getR f_115_15 e_115_51 (by decide) g1 g8).trans ((sw_iload_n f_115_18 rfl).trans ((sw_iconst f_115_19).trans ((sw_iastore f_115_20 g9 g10).trans (st_return f_115_21 mr_115)))))))))))))))
theorem eX7_buckle {x1 x2 x3 x4 : Int} {a0 : Nat} : X sc (d + 1) 116 [.ref a0, xw x1, xw x2, xw x3, xw x4] (T, z, xv V, J, R) = XR sc d 116 0 [some (.ref a0), some (xw x1), some (xw x2), some (xw x3), some (xw x4), none, none] [] (T, z, xv V, J, R) :=
  (X_eq ⟨jl_116, by rw [mn_116]; rfl, rfl, by rw [lm_116]; exact Nat.le_of_ble_eq_true rfl⟩).trans (by unfold xent; rw [lm_116]; rfl)
theorem bX7_buckle_0 {o2 o3 o4 o5 o6 : Option Value} {x1 : Int} {a0 : Nat} (g1 : T a0 = (8, 0)) : XR sc d 116 0 [some (.ref a0), some (xw x1), o2, o3, o4, o5, o6] [] (T, z, xv V, J, R) = xret 116 (XR sc d 116) 2 5 [some (.ref a0), some (xw x1), o2, o3, o4, o5, o6] [] (X sc d 96 [.ref a0, xw x1] (T, z, xv V, J, R)) :=
  (st_aload_n f_116_0 rfl).trans ((sw_iload_n f_116_1 rfl).trans (st_callV' f_116_2 h_116_123 mn_96 rfl rfl rfl rfl mo_96 g1 rfl))
theorem bX7_buckle_5 {o0 o1 o2 o3 o4 o5 o6 : Option Value} {y0 : Int} (g1 : -2147483648 ≤ y0 ∧ y0 ≤ 2147483647) : XR sc d 116 5 [o0, o1, o2, o3, o4, o5, o6] [xw y0] (T, z, xv V, J, R) = if y0 = 0 then XR sc d 116 42 [o0, o1, o2, o3, o4, o5, o6] [] (T, z, xv V, J, R) else XR sc d 116 8 [o0, o1, o2, o3, o4, o5, o6] [] (T, z, xv V, J, R) :=
  sw_if_eq (t := 42) f_116_5 ⟨by decide, rfl⟩ g1
theorem bX7_buckle_8 {o0 o1 o3 o4 o5 o6 : Option Value} {x2 : Int} : XR sc d 116 8 [o0, o1, some (xw x2), o3, o4, o5, o6] [] (T, z, xv V, J, R) = xret 116 (XR sc d 116) 9 12 [o0, o1, some (xw x2), o3, o4, o5, o6] [] (X sc d 97 [xw x2] (T, z, xv V, J, R)) :=
  (sw_iload_n f_116_8 rfl).trans (st_callS' f_116_9 h_116_138 mn_97 rfl rfl rfl rfl)
theorem bX7_buckle_12 {o0 o1 o2 o3 o4 o5 o6 : Option Value} {y0 : Int} (g1 : -2147483648 ≤ y0 ∧ y0 ≤ 2147483647) : XR sc d 116 12 [o0, o1, o2, o3, o4, o5, o6] [xw y0] (T, z, xv V, J, R) = if y0 = 0 then XR sc d 116 42 [o0, o1, o2, o3, o4, o5, o6] [] (T, z, xv V, J, R) else XR sc d 116 15 [o0, o1, o2, o3, o4, o5, o6] [] (T, z, xv V, J, R) :=
  sw_if_eq (t := 42) f_116_12 ⟨by decide, rfl⟩ g1
theorem bX7_buckle_15 {o0 o1 o2 o4 o5 o6 : Option Value} {x3 : Int} : XR sc d 116 15 [o0, o1, o2, some (xw x3), o4, o5, o6] [] (T, z, xv V, J, R) = xret 116 (XR sc d 116) 16 19 [o0, o1, o2, some (xw x3), o4, o5, o6] [] (X sc d 97 [xw x3] (T, z, xv V, J, R)) :=
  (sw_iload_n f_116_15 rfl).trans (st_callS' f_116_16 h_116_138 mn_97 rfl rfl rfl rfl)
theorem bX7_buckle_19 {o0 o1 o2 o3 o4 o5 o6 : Option Value} {y0 : Int} (g1 : -2147483648 ≤ y0 ∧ y0 ≤ 2147483647) : XR sc d 116 19 [o0, o1, o2, o3, o4, o5, o6] [xw y0] (T, z, xv V, J, R) = if y0 = 0 then XR sc d 116 42 [o0, o1, o2, o3, o4, o5, o6] [] (T, z, xv V, J, R) else XR sc d 116 22 [o0, o1, o2, o3, o4, o5, o6] [] (T, z, xv V, J, R) :=
  sw_if_eq (t := 42) f_116_19 ⟨by decide, rfl⟩ g1
theorem bX7_buckle_22 {o0 o1 o2 o3 o5 o6 : Option Value} {x4 : Int} (g1 : -2147483648 ≤ x4 ∧ x4 ≤ 2147483647) : XR sc d 116 22 [o0, o1, o2, o3, some (xw x4), o5, o6] [] (T, z, xv V, J, R) = if x4 < 0 then XR sc d 116 42 [o0, o1, o2, o3, some (xw x4), o5, o6] [] (T, z, xv V, J, R) else XR sc d 116 27 [o0, o1, o2, o3, some (xw x4), o5, o6] [] (T, z, xv V, J, R) :=
  (sw_iload f_116_22 rfl).trans (sw_if_lt (t := 42) f_116_24 ⟨by decide, rfl⟩ g1)
theorem bX7_buckle_27 {o2 o3 o5 o6 : Option Value} {x1 x4 : Int} {a0 : Nat} (g1 : T a0 = (8, 0)) : XR sc d 116 27 [some (.ref a0), some (xw x1), o2, o3, some (xw x4), o5, o6] [] (T, z, xv V, J, R) = xret 116 (XR sc d 116) 31 34 [some (.ref a0), some (xw x1), o2, o3, some (xw x4), o5, o6] [] (X sc d 114 [.ref a0, xw x1, xw x4] (T, z, xv V, J, R)) :=
  (st_aload_n f_116_27 rfl).trans ((sw_iload_n f_116_28 rfl).trans ((sw_iload f_116_29 rfl).trans (st_callV' f_116_31 h_116_141 mn_114 rfl rfl rfl rfl mo_114 g1 rfl)))
theorem bX7_buckle_34 {o0 o1 o2 o3 o4 o5 o6 : Option Value} {y0 : Int} (g1 : -2147483648 ≤ y0 ∧ y0 ≤ 2147483647) : XR sc d 116 34 [o0, o1, o2, o3, o4, o5, o6] [xw y0] (T, z, xv V, J, R) = if y0 = (-1) then XR sc d 116 42 [o0, o1, o2, o3, o4, o5, o6] [] (T, z, xv V, J, R) else XR sc d 116 38 [o0, o1, o2, o3, o4, o5, o6] [] (T, z, xv V, J, R) :=
  (sw_iconst f_116_34).trans (sw_icmp_eq (t := 42) f_116_35 ⟨by decide, rfl⟩ g1 ⟨by decide, by decide⟩)
theorem bX7_buckle_38 {o0 o1 o2 o3 o4 o5 o6 : Option Value} : XR sc d 116 38 [o0, o1, o2, o3, o4, o5, o6] [] (T, z, xv V, J, R) = XR sc d 116 43 [o0, o1, o2, o3, o4, o5, o6] [xw 1] (T, z, xv V, J, R) :=
  (sw_iconst f_116_38).trans (st_goto (t := 43) f_116_39 ⟨by decide, rfl⟩)
theorem bX7_buckle_42 {o0 o1 o2 o3 o4 o5 o6 : Option Value} : XR sc d 116 42 [o0, o1, o2, o3, o4, o5, o6] [] (T, z, xv V, J, R) = XR sc d 116 43 [o0, o1, o2, o3, o4, o5, o6] [xw 0] (T, z, xv V, J, R) :=
  sw_iconst f_116_42
theorem bX7_buckle_43 {o0 o1 o2 o3 o4 o5 o6 : Option Value} {y0 : Int} (g1 : -2147483648 ≤ y0 ∧ y0 ≤ 2147483647) : XR sc d 116 43 [o0, o1, o2, o3, o4, o5, o6] [xw y0] (T, z, xv V, J, R) = if y0 = 0 then XR sc d 116 80 [o0, o1, o2, o3, o4, some (xw y0), o6] [] (T, z, xv V, J, R) else XR sc d 116 50 [o0, o1, o2, o3, o4, some (xw y0), o6] [] (T, z, xv V, J, R) :=
  (sw_istore (L' := [o0, o1, o2, o3, o4, some (xw y0), o6]) f_116_43 (Nat.le_of_ble_eq_true rfl) rfl).trans ((sw_iload f_116_45 rfl).trans (sw_if_eq (t := 80) f_116_47 ⟨by decide, rfl⟩ g1))
theorem bX7_buckle_50 {o2 o3 o4 o5 o6 : Option Value} {x1 : Int} {a0 : Nat} (g1 : T a0 = (8, 0)) (g2 : R a0 8 = some ((R a0 8).getD 0)) (g3 : T ((R a0 8).getD 0) = (33, (T ((R a0 8).getD 0)).2)) (g4 : (0 : Int) ≤ x1 ∧ x1 < ((T ((R a0 8).getD 0)).2 : Int) ∧ (T ((R a0 8).getD 0)).2 ≤ 3584) (g5 : -2147483648 ≤ (V ((R a0 8).getD 0) x1.toNat) ∧ (V ((R a0 8).getD 0) x1.toNat) ≤ 2147483647) : XR sc d 116 50 [some (.ref a0), some (xw x1), o2, o3, o4, o5, o6] [] (T, z, xv V, J, R) = if (V ((R a0 8).getD 0) x1.toNat) = 0 then XR sc d 116 80 [some (.ref a0), some (xw x1), o2, o3, o4, o5, o6] [] (T, z, xv V, J, R) else XR sc d 116 59 [some (.ref a0), some (xw x1), o2, o3, o4, o5, o6] [] (T, z, xv V, J, R) :=
  (st_aload_n f_116_50 rfl).trans ((st_getR f_116_51 e_116_28 (by decide) g1 g2).trans ((sw_iload_n f_116_54 rfl).trans ((sw_baload f_116_55 g3 g4).trans (sw_if_eq (t := 80) f_116_56 ⟨by decide, rfl⟩ g5))))
theorem bX7_buckle_59 {o2 o3 o4 o5 o6 : Option Value} {x1 : Int} {a0 : Nat} (g1 : T a0 = (8, 0)) : XR sc d 116 59 [some (.ref a0), some (xw x1), o2, o3, o4, o5, o6] [] (T, z, xv V, J, R) = xret 116 (XR sc d 116) 61 64 [some (.ref a0), some (xw x1), o2, o3, o4, o5, o6] [] (X sc d 108 [.ref a0, xw x1] (T, z, xv V, J, R)) :=
  (st_aload_n f_116_59 rfl).trans ((sw_iload_n f_116_60 rfl).trans (st_callV' f_116_61 h_116_128 mn_108 rfl rfl rfl rfl mo_108 g1 rfl))
theorem bX7_buckle_64 {o0 o1 o2 o3 o4 o5 o6 : Option Value} {y0 : Int} (g1 : -2147483648 ≤ y0 ∧ y0 ≤ 2147483647) : XR sc d 116 64 [o0, o1, o2, o3, o4, o5, o6] [xw y0] (T, z, xv V, J, R) = if y0 = 0 then XR sc d 116 67 [o0, o1, o2, o3, o4, o5, o6] [] (T, z, xv V, J, R) else XR sc d 116 80 [o0, o1, o2, o3, o4, o5, o6] [] (T, z, xv V, J, R) :=
  sw_if_ne (t := 80) f_116_64 ⟨by decide, rfl⟩ g1
theorem bX7_buckle_67 {o2 o3 o4 o5 o6 : Option Value} {x1 : Int} {a0 : Nat} (g1 : T a0 = (8, 0)) (g2 : R a0 12 = some ((R a0 12).getD 0)) (g3 : T ((R a0 12).getD 0) = (33, (T ((R a0 12).getD 0)).2)) (g4 : (0 : Int) ≤ x1 ∧ x1 < ((T ((R a0 12).getD 0)).2 : Int) ∧ (T ((R a0 12).getD 0)).2 ≤ 3584) (g5 : -2147483648 ≤ (V ((R a0 12).getD 0) x1.toNat) ∧ (V ((R a0 12).getD 0) x1.toNat) ≤ 2147483647) : XR sc d 116 67 [some (.ref a0), some (xw x1), o2, o3, o4, o5, o6] [] (T, z, xv V, J, R) = if (V ((R a0 12).getD 0) x1.toNat) = 0 then XR sc d 116 76 [some (.ref a0), some (xw x1), o2, o3, o4, o5, o6] [] (T, z, xv V, J, R) else XR sc d 116 80 [some (.ref a0), some (xw x1), o2, o3, o4, o5, o6] [] (T, z, xv V, J, R) :=
  (st_aload_n f_116_67 rfl).trans ((st_getR f_116_68 e_116_42 (by decide) g1 g2).trans ((sw_iload_n f_116_71 rfl).trans ((sw_baload f_116_72 g3 g4).trans (sw_if_ne (t := 80) f_116_73 ⟨by decide, rfl⟩ g5))))
theorem bX7_buckle_76 {o0 o1 o2 o3 o4 o5 o6 : Option Value} : XR sc d 116 76 [o0, o1, o2, o3, o4, o5, o6] [] (T, z, xv V, J, R) = XR sc d 116 81 [o0, o1, o2, o3, o4, o5, o6] [xw 1] (T, z, xv V, J, R) :=
  (sw_iconst f_116_76).trans (st_goto (t := 81) f_116_77 ⟨by decide, rfl⟩)
theorem bX7_buckle_80 {o0 o1 o2 o3 o4 o5 o6 : Option Value} : XR sc d 116 80 [o0, o1, o2, o3, o4, o5, o6] [] (T, z, xv V, J, R) = XR sc d 116 81 [o0, o1, o2, o3, o4, o5, o6] [xw 0] (T, z, xv V, J, R) :=
  sw_iconst f_116_80
theorem bX7_buckle_81 {o1 o2 o3 o4 o6 : Option Value} {y0 x5 : Int} {a0 : Nat} (g1 : -2147483648 ≤ x5 ∧ x5 ≤ 2147483647) : XR sc d 116 81 [some (.ref a0), o1, o2, o3, o4, some (xw x5), o6] [xw y0] (T, z, xv V, J, R) = if x5 = 0 then XR sc d 116 89 [some (.ref a0), o1, o2, o3, o4, some (xw x5), some (xw y0)] [.ref a0] (T, z, xv V, J, R) else XR sc d 116 93 [some (.ref a0), o1, o2, o3, o4, some (xw x5), some (xw y0)] [.ref a0] (T, z, xv V, J, R) :=
  (sw_istore (L' := [some (.ref a0), o1, o2, o3, o4, some (xw x5), some (xw y0)]) f_116_81 (Nat.le_of_ble_eq_true rfl) rfl).trans ((st_aload_n f_116_83 rfl).trans ((sw_iload f_116_84 rfl).trans (sw_if_ne (t := 93) f_116_86 ⟨by decide, rfl⟩ g1)))
theorem bX7_buckle_89 {o0 o1 o2 o3 o4 o5 o6 : Option Value} {s0 : Value} : XR sc d 116 89 [o0, o1, o2, o3, o4, o5, o6] [s0] (T, z, xv V, J, R) = XR sc d 116 112 [o0, o1, o2, o3, o4, o5, o6] [xw 1, s0] (T, z, xv V, J, R) :=
  (sw_iconst f_116_89).trans (st_goto (t := 112) f_116_90 ⟨by decide, rfl⟩)
theorem bX7_buckle_93 {o0 o1 o4 o5 o6 : Option Value} {s0 : Value} {x2 x3 : Int} (g1 : -2147483648 ≤ x2 ∧ x2 ≤ 2147483647) (g2 : -2147483648 ≤ x3 ∧ x3 ≤ 2147483647) : XR sc d 116 93 [o0, o1, some (xw x2), some (xw x3), o4, o5, o6] [s0] (T, z, xv V, J, R) = if x2 = x3 then XR sc d 116 98 [o0, o1, some (xw x2), some (xw x3), o4, o5, o6] [s0] (T, z, xv V, J, R) else XR sc d 116 102 [o0, o1, some (xw x2), some (xw x3), o4, o5, o6] [s0] (T, z, xv V, J, R) :=
  (sw_iload_n f_116_93 rfl).trans ((sw_iload_n f_116_94 rfl).trans (sw_icmp_ne (t := 102) f_116_95 ⟨by decide, rfl⟩ g1 g2))
theorem bX7_buckle_98 {o0 o1 o2 o3 o4 o5 o6 : Option Value} {s0 : Value} : XR sc d 116 98 [o0, o1, o2, o3, o4, o5, o6] [s0] (T, z, xv V, J, R) = XR sc d 116 112 [o0, o1, o2, o3, o4, o5, o6] [xw 2, s0] (T, z, xv V, J, R) :=
  (sw_iconst f_116_98).trans (st_goto (t := 112) f_116_99 ⟨by decide, rfl⟩)
theorem bX7_buckle_102 {o0 o1 o2 o3 o4 o5 : Option Value} {s0 : Value} {x6 : Int} (g1 : -2147483648 ≤ x6 ∧ x6 ≤ 2147483647) : XR sc d 116 102 [o0, o1, o2, o3, o4, o5, some (xw x6)] [s0] (T, z, xv V, J, R) = if x6 = 0 then XR sc d 116 111 [o0, o1, o2, o3, o4, o5, some (xw x6)] [s0] (T, z, xv V, J, R) else XR sc d 116 107 [o0, o1, o2, o3, o4, o5, some (xw x6)] [s0] (T, z, xv V, J, R) :=
  (sw_iload f_116_102 rfl).trans (sw_if_eq (t := 111) f_116_104 ⟨by decide, rfl⟩ g1)
theorem bX7_buckle_107 {o0 o1 o2 o3 o4 o5 o6 : Option Value} {s0 : Value} : XR sc d 116 107 [o0, o1, o2, o3, o4, o5, o6] [s0] (T, z, xv V, J, R) = XR sc d 116 112 [o0, o1, o2, o3, o4, o5, o6] [xw 0, s0] (T, z, xv V, J, R) :=
  (sw_iconst f_116_107).trans (st_goto (t := 112) f_116_108 ⟨by decide, rfl⟩)
theorem bX7_buckle_111 {o0 o1 o2 o3 o4 o5 o6 : Option Value} {s0 : Value} : XR sc d 116 111 [o0, o1, o2, o3, o4, o5, o6] [s0] (T, z, xv V, J, R) = XR sc d 116 112 [o0, o1, o2, o3, o4, o5, o6] [xw 3, s0] (T, z, xv V, J, R) :=
  sw_iconst f_116_111
theorem bX7_buckle_112 {o0 o1 o2 o3 o4 o5 o6 : Option Value} {y0 : Int} {b1 : Nat} (g1 : T b1 = (8, 0)) : XR sc d 116 112 [o0, o1, o2, o3, o4, o5, o6] [xw y0, .ref b1] (T, z, xv V, J, R) = xret 116 (XR sc d 116) 112 115 [o0, o1, o2, o3, o4, o5, o6] [] (X sc d 93 [.ref b1, xw y0] (T, z, xv V, J, R)) :=
  st_callV' f_116_112 h_116_98 mn_93 rfl rfl rfl rfl mo_93 g1 rfl
theorem bX7_buckle_115 {o0 o1 o2 o3 o4 o5 o6 : Option Value} {y0 : Int} (g1 : -2147483648 ≤ y0 ∧ y0 ≤ 2147483647) : XR sc d 116 115 [o0, o1, o2, o3, o4, o5, o6] [xw y0] (T, z, xv V, J, R) = if y0 = 0 then XR sc d 116 120 [o0, o1, o2, o3, o4, o5, o6] [] (T, z, xv V, J, R) else XR sc d 116 118 [o0, o1, o2, o3, o4, o5, o6] [] (T, z, xv V, J, R) :=
  sw_if_eq (t := 120) f_116_115 ⟨by decide, rfl⟩ g1
theorem bX7_buckle_118 {o0 o1 o2 o3 o4 o5 o6 : Option Value} : XR sc d 116 118 [o0, o1, o2, o3, o4, o5, o6] [] (T, z, xv V, J, R) = some (.inl (some (xw 0)), (T, z, xv V, J, R)) :=
  (sw_iconst f_116_118).trans (sw_ireturn f_116_119 mr_116)
theorem bX7_buckle_120 {o5 o6 : Option Value} {x1 x2 x3 x4 : Int} {a0 : Nat} (g1 : T a0 = (8, 0)) (g2 : R a0 13 = some ((R a0 13).getD 0)) (g3 : T ((R a0 13).getD 0) = (32, (T ((R a0 13).getD 0)).2)) (g4 : (0 : Int) ≤ x1 ∧ x1 < ((T ((R a0 13).getD 0)).2 : Int) ∧ (T ((R a0 13).getD 0)).2 ≤ 3584) (g5 : R a0 14 = some ((R a0 14).getD 0)) (g6 : T ((R a0 14).getD 0) = (32, (T ((R a0 14).getD 0)).2)) (g7 : (0 : Int) ≤ x1 ∧ x1 < ((T ((R a0 14).getD 0)).2 : Int) ∧ (T ((R a0 14).getD 0)).2 ≤ 3584) (g8 : R a0 15 = some ((R a0 15).getD 0)) : XR sc d 116 120 [some (.ref a0), some (xw x1), some (xw x2), some (xw x3), some (xw x4), o5, o6] [] (T, z, xv V, J, R) = xret 116 (XR sc d 116) 143 146 [some (.ref a0), some (xw x1), some (xw x2), some (xw x3), some (xw x4), o5, o6] [xw x1, .ref ((R a0 15).getD 0)] (X sc d 114 [.ref a0, xw x1, xw x4] (T, z, xv (xup2 (xup2 V ((R a0 13).getD 0) x1.toNat x2) ((R a0 14).getD 0) x1.toNat x3), J, R)) :=
  (st_aload_n f_116_120 rfl).trans ((st_getR f_116_121 e_116_45 (by decide) g1 g2).trans ((sw_iload_n f_116_124 rfl).trans ((sw_iload_n f_116_125 rfl).trans ((sw_iastore f_116_126 g3 g4).trans ((st_aload_n f_116_127 rfl).trans ((st_getR f_116_128 e_116_48 (by decide) g1 g5).trans ((sw_iload_n f_116_131 rfl).trans ((sw_iload_n f_116_132 rfl).trans ((sw_iastore f_116_133 g6 g7).trans ((st_aload_n f_116_134 rfl).trans ((st_getR f_116_135 e_116_51 (by decide) g1 g8).trans ((sw_iload_n f_116_138 rfl).trans ((st_aload_n f_116_139 rfl).trans ((sw_iload_n f_116_140 rfl).trans ((sw_iload f_116_141 rfl).trans (st_callV' f_116_143 h_116_141 mn_114 rfl rfl rfl rfl mo_114 g1 rfl))))))))))))))))
theorem bX7_buckle_146 {o2 o3 o4 o5 o6 : Option Value} {y0 y1 x1 : Int} {b2 a0 : Nat} (g1 : T b2 = (32, (T b2).2)) (g2 : (0 : Int) ≤ y1 ∧ y1 < ((T b2).2 : Int) ∧ (T b2).2 ≤ 3584) (g3 : T a0 = (8, 0)) (g4 : R a0 15 = some ((R a0 15).getD 0)) (g5 : T ((R a0 15).getD 0) = (32, (T ((R a0 15).getD 0)).2)) (g6 : (0 : Int) ≤ x1 ∧ x1 < ((T ((R a0 15).getD 0)).2 : Int) ∧ (T ((R a0 15).getD 0)).2 ≤ 3584) : XR sc d 116 146 [some (.ref a0), some (xw x1), o2, o3, o4, o5, o6] [xw y0, xw y1, .ref b2] (T, z, xv V, J, R) = some (.inl (some (xw ((xup2 V b2 y1.toNat y0) ((R a0 15).getD 0) x1.toNat))), (T, z, xv (xup2 V b2 y1.toNat y0), J, R)) :=
  (sw_iastore f_116_146 g1 g2).trans ((st_aload_n f_116_147 rfl).trans ((st_getR f_116_148 e_116_51 (by decide) g3 g4).trans ((sw_iload_n f_116_151 rfl).trans ((sw_iaload f_116_152 g5 g6).trans (sw_ireturn f_116_153 mr_116)))))
theorem eX7_unbuckle {x1 : Int} {a0 : Nat} : X sc (d + 1) 117 [.ref a0, xw x1] (T, z, xv V, J, R) = XR sc d 117 0 [some (.ref a0), some (xw x1), none] [] (T, z, xv V, J, R) :=
  (X_eq ⟨jl_117, by rw [mn_117]; rfl, rfl, by rw [lm_117]; exact Nat.le_of_ble_eq_true rfl⟩).trans (by unfold xent; rw [lm_117]; rfl)
theorem bX7_unbuckle_0 {o2 : Option Value} {x1 : Int} {a0 : Nat} (g1 : T a0 = (8, 0)) : XR sc d 117 0 [some (.ref a0), some (xw x1), o2] [] (T, z, xv V, J, R) = xret 117 (XR sc d 117) 3 6 [some (.ref a0), some (xw x1), o2] [.ref a0] (X sc d 96 [.ref a0, xw x1] (T, z, xv V, J, R)) :=
  (st_aload_n f_117_0 rfl).trans ((st_aload_n f_117_1 rfl).trans ((sw_iload_n f_117_2 rfl).trans (st_callV' f_117_3 h_117_123 mn_96 rfl rfl rfl rfl mo_96 g1 rfl)))
theorem bX7_unbuckle_6 {o0 o1 o2 : Option Value} {s1 : Value} {y0 : Int} (g1 : -2147483648 ≤ y0 ∧ y0 ≤ 2147483647) : XR sc d 117 6 [o0, o1, o2] [xw y0, s1] (T, z, xv V, J, R) = if y0 = 0 then XR sc d 117 9 [o0, o1, o2] [s1] (T, z, xv V, J, R) else XR sc d 117 13 [o0, o1, o2] [s1] (T, z, xv V, J, R) :=
  sw_if_ne (t := 13) f_117_6 ⟨by decide, rfl⟩ g1
theorem bX7_unbuckle_9 {o0 o1 o2 : Option Value} {s0 : Value} : XR sc d 117 9 [o0, o1, o2] [s0] (T, z, xv V, J, R) = XR sc d 117 26 [o0, o1, o2] [xw 1, s0] (T, z, xv V, J, R) :=
  (sw_iconst f_117_9).trans (st_goto (t := 26) f_117_10 ⟨by decide, rfl⟩)
theorem bX7_unbuckle_13 {o2 : Option Value} {s0 : Value} {x1 : Int} {a0 : Nat} (g1 : T a0 = (8, 0)) : XR sc d 117 13 [some (.ref a0), some (xw x1), o2] [s0] (T, z, xv V, J, R) = xret 117 (XR sc d 117) 15 18 [some (.ref a0), some (xw x1), o2] [s0] (X sc d 108 [.ref a0, xw x1] (T, z, xv V, J, R)) :=
  (st_aload_n f_117_13 rfl).trans ((sw_iload_n f_117_14 rfl).trans (st_callV' f_117_15 h_117_128 mn_108 rfl rfl rfl rfl mo_108 g1 rfl))
theorem bX7_unbuckle_18 {o0 o1 o2 : Option Value} {s1 : Value} {y0 : Int} (g1 : -2147483648 ≤ y0 ∧ y0 ≤ 2147483647) : XR sc d 117 18 [o0, o1, o2] [xw y0, s1] (T, z, xv V, J, R) = if y0 = 0 then XR sc d 117 25 [o0, o1, o2] [s1] (T, z, xv V, J, R) else XR sc d 117 21 [o0, o1, o2] [s1] (T, z, xv V, J, R) :=
  sw_if_eq (t := 25) f_117_18 ⟨by decide, rfl⟩ g1
theorem bX7_unbuckle_21 {o0 o1 o2 : Option Value} {s0 : Value} : XR sc d 117 21 [o0, o1, o2] [s0] (T, z, xv V, J, R) = XR sc d 117 26 [o0, o1, o2] [xw 0, s0] (T, z, xv V, J, R) :=
  (sw_iconst f_117_21).trans (st_goto (t := 26) f_117_22 ⟨by decide, rfl⟩)
theorem bX7_unbuckle_25 {o0 o1 o2 : Option Value} {s0 : Value} : XR sc d 117 25 [o0, o1, o2] [s0] (T, z, xv V, J, R) = XR sc d 117 26 [o0, o1, o2] [xw 2, s0] (T, z, xv V, J, R) :=
  sw_iconst f_117_25
theorem bX7_unbuckle_26 {o0 o1 o2 : Option Value} {y0 : Int} {b1 : Nat} (g1 : T b1 = (8, 0)) : XR sc d 117 26 [o0, o1, o2] [xw y0, .ref b1] (T, z, xv V, J, R) = xret 117 (XR sc d 117) 26 29 [o0, o1, o2] [] (X sc d 93 [.ref b1, xw y0] (T, z, xv V, J, R)) :=
  st_callV' f_117_26 h_117_98 mn_93 rfl rfl rfl rfl mo_93 g1 rfl
theorem bX7_unbuckle_29 {o0 o1 o2 : Option Value} {y0 : Int} (g1 : -2147483648 ≤ y0 ∧ y0 ≤ 2147483647) : XR sc d 117 29 [o0, o1, o2] [xw y0] (T, z, xv V, J, R) = if y0 = 0 then XR sc d 117 34 [o0, o1, o2] [] (T, z, xv V, J, R) else XR sc d 117 32 [o0, o1, o2] [] (T, z, xv V, J, R) :=
  sw_if_eq (t := 34) f_117_29 ⟨by decide, rfl⟩ g1
theorem bX7_unbuckle_32 {o0 o1 o2 : Option Value} : XR sc d 117 32 [o0, o1, o2] [] (T, z, xv V, J, R) = some (.inl (some (xw 0)), (T, z, xv V, J, R)) :=
  (sw_iconst f_117_32).trans (sw_ireturn f_117_33 mr_117)
theorem bX7_unbuckle_34 {o2 : Option Value} {x1 : Int} {a0 : Nat} (g1 : T a0 = (8, 0)) (g2 : R a0 15 = some ((R a0 15).getD 0)) (g3 : T ((R a0 15).getD 0) = (32, (T ((R a0 15).getD 0)).2)) (g4 : (0 : Int) ≤ x1 ∧ x1 < ((T ((R a0 15).getD 0)).2 : Int) ∧ (T ((R a0 15).getD 0)).2 ≤ 3584) : XR sc d 117 34 [some (.ref a0), some (xw x1), o2] [] (T, z, xv V, J, R) = xret 117 (XR sc d 117) 43 46 [some (.ref a0), some (xw x1), some (xw (V ((R a0 15).getD 0) x1.toNat))] [] (X sc d 115 [.ref a0, xw x1] (T, z, xv V, J, R)) :=
  (st_aload_n f_117_34 rfl).trans ((st_getR f_117_35 e_117_51 (by decide) g1 g2).trans ((sw_iload_n f_117_38 rfl).trans ((sw_iaload f_117_39 g3 g4).trans ((sw_istore_n (L' := [some (.ref a0), some (xw x1), some (xw (V ((R a0 15).getD 0) x1.toNat))]) f_117_40 (Nat.le_of_ble_eq_true rfl) rfl).trans ((st_aload_n f_117_41 rfl).trans ((sw_iload_n f_117_42 rfl).trans (st_callV' f_117_43 h_117_145 mn_115 rfl rfl rfl rfl mo_115 g1 rfl)))))))
theorem bX7_unbuckle_46 {o0 o1 : Option Value} {x2 : Int} : XR sc d 117 46 [o0, o1, some (xw x2)] [] (T, z, xv V, J, R) = some (.inl (some (xw x2)), (T, z, xv V, J, R)) :=
  (sw_iload_n f_117_46 rfl).trans (sw_ireturn f_117_47 mr_117)
theorem eX7_joins {x1 x2 x3 : Int} {a0 : Nat} : X sc (d + 1) 118 [.ref a0, xw x1, xw x2, xw x3] (T, z, xv V, J, R) = XR sc d 118 0 [some (.ref a0), some (xw x1), some (xw x2), some (xw x3)] [] (T, z, xv V, J, R) :=
  (X_eq ⟨jl_118, by rw [mn_118]; rfl, rfl, by rw [lm_118]; exact Nat.le_of_ble_eq_true rfl⟩).trans (by unfold xent; rw [lm_118]; rfl)
theorem bX7_joins_0 {o3 : Option Value} {x1 x2 : Int} {a0 : Nat} (g1 : T a0 = (8, 0)) (g2 : R a0 13 = some ((R a0 13).getD 0)) (g3 : T ((R a0 13).getD 0) = (32, (T ((R a0 13).getD 0)).2)) (g4 : (0 : Int) ≤ x1 ∧ x1 < ((T ((R a0 13).getD 0)).2 : Int) ∧ (T ((R a0 13).getD 0)).2 ≤ 3584) (g5 : -2147483648 ≤ (V ((R a0 13).getD 0) x1.toNat) ∧ (V ((R a0 13).getD 0) x1.toNat) ≤ 2147483647) (g6 : -2147483648 ≤ x2 ∧ x2 ≤ 2147483647) : XR sc d 118 0 [some (.ref a0), some (xw x1), some (xw x2), o3] [] (T, z, xv V, J, R) = if (V ((R a0 13).getD 0) x1.toNat) = x2 then XR sc d 118 10 [some (.ref a0), some (xw x1), some (xw x2), o3] [] (T, z, xv V, J, R) else XR sc d 118 20 [some (.ref a0), some (xw x1), some (xw x2), o3] [] (T, z, xv V, J, R) :=
  (st_aload_n f_118_0 rfl).trans ((st_getR f_118_1 e_118_45 (by decide) g1 g2).trans ((sw_iload_n f_118_4 rfl).trans ((sw_iaload f_118_5 g3 g4).trans ((sw_iload_n f_118_6 rfl).trans (sw_icmp_ne (t := 20) f_118_7 ⟨by decide, rfl⟩ g5 g6)))))
theorem bX7_joins_10 {o2 : Option Value} {x1 x3 : Int} {a0 : Nat} (g1 : T a0 = (8, 0)) (g2 : R a0 14 = some ((R a0 14).getD 0)) (g3 : T ((R a0 14).getD 0) = (32, (T ((R a0 14).getD 0)).2)) (g4 : (0 : Int) ≤ x1 ∧ x1 < ((T ((R a0 14).getD 0)).2 : Int) ∧ (T ((R a0 14).getD 0)).2 ≤ 3584) (g5 : -2147483648 ≤ (V ((R a0 14).getD 0) x1.toNat) ∧ (V ((R a0 14).getD 0) x1.toNat) ≤ 2147483647) (g6 : -2147483648 ≤ x3 ∧ x3 ≤ 2147483647) : XR sc d 118 10 [some (.ref a0), some (xw x1), o2, some (xw x3)] [] (T, z, xv V, J, R) = if (V ((R a0 14).getD 0) x1.toNat) = x3 then XR sc d 118 40 [some (.ref a0), some (xw x1), o2, some (xw x3)] [] (T, z, xv V, J, R) else XR sc d 118 20 [some (.ref a0), some (xw x1), o2, some (xw x3)] [] (T, z, xv V, J, R) :=
  (st_aload_n f_118_10 rfl).trans ((st_getR f_118_11 e_118_48 (by decide) g1 g2).trans ((sw_iload_n f_118_14 rfl).trans ((sw_iaload f_118_15 g3 g4).trans ((sw_iload_n f_118_16 rfl).trans (sw_icmp_eq (t := 40) f_118_17 ⟨by decide, rfl⟩ g5 g6)))))
theorem bX7_joins_20 {o2 : Option Value} {x1 x3 : Int} {a0 : Nat} (g1 : T a0 = (8, 0)) (g2 : R a0 13 = some ((R a0 13).getD 0)) (g3 : T ((R a0 13).getD 0) = (32, (T ((R a0 13).getD 0)).2)) (g4 : (0 : Int) ≤ x1 ∧ x1 < ((T ((R a0 13).getD 0)).2 : Int) ∧ (T ((R a0 13).getD 0)).2 ≤ 3584) (g5 : -2147483648 ≤ (V ((R a0 13).getD 0) x1.toNat) ∧ (V ((R a0 13).getD 0) x1.toNat) ≤ 2147483647) (g6 : -2147483648 ≤ x3 ∧ x3 ≤ 2147483647) : XR sc d 118 20 [some (.ref a0), some (xw x1), o2, some (xw x3)] [] (T, z, xv V, J, R) = if (V ((R a0 13).getD 0) x1.toNat) = x3 then XR sc d 118 30 [some (.ref a0), some (xw x1), o2, some (xw x3)] [] (T, z, xv V, J, R) else XR sc d 118 44 [some (.ref a0), some (xw x1), o2, some (xw x3)] [] (T, z, xv V, J, R) :=
  (st_aload_n f_118_20 rfl).trans ((st_getR f_118_21 e_118_45 (by decide) g1 g2).trans ((sw_iload_n f_118_24 rfl).trans ((sw_iaload f_118_25 g3 g4).trans ((sw_iload_n f_118_26 rfl).trans (sw_icmp_ne (t := 44) f_118_27 ⟨by decide, rfl⟩ g5 g6)))))
theorem bX7_joins_30 {o3 : Option Value} {x1 x2 : Int} {a0 : Nat} (g1 : T a0 = (8, 0)) (g2 : R a0 14 = some ((R a0 14).getD 0)) (g3 : T ((R a0 14).getD 0) = (32, (T ((R a0 14).getD 0)).2)) (g4 : (0 : Int) ≤ x1 ∧ x1 < ((T ((R a0 14).getD 0)).2 : Int) ∧ (T ((R a0 14).getD 0)).2 ≤ 3584) (g5 : -2147483648 ≤ (V ((R a0 14).getD 0) x1.toNat) ∧ (V ((R a0 14).getD 0) x1.toNat) ≤ 2147483647) (g6 : -2147483648 ≤ x2 ∧ x2 ≤ 2147483647) : XR sc d 118 30 [some (.ref a0), some (xw x1), some (xw x2), o3] [] (T, z, xv V, J, R) = if (V ((R a0 14).getD 0) x1.toNat) = x2 then XR sc d 118 40 [some (.ref a0), some (xw x1), some (xw x2), o3] [] (T, z, xv V, J, R) else XR sc d 118 44 [some (.ref a0), some (xw x1), some (xw x2), o3] [] (T, z, xv V, J, R) :=
  (st_aload_n f_118_30 rfl).trans ((st_getR f_118_31 e_118_48 (by decide) g1 g2).trans ((sw_iload_n f_118_34 rfl).trans ((sw_iaload f_118_35 g3 g4).trans ((sw_iload_n f_118_36 rfl).trans (sw_icmp_ne (t := 44) f_118_37 ⟨by decide, rfl⟩ g5 g6)))))
theorem bX7_joins_40 {o0 o1 o2 o3 : Option Value} : XR sc d 118 40 [o0, o1, o2, o3] [] (T, z, xv V, J, R) = XR sc d 118 45 [o0, o1, o2, o3] [xw 1] (T, z, xv V, J, R) :=
  (sw_iconst f_118_40).trans (st_goto (t := 45) f_118_41 ⟨by decide, rfl⟩)
theorem bX7_joins_44 {o0 o1 o2 o3 : Option Value} : XR sc d 118 44 [o0, o1, o2, o3] [] (T, z, xv V, J, R) = XR sc d 118 45 [o0, o1, o2, o3] [xw 0] (T, z, xv V, J, R) :=
  sw_iconst f_118_44
theorem bX7_joins_45 {o0 o1 o2 o3 : Option Value} {y0 : Int} (g1 : y0 = 0 ∨ y0 = 1) : XR sc d 118 45 [o0, o1, o2, o3] [xw y0] (T, z, xv V, J, R) = some (.inl (some (xw y0)), (T, z, xv V, J, R)) :=
  sw_zreturn f_118_45 mr_118 g1
theorem eX7_shortest {x1 x2 : Int} {a0 : Nat} : X sc (d + 1) 119 [.ref a0, xw x1, xw x2] (T, z, xv V, J, R) = XR sc d 119 0 [some (.ref a0), some (xw x1), some (xw x2), none, none] [] (T, z, xv V, J, R) :=
  (X_eq ⟨jl_119, by rw [mn_119]; rfl, rfl, by rw [lm_119]; exact Nat.le_of_ble_eq_true rfl⟩).trans (by unfold xent; rw [lm_119]; rfl)
theorem bX7_shortest_0 {o0 o1 o2 o3 o4 : Option Value} : XR sc d 119 0 [o0, o1, o2, o3, o4] [] (T, z, xv V, J, R) = XR sc d 119 6 [o0, o1, o2, some (xw 100000000), some (xw 0)] [] (T, z, xv V, J, R) :=
  (sw_ldc 100000000 f_119_0 k_119_149 rfl).trans ((sw_istore_n (L' := [o0, o1, o2, some (xw 100000000), o4]) f_119_2 (Nat.le_of_ble_eq_true rfl) rfl).trans ((sw_iconst f_119_3).trans (sw_istore (L' := [o0, o1, o2, some (xw 100000000), some (xw 0)]) f_119_4 (Nat.le_of_ble_eq_true rfl) rfl)))
theorem bX7_shortest_6 {o1 o2 o3 : Option Value} {x4 : Int} {a0 : Nat} (g1 : T a0 = (8, 0)) (g2 : -2147483648 ≤ x4 ∧ x4 ≤ 2147483647) (g3 : -2147483648 ≤ (V a0 3) ∧ (V a0 3) ≤ 2147483647) : XR sc d 119 6 [some (.ref a0), o1, o2, o3, some (xw x4)] [] (T, z, xv V, J, R) = if (V a0 3) ≤ x4 then XR sc d 119 55 [some (.ref a0), o1, o2, o3, some (xw x4)] [] (T, z, xv V, J, R) else XR sc d 119 15 [some (.ref a0), o1, o2, o3, some (xw x4)] [] (T, z, xv V, J, R) :=
  (sw_iload f_119_6 rfl).trans ((st_aload_n f_119_8 rfl).trans ((sw_getI f_119_9 e_119_95 (by decide) g1).trans (sw_icmp_ge (t := 55) f_119_12 ⟨by decide, rfl⟩ g2 g3)))
theorem bX7_shortest_15 {o3 : Option Value} {x4 x1 x2 : Int} {a0 : Nat} (g1 : T a0 = (8, 0)) : XR sc d 119 15 [some (.ref a0), some (xw x1), some (xw x2), o3, some (xw x4)] [] (T, z, xv V, J, R) = xret 119 (XR sc d 119) 20 23 [some (.ref a0), some (xw x1), some (xw x2), o3, some (xw x4)] [] (X sc d 118 [.ref a0, xw x4, xw x1, xw x2] (T, z, xv V, J, R)) :=
  (st_aload_n f_119_15 rfl).trans ((sw_iload f_119_16 rfl).trans ((sw_iload_n f_119_18 rfl).trans ((sw_iload_n f_119_19 rfl).trans (st_callV' f_119_20 h_119_150 mn_118 rfl rfl rfl rfl mo_118 g1 rfl))))
theorem bX7_shortest_23 {o0 o1 o2 o3 o4 : Option Value} {y0 : Int} (g1 : -2147483648 ≤ y0 ∧ y0 ≤ 2147483647) : XR sc d 119 23 [o0, o1, o2, o3, o4] [xw y0] (T, z, xv V, J, R) = if y0 = 0 then XR sc d 119 47 [o0, o1, o2, o3, o4] [] (T, z, xv V, J, R) else XR sc d 119 26 [o0, o1, o2, o3, o4] [] (T, z, xv V, J, R) :=
  sw_if_eq (t := 47) f_119_23 ⟨by decide, rfl⟩ g1
theorem bX7_shortest_26 {o1 o2 : Option Value} {x4 x3 : Int} {a0 : Nat} (g1 : T a0 = (8, 0)) (g2 : R a0 15 = some ((R a0 15).getD 0)) (g3 : T ((R a0 15).getD 0) = (32, (T ((R a0 15).getD 0)).2)) (g4 : (0 : Int) ≤ x4 ∧ x4 < ((T ((R a0 15).getD 0)).2 : Int) ∧ (T ((R a0 15).getD 0)).2 ≤ 3584) (g5 : -2147483648 ≤ (V ((R a0 15).getD 0) x4.toNat) ∧ (V ((R a0 15).getD 0) x4.toNat) ≤ 2147483647) (g6 : -2147483648 ≤ x3 ∧ x3 ≤ 2147483647) : XR sc d 119 26 [some (.ref a0), o1, o2, some (xw x3), some (xw x4)] [] (T, z, xv V, J, R) = if x3 ≤ (V ((R a0 15).getD 0) x4.toNat) then XR sc d 119 47 [some (.ref a0), o1, o2, some (xw x3), some (xw x4)] [] (T, z, xv V, J, R) else XR sc d 119 37 [some (.ref a0), o1, o2, some (xw x3), some (xw x4)] [] (T, z, xv V, J, R) :=
  (st_aload_n f_119_26 rfl).trans ((st_getR f_119_27 e_119_51 (by decide) g1 g2).trans ((sw_iload f_119_30 rfl).trans ((sw_iaload f_119_32 g3 g4).trans ((sw_iload_n f_119_33 rfl).trans (sw_icmp_ge (t := 47) f_119_34 ⟨by decide, rfl⟩ g5 g6)))))
theorem bX7_shortest_37 {o1 o2 o3 : Option Value} {x4 : Int} {a0 : Nat} (g1 : T a0 = (8, 0)) (g2 : R a0 15 = some ((R a0 15).getD 0)) (g3 : T ((R a0 15).getD 0) = (32, (T ((R a0 15).getD 0)).2)) (g4 : (0 : Int) ≤ x4 ∧ x4 < ((T ((R a0 15).getD 0)).2 : Int) ∧ (T ((R a0 15).getD 0)).2 ≤ 3584) : XR sc d 119 37 [some (.ref a0), o1, o2, o3, some (xw x4)] [] (T, z, xv V, J, R) = XR sc d 119 48 [some (.ref a0), o1, o2, o3, some (xw x4)] [xw (V ((R a0 15).getD 0) x4.toNat)] (T, z, xv V, J, R) :=
  (st_aload_n f_119_37 rfl).trans ((st_getR f_119_38 e_119_51 (by decide) g1 g2).trans ((sw_iload f_119_41 rfl).trans ((sw_iaload f_119_43 g3 g4).trans (st_goto (t := 48) f_119_44 ⟨by decide, rfl⟩))))
theorem bX7_shortest_47 {o0 o1 o2 o4 : Option Value} {x3 : Int} : XR sc d 119 47 [o0, o1, o2, some (xw x3), o4] [] (T, z, xv V, J, R) = XR sc d 119 48 [o0, o1, o2, some (xw x3), o4] [xw x3] (T, z, xv V, J, R) :=
  sw_iload_n f_119_47 rfl
theorem bX7_shortest_48 {o0 o1 o2 o3 : Option Value} {y0 x4 : Int} : XR sc d 119 48 [o0, o1, o2, o3, some (xw x4)] [xw y0] (T, z, xv V, J, R) = XR sc d 119 6 [o0, o1, o2, some (xw y0), some (xw (x4 + 1))] [] (T, z, xv V, J, R) :=
  (sw_istore_n (L' := [o0, o1, o2, some (xw y0), some (xw x4)]) f_119_48 (Nat.le_of_ble_eq_true rfl) rfl).trans ((sw_iinc (L' := [o0, o1, o2, some (xw y0), some (xw (x4 + 1))]) f_119_49 rfl (Nat.le_of_ble_eq_true rfl) rfl).trans (st_goto (t := 6) f_119_52 ⟨by decide, rfl⟩))
theorem bX7_shortest_55 {o0 o1 o2 o4 : Option Value} {x3 : Int} : XR sc d 119 55 [o0, o1, o2, some (xw x3), o4] [] (T, z, xv V, J, R) = some (.inl (some (xw x3)), (T, z, xv V, J, R)) :=
  (sw_iload_n f_119_55 rfl).trans (sw_ireturn f_119_56 mr_119)
theorem eX7_finds {x1 x2 : Int} {a0 : Nat} : X sc (d + 1) 120 [.ref a0, xw x1, xw x2] (T, z, xv V, J, R) = XR sc d 120 0 [some (.ref a0), some (xw x1), some (xw x2), none, none, none, none, none] [] (T, z, xv V, J, R) :=
  (X_eq ⟨jl_120, by rw [mn_120]; rfl, rfl, by rw [lm_120]; exact Nat.le_of_ble_eq_true rfl⟩).trans (by unfold xent; rw [lm_120]; rfl)
theorem bX7_finds_0 {o0 o1 o2 o3 o4 o5 o6 o7 : Option Value} : XR sc d 120 0 [o0, o1, o2, o3, o4, o5, o6, o7] [] (T, z, xv V, J, R) = XR sc d 120 2 [o0, o1, o2, some (xw 0), o4, o5, o6, o7] [] (T, z, xv V, J, R) :=
  (sw_iconst f_120_0).trans (sw_istore_n (L' := [o0, o1, o2, some (xw 0), o4, o5, o6, o7]) f_120_1 (Nat.le_of_ble_eq_true rfl) rfl)
theorem bX7_finds_2 {o0 o1 o2 o4 o5 o6 o7 : Option Value} {x3 : Int} (g1 : -2147483648 ≤ x3 ∧ x3 ≤ 2147483647) : XR sc d 120 2 [o0, o1, o2, some (xw x3), o4, o5, o6, o7] [] (T, z, xv V, J, R) = if 8 ≤ x3 then XR sc d 120 31 [o0, o1, o2, some (xw x3), o4, o5, o6, o7] [] (T, z, xv V, J, R) else XR sc d 120 8 [o0, o1, o2, some (xw x3), o4, o5, o6, o7] [] (T, z, xv V, J, R) :=
  (sw_iload_n f_120_2 rfl).trans ((sw_bipush f_120_3 c8_8).trans (sw_icmp_ge (t := 31) f_120_5 ⟨by decide, rfl⟩ g1 ⟨by decide, by decide⟩))
theorem bX7_finds_8 {o1 o4 o5 o6 o7 : Option Value} {x3 x2 : Int} {a0 : Nat} (g1 : T a0 = (8, 0)) (g2 : R a0 16 = some ((R a0 16).getD 0)) (g3 : -2147483648 ≤ x3 ∧ x3 ≤ 2147483647) (g4 : -2147483648 ≤ x2 ∧ x2 ≤ 2147483647) : XR sc d 120 8 [some (.ref a0), o1, some (xw x2), some (xw x3), o4, o5, o6, o7] [] (T, z, xv V, J, R) = if x3 = x2 then XR sc d 120 18 [some (.ref a0), o1, some (xw x2), some (xw x3), o4, o5, o6, o7] [xw x3, .ref ((R a0 16).getD 0)] (T, z, xv V, J, R) else XR sc d 120 22 [some (.ref a0), o1, some (xw x2), some (xw x3), o4, o5, o6, o7] [xw x3, .ref ((R a0 16).getD 0)] (T, z, xv V, J, R) :=
  (st_aload_n f_120_8 rfl).trans ((st_getR f_120_9 e_120_54 (by decide) g1 g2).trans ((sw_iload_n f_120_12 rfl).trans ((sw_iload_n f_120_13 rfl).trans ((sw_iload_n f_120_14 rfl).trans (sw_icmp_ne (t := 22) f_120_15 ⟨by decide, rfl⟩ g3 g4)))))
theorem bX7_finds_18 {o0 o1 o2 o3 o4 o5 o6 o7 : Option Value} {s0 s1 : Value} : XR sc d 120 18 [o0, o1, o2, o3, o4, o5, o6, o7] [s0, s1] (T, z, xv V, J, R) = XR sc d 120 24 [o0, o1, o2, o3, o4, o5, o6, o7] [xw 0, s0, s1] (T, z, xv V, J, R) :=
  (sw_iconst f_120_18).trans (st_goto (t := 24) f_120_19 ⟨by decide, rfl⟩)
theorem bX7_finds_22 {o0 o1 o2 o3 o4 o5 o6 o7 : Option Value} {s0 s1 : Value} : XR sc d 120 22 [o0, o1, o2, o3, o4, o5, o6, o7] [s0, s1] (T, z, xv V, J, R) = XR sc d 120 24 [o0, o1, o2, o3, o4, o5, o6, o7] [xw 100000000, s0, s1] (T, z, xv V, J, R) :=
  sw_ldc 100000000 f_120_22 k_120_149 rfl
theorem bX7_finds_24 {o0 o1 o2 o4 o5 o6 o7 : Option Value} {y0 y1 x3 : Int} {b2 : Nat} (g1 : T b2 = (32, (T b2).2)) (g2 : (0 : Int) ≤ y1 ∧ y1 < ((T b2).2 : Int) ∧ (T b2).2 ≤ 3584) : XR sc d 120 24 [o0, o1, o2, some (xw x3), o4, o5, o6, o7] [xw y0, xw y1, .ref b2] (T, z, xv V, J, R) = XR sc d 120 2 [o0, o1, o2, some (xw (x3 + 1)), o4, o5, o6, o7] [] (T, z, xv (xup2 V b2 y1.toNat y0), J, R) :=
  (sw_iastore f_120_24 g1 g2).trans ((sw_iinc (L' := [o0, o1, o2, some (xw (x3 + 1)), o4, o5, o6, o7]) f_120_25 rfl (Nat.le_of_ble_eq_true rfl) rfl).trans (st_goto (t := 2) f_120_28 ⟨by decide, rfl⟩))
theorem bX7_finds_31 {o0 o1 o2 o3 o4 o5 o6 o7 : Option Value} : XR sc d 120 31 [o0, o1, o2, o3, o4, o5, o6, o7] [] (T, z, xv V, J, R) = XR sc d 120 33 [o0, o1, o2, some (xw 1), o4, o5, o6, o7] [] (T, z, xv V, J, R) :=
  (sw_iconst f_120_31).trans (sw_istore_n (L' := [o0, o1, o2, some (xw 1), o4, o5, o6, o7]) f_120_32 (Nat.le_of_ble_eq_true rfl) rfl)
theorem bX7_finds_33 {o0 o1 o2 o4 o5 o6 o7 : Option Value} {x3 : Int} (g1 : -2147483648 ≤ x3 ∧ x3 ≤ 2147483647) : XR sc d 120 33 [o0, o1, o2, some (xw x3), o4, o5, o6, o7] [] (T, z, xv V, J, R) = if 8 ≤ x3 then XR sc d 120 175 [o0, o1, o2, some (xw x3), o4, o5, o6, o7] [] (T, z, xv V, J, R) else XR sc d 120 39 [o0, o1, o2, some (xw x3), o4, o5, o6, o7] [] (T, z, xv V, J, R) :=
  (sw_iload_n f_120_33 rfl).trans ((sw_bipush f_120_34 c8_8).trans (sw_icmp_ge (t := 175) f_120_36 ⟨by decide, rfl⟩ g1 ⟨by decide, by decide⟩))
theorem bX7_finds_39 {o0 o1 o2 o3 o4 o5 o6 o7 : Option Value} : XR sc d 120 39 [o0, o1, o2, o3, o4, o5, o6, o7] [] (T, z, xv V, J, R) = XR sc d 120 42 [o0, o1, o2, o3, some (xw 0), o5, o6, o7] [] (T, z, xv V, J, R) :=
  (sw_iconst f_120_39).trans (sw_istore (L' := [o0, o1, o2, o3, some (xw 0), o5, o6, o7]) f_120_40 (Nat.le_of_ble_eq_true rfl) rfl)
theorem bX7_finds_42 {o0 o1 o2 o3 o5 o6 o7 : Option Value} {x4 : Int} (g1 : -2147483648 ≤ x4 ∧ x4 ≤ 2147483647) : XR sc d 120 42 [o0, o1, o2, o3, some (xw x4), o5, o6, o7] [] (T, z, xv V, J, R) = if 8 ≤ x4 then XR sc d 120 169 [o0, o1, o2, o3, some (xw x4), o5, o6, o7] [] (T, z, xv V, J, R) else XR sc d 120 49 [o0, o1, o2, o3, some (xw x4), o5, o6, o7] [] (T, z, xv V, J, R) :=
  (sw_iload f_120_42 rfl).trans ((sw_bipush f_120_44 c8_8).trans (sw_icmp_ge (t := 169) f_120_46 ⟨by decide, rfl⟩ g1 ⟨by decide, by decide⟩))
theorem bX7_finds_49 {o0 o1 o2 o3 o4 o5 o6 o7 : Option Value} : XR sc d 120 49 [o0, o1, o2, o3, o4, o5, o6, o7] [] (T, z, xv V, J, R) = XR sc d 120 52 [o0, o1, o2, o3, o4, some (xw 0), o6, o7] [] (T, z, xv V, J, R) :=
  (sw_iconst f_120_49).trans (sw_istore (L' := [o0, o1, o2, o3, o4, some (xw 0), o6, o7]) f_120_50 (Nat.le_of_ble_eq_true rfl) rfl)
theorem bX7_finds_52 {o0 o1 o2 o3 o4 o6 o7 : Option Value} {x5 : Int} (g1 : -2147483648 ≤ x5 ∧ x5 ≤ 2147483647) : XR sc d 120 52 [o0, o1, o2, o3, o4, some (xw x5), o6, o7] [] (T, z, xv V, J, R) = if 8 ≤ x5 then XR sc d 120 163 [o0, o1, o2, o3, o4, some (xw x5), o6, o7] [] (T, z, xv V, J, R) else XR sc d 120 59 [o0, o1, o2, o3, o4, some (xw x5), o6, o7] [] (T, z, xv V, J, R) :=
  (sw_iload f_120_52 rfl).trans ((sw_bipush f_120_54 c8_8).trans (sw_icmp_ge (t := 163) f_120_56 ⟨by decide, rfl⟩ g1 ⟨by decide, by decide⟩))
theorem bX7_finds_59 {o1 o2 o3 o6 o7 : Option Value} {x4 x5 : Int} {a0 : Nat} (g1 : T a0 = (8, 0)) : XR sc d 120 59 [some (.ref a0), o1, o2, o3, some (xw x4), some (xw x5), o6, o7] [] (T, z, xv V, J, R) = xret 120 (XR sc d 120) 64 67 [some (.ref a0), o1, o2, o3, some (xw x4), some (xw x5), o6, o7] [] (X sc d 119 [.ref a0, xw x4, xw x5] (T, z, xv V, J, R)) :=
  (st_aload_n f_120_59 rfl).trans ((sw_iload f_120_60 rfl).trans ((sw_iload f_120_62 rfl).trans (st_callV' f_120_64 h_120_153 mn_119 rfl rfl rfl rfl mo_119 g1 rfl)))
theorem bX7_finds_67 {o0 o1 o2 o3 o4 o5 o6 o7 : Option Value} {y0 : Int} (g1 : -2147483648 ≤ y0 ∧ y0 ≤ 2147483647) : XR sc d 120 67 [o0, o1, o2, o3, o4, o5, o6, o7] [xw y0] (T, z, xv V, J, R) = if 100000000 ≤ y0 then XR sc d 120 117 [o0, o1, o2, o3, o4, o5, some (xw y0), o7] [] (T, z, xv V, J, R) else XR sc d 120 76 [o0, o1, o2, o3, o4, o5, some (xw y0), o7] [] (T, z, xv V, J, R) :=
  (sw_istore (L' := [o0, o1, o2, o3, o4, o5, some (xw y0), o7]) f_120_67 (Nat.le_of_ble_eq_true rfl) rfl).trans ((sw_iload f_120_69 rfl).trans ((sw_ldc 100000000 f_120_71 k_120_149 rfl).trans (sw_icmp_ge (t := 117) f_120_73 ⟨by decide, rfl⟩ g1 ⟨by decide, by decide⟩)))
theorem bX7_finds_76 {o1 o2 o3 o4 o6 o7 : Option Value} {x5 : Int} {a0 : Nat} (g1 : T a0 = (8, 0)) (g2 : R a0 16 = some ((R a0 16).getD 0)) (g3 : T ((R a0 16).getD 0) = (32, (T ((R a0 16).getD 0)).2)) (g4 : (0 : Int) ≤ x5 ∧ x5 < ((T ((R a0 16).getD 0)).2 : Int) ∧ (T ((R a0 16).getD 0)).2 ≤ 3584) (g5 : -2147483648 ≤ (V ((R a0 16).getD 0) x5.toNat) ∧ (V ((R a0 16).getD 0) x5.toNat) ≤ 2147483647) : XR sc d 120 76 [some (.ref a0), o1, o2, o3, o4, some (xw x5), o6, o7] [] (T, z, xv V, J, R) = if 100000000 ≤ (V ((R a0 16).getD 0) x5.toNat) then XR sc d 120 117 [some (.ref a0), o1, o2, o3, o4, some (xw x5), o6, o7] [] (T, z, xv V, J, R) else XR sc d 120 88 [some (.ref a0), o1, o2, o3, o4, some (xw x5), o6, o7] [] (T, z, xv V, J, R) :=
  (st_aload_n f_120_76 rfl).trans ((st_getR f_120_77 e_120_54 (by decide) g1 g2).trans ((sw_iload f_120_80 rfl).trans ((sw_iaload f_120_82 g3 g4).trans ((sw_ldc 100000000 f_120_83 k_120_149 rfl).trans (sw_icmp_ge (t := 117) f_120_85 ⟨by decide, rfl⟩ g5 ⟨by decide, by decide⟩)))))
theorem bX7_finds_88 {o1 o2 o3 o7 : Option Value} {x5 x6 x4 : Int} {a0 : Nat} (g1 : T a0 = (8, 0)) (g2 : R a0 16 = some ((R a0 16).getD 0)) (g3 : T ((R a0 16).getD 0) = (32, (T ((R a0 16).getD 0)).2)) (g4 : (0 : Int) ≤ x5 ∧ x5 < ((T ((R a0 16).getD 0)).2 : Int) ∧ (T ((R a0 16).getD 0)).2 ≤ 3584) (g5 : (0 : Int) ≤ x4 ∧ x4 < ((T ((R a0 16).getD 0)).2 : Int) ∧ (T ((R a0 16).getD 0)).2 ≤ 3584) (g6 : -2147483648 ≤ (((V ((R a0 16).getD 0) x5.toNat) + (16 * x6)) + 1) ∧ (((V ((R a0 16).getD 0) x5.toNat) + (16 * x6)) + 1) ≤ 2147483647) (g7 : -2147483648 ≤ (V ((R a0 16).getD 0) x4.toNat) ∧ (V ((R a0 16).getD 0) x4.toNat) ≤ 2147483647) : XR sc d 120 88 [some (.ref a0), o1, o2, o3, some (xw x4), some (xw x5), some (xw x6), o7] [] (T, z, xv V, J, R) = if (V ((R a0 16).getD 0) x4.toNat) ≤ (((V ((R a0 16).getD 0) x5.toNat) + (16 * x6)) + 1) then XR sc d 120 117 [some (.ref a0), o1, o2, o3, some (xw x4), some (xw x5), some (xw x6), o7] [] (T, z, xv V, J, R) else XR sc d 120 113 [some (.ref a0), o1, o2, o3, some (xw x4), some (xw x5), some (xw x6), o7] [] (T, z, xv V, J, R) :=
  (st_aload_n f_120_88 rfl).trans ((st_getR f_120_89 e_120_54 (by decide) g1 g2).trans ((sw_iload f_120_92 rfl).trans ((sw_iaload f_120_94 g3 g4).trans ((sw_bipush f_120_95 c8_16).trans ((sw_iload f_120_97 rfl).trans ((sw_imul f_120_99).trans ((sw_iadd f_120_100).trans ((sw_iconst f_120_101).trans ((sw_iadd f_120_102).trans ((st_aload_n f_120_103 rfl).trans ((st_getR f_120_104 e_120_54 (by decide) g1 g2).trans ((sw_iload f_120_107 rfl).trans ((sw_iaload f_120_109 g3 g5).trans (sw_icmp_ge (t := 117) f_120_110 ⟨by decide, rfl⟩ g6 g7))))))))))))))
theorem bX7_finds_113 {o0 o1 o2 o3 o4 o5 o6 o7 : Option Value} : XR sc d 120 113 [o0, o1, o2, o3, o4, o5, o6, o7] [] (T, z, xv V, J, R) = XR sc d 120 118 [o0, o1, o2, o3, o4, o5, o6, o7] [xw 1] (T, z, xv V, J, R) :=
  (sw_iconst f_120_113).trans (st_goto (t := 118) f_120_114 ⟨by decide, rfl⟩)
theorem bX7_finds_117 {o0 o1 o2 o3 o4 o5 o6 o7 : Option Value} : XR sc d 120 117 [o0, o1, o2, o3, o4, o5, o6, o7] [] (T, z, xv V, J, R) = XR sc d 120 118 [o0, o1, o2, o3, o4, o5, o6, o7] [xw 0] (T, z, xv V, J, R) :=
  sw_iconst f_120_117
theorem bX7_finds_118 {o1 o2 o3 o5 o6 o7 : Option Value} {y0 x4 : Int} {a0 : Nat} (g1 : T a0 = (8, 0)) (g2 : R a0 16 = some ((R a0 16).getD 0)) (g3 : -2147483648 ≤ y0 ∧ y0 ≤ 2147483647) : XR sc d 120 118 [some (.ref a0), o1, o2, o3, some (xw x4), o5, o6, o7] [xw y0] (T, z, xv V, J, R) = if y0 = 0 then XR sc d 120 149 [some (.ref a0), o1, o2, o3, some (xw x4), o5, o6, some (xw y0)] [xw x4, .ref ((R a0 16).getD 0)] (T, z, xv V, J, R) else XR sc d 120 131 [some (.ref a0), o1, o2, o3, some (xw x4), o5, o6, some (xw y0)] [xw x4, .ref ((R a0 16).getD 0)] (T, z, xv V, J, R) :=
  (sw_istore (L' := [some (.ref a0), o1, o2, o3, some (xw x4), o5, o6, some (xw y0)]) f_120_118 (Nat.le_of_ble_eq_true rfl) rfl).trans ((st_aload_n f_120_120 rfl).trans ((st_getR f_120_121 e_120_54 (by decide) g1 g2).trans ((sw_iload f_120_124 rfl).trans ((sw_iload f_120_126 rfl).trans (sw_if_eq (t := 149) f_120_128 ⟨by decide, rfl⟩ g3)))))
theorem bX7_finds_131 {o1 o2 o3 o4 o7 : Option Value} {s0 s1 : Value} {x5 x6 : Int} {a0 : Nat} (g1 : T a0 = (8, 0)) (g2 : R a0 16 = some ((R a0 16).getD 0)) (g3 : T ((R a0 16).getD 0) = (32, (T ((R a0 16).getD 0)).2)) (g4 : (0 : Int) ≤ x5 ∧ x5 < ((T ((R a0 16).getD 0)).2 : Int) ∧ (T ((R a0 16).getD 0)).2 ≤ 3584) : XR sc d 120 131 [some (.ref a0), o1, o2, o3, o4, some (xw x5), some (xw x6), o7] [s0, s1] (T, z, xv V, J, R) = XR sc d 120 156 [some (.ref a0), o1, o2, o3, o4, some (xw x5), some (xw x6), o7] [xw (((V ((R a0 16).getD 0) x5.toNat) + (16 * x6)) + 1), s0, s1] (T, z, xv V, J, R) :=
  (st_aload_n f_120_131 rfl).trans ((st_getR f_120_132 e_120_54 (by decide) g1 g2).trans ((sw_iload f_120_135 rfl).trans ((sw_iaload f_120_137 g3 g4).trans ((sw_bipush f_120_138 c8_16).trans ((sw_iload f_120_140 rfl).trans ((sw_imul f_120_142).trans ((sw_iadd f_120_143).trans ((sw_iconst f_120_144).trans ((sw_iadd f_120_145).trans (st_goto (t := 156) f_120_146 ⟨by decide, rfl⟩))))))))))
theorem bX7_finds_149 {o1 o2 o3 o5 o6 o7 : Option Value} {s0 s1 : Value} {x4 : Int} {a0 : Nat} (g1 : T a0 = (8, 0)) (g2 : R a0 16 = some ((R a0 16).getD 0)) (g3 : T ((R a0 16).getD 0) = (32, (T ((R a0 16).getD 0)).2)) (g4 : (0 : Int) ≤ x4 ∧ x4 < ((T ((R a0 16).getD 0)).2 : Int) ∧ (T ((R a0 16).getD 0)).2 ≤ 3584) : XR sc d 120 149 [some (.ref a0), o1, o2, o3, some (xw x4), o5, o6, o7] [s0, s1] (T, z, xv V, J, R) = XR sc d 120 156 [some (.ref a0), o1, o2, o3, some (xw x4), o5, o6, o7] [xw (V ((R a0 16).getD 0) x4.toNat), s0, s1] (T, z, xv V, J, R) :=
  (st_aload_n f_120_149 rfl).trans ((st_getR f_120_150 e_120_54 (by decide) g1 g2).trans ((sw_iload f_120_153 rfl).trans (sw_iaload f_120_155 g3 g4)))
theorem bX7_finds_156 {o0 o1 o2 o3 o4 o6 o7 : Option Value} {y0 y1 x5 : Int} {b2 : Nat} (g1 : T b2 = (32, (T b2).2)) (g2 : (0 : Int) ≤ y1 ∧ y1 < ((T b2).2 : Int) ∧ (T b2).2 ≤ 3584) : XR sc d 120 156 [o0, o1, o2, o3, o4, some (xw x5), o6, o7] [xw y0, xw y1, .ref b2] (T, z, xv V, J, R) = XR sc d 120 52 [o0, o1, o2, o3, o4, some (xw (x5 + 1)), o6, o7] [] (T, z, xv (xup2 V b2 y1.toNat y0), J, R) :=
  (sw_iastore f_120_156 g1 g2).trans ((sw_iinc (L' := [o0, o1, o2, o3, o4, some (xw (x5 + 1)), o6, o7]) f_120_157 rfl (Nat.le_of_ble_eq_true rfl) rfl).trans (st_goto (t := 52) f_120_160 ⟨by decide, rfl⟩))
theorem bX7_finds_163 {o0 o1 o2 o3 o5 o6 o7 : Option Value} {x4 : Int} : XR sc d 120 163 [o0, o1, o2, o3, some (xw x4), o5, o6, o7] [] (T, z, xv V, J, R) = XR sc d 120 42 [o0, o1, o2, o3, some (xw (x4 + 1)), o5, o6, o7] [] (T, z, xv V, J, R) :=
  (sw_iinc (L' := [o0, o1, o2, o3, some (xw (x4 + 1)), o5, o6, o7]) f_120_163 rfl (Nat.le_of_ble_eq_true rfl) rfl).trans (st_goto (t := 42) f_120_166 ⟨by decide, rfl⟩)
theorem bX7_finds_169 {o0 o1 o2 o4 o5 o6 o7 : Option Value} {x3 : Int} : XR sc d 120 169 [o0, o1, o2, some (xw x3), o4, o5, o6, o7] [] (T, z, xv V, J, R) = XR sc d 120 33 [o0, o1, o2, some (xw (x3 + 1)), o4, o5, o6, o7] [] (T, z, xv V, J, R) :=
  (sw_iinc (L' := [o0, o1, o2, some (xw (x3 + 1)), o4, o5, o6, o7]) f_120_169 rfl (Nat.le_of_ble_eq_true rfl) rfl).trans (st_goto (t := 33) f_120_172 ⟨by decide, rfl⟩)
theorem bX7_finds_175 {o2 o3 o4 o5 o6 o7 : Option Value} {x1 : Int} {a0 : Nat} (g1 : T a0 = (8, 0)) : XR sc d 120 175 [some (.ref a0), some (xw x1), o2, o3, o4, o5, o6, o7] [] (T, z, xv V, J, R) = XR sc d 120 182 [some (.ref a0), some (xw x1), o2, some (xw x1), o4, o5, o6, o7] [] (T, z, xv (xup2 V a0 17 0), J, R) :=
  (st_aload_n f_120_175 rfl).trans ((sw_iconst f_120_176).trans ((sw_putI f_120_177 e_120_156 (Or.inl rfl) (Or.inl rfl) g1).trans ((sw_iload_n f_120_180 rfl).trans (sw_istore_n (L' := [some (.ref a0), some (xw x1), o2, some (xw x1), o4, o5, o6, o7]) f_120_181 (Nat.le_of_ble_eq_true rfl) rfl))))
theorem bX7_finds_182 {o2 o3 o4 o5 o6 o7 : Option Value} {x1 : Int} {a0 : Nat} (g1 : T a0 = (8, 0)) (g2 : R a0 16 = some ((R a0 16).getD 0)) (g3 : T ((R a0 16).getD 0) = (32, (T ((R a0 16).getD 0)).2)) (g4 : (0 : Int) ≤ x1 ∧ x1 < ((T ((R a0 16).getD 0)).2 : Int) ∧ (T ((R a0 16).getD 0)).2 ≤ 3584) (g5 : -2147483648 ≤ (V ((R a0 16).getD 0) x1.toNat) ∧ (V ((R a0 16).getD 0) x1.toNat) ≤ 2147483647) : XR sc d 120 182 [some (.ref a0), some (xw x1), o2, o3, o4, o5, o6, o7] [] (T, z, xv V, J, R) = if 100000000 ≤ (V ((R a0 16).getD 0) x1.toNat) then XR sc d 120 302 [some (.ref a0), some (xw x1), o2, o3, o4, o5, o6, o7] [] (T, z, xv V, J, R) else XR sc d 120 193 [some (.ref a0), some (xw x1), o2, o3, o4, o5, o6, o7] [] (T, z, xv V, J, R) :=
  (st_aload_n f_120_182 rfl).trans ((st_getR f_120_183 e_120_54 (by decide) g1 g2).trans ((sw_iload_n f_120_186 rfl).trans ((sw_iaload f_120_187 g3 g4).trans ((sw_ldc 100000000 f_120_188 k_120_149 rfl).trans (sw_icmp_ge (t := 302) f_120_190 ⟨by decide, rfl⟩ g5 ⟨by decide, by decide⟩)))))
theorem bX7_finds_193 {o1 o2 o3 o4 o5 o6 o7 : Option Value} {a0 : Nat} (g1 : T a0 = (8, 0)) (g2 : -2147483648 ≤ (V a0 17) ∧ (V a0 17) ≤ 2147483647) : XR sc d 120 193 [some (.ref a0), o1, o2, o3, o4, o5, o6, o7] [] (T, z, xv V, J, R) = if 8 ≤ (V a0 17) then XR sc d 120 302 [some (.ref a0), o1, o2, o3, o4, o5, o6, o7] [] (T, z, xv V, J, R) else XR sc d 120 202 [some (.ref a0), o1, o2, o3, o4, o5, o6, o7] [] (T, z, xv V, J, R) :=
  (st_aload_n f_120_193 rfl).trans ((sw_getI f_120_194 e_120_156 (by decide) g1).trans ((sw_bipush f_120_197 c8_8).trans (sw_icmp_ge (t := 302) f_120_199 ⟨by decide, rfl⟩ g2 ⟨by decide, by decide⟩)))
theorem bX7_finds_202 {o1 o4 o5 o6 o7 : Option Value} {x3 x2 : Int} {a0 : Nat} (g1 : T a0 = (8, 0)) (g2 : R a0 18 = some ((R a0 18).getD 0)) (g3 : T ((R a0 18).getD 0) = (32, (T ((R a0 18).getD 0)).2)) (g4 : (0 : Int) ≤ (V a0 17) ∧ (V a0 17) < ((T ((R a0 18).getD 0)).2 : Int) ∧ (T ((R a0 18).getD 0)).2 ≤ 3584) (g5 : -2147483648 ≤ x3 ∧ x3 ≤ 2147483647) (g6 : -2147483648 ≤ x2 ∧ x2 ≤ 2147483647) : XR sc d 120 202 [some (.ref a0), o1, some (xw x2), some (xw x3), o4, o5, o6, o7] [] (T, z, xv V, J, R) = if x3 = x2 then XR sc d 120 227 [some (.ref a0), o1, some (xw x2), some (xw x3), o4, o5, o6, o7] [] (T, z, xv (xup2 (xup2 V ((R a0 18).getD 0) (V a0 17).toNat x3) a0 17 (((xup2 V ((R a0 18).getD 0) (V a0 17).toNat x3) a0 17) + 1)), J, R) else XR sc d 120 229 [some (.ref a0), o1, some (xw x2), some (xw x3), o4, o5, o6, o7] [] (T, z, xv (xup2 (xup2 V ((R a0 18).getD 0) (V a0 17).toNat x3) a0 17 (((xup2 V ((R a0 18).getD 0) (V a0 17).toNat x3) a0 17) + 1)), J, R) :=
  (st_aload_n f_120_202 rfl).trans ((st_getR f_120_203 e_120_57 (by decide) g1 g2).trans ((st_aload_n f_120_206 rfl).trans ((sw_getI f_120_207 e_120_156 (by decide) g1).trans ((sw_iload_n f_120_210 rfl).trans ((sw_iastore f_120_211 g3 g4).trans ((st_aload_n f_120_212 rfl).trans ((st_dup f_120_213 rfl).trans ((sw_getI f_120_214 e_120_156 (by decide) g1).trans ((sw_iconst f_120_217).trans ((sw_iadd f_120_218).trans ((sw_putI f_120_219 e_120_156 (Or.inl rfl) (Or.inl rfl) g1).trans ((sw_iload_n f_120_222 rfl).trans ((sw_iload_n f_120_223 rfl).trans (sw_icmp_ne (t := 229) f_120_224 ⟨by decide, rfl⟩ g5 g6))))))))))))))
theorem bX7_finds_227 {o0 o1 o2 o3 o4 o5 o6 o7 : Option Value} : XR sc d 120 227 [o0, o1, o2, o3, o4, o5, o6, o7] [] (T, z, xv V, J, R) = some (.inl (some (xw 1)), (T, z, xv V, J, R)) :=
  (sw_iconst f_120_227).trans (sw_zreturn f_120_228 mr_120 (by decide))
theorem bX7_finds_229 {o0 o1 o2 o3 o4 o5 o6 o7 : Option Value} : XR sc d 120 229 [o0, o1, o2, o3, o4, o5, o6, o7] [] (T, z, xv V, J, R) = XR sc d 120 236 [o0, o1, o2, o3, some (xw (-1)), some (xw 7), o6, o7] [] (T, z, xv V, J, R) :=
  (sw_iconst f_120_229).trans ((sw_istore (L' := [o0, o1, o2, o3, some (xw (-1)), o5, o6, o7]) f_120_230 (Nat.le_of_ble_eq_true rfl) rfl).trans ((sw_bipush f_120_232 c8_7).trans (sw_istore (L' := [o0, o1, o2, o3, some (xw (-1)), some (xw 7), o6, o7]) f_120_234 (Nat.le_of_ble_eq_true rfl) rfl)))
theorem bX7_finds_236 {o0 o1 o2 o3 o4 o6 o7 : Option Value} {x5 : Int} (g1 : -2147483648 ≤ x5 ∧ x5 ≤ 2147483647) : XR sc d 120 236 [o0, o1, o2, o3, o4, some (xw x5), o6, o7] [] (T, z, xv V, J, R) = if x5 < 0 then XR sc d 120 296 [o0, o1, o2, o3, o4, some (xw x5), o6, o7] [] (T, z, xv V, J, R) else XR sc d 120 241 [o0, o1, o2, o3, o4, some (xw x5), o6, o7] [] (T, z, xv V, J, R) :=
  (sw_iload f_120_236 rfl).trans (sw_if_lt (t := 296) f_120_238 ⟨by decide, rfl⟩ g1)
theorem bX7_finds_241 {o1 o2 o4 o6 o7 : Option Value} {x3 x5 : Int} {a0 : Nat} (g1 : T a0 = (8, 0)) : XR sc d 120 241 [some (.ref a0), o1, o2, some (xw x3), o4, some (xw x5), o6, o7] [] (T, z, xv V, J, R) = xret 120 (XR sc d 120) 245 248 [some (.ref a0), o1, o2, some (xw x3), o4, some (xw x5), o6, o7] [] (X sc d 119 [.ref a0, xw x3, xw x5] (T, z, xv V, J, R)) :=
  (st_aload_n f_120_241 rfl).trans ((sw_iload_n f_120_242 rfl).trans ((sw_iload f_120_243 rfl).trans (st_callV' f_120_245 h_120_153 mn_119 rfl rfl rfl rfl mo_119 g1 rfl)))
theorem bX7_finds_248 {o0 o1 o2 o3 o4 o5 o6 o7 : Option Value} {y0 : Int} (g1 : -2147483648 ≤ y0 ∧ y0 ≤ 2147483647) : XR sc d 120 248 [o0, o1, o2, o3, o4, o5, o6, o7] [xw y0] (T, z, xv V, J, R) = if 100000000 ≤ y0 then XR sc d 120 286 [o0, o1, o2, o3, o4, o5, some (xw y0), o7] [] (T, z, xv V, J, R) else XR sc d 120 257 [o0, o1, o2, o3, o4, o5, some (xw y0), o7] [] (T, z, xv V, J, R) :=
  (sw_istore (L' := [o0, o1, o2, o3, o4, o5, some (xw y0), o7]) f_120_248 (Nat.le_of_ble_eq_true rfl) rfl).trans ((sw_iload f_120_250 rfl).trans ((sw_ldc 100000000 f_120_252 k_120_149 rfl).trans (sw_icmp_ge (t := 286) f_120_254 ⟨by decide, rfl⟩ g1 ⟨by decide, by decide⟩)))
theorem bX7_finds_257 {o1 o2 o4 o7 : Option Value} {x5 x6 x3 : Int} {a0 : Nat} (g1 : T a0 = (8, 0)) (g2 : R a0 16 = some ((R a0 16).getD 0)) (g3 : T ((R a0 16).getD 0) = (32, (T ((R a0 16).getD 0)).2)) (g4 : (0 : Int) ≤ x5 ∧ x5 < ((T ((R a0 16).getD 0)).2 : Int) ∧ (T ((R a0 16).getD 0)).2 ≤ 3584) (g5 : (0 : Int) ≤ x3 ∧ x3 < ((T ((R a0 16).getD 0)).2 : Int) ∧ (T ((R a0 16).getD 0)).2 ≤ 3584) (g6 : -2147483648 ≤ (((V ((R a0 16).getD 0) x5.toNat) + (16 * x6)) + 1) ∧ (((V ((R a0 16).getD 0) x5.toNat) + (16 * x6)) + 1) ≤ 2147483647) (g7 : -2147483648 ≤ (V ((R a0 16).getD 0) x3.toNat) ∧ (V ((R a0 16).getD 0) x3.toNat) ≤ 2147483647) : XR sc d 120 257 [some (.ref a0), o1, o2, some (xw x3), o4, some (xw x5), some (xw x6), o7] [] (T, z, xv V, J, R) = if (((V ((R a0 16).getD 0) x5.toNat) + (16 * x6)) + 1) = (V ((R a0 16).getD 0) x3.toNat) then XR sc d 120 281 [some (.ref a0), o1, o2, some (xw x3), o4, some (xw x5), some (xw x6), o7] [] (T, z, xv V, J, R) else XR sc d 120 286 [some (.ref a0), o1, o2, some (xw x3), o4, some (xw x5), some (xw x6), o7] [] (T, z, xv V, J, R) :=
  (st_aload_n f_120_257 rfl).trans ((st_getR f_120_258 e_120_54 (by decide) g1 g2).trans ((sw_iload f_120_261 rfl).trans ((sw_iaload f_120_263 g3 g4).trans ((sw_bipush f_120_264 c8_16).trans ((sw_iload f_120_266 rfl).trans ((sw_imul f_120_268).trans ((sw_iadd f_120_269).trans ((sw_iconst f_120_270).trans ((sw_iadd f_120_271).trans ((st_aload_n f_120_272 rfl).trans ((st_getR f_120_273 e_120_54 (by decide) g1 g2).trans ((sw_iload_n f_120_276 rfl).trans ((sw_iaload f_120_277 g3 g5).trans (sw_icmp_ne (t := 286) f_120_278 ⟨by decide, rfl⟩ g6 g7))))))))))))))
theorem bX7_finds_281 {o0 o1 o2 o3 o4 o6 o7 : Option Value} {x5 : Int} : XR sc d 120 281 [o0, o1, o2, o3, o4, some (xw x5), o6, o7] [] (T, z, xv V, J, R) = XR sc d 120 288 [o0, o1, o2, o3, o4, some (xw x5), o6, o7] [xw x5] (T, z, xv V, J, R) :=
  (sw_iload f_120_281 rfl).trans (st_goto (t := 288) f_120_283 ⟨by decide, rfl⟩)
theorem bX7_finds_286 {o0 o1 o2 o3 o5 o6 o7 : Option Value} {x4 : Int} : XR sc d 120 286 [o0, o1, o2, o3, some (xw x4), o5, o6, o7] [] (T, z, xv V, J, R) = XR sc d 120 288 [o0, o1, o2, o3, some (xw x4), o5, o6, o7] [xw x4] (T, z, xv V, J, R) :=
  sw_iload f_120_286 rfl
theorem bX7_finds_288 {o0 o1 o2 o3 o4 o6 o7 : Option Value} {y0 x5 : Int} : XR sc d 120 288 [o0, o1, o2, o3, o4, some (xw x5), o6, o7] [xw y0] (T, z, xv V, J, R) = XR sc d 120 236 [o0, o1, o2, o3, some (xw y0), some (xw (x5 + (-1))), o6, o7] [] (T, z, xv V, J, R) :=
  (sw_istore (L' := [o0, o1, o2, o3, some (xw y0), some (xw x5), o6, o7]) f_120_288 (Nat.le_of_ble_eq_true rfl) rfl).trans ((sw_iinc (L' := [o0, o1, o2, o3, some (xw y0), some (xw (x5 + (-1))), o6, o7]) f_120_290 rfl (Nat.le_of_ble_eq_true rfl) rfl).trans (st_goto (t := 236) f_120_293 ⟨by decide, rfl⟩))
theorem bX7_finds_296 {o0 o1 o2 o3 o5 o6 o7 : Option Value} {x4 : Int} : XR sc d 120 296 [o0, o1, o2, o3, some (xw x4), o5, o6, o7] [] (T, z, xv V, J, R) = XR sc d 120 182 [o0, o1, o2, some (xw x4), some (xw x4), o5, o6, o7] [] (T, z, xv V, J, R) :=
  (sw_iload f_120_296 rfl).trans ((sw_istore_n (L' := [o0, o1, o2, some (xw x4), some (xw x4), o5, o6, o7]) f_120_298 (Nat.le_of_ble_eq_true rfl) rfl).trans (st_goto (t := 182) f_120_299 ⟨by decide, rfl⟩))
theorem bX7_finds_302 {o0 o1 o2 o3 o4 o5 o6 o7 : Option Value} : XR sc d 120 302 [o0, o1, o2, o3, o4, o5, o6, o7] [] (T, z, xv V, J, R) = some (.inl (some (xw 0)), (T, z, xv V, J, R)) :=
  (sw_iconst f_120_302).trans (sw_zreturn f_120_303 mr_120 (by decide))
theorem eX7_sharers {x1 : Int} {a0 : Nat} : X sc (d + 1) 121 [.ref a0, xw x1] (T, z, xv V, J, R) = XR sc d 121 0 [some (.ref a0), some (xw x1), none, none] [] (T, z, xv V, J, R) :=
  (X_eq ⟨jl_121, by rw [mn_121]; rfl, rfl, by rw [lm_121]; exact Nat.le_of_ble_eq_true rfl⟩).trans (by unfold xent; rw [lm_121]; rfl)
theorem bX7_sharers_0 {o0 o1 o2 o3 : Option Value} : XR sc d 121 0 [o0, o1, o2, o3] [] (T, z, xv V, J, R) = XR sc d 121 4 [o0, o1, some (xw 0), some (xw 0)] [] (T, z, xv V, J, R) :=
  (sw_iconst f_121_0).trans ((sw_istore_n (L' := [o0, o1, some (xw 0), o3]) f_121_1 (Nat.le_of_ble_eq_true rfl) rfl).trans ((sw_iconst f_121_2).trans (sw_istore_n (L' := [o0, o1, some (xw 0), some (xw 0)]) f_121_3 (Nat.le_of_ble_eq_true rfl) rfl)))
theorem bX7_sharers_4 {o1 o2 : Option Value} {x3 : Int} {a0 : Nat} (g1 : T a0 = (8, 0)) (g2 : -2147483648 ≤ x3 ∧ x3 ≤ 2147483647) (g3 : -2147483648 ≤ (V a0 3) ∧ (V a0 3) ≤ 2147483647) : XR sc d 121 4 [some (.ref a0), o1, o2, some (xw x3)] [] (T, z, xv V, J, R) = if (V a0 3) ≤ x3 then XR sc d 121 35 [some (.ref a0), o1, o2, some (xw x3)] [] (T, z, xv V, J, R) else XR sc d 121 12 [some (.ref a0), o1, o2, some (xw x3)] [] (T, z, xv V, J, R) :=
  (sw_iload_n f_121_4 rfl).trans ((st_aload_n f_121_5 rfl).trans ((sw_getI f_121_6 e_121_95 (by decide) g1).trans (sw_icmp_ge (t := 35) f_121_9 ⟨by decide, rfl⟩ g2 g3)))
theorem bX7_sharers_12 {x2 x3 x1 : Int} {a0 : Nat} (g1 : T a0 = (8, 0)) : XR sc d 121 12 [some (.ref a0), some (xw x1), some (xw x2), some (xw x3)] [] (T, z, xv V, J, R) = xret 121 (XR sc d 121) 16 19 [some (.ref a0), some (xw x1), some (xw x2), some (xw x3)] [xw x2] (X sc d 122 [.ref a0, xw x3, xw x1] (T, z, xv V, J, R)) :=
  (sw_iload_n f_121_12 rfl).trans ((st_aload_n f_121_13 rfl).trans ((sw_iload_n f_121_14 rfl).trans ((sw_iload_n f_121_15 rfl).trans (st_callV' f_121_16 h_121_159 mn_122 rfl rfl rfl rfl mo_122 g1 rfl))))
theorem bX7_sharers_19 {o0 o1 o2 o3 : Option Value} {s1 : Value} {y0 : Int} (g1 : -2147483648 ≤ y0 ∧ y0 ≤ 2147483647) : XR sc d 121 19 [o0, o1, o2, o3] [xw y0, s1] (T, z, xv V, J, R) = if y0 = 0 then XR sc d 121 26 [o0, o1, o2, o3] [s1] (T, z, xv V, J, R) else XR sc d 121 22 [o0, o1, o2, o3] [s1] (T, z, xv V, J, R) :=
  sw_if_eq (t := 26) f_121_19 ⟨by decide, rfl⟩ g1
theorem bX7_sharers_22 {o0 o1 o2 o3 : Option Value} {s0 : Value} : XR sc d 121 22 [o0, o1, o2, o3] [s0] (T, z, xv V, J, R) = XR sc d 121 27 [o0, o1, o2, o3] [xw 1, s0] (T, z, xv V, J, R) :=
  (sw_iconst f_121_22).trans (st_goto (t := 27) f_121_23 ⟨by decide, rfl⟩)
theorem bX7_sharers_26 {o0 o1 o2 o3 : Option Value} {s0 : Value} : XR sc d 121 26 [o0, o1, o2, o3] [s0] (T, z, xv V, J, R) = XR sc d 121 27 [o0, o1, o2, o3] [xw 0, s0] (T, z, xv V, J, R) :=
  sw_iconst f_121_26
theorem bX7_sharers_27 {o0 o1 o2 : Option Value} {y0 y1 x3 : Int} : XR sc d 121 27 [o0, o1, o2, some (xw x3)] [xw y0, xw y1] (T, z, xv V, J, R) = XR sc d 121 4 [o0, o1, some (xw (y1 + y0)), some (xw (x3 + 1))] [] (T, z, xv V, J, R) :=
  (sw_iadd f_121_27).trans ((sw_istore_n (L' := [o0, o1, some (xw (y1 + y0)), some (xw x3)]) f_121_28 (Nat.le_of_ble_eq_true rfl) rfl).trans ((sw_iinc (L' := [o0, o1, some (xw (y1 + y0)), some (xw (x3 + 1))]) f_121_29 rfl (Nat.le_of_ble_eq_true rfl) rfl).trans (st_goto (t := 4) f_121_32 ⟨by decide, rfl⟩)))
theorem bX7_sharers_35 {o0 o1 o3 : Option Value} {x2 : Int} : XR sc d 121 35 [o0, o1, some (xw x2), o3] [] (T, z, xv V, J, R) = some (.inl (some (xw x2)), (T, z, xv V, J, R)) :=
  (sw_iload_n f_121_35 rfl).trans (sw_ireturn f_121_36 mr_121)
theorem eX7_isSharer {x1 x2 : Int} {a0 : Nat} : X sc (d + 1) 122 [.ref a0, xw x1, xw x2] (T, z, xv V, J, R) = XR sc d 122 0 [some (.ref a0), some (xw x1), some (xw x2)] [] (T, z, xv V, J, R) :=
  (X_eq ⟨jl_122, by rw [mn_122]; rfl, rfl, by rw [lm_122]; exact Nat.le_of_ble_eq_true rfl⟩).trans (by unfold xent; rw [lm_122]; rfl)
theorem bX7_isSharer_0 {x1 x2 : Int} {a0 : Nat} (g1 : T a0 = (8, 0)) (g2 : R a0 18 = some ((R a0 18).getD 0)) (g3 : T ((R a0 18).getD 0) = (32, (T ((R a0 18).getD 0)).2)) (g4 : (0 : Int) ≤ x2 ∧ x2 < ((T ((R a0 18).getD 0)).2 : Int) ∧ (T ((R a0 18).getD 0)).2 ≤ 3584) (g5 : (0 : Int) ≤ (x2 + 1) ∧ (x2 + 1) < ((T ((R a0 18).getD 0)).2 : Int) ∧ (T ((R a0 18).getD 0)).2 ≤ 3584) : XR sc d 122 0 [some (.ref a0), some (xw x1), some (xw x2)] [] (T, z, xv V, J, R) = xret 122 (XR sc d 122) 16 19 [some (.ref a0), some (xw x1), some (xw x2)] [] (X sc d 118 [.ref a0, xw x1, xw (V ((R a0 18).getD 0) x2.toNat), xw (V ((R a0 18).getD 0) (x2 + 1).toNat)] (T, z, xv V, J, R)) :=
  (st_aload_n f_122_0 rfl).trans ((sw_iload_n f_122_1 rfl).trans ((st_aload_n f_122_2 rfl).trans ((st_getR f_122_3 e_122_57 (by decide) g1 g2).trans ((sw_iload_n f_122_6 rfl).trans ((sw_iaload f_122_7 g3 g4).trans ((st_aload_n f_122_8 rfl).trans ((st_getR f_122_9 e_122_57 (by decide) g1 g2).trans ((sw_iload_n f_122_12 rfl).trans ((sw_iconst f_122_13).trans ((sw_iadd f_122_14).trans ((sw_iaload f_122_15 g3 g5).trans (st_callV' f_122_16 h_122_150 mn_118 rfl rfl rfl rfl mo_118 g1 rfl))))))))))))
theorem bX7_isSharer_19 {o0 o1 o2 : Option Value} {y0 : Int} (g1 : -2147483648 ≤ y0 ∧ y0 ≤ 2147483647) : XR sc d 122 19 [o0, o1, o2] [xw y0] (T, z, xv V, J, R) = if y0 = 0 then XR sc d 122 53 [o0, o1, o2] [] (T, z, xv V, J, R) else XR sc d 122 22 [o0, o1, o2] [] (T, z, xv V, J, R) :=
  sw_if_eq (t := 53) f_122_19 ⟨by decide, rfl⟩ g1
theorem bX7_isSharer_22 {x1 x2 : Int} {a0 : Nat} (g1 : T a0 = (8, 0)) (g2 : R a0 15 = some ((R a0 15).getD 0)) (g3 : T ((R a0 15).getD 0) = (32, (T ((R a0 15).getD 0)).2)) (g4 : (0 : Int) ≤ x1 ∧ x1 < ((T ((R a0 15).getD 0)).2 : Int) ∧ (T ((R a0 15).getD 0)).2 ≤ 3584) (g5 : R a0 18 = some ((R a0 18).getD 0)) (g6 : T ((R a0 18).getD 0) = (32, (T ((R a0 18).getD 0)).2)) (g7 : (0 : Int) ≤ x2 ∧ x2 < ((T ((R a0 18).getD 0)).2 : Int) ∧ (T ((R a0 18).getD 0)).2 ≤ 3584) (g8 : (0 : Int) ≤ (x2 + 1) ∧ (x2 + 1) < ((T ((R a0 18).getD 0)).2 : Int) ∧ (T ((R a0 18).getD 0)).2 ≤ 3584) : XR sc d 122 22 [some (.ref a0), some (xw x1), some (xw x2)] [] (T, z, xv V, J, R) = xret 122 (XR sc d 122) 43 46 [some (.ref a0), some (xw x1), some (xw x2)] [xw (V ((R a0 15).getD 0) x1.toNat)] (X sc d 119 [.ref a0, xw (V ((R a0 18).getD 0) x2.toNat), xw (V ((R a0 18).getD 0) (x2 + 1).toNat)] (T, z, xv V, J, R)) :=
  (st_aload_n f_122_22 rfl).trans ((st_getR f_122_23 e_122_51 (by decide) g1 g2).trans ((sw_iload_n f_122_26 rfl).trans ((sw_iaload f_122_27 g3 g4).trans ((st_aload_n f_122_28 rfl).trans ((st_aload_n f_122_29 rfl).trans ((st_getR f_122_30 e_122_57 (by decide) g1 g5).trans ((sw_iload_n f_122_33 rfl).trans ((sw_iaload f_122_34 g6 g7).trans ((st_aload_n f_122_35 rfl).trans ((st_getR f_122_36 e_122_57 (by decide) g1 g5).trans ((sw_iload_n f_122_39 rfl).trans ((sw_iconst f_122_40).trans ((sw_iadd f_122_41).trans ((sw_iaload f_122_42 g6 g8).trans (st_callV' f_122_43 h_122_153 mn_119 rfl rfl rfl rfl mo_119 g1 rfl)))))))))))))))
theorem bX7_isSharer_46 {o0 o1 o2 : Option Value} {y0 y1 : Int} (g1 : -2147483648 ≤ y1 ∧ y1 ≤ 2147483647) (g2 : -2147483648 ≤ y0 ∧ y0 ≤ 2147483647) : XR sc d 122 46 [o0, o1, o2] [xw y0, xw y1] (T, z, xv V, J, R) = if y1 = y0 then XR sc d 122 49 [o0, o1, o2] [] (T, z, xv V, J, R) else XR sc d 122 53 [o0, o1, o2] [] (T, z, xv V, J, R) :=
  sw_icmp_ne (t := 53) f_122_46 ⟨by decide, rfl⟩ g1 g2
theorem bX7_isSharer_49 {o0 o1 o2 : Option Value} : XR sc d 122 49 [o0, o1, o2] [] (T, z, xv V, J, R) = XR sc d 122 54 [o0, o1, o2] [xw 1] (T, z, xv V, J, R) :=
  (sw_iconst f_122_49).trans (st_goto (t := 54) f_122_50 ⟨by decide, rfl⟩)
theorem bX7_isSharer_53 {o0 o1 o2 : Option Value} : XR sc d 122 53 [o0, o1, o2] [] (T, z, xv V, J, R) = XR sc d 122 54 [o0, o1, o2] [xw 0] (T, z, xv V, J, R) :=
  sw_iconst f_122_53
theorem bX7_isSharer_54 {o0 o1 o2 : Option Value} {y0 : Int} (g1 : y0 = 0 ∨ y0 = 1) : XR sc d 122 54 [o0, o1, o2] [xw y0] (T, z, xv V, J, R) = some (.inl (some (xw y0)), (T, z, xv V, J, R)) :=
  sw_zreturn f_122_54 mr_122 g1
theorem eX7_loads {x1 : Int} {a0 : Nat} : X sc (d + 1) 123 [.ref a0, xw x1] (T, z, xv V, J, R) = XR sc d 123 0 [some (.ref a0), some (xw x1), none, none, none] [] (T, z, xv V, J, R) :=
  (X_eq ⟨jl_123, by rw [mn_123]; rfl, rfl, by rw [lm_123]; exact Nat.le_of_ble_eq_true rfl⟩).trans (by unfold xent; rw [lm_123]; rfl)
theorem bX7_loads_0 {o0 o1 o2 o3 o4 : Option Value} : XR sc d 123 0 [o0, o1, o2, o3, o4] [] (T, z, xv V, J, R) = XR sc d 123 2 [o0, o1, some (xw 0), o3, o4] [] (T, z, xv V, J, R) :=
  (sw_iconst f_123_0).trans (sw_istore_n (L' := [o0, o1, some (xw 0), o3, o4]) f_123_1 (Nat.le_of_ble_eq_true rfl) rfl)
theorem bX7_loads_2 {o1 o3 o4 : Option Value} {x2 : Int} {a0 : Nat} (g1 : T a0 = (8, 0)) (g2 : -2147483648 ≤ x2 ∧ x2 ≤ 2147483647) (g3 : -2147483648 ≤ (V a0 3) ∧ (V a0 3) ≤ 2147483647) : XR sc d 123 2 [some (.ref a0), o1, some (xw x2), o3, o4] [] (T, z, xv V, J, R) = if (V a0 3) ≤ x2 then XR sc d 123 81 [some (.ref a0), o1, some (xw x2), o3, o4] [] (T, z, xv V, J, R) else XR sc d 123 10 [some (.ref a0), o1, some (xw x2), o3, o4] [] (T, z, xv V, J, R) :=
  (sw_iload_n f_123_2 rfl).trans ((st_aload_n f_123_3 rfl).trans ((sw_getI f_123_4 e_123_95 (by decide) g1).trans (sw_icmp_ge (t := 81) f_123_7 ⟨by decide, rfl⟩ g2 g3)))
theorem bX7_loads_10 {o1 o3 o4 : Option Value} {x2 : Int} {a0 : Nat} (g1 : T a0 = (8, 0)) (g2 : R a0 19 = some ((R a0 19).getD 0)) (g3 : T ((R a0 19).getD 0) = (32, (T ((R a0 19).getD 0)).2)) (g4 : (0 : Int) ≤ x2 ∧ x2 < ((T ((R a0 19).getD 0)).2 : Int) ∧ (T ((R a0 19).getD 0)).2 ≤ 3584) : XR sc d 123 10 [some (.ref a0), o1, some (xw x2), o3, o4] [] (T, z, xv V, J, R) = XR sc d 123 19 [some (.ref a0), o1, some (xw x2), some (xw 0), o4] [] (T, z, xv (xup2 V ((R a0 19).getD 0) x2.toNat 0), J, R) :=
  (st_aload_n f_123_10 rfl).trans ((st_getR f_123_11 e_123_60 (by decide) g1 g2).trans ((sw_iload_n f_123_14 rfl).trans ((sw_iconst f_123_15).trans ((sw_iastore f_123_16 g3 g4).trans ((sw_iconst f_123_17).trans (sw_istore_n (L' := [some (.ref a0), o1, some (xw x2), some (xw 0), o4]) f_123_18 (Nat.le_of_ble_eq_true rfl) rfl))))))
theorem bX7_loads_19 {o1 o2 o4 : Option Value} {x3 : Int} {a0 : Nat} (g1 : T a0 = (8, 0)) (g2 : -2147483648 ≤ (x3 + 1) ∧ (x3 + 1) ≤ 2147483647) (g3 : -2147483648 ≤ (V a0 17) ∧ (V a0 17) ≤ 2147483647) : XR sc d 123 19 [some (.ref a0), o1, o2, some (xw x3), o4] [] (T, z, xv V, J, R) = if (V a0 17) ≤ (x3 + 1) then XR sc d 123 75 [some (.ref a0), o1, o2, some (xw x3), o4] [] (T, z, xv V, J, R) else XR sc d 123 29 [some (.ref a0), o1, o2, some (xw x3), o4] [] (T, z, xv V, J, R) :=
  (sw_iload_n f_123_19 rfl).trans ((sw_iconst f_123_20).trans ((sw_iadd f_123_21).trans ((st_aload_n f_123_22 rfl).trans ((sw_getI f_123_23 e_123_156 (by decide) g1).trans (sw_icmp_ge (t := 75) f_123_26 ⟨by decide, rfl⟩ g2 g3)))))
theorem bX7_loads_29 {o1 o2 o4 : Option Value} {x3 : Int} {a0 : Nat} (g1 : T a0 = (8, 0)) : XR sc d 123 29 [some (.ref a0), o1, o2, some (xw x3), o4] [] (T, z, xv V, J, R) = xret 123 (XR sc d 123) 31 34 [some (.ref a0), o1, o2, some (xw x3), o4] [] (X sc d 121 [.ref a0, xw x3] (T, z, xv V, J, R)) :=
  (st_aload_n f_123_29 rfl).trans ((sw_iload_n f_123_30 rfl).trans (st_callV' f_123_31 h_123_162 mn_121 rfl rfl rfl rfl mo_121 g1 rfl))
theorem bX7_loads_34 {o1 o4 : Option Value} {y0 x2 x3 : Int} {a0 : Nat} (g1 : T a0 = (8, 0)) (g2 : R a0 19 = some ((R a0 19).getD 0)) : XR sc d 123 34 [some (.ref a0), o1, some (xw x2), some (xw x3), o4] [xw y0] (T, z, xv V, J, R) = xret 123 (XR sc d 123) 44 47 [some (.ref a0), o1, some (xw x2), some (xw x3), some (xw y0)] [xw x2, .ref ((R a0 19).getD 0)] (X sc d 122 [.ref a0, xw x2, xw x3] (T, z, xv V, J, R)) :=
  (sw_istore (L' := [some (.ref a0), o1, some (xw x2), some (xw x3), some (xw y0)]) f_123_34 (Nat.le_of_ble_eq_true rfl) rfl).trans ((st_aload_n f_123_36 rfl).trans ((st_getR f_123_37 e_123_60 (by decide) g1 g2).trans ((sw_iload_n f_123_40 rfl).trans ((st_aload_n f_123_41 rfl).trans ((sw_iload_n f_123_42 rfl).trans ((sw_iload_n f_123_43 rfl).trans (st_callV' f_123_44 h_123_159 mn_122 rfl rfl rfl rfl mo_122 g1 rfl)))))))
theorem bX7_loads_47 {o0 o1 o2 o3 o4 : Option Value} {s1 s2 : Value} {y0 : Int} (g1 : -2147483648 ≤ y0 ∧ y0 ≤ 2147483647) : XR sc d 123 47 [o0, o1, o2, o3, o4] [xw y0, s1, s2] (T, z, xv V, J, R) = if y0 = 0 then XR sc d 123 62 [o0, o1, o2, o3, o4] [s1, s2] (T, z, xv V, J, R) else XR sc d 123 50 [o0, o1, o2, o3, o4] [s1, s2] (T, z, xv V, J, R) :=
  sw_if_eq (t := 62) f_123_47 ⟨by decide, rfl⟩ g1
theorem bX7_loads_50 {o0 o2 o3 : Option Value} {s0 s1 : Value} {x1 x4 : Int} (g1 : 0 < x4 ∧ x4 ≤ 2147483647 ∧ 0 ≤ ((x1 + x4) - 1) ∧ ((x1 + x4) - 1) ≤ 2147483647) : XR sc d 123 50 [o0, some (xw x1), o2, o3, some (xw x4)] [s0, s1] (T, z, xv V, J, R) = XR sc d 123 68 [o0, some (xw x1), o2, o3, some (xw x4)] [xw (((x1 + x4) - 1) / x4), s0, s1] (T, z, xv V, J, R) :=
  (sw_iload_n f_123_50 rfl).trans ((sw_iload f_123_51 rfl).trans ((sw_iadd f_123_53).trans ((sw_iconst f_123_54).trans ((sw_isub f_123_55).trans ((sw_iload f_123_56 rfl).trans ((sw_idiv f_123_58 g1).trans (st_goto (t := 68) f_123_59 ⟨by decide, rfl⟩)))))))
theorem bX7_loads_62 {o1 o3 o4 : Option Value} {s0 s1 : Value} {x2 : Int} {a0 : Nat} (g1 : T a0 = (8, 0)) (g2 : R a0 19 = some ((R a0 19).getD 0)) (g3 : T ((R a0 19).getD 0) = (32, (T ((R a0 19).getD 0)).2)) (g4 : (0 : Int) ≤ x2 ∧ x2 < ((T ((R a0 19).getD 0)).2 : Int) ∧ (T ((R a0 19).getD 0)).2 ≤ 3584) : XR sc d 123 62 [some (.ref a0), o1, some (xw x2), o3, o4] [s0, s1] (T, z, xv V, J, R) = XR sc d 123 68 [some (.ref a0), o1, some (xw x2), o3, o4] [xw (V ((R a0 19).getD 0) x2.toNat), s0, s1] (T, z, xv V, J, R) :=
  (st_aload_n f_123_62 rfl).trans ((st_getR f_123_63 e_123_60 (by decide) g1 g2).trans ((sw_iload_n f_123_66 rfl).trans (sw_iaload f_123_67 g3 g4)))
theorem bX7_loads_68 {o0 o1 o2 o4 : Option Value} {y0 y1 x3 : Int} {b2 : Nat} (g1 : T b2 = (32, (T b2).2)) (g2 : (0 : Int) ≤ y1 ∧ y1 < ((T b2).2 : Int) ∧ (T b2).2 ≤ 3584) : XR sc d 123 68 [o0, o1, o2, some (xw x3), o4] [xw y0, xw y1, .ref b2] (T, z, xv V, J, R) = XR sc d 123 19 [o0, o1, o2, some (xw (x3 + 1)), o4] [] (T, z, xv (xup2 V b2 y1.toNat y0), J, R) :=
  (sw_iastore f_123_68 g1 g2).trans ((sw_iinc (L' := [o0, o1, o2, some (xw (x3 + 1)), o4]) f_123_69 rfl (Nat.le_of_ble_eq_true rfl) rfl).trans (st_goto (t := 19) f_123_72 ⟨by decide, rfl⟩))
theorem bX7_loads_75 {o0 o1 o3 o4 : Option Value} {x2 : Int} : XR sc d 123 75 [o0, o1, some (xw x2), o3, o4] [] (T, z, xv V, J, R) = XR sc d 123 2 [o0, o1, some (xw (x2 + 1)), o3, o4] [] (T, z, xv V, J, R) :=
  (sw_iinc (L' := [o0, o1, some (xw (x2 + 1)), o3, o4]) f_123_75 rfl (Nat.le_of_ble_eq_true rfl) rfl).trans (st_goto (t := 2) f_123_78 ⟨by decide, rfl⟩)
theorem bX7_loads_81 {o0 o1 o2 o3 o4 : Option Value} : XR sc d 123 81 [o0, o1, o2, o3, o4] [] (T, z, xv V, J, R) = some (.inl none, (T, z, xv V, J, R)) :=
  st_return f_123_81 mr_123
theorem eX7_bears {x1 x2 x3 x4 : Int} {a0 : Nat} : X sc (d + 1) 124 [.ref a0, xw x1, xw x2, xw x3, xw x4] (T, z, xv V, J, R) = XR sc d 124 0 [some (.ref a0), some (xw x1), some (xw x2), some (xw x3), some (xw x4), none] [] (T, z, xv V, J, R) :=
  (X_eq ⟨jl_124, by rw [mn_124]; rfl, rfl, by rw [lm_124]; exact Nat.le_of_ble_eq_true rfl⟩).trans (by unfold xent; rw [lm_124]; rfl)
theorem bX7_bears_0 {o2 o3 o4 o5 : Option Value} {x1 : Int} {a0 : Nat} (g1 : T a0 = (8, 0)) : XR sc d 124 0 [some (.ref a0), some (xw x1), o2, o3, o4, o5] [] (T, z, xv V, J, R) = xret 124 (XR sc d 124) 2 5 [some (.ref a0), some (xw x1), o2, o3, o4, o5] [] (X sc d 96 [.ref a0, xw x1] (T, z, xv V, J, R)) :=
  (st_aload_n f_124_0 rfl).trans ((sw_iload_n f_124_1 rfl).trans (st_callV' f_124_2 h_124_123 mn_96 rfl rfl rfl rfl mo_96 g1 rfl))
theorem bX7_bears_5 {o0 o1 o2 o3 o4 o5 : Option Value} {y0 : Int} (g1 : -2147483648 ≤ y0 ∧ y0 ≤ 2147483647) : XR sc d 124 5 [o0, o1, o2, o3, o4, o5] [xw y0] (T, z, xv V, J, R) = if y0 = 0 then XR sc d 124 26 [o0, o1, o2, o3, o4, o5] [] (T, z, xv V, J, R) else XR sc d 124 8 [o0, o1, o2, o3, o4, o5] [] (T, z, xv V, J, R) :=
  sw_if_eq (t := 26) f_124_5 ⟨by decide, rfl⟩ g1
theorem bX7_bears_8 {o0 o1 o3 o4 o5 : Option Value} {x2 : Int} : XR sc d 124 8 [o0, o1, some (xw x2), o3, o4, o5] [] (T, z, xv V, J, R) = xret 124 (XR sc d 124) 9 12 [o0, o1, some (xw x2), o3, o4, o5] [] (X sc d 97 [xw x2] (T, z, xv V, J, R)) :=
  (sw_iload_n f_124_8 rfl).trans (st_callS' f_124_9 h_124_138 mn_97 rfl rfl rfl rfl)
theorem bX7_bears_12 {o0 o1 o2 o3 o4 o5 : Option Value} {y0 : Int} (g1 : -2147483648 ≤ y0 ∧ y0 ≤ 2147483647) : XR sc d 124 12 [o0, o1, o2, o3, o4, o5] [xw y0] (T, z, xv V, J, R) = if y0 = 0 then XR sc d 124 26 [o0, o1, o2, o3, o4, o5] [] (T, z, xv V, J, R) else XR sc d 124 15 [o0, o1, o2, o3, o4, o5] [] (T, z, xv V, J, R) :=
  sw_if_eq (t := 26) f_124_12 ⟨by decide, rfl⟩ g1
theorem bX7_bears_15 {o0 o1 o2 o4 o5 : Option Value} {x3 : Int} : XR sc d 124 15 [o0, o1, o2, some (xw x3), o4, o5] [] (T, z, xv V, J, R) = xret 124 (XR sc d 124) 16 19 [o0, o1, o2, some (xw x3), o4, o5] [] (X sc d 97 [xw x3] (T, z, xv V, J, R)) :=
  (sw_iload_n f_124_15 rfl).trans (st_callS' f_124_16 h_124_138 mn_97 rfl rfl rfl rfl)
theorem bX7_bears_19 {o0 o1 o2 o3 o4 o5 : Option Value} {y0 : Int} (g1 : -2147483648 ≤ y0 ∧ y0 ≤ 2147483647) : XR sc d 124 19 [o0, o1, o2, o3, o4, o5] [xw y0] (T, z, xv V, J, R) = if y0 = 0 then XR sc d 124 26 [o0, o1, o2, o3, o4, o5] [] (T, z, xv V, J, R) else XR sc d 124 22 [o0, o1, o2, o3, o4, o5] [] (T, z, xv V, J, R) :=
  sw_if_eq (t := 26) f_124_19 ⟨by decide, rfl⟩ g1
theorem bX7_bears_22 {o0 o1 o2 o3 o4 o5 : Option Value} : XR sc d 124 22 [o0, o1, o2, o3, o4, o5] [] (T, z, xv V, J, R) = XR sc d 124 27 [o0, o1, o2, o3, o4, o5] [xw 1] (T, z, xv V, J, R) :=
  (sw_iconst f_124_22).trans (st_goto (t := 27) f_124_23 ⟨by decide, rfl⟩)
theorem bX7_bears_26 {o0 o1 o2 o3 o4 o5 : Option Value} : XR sc d 124 26 [o0, o1, o2, o3, o4, o5] [] (T, z, xv V, J, R) = XR sc d 124 27 [o0, o1, o2, o3, o4, o5] [xw 0] (T, z, xv V, J, R) :=
  sw_iconst f_124_26
theorem bX7_bears_27 {o1 o2 o3 o4 o5 : Option Value} {y0 : Int} {a0 : Nat} (g1 : -2147483648 ≤ y0 ∧ y0 ≤ 2147483647) : XR sc d 124 27 [some (.ref a0), o1, o2, o3, o4, o5] [xw y0] (T, z, xv V, J, R) = if y0 = 0 then XR sc d 124 35 [some (.ref a0), o1, o2, o3, o4, some (xw y0)] [.ref a0] (T, z, xv V, J, R) else XR sc d 124 39 [some (.ref a0), o1, o2, o3, o4, some (xw y0)] [.ref a0] (T, z, xv V, J, R) :=
  (sw_istore (L' := [some (.ref a0), o1, o2, o3, o4, some (xw y0)]) f_124_27 (Nat.le_of_ble_eq_true rfl) rfl).trans ((st_aload_n f_124_29 rfl).trans ((sw_iload f_124_30 rfl).trans (sw_if_ne (t := 39) f_124_32 ⟨by decide, rfl⟩ g1)))
theorem bX7_bears_35 {o0 o1 o2 o3 o4 o5 : Option Value} {s0 : Value} : XR sc d 124 35 [o0, o1, o2, o3, o4, o5] [s0] (T, z, xv V, J, R) = XR sc d 124 61 [o0, o1, o2, o3, o4, o5] [xw 1, s0] (T, z, xv V, J, R) :=
  (sw_iconst f_124_35).trans (st_goto (t := 61) f_124_36 ⟨by decide, rfl⟩)
theorem bX7_bears_39 {o0 o1 o4 o5 : Option Value} {s0 : Value} {x2 x3 : Int} (g1 : -2147483648 ≤ x2 ∧ x2 ≤ 2147483647) (g2 : -2147483648 ≤ x3 ∧ x3 ≤ 2147483647) : XR sc d 124 39 [o0, o1, some (xw x2), some (xw x3), o4, o5] [s0] (T, z, xv V, J, R) = if x2 = x3 then XR sc d 124 56 [o0, o1, some (xw x2), some (xw x3), o4, o5] [s0] (T, z, xv V, J, R) else XR sc d 124 44 [o0, o1, some (xw x2), some (xw x3), o4, o5] [s0] (T, z, xv V, J, R) :=
  (sw_iload_n f_124_39 rfl).trans ((sw_iload_n f_124_40 rfl).trans (sw_icmp_eq (t := 56) f_124_41 ⟨by decide, rfl⟩ g1 g2))
theorem bX7_bears_44 {o0 o1 o2 o3 o5 : Option Value} {s0 : Value} {x4 : Int} : XR sc d 124 44 [o0, o1, o2, o3, some (xw x4), o5] [s0] (T, z, xv V, J, R) = xret 124 (XR sc d 124) 50 53 [o0, o1, o2, o3, some (xw x4), o5] [s0] (X sc d 94 [xw x4, xw 1, xw 9999] (T, z, xv V, J, R)) :=
  (sw_iload f_124_44 rfl).trans ((sw_iconst f_124_46).trans ((sw_sipush f_124_47 c16_9999).trans (st_callS' f_124_50 h_124_91 mn_94 rfl rfl rfl rfl)))
theorem bX7_bears_53 {o0 o1 o2 o3 o4 o5 : Option Value} {s1 : Value} {y0 : Int} (g1 : -2147483648 ≤ y0 ∧ y0 ≤ 2147483647) : XR sc d 124 53 [o0, o1, o2, o3, o4, o5] [xw y0, s1] (T, z, xv V, J, R) = if y0 = 0 then XR sc d 124 56 [o0, o1, o2, o3, o4, o5] [s1] (T, z, xv V, J, R) else XR sc d 124 60 [o0, o1, o2, o3, o4, o5] [s1] (T, z, xv V, J, R) :=
  sw_if_ne (t := 60) f_124_53 ⟨by decide, rfl⟩ g1
theorem bX7_bears_56 {o0 o1 o2 o3 o4 o5 : Option Value} {s0 : Value} : XR sc d 124 56 [o0, o1, o2, o3, o4, o5] [s0] (T, z, xv V, J, R) = XR sc d 124 61 [o0, o1, o2, o3, o4, o5] [xw 2, s0] (T, z, xv V, J, R) :=
  (sw_iconst f_124_56).trans (st_goto (t := 61) f_124_57 ⟨by decide, rfl⟩)
theorem bX7_bears_60 {o0 o1 o2 o3 o4 o5 : Option Value} {s0 : Value} : XR sc d 124 60 [o0, o1, o2, o3, o4, o5] [s0] (T, z, xv V, J, R) = XR sc d 124 61 [o0, o1, o2, o3, o4, o5] [xw 0, s0] (T, z, xv V, J, R) :=
  sw_iconst f_124_60
theorem bX7_bears_61 {o0 o1 o2 o3 o4 o5 : Option Value} {y0 : Int} {b1 : Nat} (g1 : T b1 = (8, 0)) : XR sc d 124 61 [o0, o1, o2, o3, o4, o5] [xw y0, .ref b1] (T, z, xv V, J, R) = xret 124 (XR sc d 124) 61 64 [o0, o1, o2, o3, o4, o5] [] (X sc d 93 [.ref b1, xw y0] (T, z, xv V, J, R)) :=
  st_callV' f_124_61 h_124_98 mn_93 rfl rfl rfl rfl mo_93 g1 rfl
theorem bX7_bears_64 {o0 o1 o2 o3 o4 o5 : Option Value} {y0 : Int} (g1 : -2147483648 ≤ y0 ∧ y0 ≤ 2147483647) : XR sc d 124 64 [o0, o1, o2, o3, o4, o5] [xw y0] (T, z, xv V, J, R) = if y0 = 0 then XR sc d 124 69 [o0, o1, o2, o3, o4, o5] [] (T, z, xv V, J, R) else XR sc d 124 67 [o0, o1, o2, o3, o4, o5] [] (T, z, xv V, J, R) :=
  sw_if_eq (t := 69) f_124_64 ⟨by decide, rfl⟩ g1
theorem bX7_bears_67 {o0 o1 o2 o3 o4 o5 : Option Value} : XR sc d 124 67 [o0, o1, o2, o3, o4, o5] [] (T, z, xv V, J, R) = some (.inl (some (xw 0)), (T, z, xv V, J, R)) :=
  (sw_iconst f_124_67).trans (sw_ireturn f_124_68 mr_124)
theorem bX7_bears_69 {o1 o4 o5 : Option Value} {x2 x3 : Int} {a0 : Nat} (g1 : T a0 = (8, 0)) : XR sc d 124 69 [some (.ref a0), o1, some (xw x2), some (xw x3), o4, o5] [] (T, z, xv V, J, R) = xret 124 (XR sc d 124) 72 75 [some (.ref a0), o1, some (xw x2), some (xw x3), o4, o5] [] (X sc d 120 [.ref a0, xw x2, xw x3] (T, z, xv V, J, R)) :=
  (st_aload_n f_124_69 rfl).trans ((sw_iload_n f_124_70 rfl).trans ((sw_iload_n f_124_71 rfl).trans (st_callV' f_124_72 h_124_165 mn_120 rfl rfl rfl rfl mo_120 g1 rfl)))
theorem bX7_bears_75 {o0 o1 o2 o3 o4 o5 : Option Value} {y0 : Int} (g1 : -2147483648 ≤ y0 ∧ y0 ≤ 2147483647) : XR sc d 124 75 [o0, o1, o2, o3, o4, o5] [xw y0] (T, z, xv V, J, R) = if y0 = 0 then XR sc d 124 78 [o0, o1, o2, o3, o4, o5] [] (T, z, xv V, J, R) else XR sc d 124 80 [o0, o1, o2, o3, o4, o5] [] (T, z, xv V, J, R) :=
  sw_if_ne (t := 80) f_124_75 ⟨by decide, rfl⟩ g1
theorem bX7_bears_78 {o0 o1 o2 o3 o4 o5 : Option Value} : XR sc d 124 78 [o0, o1, o2, o3, o4, o5] [] (T, z, xv V, J, R) = some (.inl (some (xw 0)), (T, z, xv V, J, R)) :=
  (sw_iconst f_124_78).trans (sw_ireturn f_124_79 mr_124)
theorem bX7_bears_80 {o1 o2 o3 o5 : Option Value} {x4 : Int} {a0 : Nat} (g1 : T a0 = (8, 0)) : XR sc d 124 80 [some (.ref a0), o1, o2, o3, some (xw x4), o5] [] (T, z, xv V, J, R) = xret 124 (XR sc d 124) 83 86 [some (.ref a0), o1, o2, o3, some (xw x4), o5] [] (X sc d 123 [.ref a0, xw x4] (T, z, xv V, J, R)) :=
  (st_aload_n f_124_80 rfl).trans ((sw_iload f_124_81 rfl).trans (st_callV' f_124_83 h_124_168 mn_123 rfl rfl rfl rfl mo_123 g1 rfl))
theorem bX7_bears_86 {o2 o3 o4 o5 : Option Value} {x1 : Int} {a0 : Nat} (g1 : T a0 = (8, 0)) (g2 : R a0 19 = some ((R a0 19).getD 0)) (g3 : T ((R a0 19).getD 0) = (32, (T ((R a0 19).getD 0)).2)) (g4 : (0 : Int) ≤ x1 ∧ x1 < ((T ((R a0 19).getD 0)).2 : Int) ∧ (T ((R a0 19).getD 0)).2 ≤ 3584) : XR sc d 124 86 [some (.ref a0), some (xw x1), o2, o3, o4, o5] [] (T, z, xv V, J, R) = some (.inl (some (xw (V ((R a0 19).getD 0) x1.toNat))), (T, z, xv V, J, R)) :=
  (st_aload_n f_124_86 rfl).trans ((st_getR f_124_87 e_124_60 (by decide) g1 g2).trans ((sw_iload_n f_124_90 rfl).trans ((sw_iaload f_124_91 g3 g4).trans (sw_ireturn f_124_92 mr_124))))
theorem eX7_way {x1 x2 x3 : Int} {a0 : Nat} : X sc (d + 1) 125 [.ref a0, xw x1, xw x2, xw x3] (T, z, xv V, J, R) = XR sc d 125 0 [some (.ref a0), some (xw x1), some (xw x2), some (xw x3), none] [] (T, z, xv V, J, R) :=
  (X_eq ⟨jl_125, by rw [mn_125]; rfl, rfl, by rw [lm_125]; exact Nat.le_of_ble_eq_true rfl⟩).trans (by unfold xent; rw [lm_125]; rfl)
theorem bX7_way_0 {o0 o2 o3 o4 : Option Value} {x1 : Int} : XR sc d 125 0 [o0, some (xw x1), o2, o3, o4] [] (T, z, xv V, J, R) = xret 125 (XR sc d 125) 1 4 [o0, some (xw x1), o2, o3, o4] [] (X sc d 97 [xw x1] (T, z, xv V, J, R)) :=
  (sw_iload_n f_125_0 rfl).trans (st_callS' f_125_1 h_125_138 mn_97 rfl rfl rfl rfl)
theorem bX7_way_4 {o0 o1 o2 o3 o4 : Option Value} {y0 : Int} (g1 : -2147483648 ≤ y0 ∧ y0 ≤ 2147483647) : XR sc d 125 4 [o0, o1, o2, o3, o4] [xw y0] (T, z, xv V, J, R) = if y0 = 0 then XR sc d 125 22 [o0, o1, o2, o3, o4] [] (T, z, xv V, J, R) else XR sc d 125 7 [o0, o1, o2, o3, o4] [] (T, z, xv V, J, R) :=
  sw_if_eq (t := 22) f_125_4 ⟨by decide, rfl⟩ g1
theorem bX7_way_7 {o0 o1 o3 o4 : Option Value} {x2 : Int} : XR sc d 125 7 [o0, o1, some (xw x2), o3, o4] [] (T, z, xv V, J, R) = xret 125 (XR sc d 125) 8 11 [o0, o1, some (xw x2), o3, o4] [] (X sc d 97 [xw x2] (T, z, xv V, J, R)) :=
  (sw_iload_n f_125_7 rfl).trans (st_callS' f_125_8 h_125_138 mn_97 rfl rfl rfl rfl)
theorem bX7_way_11 {o0 o1 o2 o3 o4 : Option Value} {y0 : Int} (g1 : -2147483648 ≤ y0 ∧ y0 ≤ 2147483647) : XR sc d 125 11 [o0, o1, o2, o3, o4] [xw y0] (T, z, xv V, J, R) = if y0 = 0 then XR sc d 125 22 [o0, o1, o2, o3, o4] [] (T, z, xv V, J, R) else XR sc d 125 14 [o0, o1, o2, o3, o4] [] (T, z, xv V, J, R) :=
  sw_if_eq (t := 22) f_125_11 ⟨by decide, rfl⟩ g1
theorem bX7_way_14 {o0 o1 o2 o4 : Option Value} {x3 : Int} (g1 : -2147483648 ≤ x3 ∧ x3 ≤ 2147483647) : XR sc d 125 14 [o0, o1, o2, some (xw x3), o4] [] (T, z, xv V, J, R) = if x3 < 0 then XR sc d 125 22 [o0, o1, o2, some (xw x3), o4] [] (T, z, xv V, J, R) else XR sc d 125 18 [o0, o1, o2, some (xw x3), o4] [] (T, z, xv V, J, R) :=
  (sw_iload_n f_125_14 rfl).trans (sw_if_lt (t := 22) f_125_15 ⟨by decide, rfl⟩ g1)
theorem bX7_way_18 {o0 o1 o2 o3 o4 : Option Value} : XR sc d 125 18 [o0, o1, o2, o3, o4] [] (T, z, xv V, J, R) = XR sc d 125 23 [o0, o1, o2, o3, o4] [xw 1] (T, z, xv V, J, R) :=
  (sw_iconst f_125_18).trans (st_goto (t := 23) f_125_19 ⟨by decide, rfl⟩)
theorem bX7_way_22 {o0 o1 o2 o3 o4 : Option Value} : XR sc d 125 22 [o0, o1, o2, o3, o4] [] (T, z, xv V, J, R) = XR sc d 125 23 [o0, o1, o2, o3, o4] [xw 0] (T, z, xv V, J, R) :=
  sw_iconst f_125_22
theorem bX7_way_23 {o1 o2 o3 o4 : Option Value} {y0 : Int} {a0 : Nat} (g1 : -2147483648 ≤ y0 ∧ y0 ≤ 2147483647) : XR sc d 125 23 [some (.ref a0), o1, o2, o3, o4] [xw y0] (T, z, xv V, J, R) = if y0 = 0 then XR sc d 125 31 [some (.ref a0), o1, o2, o3, some (xw y0)] [.ref a0] (T, z, xv V, J, R) else XR sc d 125 35 [some (.ref a0), o1, o2, o3, some (xw y0)] [.ref a0] (T, z, xv V, J, R) :=
  (sw_istore (L' := [some (.ref a0), o1, o2, o3, some (xw y0)]) f_125_23 (Nat.le_of_ble_eq_true rfl) rfl).trans ((st_aload_n f_125_25 rfl).trans ((sw_iload f_125_26 rfl).trans (sw_if_ne (t := 35) f_125_28 ⟨by decide, rfl⟩ g1)))
theorem bX7_way_31 {o0 o1 o2 o3 o4 : Option Value} {s0 : Value} : XR sc d 125 31 [o0, o1, o2, o3, o4] [s0] (T, z, xv V, J, R) = XR sc d 125 45 [o0, o1, o2, o3, o4] [xw 1, s0] (T, z, xv V, J, R) :=
  (sw_iconst f_125_31).trans (st_goto (t := 45) f_125_32 ⟨by decide, rfl⟩)
theorem bX7_way_35 {o0 o3 o4 : Option Value} {s0 : Value} {x1 x2 : Int} (g1 : -2147483648 ≤ x1 ∧ x1 ≤ 2147483647) (g2 : -2147483648 ≤ x2 ∧ x2 ≤ 2147483647) : XR sc d 125 35 [o0, some (xw x1), some (xw x2), o3, o4] [s0] (T, z, xv V, J, R) = if x1 = x2 then XR sc d 125 40 [o0, some (xw x1), some (xw x2), o3, o4] [s0] (T, z, xv V, J, R) else XR sc d 125 44 [o0, some (xw x1), some (xw x2), o3, o4] [s0] (T, z, xv V, J, R) :=
  (sw_iload_n f_125_35 rfl).trans ((sw_iload_n f_125_36 rfl).trans (sw_icmp_ne (t := 44) f_125_37 ⟨by decide, rfl⟩ g1 g2))
theorem bX7_way_40 {o0 o1 o2 o3 o4 : Option Value} {s0 : Value} : XR sc d 125 40 [o0, o1, o2, o3, o4] [s0] (T, z, xv V, J, R) = XR sc d 125 45 [o0, o1, o2, o3, o4] [xw 2, s0] (T, z, xv V, J, R) :=
  (sw_iconst f_125_40).trans (st_goto (t := 45) f_125_41 ⟨by decide, rfl⟩)
theorem bX7_way_44 {o0 o1 o2 o3 o4 : Option Value} {s0 : Value} : XR sc d 125 44 [o0, o1, o2, o3, o4] [s0] (T, z, xv V, J, R) = XR sc d 125 45 [o0, o1, o2, o3, o4] [xw 0, s0] (T, z, xv V, J, R) :=
  sw_iconst f_125_44
theorem bX7_way_45 {o0 o1 o2 o3 o4 : Option Value} {y0 : Int} {b1 : Nat} (g1 : T b1 = (8, 0)) : XR sc d 125 45 [o0, o1, o2, o3, o4] [xw y0, .ref b1] (T, z, xv V, J, R) = xret 125 (XR sc d 125) 45 48 [o0, o1, o2, o3, o4] [] (X sc d 93 [.ref b1, xw y0] (T, z, xv V, J, R)) :=
  st_callV' f_125_45 h_125_98 mn_93 rfl rfl rfl rfl mo_93 g1 rfl
theorem bX7_way_48 {o0 o1 o2 o3 o4 : Option Value} {y0 : Int} (g1 : -2147483648 ≤ y0 ∧ y0 ≤ 2147483647) : XR sc d 125 48 [o0, o1, o2, o3, o4] [xw y0] (T, z, xv V, J, R) = if y0 = 0 then XR sc d 125 53 [o0, o1, o2, o3, o4] [] (T, z, xv V, J, R) else XR sc d 125 51 [o0, o1, o2, o3, o4] [] (T, z, xv V, J, R) :=
  sw_if_eq (t := 53) f_125_48 ⟨by decide, rfl⟩ g1
theorem bX7_way_51 {o0 o1 o2 o3 o4 : Option Value} : XR sc d 125 51 [o0, o1, o2, o3, o4] [] (T, z, xv V, J, R) = some (.inl (some (xw 0)), (T, z, xv V, J, R)) :=
  (sw_iconst f_125_51).trans (sw_ireturn f_125_52 mr_125)
theorem bX7_way_53 {o3 o4 : Option Value} {x1 x2 : Int} {a0 : Nat} (g1 : T a0 = (8, 0)) : XR sc d 125 53 [some (.ref a0), some (xw x1), some (xw x2), o3, o4] [] (T, z, xv V, J, R) = xret 125 (XR sc d 125) 56 59 [some (.ref a0), some (xw x1), some (xw x2), o3, o4] [] (X sc d 120 [.ref a0, xw x1, xw x2] (T, z, xv V, J, R)) :=
  (st_aload_n f_125_53 rfl).trans ((sw_iload_n f_125_54 rfl).trans ((sw_iload_n f_125_55 rfl).trans (st_callV' f_125_56 h_125_165 mn_120 rfl rfl rfl rfl mo_120 g1 rfl)))
theorem bX7_way_59 {o0 o1 o2 o3 o4 : Option Value} {y0 : Int} (g1 : -2147483648 ≤ y0 ∧ y0 ≤ 2147483647) : XR sc d 125 59 [o0, o1, o2, o3, o4] [xw y0] (T, z, xv V, J, R) = if y0 = 0 then XR sc d 125 79 [o0, o1, o2, o3, o4] [] (T, z, xv V, J, R) else XR sc d 125 62 [o0, o1, o2, o3, o4] [] (T, z, xv V, J, R) :=
  sw_if_eq (t := 79) f_125_59 ⟨by decide, rfl⟩ g1
theorem bX7_way_62 {o1 o2 o4 : Option Value} {x3 : Int} {a0 : Nat} (g1 : T a0 = (8, 0)) (g2 : -2147483648 ≤ x3 ∧ x3 ≤ 2147483647) (g3 : -2147483648 ≤ (V a0 17) ∧ (V a0 17) ≤ 2147483647) : XR sc d 125 62 [some (.ref a0), o1, o2, some (xw x3), o4] [] (T, z, xv V, J, R) = if (V a0 17) ≤ x3 then XR sc d 125 79 [some (.ref a0), o1, o2, some (xw x3), o4] [] (T, z, xv V, J, R) else XR sc d 125 70 [some (.ref a0), o1, o2, some (xw x3), o4] [] (T, z, xv V, J, R) :=
  (sw_iload_n f_125_62 rfl).trans ((st_aload_n f_125_63 rfl).trans ((sw_getI f_125_64 e_125_156 (by decide) g1).trans (sw_icmp_ge (t := 79) f_125_67 ⟨by decide, rfl⟩ g2 g3)))
theorem bX7_way_70 {o1 o2 o4 : Option Value} {x3 : Int} {a0 : Nat} (g1 : T a0 = (8, 0)) (g2 : R a0 18 = some ((R a0 18).getD 0)) (g3 : T ((R a0 18).getD 0) = (32, (T ((R a0 18).getD 0)).2)) (g4 : (0 : Int) ≤ x3 ∧ x3 < ((T ((R a0 18).getD 0)).2 : Int) ∧ (T ((R a0 18).getD 0)).2 ≤ 3584) : XR sc d 125 70 [some (.ref a0), o1, o2, some (xw x3), o4] [] (T, z, xv V, J, R) = XR sc d 125 80 [some (.ref a0), o1, o2, some (xw x3), o4] [xw (V ((R a0 18).getD 0) x3.toNat)] (T, z, xv V, J, R) :=
  (st_aload_n f_125_70 rfl).trans ((st_getR f_125_71 e_125_57 (by decide) g1 g2).trans ((sw_iload_n f_125_74 rfl).trans ((sw_iaload f_125_75 g3 g4).trans (st_goto (t := 80) f_125_76 ⟨by decide, rfl⟩))))
theorem bX7_way_79 {o0 o1 o2 o3 o4 : Option Value} : XR sc d 125 79 [o0, o1, o2, o3, o4] [] (T, z, xv V, J, R) = XR sc d 125 80 [o0, o1, o2, o3, o4] [xw (-1)] (T, z, xv V, J, R) :=
  sw_iconst f_125_79
theorem bX7_way_80 {o0 o1 o2 o3 o4 : Option Value} {y0 : Int} : XR sc d 125 80 [o0, o1, o2, o3, o4] [xw y0] (T, z, xv V, J, R) = some (.inl (some (xw y0)), (T, z, xv V, J, R)) :=
  sw_ireturn f_125_80 mr_125
theorem eX7_breaking {a0 : Nat} : X sc (d + 1) 126 [.ref a0] (T, z, xv V, J, R) = XR sc d 126 0 [some (.ref a0), none, none] [] (T, z, xv V, J, R) :=
  (X_eq ⟨jl_126, by rw [mn_126]; rfl, rfl, by rw [lm_126]; exact Nat.le_of_ble_eq_true rfl⟩).trans (by unfold xent; rw [lm_126]; rfl)
theorem bX7_breaking_0 {o1 o2 : Option Value} {a0 : Nat} (g1 : T a0 = (8, 0)) : XR sc d 126 0 [some (.ref a0), o1, o2] [] (T, z, xv V, J, R) = XR sc d 126 9 [some (.ref a0), some (xw (-1)), some (xw ((V a0 3) - 1))] [] (T, z, xv V, J, R) :=
  (sw_iconst f_126_0).trans ((sw_istore_n (L' := [some (.ref a0), some (xw (-1)), o2]) f_126_1 (Nat.le_of_ble_eq_true rfl) rfl).trans ((st_aload_n f_126_2 rfl).trans ((sw_getI f_126_3 e_126_95 (by decide) g1).trans ((sw_iconst f_126_6).trans ((sw_isub f_126_7).trans (sw_istore_n (L' := [some (.ref a0), some (xw (-1)), some (xw ((V a0 3) - 1))]) f_126_8 (Nat.le_of_ble_eq_true rfl) rfl))))))
theorem bX7_breaking_9 {o0 o1 : Option Value} {x2 : Int} (g1 : -2147483648 ≤ x2 ∧ x2 ≤ 2147483647) : XR sc d 126 9 [o0, o1, some (xw x2)] [] (T, z, xv V, J, R) = if x2 < 0 then XR sc d 126 39 [o0, o1, some (xw x2)] [] (T, z, xv V, J, R) else XR sc d 126 13 [o0, o1, some (xw x2)] [] (T, z, xv V, J, R) :=
  (sw_iload_n f_126_9 rfl).trans (sw_if_lt (t := 39) f_126_10 ⟨by decide, rfl⟩ g1)
theorem bX7_breaking_13 {o1 : Option Value} {x2 : Int} {a0 : Nat} (g1 : T a0 = (8, 0)) (g2 : R a0 19 = some ((R a0 19).getD 0)) (g3 : T ((R a0 19).getD 0) = (32, (T ((R a0 19).getD 0)).2)) (g4 : (0 : Int) ≤ x2 ∧ x2 < ((T ((R a0 19).getD 0)).2 : Int) ∧ (T ((R a0 19).getD 0)).2 ≤ 3584) : XR sc d 126 13 [some (.ref a0), o1, some (xw x2)] [] (T, z, xv V, J, R) = xret 126 (XR sc d 126) 21 24 [some (.ref a0), o1, some (xw x2)] [xw (V ((R a0 19).getD 0) x2.toNat)] (X sc d 112 [.ref a0, xw x2] (T, z, xv V, J, R)) :=
  (st_aload_n f_126_13 rfl).trans ((st_getR f_126_14 e_126_60 (by decide) g1 g2).trans ((sw_iload_n f_126_17 rfl).trans ((sw_iaload f_126_18 g3 g4).trans ((st_aload_n f_126_19 rfl).trans ((sw_iload_n f_126_20 rfl).trans (st_callV' f_126_21 h_126_135 mn_112 rfl rfl rfl rfl mo_112 g1 rfl))))))
theorem bX7_breaking_24 {o0 o1 o2 : Option Value} {y0 y1 : Int} (g1 : -2147483648 ≤ y1 ∧ y1 ≤ 2147483647) (g2 : -2147483648 ≤ y0 ∧ y0 ≤ 2147483647) : XR sc d 126 24 [o0, o1, o2] [xw y0, xw y1] (T, z, xv V, J, R) = if y1 ≤ y0 then XR sc d 126 31 [o0, o1, o2] [] (T, z, xv V, J, R) else XR sc d 126 27 [o0, o1, o2] [] (T, z, xv V, J, R) :=
  sw_icmp_le (t := 31) f_126_24 ⟨by decide, rfl⟩ g1 g2
theorem bX7_breaking_27 {o0 o1 : Option Value} {x2 : Int} : XR sc d 126 27 [o0, o1, some (xw x2)] [] (T, z, xv V, J, R) = XR sc d 126 32 [o0, o1, some (xw x2)] [xw x2] (T, z, xv V, J, R) :=
  (sw_iload_n f_126_27 rfl).trans (st_goto (t := 32) f_126_28 ⟨by decide, rfl⟩)
theorem bX7_breaking_31 {o0 o2 : Option Value} {x1 : Int} : XR sc d 126 31 [o0, some (xw x1), o2] [] (T, z, xv V, J, R) = XR sc d 126 32 [o0, some (xw x1), o2] [xw x1] (T, z, xv V, J, R) :=
  sw_iload_n f_126_31 rfl
theorem bX7_breaking_32 {o0 o1 : Option Value} {y0 x2 : Int} : XR sc d 126 32 [o0, o1, some (xw x2)] [xw y0] (T, z, xv V, J, R) = XR sc d 126 9 [o0, some (xw y0), some (xw (x2 + (-1)))] [] (T, z, xv V, J, R) :=
  (sw_istore_n (L' := [o0, some (xw y0), some (xw x2)]) f_126_32 (Nat.le_of_ble_eq_true rfl) rfl).trans ((sw_iinc (L' := [o0, some (xw y0), some (xw (x2 + (-1)))]) f_126_33 rfl (Nat.le_of_ble_eq_true rfl) rfl).trans (st_goto (t := 9) f_126_36 ⟨by decide, rfl⟩))
theorem bX7_breaking_39 {o0 o2 : Option Value} {x1 : Int} : XR sc d 126 39 [o0, some (xw x1), o2] [] (T, z, xv V, J, R) = some (.inl (some (xw x1)), (T, z, xv V, J, R)) :=
  (sw_iload_n f_126_39 rfl).trans (sw_ireturn f_126_40 mr_126)
theorem eX7_pull {x1 x2 x3 : Int} {a0 : Nat} : X sc (d + 1) 127 [.ref a0, xw x1, xw x2, xw x3] (T, z, xv V, J, R) = XR sc d 127 0 [some (.ref a0), some (xw x1), some (xw x2), some (xw x3), none, none, none, none, none, none] [] (T, z, xv V, J, R) :=
  (X_eq ⟨jl_127, by rw [mn_127]; rfl, rfl, by rw [lm_127]; exact Nat.le_of_ble_eq_true rfl⟩).trans (by unfold xent; rw [lm_127]; rfl)
theorem bX7_pull_0 {o0 o2 o3 o4 o5 o6 o7 o8 o9 : Option Value} {x1 : Int} : XR sc d 127 0 [o0, some (xw x1), o2, o3, o4, o5, o6, o7, o8, o9] [] (T, z, xv V, J, R) = xret 127 (XR sc d 127) 1 4 [o0, some (xw x1), o2, o3, o4, o5, o6, o7, o8, o9] [] (X sc d 97 [xw x1] (T, z, xv V, J, R)) :=
  (sw_iload_n f_127_0 rfl).trans (st_callS' f_127_1 h_127_138 mn_97 rfl rfl rfl rfl)
theorem bX7_pull_4 {o0 o1 o2 o3 o4 o5 o6 o7 o8 o9 : Option Value} {y0 : Int} (g1 : -2147483648 ≤ y0 ∧ y0 ≤ 2147483647) : XR sc d 127 4 [o0, o1, o2, o3, o4, o5, o6, o7, o8, o9] [xw y0] (T, z, xv V, J, R) = if y0 = 0 then XR sc d 127 18 [o0, o1, o2, o3, o4, o5, o6, o7, o8, o9] [] (T, z, xv V, J, R) else XR sc d 127 7 [o0, o1, o2, o3, o4, o5, o6, o7, o8, o9] [] (T, z, xv V, J, R) :=
  sw_if_eq (t := 18) f_127_4 ⟨by decide, rfl⟩ g1
theorem bX7_pull_7 {o0 o1 o3 o4 o5 o6 o7 o8 o9 : Option Value} {x2 : Int} : XR sc d 127 7 [o0, o1, some (xw x2), o3, o4, o5, o6, o7, o8, o9] [] (T, z, xv V, J, R) = xret 127 (XR sc d 127) 8 11 [o0, o1, some (xw x2), o3, o4, o5, o6, o7, o8, o9] [] (X sc d 97 [xw x2] (T, z, xv V, J, R)) :=
  (sw_iload_n f_127_7 rfl).trans (st_callS' f_127_8 h_127_138 mn_97 rfl rfl rfl rfl)
theorem bX7_pull_11 {o0 o1 o2 o3 o4 o5 o6 o7 o8 o9 : Option Value} {y0 : Int} (g1 : -2147483648 ≤ y0 ∧ y0 ≤ 2147483647) : XR sc d 127 11 [o0, o1, o2, o3, o4, o5, o6, o7, o8, o9] [xw y0] (T, z, xv V, J, R) = if y0 = 0 then XR sc d 127 18 [o0, o1, o2, o3, o4, o5, o6, o7, o8, o9] [] (T, z, xv V, J, R) else XR sc d 127 14 [o0, o1, o2, o3, o4, o5, o6, o7, o8, o9] [] (T, z, xv V, J, R) :=
  sw_if_eq (t := 18) f_127_11 ⟨by decide, rfl⟩ g1
theorem bX7_pull_14 {o0 o1 o2 o3 o4 o5 o6 o7 o8 o9 : Option Value} : XR sc d 127 14 [o0, o1, o2, o3, o4, o5, o6, o7, o8, o9] [] (T, z, xv V, J, R) = XR sc d 127 19 [o0, o1, o2, o3, o4, o5, o6, o7, o8, o9] [xw 1] (T, z, xv V, J, R) :=
  (sw_iconst f_127_14).trans (st_goto (t := 19) f_127_15 ⟨by decide, rfl⟩)
theorem bX7_pull_18 {o0 o1 o2 o3 o4 o5 o6 o7 o8 o9 : Option Value} : XR sc d 127 18 [o0, o1, o2, o3, o4, o5, o6, o7, o8, o9] [] (T, z, xv V, J, R) = XR sc d 127 19 [o0, o1, o2, o3, o4, o5, o6, o7, o8, o9] [xw 0] (T, z, xv V, J, R) :=
  sw_iconst f_127_18
theorem bX7_pull_19 {o0 o3 o4 o5 o6 o7 o8 o9 : Option Value} {y0 x1 x2 : Int} (g1 : -2147483648 ≤ x1 ∧ x1 ≤ 2147483647) (g2 : -2147483648 ≤ x2 ∧ x2 ≤ 2147483647) : XR sc d 127 19 [o0, some (xw x1), some (xw x2), o3, o4, o5, o6, o7, o8, o9] [xw y0] (T, z, xv V, J, R) = if x1 = x2 then XR sc d 127 41 [o0, some (xw x1), some (xw x2), o3, some (xw y0), o5, o6, o7, o8, o9] [] (T, z, xv V, J, R) else XR sc d 127 26 [o0, some (xw x1), some (xw x2), o3, some (xw y0), o5, o6, o7, o8, o9] [] (T, z, xv V, J, R) :=
  (sw_istore (L' := [o0, some (xw x1), some (xw x2), o3, some (xw y0), o5, o6, o7, o8, o9]) f_127_19 (Nat.le_of_ble_eq_true rfl) rfl).trans ((sw_iload_n f_127_21 rfl).trans ((sw_iload_n f_127_22 rfl).trans (sw_icmp_eq (t := 41) f_127_23 ⟨by decide, rfl⟩ g1 g2)))
theorem bX7_pull_26 {o0 o1 o2 o4 o5 o6 o7 o8 o9 : Option Value} {x3 : Int} : XR sc d 127 26 [o0, o1, o2, some (xw x3), o4, o5, o6, o7, o8, o9] [] (T, z, xv V, J, R) = xret 127 (XR sc d 127) 31 34 [o0, o1, o2, some (xw x3), o4, o5, o6, o7, o8, o9] [] (X sc d 94 [xw x3, xw 1, xw 9999] (T, z, xv V, J, R)) :=
  (sw_iload_n f_127_26 rfl).trans ((sw_iconst f_127_27).trans ((sw_sipush f_127_28 c16_9999).trans (st_callS' f_127_31 h_127_91 mn_94 rfl rfl rfl rfl)))
theorem bX7_pull_34 {o0 o1 o2 o3 o4 o5 o6 o7 o8 o9 : Option Value} {y0 : Int} (g1 : -2147483648 ≤ y0 ∧ y0 ≤ 2147483647) : XR sc d 127 34 [o0, o1, o2, o3, o4, o5, o6, o7, o8, o9] [xw y0] (T, z, xv V, J, R) = if y0 = 0 then XR sc d 127 41 [o0, o1, o2, o3, o4, o5, o6, o7, o8, o9] [] (T, z, xv V, J, R) else XR sc d 127 37 [o0, o1, o2, o3, o4, o5, o6, o7, o8, o9] [] (T, z, xv V, J, R) :=
  sw_if_eq (t := 41) f_127_34 ⟨by decide, rfl⟩ g1
theorem bX7_pull_37 {o0 o1 o2 o3 o4 o5 o6 o7 o8 o9 : Option Value} : XR sc d 127 37 [o0, o1, o2, o3, o4, o5, o6, o7, o8, o9] [] (T, z, xv V, J, R) = XR sc d 127 42 [o0, o1, o2, o3, o4, o5, o6, o7, o8, o9] [xw 1] (T, z, xv V, J, R) :=
  (sw_iconst f_127_37).trans (st_goto (t := 42) f_127_38 ⟨by decide, rfl⟩)
theorem bX7_pull_41 {o0 o1 o2 o3 o4 o5 o6 o7 o8 o9 : Option Value} : XR sc d 127 41 [o0, o1, o2, o3, o4, o5, o6, o7, o8, o9] [] (T, z, xv V, J, R) = XR sc d 127 42 [o0, o1, o2, o3, o4, o5, o6, o7, o8, o9] [xw 0] (T, z, xv V, J, R) :=
  sw_iconst f_127_41
theorem bX7_pull_42 {o1 o2 o3 o5 o6 o7 o8 o9 : Option Value} {y0 x4 : Int} {a0 : Nat} (g1 : -2147483648 ≤ x4 ∧ x4 ≤ 2147483647) : XR sc d 127 42 [some (.ref a0), o1, o2, o3, some (xw x4), o5, o6, o7, o8, o9] [xw y0] (T, z, xv V, J, R) = if x4 = 0 then XR sc d 127 50 [some (.ref a0), o1, o2, o3, some (xw x4), some (xw y0), o6, o7, o8, o9] [.ref a0] (T, z, xv V, J, R) else XR sc d 127 54 [some (.ref a0), o1, o2, o3, some (xw x4), some (xw y0), o6, o7, o8, o9] [.ref a0] (T, z, xv V, J, R) :=
  (sw_istore (L' := [some (.ref a0), o1, o2, o3, some (xw x4), some (xw y0), o6, o7, o8, o9]) f_127_42 (Nat.le_of_ble_eq_true rfl) rfl).trans ((st_aload_n f_127_44 rfl).trans ((sw_iload f_127_45 rfl).trans (sw_if_ne (t := 54) f_127_47 ⟨by decide, rfl⟩ g1)))
theorem bX7_pull_50 {o0 o1 o2 o3 o4 o5 o6 o7 o8 o9 : Option Value} {s0 : Value} : XR sc d 127 50 [o0, o1, o2, o3, o4, o5, o6, o7, o8, o9] [s0] (T, z, xv V, J, R) = XR sc d 127 77 [o0, o1, o2, o3, o4, o5, o6, o7, o8, o9] [xw 1, s0] (T, z, xv V, J, R) :=
  (sw_iconst f_127_50).trans (st_goto (t := 77) f_127_51 ⟨by decide, rfl⟩)
theorem bX7_pull_54 {o0 o1 o2 o3 o4 o6 o7 o8 o9 : Option Value} {s0 : Value} {x5 : Int} (g1 : -2147483648 ≤ x5 ∧ x5 ≤ 2147483647) : XR sc d 127 54 [o0, o1, o2, o3, o4, some (xw x5), o6, o7, o8, o9] [s0] (T, z, xv V, J, R) = if x5 = 0 then XR sc d 127 59 [o0, o1, o2, o3, o4, some (xw x5), o6, o7, o8, o9] [s0] (T, z, xv V, J, R) else XR sc d 127 63 [o0, o1, o2, o3, o4, some (xw x5), o6, o7, o8, o9] [s0] (T, z, xv V, J, R) :=
  (sw_iload f_127_54 rfl).trans (sw_if_ne (t := 63) f_127_56 ⟨by decide, rfl⟩ g1)
theorem bX7_pull_59 {o0 o1 o2 o3 o4 o5 o6 o7 o8 o9 : Option Value} {s0 : Value} : XR sc d 127 59 [o0, o1, o2, o3, o4, o5, o6, o7, o8, o9] [s0] (T, z, xv V, J, R) = XR sc d 127 77 [o0, o1, o2, o3, o4, o5, o6, o7, o8, o9] [xw 2, s0] (T, z, xv V, J, R) :=
  (sw_iconst f_127_59).trans (st_goto (t := 77) f_127_60 ⟨by decide, rfl⟩)
theorem bX7_pull_63 {o3 o4 o5 o6 o7 o8 o9 : Option Value} {s0 : Value} {x1 x2 : Int} {a0 : Nat} (g1 : T a0 = (8, 0)) : XR sc d 127 63 [some (.ref a0), some (xw x1), some (xw x2), o3, o4, o5, o6, o7, o8, o9] [s0] (T, z, xv V, J, R) = xret 127 (XR sc d 127) 66 69 [some (.ref a0), some (xw x1), some (xw x2), o3, o4, o5, o6, o7, o8, o9] [s0] (X sc d 120 [.ref a0, xw x1, xw x2] (T, z, xv V, J, R)) :=
  (st_aload_n f_127_63 rfl).trans ((sw_iload_n f_127_64 rfl).trans ((sw_iload_n f_127_65 rfl).trans (st_callV' f_127_66 h_127_165 mn_120 rfl rfl rfl rfl mo_120 g1 rfl)))
theorem bX7_pull_69 {o0 o1 o2 o3 o4 o5 o6 o7 o8 o9 : Option Value} {s1 : Value} {y0 : Int} (g1 : -2147483648 ≤ y0 ∧ y0 ≤ 2147483647) : XR sc d 127 69 [o0, o1, o2, o3, o4, o5, o6, o7, o8, o9] [xw y0, s1] (T, z, xv V, J, R) = if y0 = 0 then XR sc d 127 76 [o0, o1, o2, o3, o4, o5, o6, o7, o8, o9] [s1] (T, z, xv V, J, R) else XR sc d 127 72 [o0, o1, o2, o3, o4, o5, o6, o7, o8, o9] [s1] (T, z, xv V, J, R) :=
  sw_if_eq (t := 76) f_127_69 ⟨by decide, rfl⟩ g1
theorem bX7_pull_72 {o0 o1 o2 o3 o4 o5 o6 o7 o8 o9 : Option Value} {s0 : Value} : XR sc d 127 72 [o0, o1, o2, o3, o4, o5, o6, o7, o8, o9] [s0] (T, z, xv V, J, R) = XR sc d 127 77 [o0, o1, o2, o3, o4, o5, o6, o7, o8, o9] [xw 0, s0] (T, z, xv V, J, R) :=
  (sw_iconst f_127_72).trans (st_goto (t := 77) f_127_73 ⟨by decide, rfl⟩)
theorem bX7_pull_76 {o0 o1 o2 o3 o4 o5 o6 o7 o8 o9 : Option Value} {s0 : Value} : XR sc d 127 76 [o0, o1, o2, o3, o4, o5, o6, o7, o8, o9] [s0] (T, z, xv V, J, R) = XR sc d 127 77 [o0, o1, o2, o3, o4, o5, o6, o7, o8, o9] [xw 3, s0] (T, z, xv V, J, R) :=
  sw_iconst f_127_76
theorem bX7_pull_77 {o0 o1 o2 o3 o4 o5 o6 o7 o8 o9 : Option Value} {y0 : Int} {b1 : Nat} (g1 : T b1 = (8, 0)) : XR sc d 127 77 [o0, o1, o2, o3, o4, o5, o6, o7, o8, o9] [xw y0, .ref b1] (T, z, xv V, J, R) = xret 127 (XR sc d 127) 77 80 [o0, o1, o2, o3, o4, o5, o6, o7, o8, o9] [] (X sc d 93 [.ref b1, xw y0] (T, z, xv V, J, R)) :=
  st_callV' f_127_77 h_127_98 mn_93 rfl rfl rfl rfl mo_93 g1 rfl
theorem bX7_pull_80 {o0 o1 o2 o3 o4 o5 o6 o7 o8 o9 : Option Value} {y0 : Int} (g1 : -2147483648 ≤ y0 ∧ y0 ≤ 2147483647) : XR sc d 127 80 [o0, o1, o2, o3, o4, o5, o6, o7, o8, o9] [xw y0] (T, z, xv V, J, R) = if y0 = 0 then XR sc d 127 85 [o0, o1, o2, o3, o4, o5, o6, o7, o8, o9] [] (T, z, xv V, J, R) else XR sc d 127 83 [o0, o1, o2, o3, o4, o5, o6, o7, o8, o9] [] (T, z, xv V, J, R) :=
  sw_if_eq (t := 85) f_127_80 ⟨by decide, rfl⟩ g1
theorem bX7_pull_83 {o0 o1 o2 o3 o4 o5 o6 o7 o8 o9 : Option Value} : XR sc d 127 83 [o0, o1, o2, o3, o4, o5, o6, o7, o8, o9] [] (T, z, xv V, J, R) = some (.inl (some (xw 0)), (T, z, xv V, J, R)) :=
  (sw_iconst f_127_83).trans (sw_ireturn f_127_84 mr_127)
theorem bX7_pull_85 {o1 o2 o4 o5 o6 o7 o8 o9 : Option Value} {x3 : Int} {a0 : Nat} (g1 : T a0 = (8, 0)) : XR sc d 127 85 [some (.ref a0), o1, o2, some (xw x3), o4, o5, o6, o7, o8, o9] [] (T, z, xv V, J, R) = xret 127 (XR sc d 127) 90 93 [some (.ref a0), o1, o2, some (xw x3), o4, o5, some (xw 0), o7, o8, o9] [] (X sc d 123 [.ref a0, xw x3] (T, z, xv V, J, R)) :=
  (sw_iconst f_127_85).trans ((sw_istore (L' := [some (.ref a0), o1, o2, some (xw x3), o4, o5, some (xw 0), o7, o8, o9]) f_127_86 (Nat.le_of_ble_eq_true rfl) rfl).trans ((st_aload_n f_127_88 rfl).trans ((sw_iload_n f_127_89 rfl).trans (st_callV' f_127_90 h_127_168 mn_123 rfl rfl rfl rfl mo_123 g1 rfl))))
theorem bX7_pull_93 {o1 o2 o3 o4 o5 o6 o7 o8 o9 : Option Value} {a0 : Nat} (g1 : T a0 = (8, 0)) : XR sc d 127 93 [some (.ref a0), o1, o2, o3, o4, o5, o6, o7, o8, o9] [] (T, z, xv V, J, R) = xret 127 (XR sc d 127) 94 97 [some (.ref a0), o1, o2, o3, o4, o5, o6, o7, o8, o9] [] (X sc d 126 [.ref a0] (T, z, xv V, J, R)) :=
  (st_aload_n f_127_93 rfl).trans (st_callV' f_127_94 h_127_171 mn_126 rfl rfl rfl rfl mo_126 g1 rfl)
theorem bX7_pull_97 {o0 o1 o2 o3 o4 o5 o6 o7 o8 o9 : Option Value} {y0 : Int} : XR sc d 127 97 [o0, o1, o2, o3, o4, o5, o6, o7, o8, o9] [xw y0] (T, z, xv V, J, R) = XR sc d 127 102 [o0, o1, o2, o3, o4, o5, o6, some (xw y0), some (xw 1), o9] [] (T, z, xv V, J, R) :=
  (sw_istore (L' := [o0, o1, o2, o3, o4, o5, o6, some (xw y0), o8, o9]) f_127_97 (Nat.le_of_ble_eq_true rfl) rfl).trans ((sw_iconst f_127_99).trans (sw_istore (L' := [o0, o1, o2, o3, o4, o5, o6, some (xw y0), some (xw 1), o9]) f_127_100 (Nat.le_of_ble_eq_true rfl) rfl))
theorem bX7_pull_102 {o0 o1 o2 o3 o4 o5 o6 o7 o9 : Option Value} {x8 : Int} (g1 : -2147483648 ≤ x8 ∧ x8 ≤ 2147483647) : XR sc d 127 102 [o0, o1, o2, o3, o4, o5, o6, o7, some (xw x8), o9] [] (T, z, xv V, J, R) = if x8 = 0 then XR sc d 127 157 [o0, o1, o2, o3, o4, o5, o6, o7, some (xw x8), o9] [] (T, z, xv V, J, R) else XR sc d 127 107 [o0, o1, o2, o3, o4, o5, o6, o7, some (xw x8), o9] [] (T, z, xv V, J, R) :=
  (sw_iload f_127_102 rfl).trans (sw_if_eq (t := 157) f_127_104 ⟨by decide, rfl⟩ g1)
theorem bX7_pull_107 {o0 o1 o2 o3 o4 o5 o6 o8 o9 : Option Value} {x7 : Int} (g1 : -2147483648 ≤ x7 ∧ x7 ≤ 2147483647) : XR sc d 127 107 [o0, o1, o2, o3, o4, o5, o6, some (xw x7), o8, o9] [] (T, z, xv V, J, R) = if x7 = (-1) then XR sc d 127 157 [o0, o1, o2, o3, o4, o5, o6, some (xw x7), o8, o9] [] (T, z, xv V, J, R) else XR sc d 127 113 [o0, o1, o2, o3, o4, o5, o6, some (xw x7), o8, o9] [] (T, z, xv V, J, R) :=
  (sw_iload f_127_107 rfl).trans ((sw_iconst f_127_109).trans (sw_icmp_eq (t := 157) f_127_110 ⟨by decide, rfl⟩ g1 ⟨by decide, by decide⟩))
theorem bX7_pull_113 {o1 o2 o3 o4 o5 o6 o8 o9 : Option Value} {x7 : Int} {a0 : Nat} (g1 : T a0 = (8, 0)) (g2 : R a0 12 = some ((R a0 12).getD 0)) (g3 : T ((R a0 12).getD 0) = (33, (T ((R a0 12).getD 0)).2)) (g4 : (0 : Int) ≤ x7 ∧ x7 < ((T ((R a0 12).getD 0)).2 : Int) ∧ (T ((R a0 12).getD 0)).2 ≤ 3584) : XR sc d 127 113 [some (.ref a0), o1, o2, o3, o4, o5, o6, some (xw x7), o8, o9] [] (T, z, xv V, J, R) = xret 127 (XR sc d 127) 124 127 [some (.ref a0), o1, o2, o3, o4, o5, o6, some (xw x7), o8, o9] [] (X sc d 115 [.ref a0, xw x7] (T, z, xv (xup2 V ((R a0 12).getD 0) x7.toNat 1), J, R)) :=
  (st_aload_n f_127_113 rfl).trans ((st_getR f_127_114 e_127_42 (by decide) g1 g2).trans ((sw_iload f_127_117 rfl).trans ((sw_iconst f_127_119).trans ((sw_bastore f_127_120 g3 g4 (by decide)).trans ((st_aload_n f_127_121 rfl).trans ((sw_iload f_127_122 rfl).trans (st_callV' f_127_124 h_127_145 mn_115 rfl rfl rfl rfl mo_115 g1 rfl)))))))
theorem bX7_pull_127 {o3 o4 o5 o7 o8 o9 : Option Value} {x6 x1 x2 : Int} {a0 : Nat} (g1 : T a0 = (8, 0)) : XR sc d 127 127 [some (.ref a0), some (xw x1), some (xw x2), o3, o4, o5, some (xw x6), o7, o8, o9] [] (T, z, xv V, J, R) = xret 127 (XR sc d 127) 133 136 [some (.ref a0), some (xw x1), some (xw x2), o3, o4, o5, some (xw (x6 + 1)), o7, o8, o9] [] (X sc d 120 [.ref a0, xw x1, xw x2] (T, z, xv V, J, R)) :=
  (sw_iinc (L' := [some (.ref a0), some (xw x1), some (xw x2), o3, o4, o5, some (xw (x6 + 1)), o7, o8, o9]) f_127_127 rfl (Nat.le_of_ble_eq_true rfl) rfl).trans ((st_aload_n f_127_130 rfl).trans ((sw_iload_n f_127_131 rfl).trans ((sw_iload_n f_127_132 rfl).trans (st_callV' f_127_133 h_127_165 mn_120 rfl rfl rfl rfl mo_120 g1 rfl))))
theorem bX7_pull_136 {o0 o1 o2 o3 o4 o5 o6 o7 o8 o9 : Option Value} {y0 : Int} (g1 : -2147483648 ≤ y0 ∧ y0 ≤ 2147483647) : XR sc d 127 136 [o0, o1, o2, o3, o4, o5, o6, o7, o8, o9] [xw y0] (T, z, xv V, J, R) = if y0 = 0 then XR sc d 127 102 [o0, o1, o2, o3, o4, o5, o6, o7, some (xw y0), o9] [] (T, z, xv V, J, R) else XR sc d 127 143 [o0, o1, o2, o3, o4, o5, o6, o7, some (xw y0), o9] [] (T, z, xv V, J, R) :=
  (sw_istore (L' := [o0, o1, o2, o3, o4, o5, o6, o7, some (xw y0), o9]) f_127_136 (Nat.le_of_ble_eq_true rfl) rfl).trans ((sw_iload f_127_138 rfl).trans (sw_if_eq (t := 102) f_127_140 ⟨by decide, rfl⟩ g1))
theorem bX7_pull_143 {o1 o2 o4 o5 o6 o7 o8 o9 : Option Value} {x3 : Int} {a0 : Nat} (g1 : T a0 = (8, 0)) : XR sc d 127 143 [some (.ref a0), o1, o2, some (xw x3), o4, o5, o6, o7, o8, o9] [] (T, z, xv V, J, R) = xret 127 (XR sc d 127) 145 148 [some (.ref a0), o1, o2, some (xw x3), o4, o5, o6, o7, o8, o9] [] (X sc d 123 [.ref a0, xw x3] (T, z, xv V, J, R)) :=
  (st_aload_n f_127_143 rfl).trans ((sw_iload_n f_127_144 rfl).trans (st_callV' f_127_145 h_127_168 mn_123 rfl rfl rfl rfl mo_123 g1 rfl))
theorem bX7_pull_148 {o1 o2 o3 o4 o5 o6 o7 o8 o9 : Option Value} {a0 : Nat} (g1 : T a0 = (8, 0)) : XR sc d 127 148 [some (.ref a0), o1, o2, o3, o4, o5, o6, o7, o8, o9] [] (T, z, xv V, J, R) = xret 127 (XR sc d 127) 149 152 [some (.ref a0), o1, o2, o3, o4, o5, o6, o7, o8, o9] [] (X sc d 126 [.ref a0] (T, z, xv V, J, R)) :=
  (st_aload_n f_127_148 rfl).trans (st_callV' f_127_149 h_127_171 mn_126 rfl rfl rfl rfl mo_126 g1 rfl)
theorem bX7_pull_152 {o0 o1 o2 o3 o4 o5 o6 o7 o8 o9 : Option Value} {y0 : Int} : XR sc d 127 152 [o0, o1, o2, o3, o4, o5, o6, o7, o8, o9] [xw y0] (T, z, xv V, J, R) = XR sc d 127 102 [o0, o1, o2, o3, o4, o5, o6, some (xw y0), o8, o9] [] (T, z, xv V, J, R) :=
  (sw_istore (L' := [o0, o1, o2, o3, o4, o5, o6, some (xw y0), o8, o9]) f_127_152 (Nat.le_of_ble_eq_true rfl) rfl).trans (st_goto (t := 102) f_127_154 ⟨by decide, rfl⟩)
theorem bX7_pull_157 {o0 o1 o2 o3 o4 o5 o6 o7 o8 o9 : Option Value} : XR sc d 127 157 [o0, o1, o2, o3, o4, o5, o6, o7, o8, o9] [] (T, z, xv V, J, R) = XR sc d 127 160 [o0, o1, o2, o3, o4, o5, o6, o7, o8, some (xw 0)] [] (T, z, xv V, J, R) :=
  (sw_iconst f_127_157).trans (sw_istore (L' := [o0, o1, o2, o3, o4, o5, o6, o7, o8, some (xw 0)]) f_127_158 (Nat.le_of_ble_eq_true rfl) rfl)
theorem bX7_pull_160 {o1 o2 o3 o4 o5 o6 o7 o8 : Option Value} {x9 : Int} {a0 : Nat} (g1 : T a0 = (8, 0)) (g2 : -2147483648 ≤ x9 ∧ x9 ≤ 2147483647) (g3 : -2147483648 ≤ (V a0 3) ∧ (V a0 3) ≤ 2147483647) : XR sc d 127 160 [some (.ref a0), o1, o2, o3, o4, o5, o6, o7, o8, some (xw x9)] [] (T, z, xv V, J, R) = if (V a0 3) ≤ x9 then XR sc d 127 200 [some (.ref a0), o1, o2, o3, o4, o5, o6, o7, o8, some (xw x9)] [] (T, z, xv V, J, R) else XR sc d 127 169 [some (.ref a0), o1, o2, o3, o4, o5, o6, o7, o8, some (xw x9)] [] (T, z, xv V, J, R) :=
  (sw_iload f_127_160 rfl).trans ((st_aload_n f_127_162 rfl).trans ((sw_getI f_127_163 e_127_95 (by decide) g1).trans (sw_icmp_ge (t := 200) f_127_166 ⟨by decide, rfl⟩ g2 g3)))
theorem bX7_pull_169 {o0 o1 o2 o3 o4 o5 o6 o7 o9 : Option Value} {x8 : Int} (g1 : -2147483648 ≤ x8 ∧ x8 ≤ 2147483647) : XR sc d 127 169 [o0, o1, o2, o3, o4, o5, o6, o7, some (xw x8), o9] [] (T, z, xv V, J, R) = if x8 = 0 then XR sc d 127 200 [o0, o1, o2, o3, o4, o5, o6, o7, some (xw x8), o9] [] (T, z, xv V, J, R) else XR sc d 127 174 [o0, o1, o2, o3, o4, o5, o6, o7, some (xw x8), o9] [] (T, z, xv V, J, R) :=
  (sw_iload f_127_169 rfl).trans (sw_if_eq (t := 200) f_127_171 ⟨by decide, rfl⟩ g1)
theorem bX7_pull_174 {o1 o2 o3 o4 o5 o6 o7 o8 : Option Value} {x9 : Int} {a0 : Nat} (g1 : T a0 = (8, 0)) (g2 : R a0 10 = some ((R a0 10).getD 0)) (g3 : T ((R a0 10).getD 0) = (32, (T ((R a0 10).getD 0)).2)) (g4 : (0 : Int) ≤ x9 ∧ x9 < ((T ((R a0 10).getD 0)).2 : Int) ∧ (T ((R a0 10).getD 0)).2 ≤ 3584) (g5 : R a0 19 = some ((R a0 19).getD 0)) (g6 : T ((R a0 19).getD 0) = (32, (T ((R a0 19).getD 0)).2)) (g7 : (0 : Int) ≤ x9 ∧ x9 < ((T ((R a0 19).getD 0)).2 : Int) ∧ (T ((R a0 19).getD 0)).2 ≤ 3584) (g8 : 0 ≤ (V ((R a0 19).getD 0) x9.toNat) ∧ (V ((R a0 19).getD 0) x9.toNat) ≤ 2147483647) : XR sc d 127 174 [some (.ref a0), o1, o2, o3, o4, o5, o6, o7, o8, some (xw x9)] [] (T, z, xv V, J, R) = XR sc d 127 160 [some (.ref a0), o1, o2, o3, o4, o5, o6, o7, o8, some (xw (x9 + 1))] [] (T, z, xv (xup2 V ((R a0 10).getD 0) x9.toNat ((V ((R a0 10).getD 0) x9.toNat) + ((V ((R a0 19).getD 0) x9.toNat) / 10))), J, R) :=
  (st_aload_n f_127_174 rfl).trans ((st_getR f_127_175 e_127_36 (by decide) g1 g2).trans ((sw_iload f_127_178 rfl).trans ((st_dup2 f_127_180 rfl rfl).trans ((sw_iaload f_127_181 g3 g4).trans ((st_aload_n f_127_182 rfl).trans ((st_getR f_127_183 e_127_60 (by decide) g1 g5).trans ((sw_iload f_127_186 rfl).trans ((sw_iaload f_127_188 g6 g7).trans ((sw_bipush f_127_189 c8_10).trans ((sw_idiv f_127_191 ⟨by decide, by decide, g8⟩).trans ((sw_iadd f_127_192).trans ((sw_iastore f_127_193 g3 g4).trans ((sw_iinc (L' := [some (.ref a0), o1, o2, o3, o4, o5, o6, o7, o8, some (xw (x9 + 1))]) f_127_194 rfl (Nat.le_of_ble_eq_true rfl) rfl).trans (st_goto (t := 160) f_127_197 ⟨by decide, rfl⟩))))))))))))))
theorem bX7_pull_200 {o0 o1 o2 o3 o4 o5 o7 o8 o9 : Option Value} {x6 : Int} : XR sc d 127 200 [o0, o1, o2, o3, o4, o5, some (xw x6), o7, o8, o9] [] (T, z, xv V, J, R) = some (.inl (some (xw x6)), (T, z, xv V, J, R)) :=
  (sw_iload f_127_200 rfl).trans (sw_ireturn f_127_202 mr_127)
theorem eX7_holds {x1 x2 : Int} {a0 : Nat} : X sc (d + 1) 128 [.ref a0, xw x1, xw x2] (T, z, xv V, J, R) = XR sc d 128 0 [some (.ref a0), some (xw x1), some (xw x2), none, none, none, none, none, none] [] (T, z, xv V, J, R) :=
  (X_eq ⟨jl_128, by rw [mn_128]; rfl, rfl, by rw [lm_128]; exact Nat.le_of_ble_eq_true rfl⟩).trans (by unfold xent; rw [lm_128]; rfl)
theorem bX7_holds_0 {o0 o2 o3 o4 o5 o6 o7 o8 : Option Value} {x1 : Int} : XR sc d 128 0 [o0, some (xw x1), o2, o3, o4, o5, o6, o7, o8] [] (T, z, xv V, J, R) = xret 128 (XR sc d 128) 1 4 [o0, some (xw x1), o2, o3, o4, o5, o6, o7, o8] [] (X sc d 97 [xw x1] (T, z, xv V, J, R)) :=
  (sw_iload_n f_128_0 rfl).trans (st_callS' f_128_1 h_128_138 mn_97 rfl rfl rfl rfl)
theorem bX7_holds_4 {o0 o1 o2 o3 o4 o5 o6 o7 o8 : Option Value} {y0 : Int} (g1 : -2147483648 ≤ y0 ∧ y0 ≤ 2147483647) : XR sc d 128 4 [o0, o1, o2, o3, o4, o5, o6, o7, o8] [xw y0] (T, z, xv V, J, R) = if y0 = 0 then XR sc d 128 18 [o0, o1, o2, o3, o4, o5, o6, o7, o8] [] (T, z, xv V, J, R) else XR sc d 128 7 [o0, o1, o2, o3, o4, o5, o6, o7, o8] [] (T, z, xv V, J, R) :=
  sw_if_eq (t := 18) f_128_4 ⟨by decide, rfl⟩ g1
theorem bX7_holds_7 {o0 o1 o3 o4 o5 o6 o7 o8 : Option Value} {x2 : Int} : XR sc d 128 7 [o0, o1, some (xw x2), o3, o4, o5, o6, o7, o8] [] (T, z, xv V, J, R) = xret 128 (XR sc d 128) 8 11 [o0, o1, some (xw x2), o3, o4, o5, o6, o7, o8] [] (X sc d 97 [xw x2] (T, z, xv V, J, R)) :=
  (sw_iload_n f_128_7 rfl).trans (st_callS' f_128_8 h_128_138 mn_97 rfl rfl rfl rfl)
theorem bX7_holds_11 {o0 o1 o2 o3 o4 o5 o6 o7 o8 : Option Value} {y0 : Int} (g1 : -2147483648 ≤ y0 ∧ y0 ≤ 2147483647) : XR sc d 128 11 [o0, o1, o2, o3, o4, o5, o6, o7, o8] [xw y0] (T, z, xv V, J, R) = if y0 = 0 then XR sc d 128 18 [o0, o1, o2, o3, o4, o5, o6, o7, o8] [] (T, z, xv V, J, R) else XR sc d 128 14 [o0, o1, o2, o3, o4, o5, o6, o7, o8] [] (T, z, xv V, J, R) :=
  sw_if_eq (t := 18) f_128_11 ⟨by decide, rfl⟩ g1
theorem bX7_holds_14 {o0 o1 o2 o3 o4 o5 o6 o7 o8 : Option Value} : XR sc d 128 14 [o0, o1, o2, o3, o4, o5, o6, o7, o8] [] (T, z, xv V, J, R) = XR sc d 128 19 [o0, o1, o2, o3, o4, o5, o6, o7, o8] [xw 1] (T, z, xv V, J, R) :=
  (sw_iconst f_128_14).trans (st_goto (t := 19) f_128_15 ⟨by decide, rfl⟩)
theorem bX7_holds_18 {o0 o1 o2 o3 o4 o5 o6 o7 o8 : Option Value} : XR sc d 128 18 [o0, o1, o2, o3, o4, o5, o6, o7, o8] [] (T, z, xv V, J, R) = XR sc d 128 19 [o0, o1, o2, o3, o4, o5, o6, o7, o8] [xw 0] (T, z, xv V, J, R) :=
  sw_iconst f_128_18
theorem bX7_holds_19 {o1 o2 o3 o4 o5 o6 o7 o8 : Option Value} {y0 : Int} {a0 : Nat} (g1 : -2147483648 ≤ y0 ∧ y0 ≤ 2147483647) : XR sc d 128 19 [some (.ref a0), o1, o2, o3, o4, o5, o6, o7, o8] [xw y0] (T, z, xv V, J, R) = if y0 = 0 then XR sc d 128 25 [some (.ref a0), o1, o2, some (xw y0), o4, o5, o6, o7, o8] [.ref a0] (T, z, xv V, J, R) else XR sc d 128 29 [some (.ref a0), o1, o2, some (xw y0), o4, o5, o6, o7, o8] [.ref a0] (T, z, xv V, J, R) :=
  (sw_istore_n (L' := [some (.ref a0), o1, o2, some (xw y0), o4, o5, o6, o7, o8]) f_128_19 (Nat.le_of_ble_eq_true rfl) rfl).trans ((st_aload_n f_128_20 rfl).trans ((sw_iload_n f_128_21 rfl).trans (sw_if_ne (t := 29) f_128_22 ⟨by decide, rfl⟩ g1)))
theorem bX7_holds_25 {o0 o1 o2 o3 o4 o5 o6 o7 o8 : Option Value} {s0 : Value} : XR sc d 128 25 [o0, o1, o2, o3, o4, o5, o6, o7, o8] [s0] (T, z, xv V, J, R) = XR sc d 128 39 [o0, o1, o2, o3, o4, o5, o6, o7, o8] [xw 1, s0] (T, z, xv V, J, R) :=
  (sw_iconst f_128_25).trans (st_goto (t := 39) f_128_26 ⟨by decide, rfl⟩)
theorem bX7_holds_29 {o0 o3 o4 o5 o6 o7 o8 : Option Value} {s0 : Value} {x1 x2 : Int} (g1 : -2147483648 ≤ x1 ∧ x1 ≤ 2147483647) (g2 : -2147483648 ≤ x2 ∧ x2 ≤ 2147483647) : XR sc d 128 29 [o0, some (xw x1), some (xw x2), o3, o4, o5, o6, o7, o8] [s0] (T, z, xv V, J, R) = if x1 = x2 then XR sc d 128 34 [o0, some (xw x1), some (xw x2), o3, o4, o5, o6, o7, o8] [s0] (T, z, xv V, J, R) else XR sc d 128 38 [o0, some (xw x1), some (xw x2), o3, o4, o5, o6, o7, o8] [s0] (T, z, xv V, J, R) :=
  (sw_iload_n f_128_29 rfl).trans ((sw_iload_n f_128_30 rfl).trans (sw_icmp_ne (t := 38) f_128_31 ⟨by decide, rfl⟩ g1 g2))
theorem bX7_holds_34 {o0 o1 o2 o3 o4 o5 o6 o7 o8 : Option Value} {s0 : Value} : XR sc d 128 34 [o0, o1, o2, o3, o4, o5, o6, o7, o8] [s0] (T, z, xv V, J, R) = XR sc d 128 39 [o0, o1, o2, o3, o4, o5, o6, o7, o8] [xw 2, s0] (T, z, xv V, J, R) :=
  (sw_iconst f_128_34).trans (st_goto (t := 39) f_128_35 ⟨by decide, rfl⟩)
theorem bX7_holds_38 {o0 o1 o2 o3 o4 o5 o6 o7 o8 : Option Value} {s0 : Value} : XR sc d 128 38 [o0, o1, o2, o3, o4, o5, o6, o7, o8] [s0] (T, z, xv V, J, R) = XR sc d 128 39 [o0, o1, o2, o3, o4, o5, o6, o7, o8] [xw 0, s0] (T, z, xv V, J, R) :=
  sw_iconst f_128_38
theorem bX7_holds_39 {o0 o1 o2 o3 o4 o5 o6 o7 o8 : Option Value} {y0 : Int} {b1 : Nat} (g1 : T b1 = (8, 0)) : XR sc d 128 39 [o0, o1, o2, o3, o4, o5, o6, o7, o8] [xw y0, .ref b1] (T, z, xv V, J, R) = xret 128 (XR sc d 128) 39 42 [o0, o1, o2, o3, o4, o5, o6, o7, o8] [] (X sc d 93 [.ref b1, xw y0] (T, z, xv V, J, R)) :=
  st_callV' f_128_39 h_128_98 mn_93 rfl rfl rfl rfl mo_93 g1 rfl
theorem bX7_holds_42 {o0 o1 o2 o3 o4 o5 o6 o7 o8 : Option Value} {y0 : Int} (g1 : -2147483648 ≤ y0 ∧ y0 ≤ 2147483647) : XR sc d 128 42 [o0, o1, o2, o3, o4, o5, o6, o7, o8] [xw y0] (T, z, xv V, J, R) = if y0 = 0 then XR sc d 128 47 [o0, o1, o2, o3, o4, o5, o6, o7, o8] [] (T, z, xv V, J, R) else XR sc d 128 45 [o0, o1, o2, o3, o4, o5, o6, o7, o8] [] (T, z, xv V, J, R) :=
  sw_if_eq (t := 47) f_128_42 ⟨by decide, rfl⟩ g1
theorem bX7_holds_45 {o0 o1 o2 o3 o4 o5 o6 o7 o8 : Option Value} : XR sc d 128 45 [o0, o1, o2, o3, o4, o5, o6, o7, o8] [] (T, z, xv V, J, R) = some (.inl (some (xw 0)), (T, z, xv V, J, R)) :=
  (sw_iconst f_128_45).trans (sw_ireturn f_128_46 mr_128)
theorem bX7_holds_47 {o3 o4 o5 o6 o7 o8 : Option Value} {x1 x2 : Int} {a0 : Nat} (g1 : T a0 = (8, 0)) : XR sc d 128 47 [some (.ref a0), some (xw x1), some (xw x2), o3, o4, o5, o6, o7, o8] [] (T, z, xv V, J, R) = xret 128 (XR sc d 128) 50 53 [some (.ref a0), some (xw x1), some (xw x2), o3, o4, o5, o6, o7, o8] [] (X sc d 120 [.ref a0, xw x1, xw x2] (T, z, xv V, J, R)) :=
  (st_aload_n f_128_47 rfl).trans ((sw_iload_n f_128_48 rfl).trans ((sw_iload_n f_128_49 rfl).trans (st_callV' f_128_50 h_128_165 mn_120 rfl rfl rfl rfl mo_120 g1 rfl)))
theorem bX7_holds_53 {o0 o1 o2 o3 o4 o5 o6 o7 o8 : Option Value} {y0 : Int} (g1 : -2147483648 ≤ y0 ∧ y0 ≤ 2147483647) : XR sc d 128 53 [o0, o1, o2, o3, o4, o5, o6, o7, o8] [xw y0] (T, z, xv V, J, R) = if y0 = 0 then XR sc d 128 56 [o0, o1, o2, o3, o4, o5, o6, o7, o8] [] (T, z, xv V, J, R) else XR sc d 128 58 [o0, o1, o2, o3, o4, o5, o6, o7, o8] [] (T, z, xv V, J, R) :=
  sw_if_ne (t := 58) f_128_53 ⟨by decide, rfl⟩ g1
theorem bX7_holds_56 {o0 o1 o2 o3 o4 o5 o6 o7 o8 : Option Value} : XR sc d 128 56 [o0, o1, o2, o3, o4, o5, o6, o7, o8] [] (T, z, xv V, J, R) = some (.inl (some (xw (-1))), (T, z, xv V, J, R)) :=
  (sw_iconst f_128_56).trans (sw_ireturn f_128_57 mr_128)
theorem bX7_holds_58 {o0 o1 o2 o3 o4 o5 o6 o7 o8 : Option Value} : XR sc d 128 58 [o0, o1, o2, o3, o4, o5, o6, o7, o8] [] (T, z, xv V, J, R) = XR sc d 128 66 [o0, o1, o2, o3, some (xw 9999), some (xw 0), o6, o7, o8] [] (T, z, xv V, J, R) :=
  (sw_sipush f_128_58 c16_9999).trans ((sw_istore (L' := [o0, o1, o2, o3, some (xw 9999), o5, o6, o7, o8]) f_128_61 (Nat.le_of_ble_eq_true rfl) rfl).trans ((sw_iconst f_128_63).trans (sw_istore (L' := [o0, o1, o2, o3, some (xw 9999), some (xw 0), o6, o7, o8]) f_128_64 (Nat.le_of_ble_eq_true rfl) rfl)))
theorem bX7_holds_66 {o1 o2 o3 o4 o6 o7 o8 : Option Value} {x5 : Int} {a0 : Nat} (g1 : T a0 = (8, 0)) (g2 : -2147483648 ≤ (x5 + 1) ∧ (x5 + 1) ≤ 2147483647) (g3 : -2147483648 ≤ (V a0 17) ∧ (V a0 17) ≤ 2147483647) : XR sc d 128 66 [some (.ref a0), o1, o2, o3, o4, some (xw x5), o6, o7, o8] [] (T, z, xv V, J, R) = if (V a0 17) ≤ (x5 + 1) then XR sc d 128 162 [some (.ref a0), o1, o2, o3, o4, some (xw x5), o6, o7, o8] [] (T, z, xv V, J, R) else XR sc d 128 77 [some (.ref a0), o1, o2, o3, o4, some (xw x5), o6, o7, o8] [] (T, z, xv V, J, R) :=
  (sw_iload f_128_66 rfl).trans ((sw_iconst f_128_68).trans ((sw_iadd f_128_69).trans ((st_aload_n f_128_70 rfl).trans ((sw_getI f_128_71 e_128_156 (by decide) g1).trans (sw_icmp_ge (t := 162) f_128_74 ⟨by decide, rfl⟩ g2 g3)))))
theorem bX7_holds_77 {o1 o2 o3 o4 o6 o7 o8 : Option Value} {x5 : Int} {a0 : Nat} (g1 : T a0 = (8, 0)) : XR sc d 128 77 [some (.ref a0), o1, o2, o3, o4, some (xw x5), o6, o7, o8] [] (T, z, xv V, J, R) = xret 128 (XR sc d 128) 80 83 [some (.ref a0), o1, o2, o3, o4, some (xw x5), o6, o7, o8] [] (X sc d 121 [.ref a0, xw x5] (T, z, xv V, J, R)) :=
  (st_aload_n f_128_77 rfl).trans ((sw_iload f_128_78 rfl).trans (st_callV' f_128_80 h_128_162 mn_121 rfl rfl rfl rfl mo_121 g1 rfl))
theorem bX7_holds_83 {o0 o1 o2 o3 o4 o5 o6 o7 o8 : Option Value} {y0 : Int} : XR sc d 128 83 [o0, o1, o2, o3, o4, o5, o6, o7, o8] [xw y0] (T, z, xv V, J, R) = XR sc d 128 88 [o0, o1, o2, o3, o4, o5, some (xw y0), some (xw 0), o8] [] (T, z, xv V, J, R) :=
  (sw_istore (L' := [o0, o1, o2, o3, o4, o5, some (xw y0), o7, o8]) f_128_83 (Nat.le_of_ble_eq_true rfl) rfl).trans ((sw_iconst f_128_85).trans (sw_istore (L' := [o0, o1, o2, o3, o4, o5, some (xw y0), some (xw 0), o8]) f_128_86 (Nat.le_of_ble_eq_true rfl) rfl))
theorem bX7_holds_88 {o1 o2 o3 o4 o5 o6 o8 : Option Value} {x7 : Int} {a0 : Nat} (g1 : T a0 = (8, 0)) (g2 : -2147483648 ≤ x7 ∧ x7 ≤ 2147483647) (g3 : -2147483648 ≤ (V a0 3) ∧ (V a0 3) ≤ 2147483647) : XR sc d 128 88 [some (.ref a0), o1, o2, o3, o4, o5, o6, some (xw x7), o8] [] (T, z, xv V, J, R) = if (V a0 3) ≤ x7 then XR sc d 128 156 [some (.ref a0), o1, o2, o3, o4, o5, o6, some (xw x7), o8] [] (T, z, xv V, J, R) else XR sc d 128 97 [some (.ref a0), o1, o2, o3, o4, o5, o6, some (xw x7), o8] [] (T, z, xv V, J, R) :=
  (sw_iload f_128_88 rfl).trans ((st_aload_n f_128_90 rfl).trans ((sw_getI f_128_91 e_128_95 (by decide) g1).trans (sw_icmp_ge (t := 156) f_128_94 ⟨by decide, rfl⟩ g2 g3)))
theorem bX7_holds_97 {o1 o2 o3 o4 o6 o8 : Option Value} {x7 x5 : Int} {a0 : Nat} (g1 : T a0 = (8, 0)) : XR sc d 128 97 [some (.ref a0), o1, o2, o3, o4, some (xw x5), o6, some (xw x7), o8] [] (T, z, xv V, J, R) = xret 128 (XR sc d 128) 102 105 [some (.ref a0), o1, o2, o3, o4, some (xw x5), o6, some (xw x7), o8] [] (X sc d 122 [.ref a0, xw x7, xw x5] (T, z, xv V, J, R)) :=
  (st_aload_n f_128_97 rfl).trans ((sw_iload f_128_98 rfl).trans ((sw_iload f_128_100 rfl).trans (st_callV' f_128_102 h_128_159 mn_122 rfl rfl rfl rfl mo_122 g1 rfl)))
theorem bX7_holds_105 {o0 o1 o2 o3 o4 o5 o6 o7 o8 : Option Value} {y0 : Int} (g1 : -2147483648 ≤ y0 ∧ y0 ≤ 2147483647) : XR sc d 128 105 [o0, o1, o2, o3, o4, o5, o6, o7, o8] [xw y0] (T, z, xv V, J, R) = if y0 = 0 then XR sc d 128 126 [o0, o1, o2, o3, o4, o5, o6, o7, o8] [] (T, z, xv V, J, R) else XR sc d 128 108 [o0, o1, o2, o3, o4, o5, o6, o7, o8] [] (T, z, xv V, J, R) :=
  sw_if_eq (t := 126) f_128_105 ⟨by decide, rfl⟩ g1
theorem bX7_holds_108 {o1 o2 o3 o4 o5 o8 : Option Value} {x6 x7 : Int} {a0 : Nat} (g1 : T a0 = (8, 0)) : XR sc d 128 108 [some (.ref a0), o1, o2, o3, o4, o5, some (xw x6), some (xw x7), o8] [] (T, z, xv V, J, R) = xret 128 (XR sc d 128) 113 116 [some (.ref a0), o1, o2, o3, o4, o5, some (xw x6), some (xw x7), o8] [xw x6] (X sc d 112 [.ref a0, xw x7] (T, z, xv V, J, R)) :=
  (sw_iload f_128_108 rfl).trans ((st_aload_n f_128_110 rfl).trans ((sw_iload f_128_111 rfl).trans (st_callV' f_128_113 h_128_135 mn_112 rfl rfl rfl rfl mo_112 g1 rfl)))
theorem bX7_holds_116 {o0 o1 o2 o3 o5 o6 o7 o8 : Option Value} {y0 y1 x4 : Int} (g1 : -2147483648 ≤ (y1 * y0) ∧ (y1 * y0) ≤ 2147483647) (g2 : -2147483648 ≤ x4 ∧ x4 ≤ 2147483647) : XR sc d 128 116 [o0, o1, o2, o3, some (xw x4), o5, o6, o7, o8] [xw y0, xw y1] (T, z, xv V, J, R) = if x4 ≤ (y1 * y0) then XR sc d 128 126 [o0, o1, o2, o3, some (xw x4), o5, o6, o7, o8] [] (T, z, xv V, J, R) else XR sc d 128 122 [o0, o1, o2, o3, some (xw x4), o5, o6, o7, o8] [] (T, z, xv V, J, R) :=
  (sw_imul f_128_116).trans ((sw_iload f_128_117 rfl).trans (sw_icmp_ge (t := 126) f_128_119 ⟨by decide, rfl⟩ g1 g2))
theorem bX7_holds_122 {o0 o1 o2 o3 o4 o5 o6 o7 o8 : Option Value} : XR sc d 128 122 [o0, o1, o2, o3, o4, o5, o6, o7, o8] [] (T, z, xv V, J, R) = XR sc d 128 127 [o0, o1, o2, o3, o4, o5, o6, o7, o8] [xw 1] (T, z, xv V, J, R) :=
  (sw_iconst f_128_122).trans (st_goto (t := 127) f_128_123 ⟨by decide, rfl⟩)
theorem bX7_holds_126 {o0 o1 o2 o3 o4 o5 o6 o7 o8 : Option Value} : XR sc d 128 126 [o0, o1, o2, o3, o4, o5, o6, o7, o8] [] (T, z, xv V, J, R) = XR sc d 128 127 [o0, o1, o2, o3, o4, o5, o6, o7, o8] [xw 0] (T, z, xv V, J, R) :=
  sw_iconst f_128_126
theorem bX7_holds_127 {o0 o1 o2 o3 o4 o5 o6 o7 o8 : Option Value} {y0 : Int} (g1 : -2147483648 ≤ y0 ∧ y0 ≤ 2147483647) : XR sc d 128 127 [o0, o1, o2, o3, o4, o5, o6, o7, o8] [xw y0] (T, z, xv V, J, R) = if y0 = 0 then XR sc d 128 146 [o0, o1, o2, o3, o4, o5, o6, o7, some (xw y0)] [] (T, z, xv V, J, R) else XR sc d 128 134 [o0, o1, o2, o3, o4, o5, o6, o7, some (xw y0)] [] (T, z, xv V, J, R) :=
  (sw_istore (L' := [o0, o1, o2, o3, o4, o5, o6, o7, some (xw y0)]) f_128_127 (Nat.le_of_ble_eq_true rfl) rfl).trans ((sw_iload f_128_129 rfl).trans (sw_if_eq (t := 146) f_128_131 ⟨by decide, rfl⟩ g1))
theorem bX7_holds_134 {o1 o2 o3 o4 o5 o8 : Option Value} {x6 x7 : Int} {a0 : Nat} (g1 : T a0 = (8, 0)) : XR sc d 128 134 [some (.ref a0), o1, o2, o3, o4, o5, some (xw x6), some (xw x7), o8] [] (T, z, xv V, J, R) = xret 128 (XR sc d 128) 139 142 [some (.ref a0), o1, o2, o3, o4, o5, some (xw x6), some (xw x7), o8] [xw x6] (X sc d 112 [.ref a0, xw x7] (T, z, xv V, J, R)) :=
  (sw_iload f_128_134 rfl).trans ((st_aload_n f_128_136 rfl).trans ((sw_iload f_128_137 rfl).trans (st_callV' f_128_139 h_128_135 mn_112 rfl rfl rfl rfl mo_112 g1 rfl)))
theorem bX7_holds_142 {o0 o1 o2 o3 o4 o5 o6 o7 o8 : Option Value} {y0 y1 : Int} : XR sc d 128 142 [o0, o1, o2, o3, o4, o5, o6, o7, o8] [xw y0, xw y1] (T, z, xv V, J, R) = XR sc d 128 148 [o0, o1, o2, o3, o4, o5, o6, o7, o8] [xw (y1 * y0)] (T, z, xv V, J, R) :=
  (sw_imul f_128_142).trans (st_goto (t := 148) f_128_143 ⟨by decide, rfl⟩)
theorem bX7_holds_146 {o0 o1 o2 o3 o5 o6 o7 o8 : Option Value} {x4 : Int} : XR sc d 128 146 [o0, o1, o2, o3, some (xw x4), o5, o6, o7, o8] [] (T, z, xv V, J, R) = XR sc d 128 148 [o0, o1, o2, o3, some (xw x4), o5, o6, o7, o8] [xw x4] (T, z, xv V, J, R) :=
  sw_iload f_128_146 rfl
theorem bX7_holds_148 {o0 o1 o2 o3 o4 o5 o6 o8 : Option Value} {y0 x7 : Int} : XR sc d 128 148 [o0, o1, o2, o3, o4, o5, o6, some (xw x7), o8] [xw y0] (T, z, xv V, J, R) = XR sc d 128 88 [o0, o1, o2, o3, some (xw y0), o5, o6, some (xw (x7 + 1)), o8] [] (T, z, xv V, J, R) :=
  (sw_istore (L' := [o0, o1, o2, o3, some (xw y0), o5, o6, some (xw x7), o8]) f_128_148 (Nat.le_of_ble_eq_true rfl) rfl).trans ((sw_iinc (L' := [o0, o1, o2, o3, some (xw y0), o5, o6, some (xw (x7 + 1)), o8]) f_128_150 rfl (Nat.le_of_ble_eq_true rfl) rfl).trans (st_goto (t := 88) f_128_153 ⟨by decide, rfl⟩))
theorem bX7_holds_156 {o0 o1 o2 o3 o4 o6 o7 o8 : Option Value} {x5 : Int} : XR sc d 128 156 [o0, o1, o2, o3, o4, some (xw x5), o6, o7, o8] [] (T, z, xv V, J, R) = XR sc d 128 66 [o0, o1, o2, o3, o4, some (xw (x5 + 1)), o6, o7, o8] [] (T, z, xv V, J, R) :=
  (sw_iinc (L' := [o0, o1, o2, o3, o4, some (xw (x5 + 1)), o6, o7, o8]) f_128_156 rfl (Nat.le_of_ble_eq_true rfl) rfl).trans (st_goto (t := 66) f_128_159 ⟨by decide, rfl⟩)
theorem bX7_holds_162 {o0 o1 o2 o3 o5 o6 o7 o8 : Option Value} {x4 : Int} : XR sc d 128 162 [o0, o1, o2, o3, some (xw x4), o5, o6, o7, o8] [] (T, z, xv V, J, R) = some (.inl (some (xw x4)), (T, z, xv V, J, R)) :=
  (sw_iload f_128_162 rfl).trans (sw_ireturn f_128_164 mr_128)
theorem eX7_oil {x1 : Int} {a0 : Nat} : X sc (d + 1) 129 [.ref a0, xw x1] (T, z, xv V, J, R) = XR sc d 129 0 [some (.ref a0), some (xw x1)] [] (T, z, xv V, J, R) :=
  (X_eq ⟨jl_129, by rw [mn_129]; rfl, rfl, by rw [lm_129]; exact Nat.le_of_ble_eq_true rfl⟩).trans (by unfold xent; rw [lm_129]; rfl)
theorem bX7_oil_0 {x1 : Int} {a0 : Nat} (g1 : T a0 = (8, 0)) : XR sc d 129 0 [some (.ref a0), some (xw x1)] [] (T, z, xv V, J, R) = xret 129 (XR sc d 129) 3 6 [some (.ref a0), some (xw x1)] [.ref a0] (X sc d 96 [.ref a0, xw x1] (T, z, xv V, J, R)) :=
  (st_aload_n f_129_0 rfl).trans ((st_aload_n f_129_1 rfl).trans ((sw_iload_n f_129_2 rfl).trans (st_callV' f_129_3 h_129_123 mn_96 rfl rfl rfl rfl mo_96 g1 rfl)))
theorem bX7_oil_6 {o0 o1 : Option Value} {s1 : Value} {y0 : Int} (g1 : -2147483648 ≤ y0 ∧ y0 ≤ 2147483647) : XR sc d 129 6 [o0, o1] [xw y0, s1] (T, z, xv V, J, R) = if y0 = 0 then XR sc d 129 13 [o0, o1] [s1] (T, z, xv V, J, R) else XR sc d 129 9 [o0, o1] [s1] (T, z, xv V, J, R) :=
  sw_if_eq (t := 13) f_129_6 ⟨by decide, rfl⟩ g1
theorem bX7_oil_9 {o0 o1 : Option Value} {s0 : Value} : XR sc d 129 9 [o0, o1] [s0] (T, z, xv V, J, R) = XR sc d 129 14 [o0, o1] [xw 0, s0] (T, z, xv V, J, R) :=
  (sw_iconst f_129_9).trans (st_goto (t := 14) f_129_10 ⟨by decide, rfl⟩)
theorem bX7_oil_13 {o0 o1 : Option Value} {s0 : Value} : XR sc d 129 13 [o0, o1] [s0] (T, z, xv V, J, R) = XR sc d 129 14 [o0, o1] [xw 1, s0] (T, z, xv V, J, R) :=
  sw_iconst f_129_13
theorem bX7_oil_14 {o0 o1 : Option Value} {y0 : Int} {b1 : Nat} (g1 : T b1 = (8, 0)) : XR sc d 129 14 [o0, o1] [xw y0, .ref b1] (T, z, xv V, J, R) = xret 129 (XR sc d 129) 14 17 [o0, o1] [] (X sc d 93 [.ref b1, xw y0] (T, z, xv V, J, R)) :=
  st_callV' f_129_14 h_129_98 mn_93 rfl rfl rfl rfl mo_93 g1 rfl
theorem bX7_oil_17 {o0 o1 : Option Value} {y0 : Int} (g1 : -2147483648 ≤ y0 ∧ y0 ≤ 2147483647) : XR sc d 129 17 [o0, o1] [xw y0] (T, z, xv V, J, R) = if y0 = 0 then XR sc d 129 22 [o0, o1] [] (T, z, xv V, J, R) else XR sc d 129 20 [o0, o1] [] (T, z, xv V, J, R) :=
  sw_if_eq (t := 22) f_129_17 ⟨by decide, rfl⟩ g1
theorem bX7_oil_20 {o0 o1 : Option Value} : XR sc d 129 20 [o0, o1] [] (T, z, xv V, J, R) = some (.inl (some (xw 0)), (T, z, xv V, J, R)) :=
  (sw_iconst f_129_20).trans (sw_ireturn f_129_21 mr_129)
theorem bX7_oil_22 {x1 : Int} {a0 : Nat} (g1 : T a0 = (8, 0)) (g2 : R a0 10 = some ((R a0 10).getD 0)) (g3 : T ((R a0 10).getD 0) = (32, (T ((R a0 10).getD 0)).2)) (g4 : (0 : Int) ≤ x1 ∧ x1 < ((T ((R a0 10).getD 0)).2 : Int) ∧ (T ((R a0 10).getD 0)).2 ≤ 3584) (g5 : 0 ≤ (V ((R a0 10).getD 0) x1.toNat) ∧ (V ((R a0 10).getD 0) x1.toNat) ≤ 2147483647) : XR sc d 129 22 [some (.ref a0), some (xw x1)] [] (T, z, xv V, J, R) = some (.inl (some (xw ((xup2 V ((R a0 10).getD 0) x1.toNat ((V ((R a0 10).getD 0) x1.toNat) / 2)) ((R a0 10).getD 0) x1.toNat))), (T, z, xv (xup2 V ((R a0 10).getD 0) x1.toNat ((V ((R a0 10).getD 0) x1.toNat) / 2)), J, R)) :=
  (st_aload_n f_129_22 rfl).trans ((st_getR f_129_23 e_129_36 (by decide) g1 g2).trans ((sw_iload_n f_129_26 rfl).trans ((st_dup2 f_129_27 rfl rfl).trans ((sw_iaload f_129_28 g3 g4).trans ((sw_iconst f_129_29).trans ((sw_idiv f_129_30 ⟨by decide, by decide, g5⟩).trans ((sw_iastore f_129_31 g3 g4).trans ((st_aload_n f_129_32 rfl).trans ((st_getR f_129_33 e_129_36 (by decide) g1 g2).trans ((sw_iload_n f_129_36 rfl).trans ((sw_iaload f_129_37 g3 g4).trans (sw_ireturn f_129_38 mr_129))))))))))))
theorem eX7_canSew {x1 : Int} {a0 : Nat} : X sc (d + 1) 130 [.ref a0, xw x1] (T, z, xv V, J, R) = XR sc d 130 0 [some (.ref a0), some (xw x1)] [] (T, z, xv V, J, R) :=
  (X_eq ⟨jl_130, by rw [mn_130]; rfl, rfl, by rw [lm_130]; exact Nat.le_of_ble_eq_true rfl⟩).trans (by unfold xent; rw [lm_130]; rfl)
theorem bX7_canSew_0 {x1 : Int} {a0 : Nat} (g1 : T a0 = (8, 0)) (g2 : R a0 11 = some ((R a0 11).getD 0)) (g3 : T ((R a0 11).getD 0) = (32, (T ((R a0 11).getD 0)).2)) (g4 : (0 : Int) ≤ x1 ∧ x1 < ((T ((R a0 11).getD 0)).2 : Int) ∧ (T ((R a0 11).getD 0)).2 ≤ 3584) (g5 : -2147483648 ≤ (V ((R a0 11).getD 0) x1.toNat) ∧ (V ((R a0 11).getD 0) x1.toNat) ≤ 2147483647) : XR sc d 130 0 [some (.ref a0), some (xw x1)] [] (T, z, xv V, J, R) = if 4 ≤ (V ((R a0 11).getD 0) x1.toNat) then XR sc d 130 31 [some (.ref a0), some (xw x1)] [] (T, z, xv V, J, R) else XR sc d 130 10 [some (.ref a0), some (xw x1)] [] (T, z, xv V, J, R) :=
  (st_aload_n f_130_0 rfl).trans ((st_getR f_130_1 e_130_39 (by decide) g1 g2).trans ((sw_iload_n f_130_4 rfl).trans ((sw_iaload f_130_5 g3 g4).trans ((sw_iconst f_130_6).trans (sw_icmp_ge (t := 31) f_130_7 ⟨by decide, rfl⟩ g5 ⟨by decide, by decide⟩)))))
theorem bX7_canSew_10 {x1 : Int} {a0 : Nat} (g1 : T a0 = (8, 0)) : XR sc d 130 10 [some (.ref a0), some (xw x1)] [] (T, z, xv V, J, R) = xret 130 (XR sc d 130) 12 15 [some (.ref a0), some (xw x1)] [] (X sc d 108 [.ref a0, xw x1] (T, z, xv V, J, R)) :=
  (st_aload_n f_130_10 rfl).trans ((sw_iload_n f_130_11 rfl).trans (st_callV' f_130_12 h_130_128 mn_108 rfl rfl rfl rfl mo_108 g1 rfl))
theorem bX7_canSew_15 {o0 o1 : Option Value} {y0 : Int} (g1 : -2147483648 ≤ y0 ∧ y0 ≤ 2147483647) : XR sc d 130 15 [o0, o1] [xw y0] (T, z, xv V, J, R) = if y0 = 0 then XR sc d 130 18 [o0, o1] [] (T, z, xv V, J, R) else XR sc d 130 31 [o0, o1] [] (T, z, xv V, J, R) :=
  sw_if_ne (t := 31) f_130_15 ⟨by decide, rfl⟩ g1
theorem bX7_canSew_18 {x1 : Int} {a0 : Nat} (g1 : T a0 = (8, 0)) (g2 : R a0 12 = some ((R a0 12).getD 0)) (g3 : T ((R a0 12).getD 0) = (33, (T ((R a0 12).getD 0)).2)) (g4 : (0 : Int) ≤ x1 ∧ x1 < ((T ((R a0 12).getD 0)).2 : Int) ∧ (T ((R a0 12).getD 0)).2 ≤ 3584) (g5 : -2147483648 ≤ (V ((R a0 12).getD 0) x1.toNat) ∧ (V ((R a0 12).getD 0) x1.toNat) ≤ 2147483647) : XR sc d 130 18 [some (.ref a0), some (xw x1)] [] (T, z, xv V, J, R) = if (V ((R a0 12).getD 0) x1.toNat) = 0 then XR sc d 130 27 [some (.ref a0), some (xw x1)] [] (T, z, xv V, J, R) else XR sc d 130 31 [some (.ref a0), some (xw x1)] [] (T, z, xv V, J, R) :=
  (st_aload_n f_130_18 rfl).trans ((st_getR f_130_19 e_130_42 (by decide) g1 g2).trans ((sw_iload_n f_130_22 rfl).trans ((sw_baload f_130_23 g3 g4).trans (sw_if_ne (t := 31) f_130_24 ⟨by decide, rfl⟩ g5))))
theorem bX7_canSew_27 {o0 o1 : Option Value} : XR sc d 130 27 [o0, o1] [] (T, z, xv V, J, R) = XR sc d 130 32 [o0, o1] [xw 1] (T, z, xv V, J, R) :=
  (sw_iconst f_130_27).trans (st_goto (t := 32) f_130_28 ⟨by decide, rfl⟩)
theorem bX7_canSew_31 {o0 o1 : Option Value} : XR sc d 130 31 [o0, o1] [] (T, z, xv V, J, R) = XR sc d 130 32 [o0, o1] [xw 0] (T, z, xv V, J, R) :=
  sw_iconst f_130_31
theorem bX7_canSew_32 {o0 o1 : Option Value} {y0 : Int} (g1 : y0 = 0 ∨ y0 = 1) : XR sc d 130 32 [o0, o1] [xw y0] (T, z, xv V, J, R) = some (.inl (some (xw y0)), (T, z, xv V, J, R)) :=
  sw_zreturn f_130_32 mr_130 g1
theorem eX7_sew {x1 x2 x3 x4 : Int} {a0 : Nat} : X sc (d + 1) 131 [.ref a0, xw x1, xw x2, xw x3, xw x4] (T, z, xv V, J, R) = XR sc d 131 0 [some (.ref a0), some (xw x1), some (xw x2), some (xw x3), some (xw x4), none, none, none, none, none, none] [] (T, z, xv V, J, R) :=
  (X_eq ⟨jl_131, by rw [mn_131]; rfl, rfl, by rw [lm_131]; exact Nat.le_of_ble_eq_true rfl⟩).trans (by unfold xent; rw [lm_131]; rfl)
theorem bX7_sew_0 {o2 o3 o4 o5 o6 o7 o8 o9 o10 : Option Value} {x1 : Int} {a0 : Nat} (g1 : T a0 = (8, 0)) : XR sc d 131 0 [some (.ref a0), some (xw x1), o2, o3, o4, o5, o6, o7, o8, o9, o10] [] (T, z, xv V, J, R) = xret 131 (XR sc d 131) 2 5 [some (.ref a0), some (xw x1), o2, o3, o4, o5, o6, o7, o8, o9, o10] [] (X sc d 96 [.ref a0, xw x1] (T, z, xv V, J, R)) :=
  (st_aload_n f_131_0 rfl).trans ((sw_iload_n f_131_1 rfl).trans (st_callV' f_131_2 h_131_123 mn_96 rfl rfl rfl rfl mo_96 g1 rfl))
theorem bX7_sew_5 {o0 o1 o2 o3 o4 o5 o6 o7 o8 o9 o10 : Option Value} {y0 : Int} (g1 : -2147483648 ≤ y0 ∧ y0 ≤ 2147483647) : XR sc d 131 5 [o0, o1, o2, o3, o4, o5, o6, o7, o8, o9, o10] [xw y0] (T, z, xv V, J, R) = if y0 = 0 then XR sc d 131 20 [o0, o1, o2, o3, o4, o5, o6, o7, o8, o9, o10] [] (T, z, xv V, J, R) else XR sc d 131 8 [o0, o1, o2, o3, o4, o5, o6, o7, o8, o9, o10] [] (T, z, xv V, J, R) :=
  sw_if_eq (t := 20) f_131_5 ⟨by decide, rfl⟩ g1
theorem bX7_sew_8 {o1 o3 o4 o5 o6 o7 o8 o9 o10 : Option Value} {x2 : Int} {a0 : Nat} (g1 : T a0 = (8, 0)) : XR sc d 131 8 [some (.ref a0), o1, some (xw x2), o3, o4, o5, o6, o7, o8, o9, o10] [] (T, z, xv V, J, R) = xret 131 (XR sc d 131) 10 13 [some (.ref a0), o1, some (xw x2), o3, o4, o5, o6, o7, o8, o9, o10] [] (X sc d 96 [.ref a0, xw x2] (T, z, xv V, J, R)) :=
  (st_aload_n f_131_8 rfl).trans ((sw_iload_n f_131_9 rfl).trans (st_callV' f_131_10 h_131_123 mn_96 rfl rfl rfl rfl mo_96 g1 rfl))
theorem bX7_sew_13 {o0 o1 o2 o3 o4 o5 o6 o7 o8 o9 o10 : Option Value} {y0 : Int} (g1 : -2147483648 ≤ y0 ∧ y0 ≤ 2147483647) : XR sc d 131 13 [o0, o1, o2, o3, o4, o5, o6, o7, o8, o9, o10] [xw y0] (T, z, xv V, J, R) = if y0 = 0 then XR sc d 131 20 [o0, o1, o2, o3, o4, o5, o6, o7, o8, o9, o10] [] (T, z, xv V, J, R) else XR sc d 131 16 [o0, o1, o2, o3, o4, o5, o6, o7, o8, o9, o10] [] (T, z, xv V, J, R) :=
  sw_if_eq (t := 20) f_131_13 ⟨by decide, rfl⟩ g1
theorem bX7_sew_16 {o0 o1 o2 o3 o4 o5 o6 o7 o8 o9 o10 : Option Value} : XR sc d 131 16 [o0, o1, o2, o3, o4, o5, o6, o7, o8, o9, o10] [] (T, z, xv V, J, R) = XR sc d 131 21 [o0, o1, o2, o3, o4, o5, o6, o7, o8, o9, o10] [xw 1] (T, z, xv V, J, R) :=
  (sw_iconst f_131_16).trans (st_goto (t := 21) f_131_17 ⟨by decide, rfl⟩)
theorem bX7_sew_20 {o0 o1 o2 o3 o4 o5 o6 o7 o8 o9 o10 : Option Value} : XR sc d 131 20 [o0, o1, o2, o3, o4, o5, o6, o7, o8, o9, o10] [] (T, z, xv V, J, R) = XR sc d 131 21 [o0, o1, o2, o3, o4, o5, o6, o7, o8, o9, o10] [xw 0] (T, z, xv V, J, R) :=
  sw_iconst f_131_20
theorem bX7_sew_21 {o0 o3 o4 o5 o6 o7 o8 o9 o10 : Option Value} {y0 x1 x2 : Int} (g1 : -2147483648 ≤ x1 ∧ x1 ≤ 2147483647) (g2 : -2147483648 ≤ x2 ∧ x2 ≤ 2147483647) : XR sc d 131 21 [o0, some (xw x1), some (xw x2), o3, o4, o5, o6, o7, o8, o9, o10] [xw y0] (T, z, xv V, J, R) = if x1 = x2 then XR sc d 131 53 [o0, some (xw x1), some (xw x2), o3, o4, some (xw y0), o6, o7, o8, o9, o10] [] (T, z, xv V, J, R) else XR sc d 131 28 [o0, some (xw x1), some (xw x2), o3, o4, some (xw y0), o6, o7, o8, o9, o10] [] (T, z, xv V, J, R) :=
  (sw_istore (L' := [o0, some (xw x1), some (xw x2), o3, o4, some (xw y0), o6, o7, o8, o9, o10]) f_131_21 (Nat.le_of_ble_eq_true rfl) rfl).trans ((sw_iload_n f_131_23 rfl).trans ((sw_iload_n f_131_24 rfl).trans (sw_icmp_eq (t := 53) f_131_25 ⟨by decide, rfl⟩ g1 g2)))
theorem bX7_sew_28 {o0 o1 o2 o4 o5 o6 o7 o8 o9 o10 : Option Value} {x3 : Int} : XR sc d 131 28 [o0, o1, o2, some (xw x3), o4, o5, o6, o7, o8, o9, o10] [] (T, z, xv V, J, R) = xret 131 (XR sc d 131) 32 35 [o0, o1, o2, some (xw x3), o4, o5, o6, o7, o8, o9, o10] [] (X sc d 94 [xw x3, xw 1, xw 12] (T, z, xv V, J, R)) :=
  (sw_iload_n f_131_28 rfl).trans ((sw_iconst f_131_29).trans ((sw_bipush f_131_30 c8_12).trans (st_callS' f_131_32 h_131_91 mn_94 rfl rfl rfl rfl)))
theorem bX7_sew_35 {o0 o1 o2 o3 o4 o5 o6 o7 o8 o9 o10 : Option Value} {y0 : Int} (g1 : -2147483648 ≤ y0 ∧ y0 ≤ 2147483647) : XR sc d 131 35 [o0, o1, o2, o3, o4, o5, o6, o7, o8, o9, o10] [xw y0] (T, z, xv V, J, R) = if y0 = 0 then XR sc d 131 53 [o0, o1, o2, o3, o4, o5, o6, o7, o8, o9, o10] [] (T, z, xv V, J, R) else XR sc d 131 38 [o0, o1, o2, o3, o4, o5, o6, o7, o8, o9, o10] [] (T, z, xv V, J, R) :=
  sw_if_eq (t := 53) f_131_35 ⟨by decide, rfl⟩ g1
theorem bX7_sew_38 {o0 o1 o2 o3 o5 o6 o7 o8 o9 o10 : Option Value} {x4 : Int} : XR sc d 131 38 [o0, o1, o2, o3, some (xw x4), o5, o6, o7, o8, o9, o10] [] (T, z, xv V, J, R) = xret 131 (XR sc d 131) 43 46 [o0, o1, o2, o3, some (xw x4), o5, o6, o7, o8, o9, o10] [] (X sc d 94 [xw x4, xw 1, xw 50] (T, z, xv V, J, R)) :=
  (sw_iload f_131_38 rfl).trans ((sw_iconst f_131_40).trans ((sw_bipush f_131_41 c8_50).trans (st_callS' f_131_43 h_131_91 mn_94 rfl rfl rfl rfl)))
theorem bX7_sew_46 {o0 o1 o2 o3 o4 o5 o6 o7 o8 o9 o10 : Option Value} {y0 : Int} (g1 : -2147483648 ≤ y0 ∧ y0 ≤ 2147483647) : XR sc d 131 46 [o0, o1, o2, o3, o4, o5, o6, o7, o8, o9, o10] [xw y0] (T, z, xv V, J, R) = if y0 = 0 then XR sc d 131 53 [o0, o1, o2, o3, o4, o5, o6, o7, o8, o9, o10] [] (T, z, xv V, J, R) else XR sc d 131 49 [o0, o1, o2, o3, o4, o5, o6, o7, o8, o9, o10] [] (T, z, xv V, J, R) :=
  sw_if_eq (t := 53) f_131_46 ⟨by decide, rfl⟩ g1
theorem bX7_sew_49 {o0 o1 o2 o3 o4 o5 o6 o7 o8 o9 o10 : Option Value} : XR sc d 131 49 [o0, o1, o2, o3, o4, o5, o6, o7, o8, o9, o10] [] (T, z, xv V, J, R) = XR sc d 131 54 [o0, o1, o2, o3, o4, o5, o6, o7, o8, o9, o10] [xw 1] (T, z, xv V, J, R) :=
  (sw_iconst f_131_49).trans (st_goto (t := 54) f_131_50 ⟨by decide, rfl⟩)
theorem bX7_sew_53 {o0 o1 o2 o3 o4 o5 o6 o7 o8 o9 o10 : Option Value} : XR sc d 131 53 [o0, o1, o2, o3, o4, o5, o6, o7, o8, o9, o10] [] (T, z, xv V, J, R) = XR sc d 131 54 [o0, o1, o2, o3, o4, o5, o6, o7, o8, o9, o10] [xw 0] (T, z, xv V, J, R) :=
  sw_iconst f_131_53
theorem bX7_sew_54 {o1 o2 o3 o4 o6 o7 o8 o9 o10 : Option Value} {y0 x5 : Int} {a0 : Nat} (g1 : -2147483648 ≤ x5 ∧ x5 ≤ 2147483647) : XR sc d 131 54 [some (.ref a0), o1, o2, o3, o4, some (xw x5), o6, o7, o8, o9, o10] [xw y0] (T, z, xv V, J, R) = if x5 = 0 then XR sc d 131 62 [some (.ref a0), o1, o2, o3, o4, some (xw x5), some (xw y0), o7, o8, o9, o10] [.ref a0] (T, z, xv V, J, R) else XR sc d 131 66 [some (.ref a0), o1, o2, o3, o4, some (xw x5), some (xw y0), o7, o8, o9, o10] [.ref a0] (T, z, xv V, J, R) :=
  (sw_istore (L' := [some (.ref a0), o1, o2, o3, o4, some (xw x5), some (xw y0), o7, o8, o9, o10]) f_131_54 (Nat.le_of_ble_eq_true rfl) rfl).trans ((st_aload_n f_131_56 rfl).trans ((sw_iload f_131_57 rfl).trans (sw_if_ne (t := 66) f_131_59 ⟨by decide, rfl⟩ g1)))
theorem bX7_sew_62 {o0 o1 o2 o3 o4 o5 o6 o7 o8 o9 o10 : Option Value} {s0 : Value} : XR sc d 131 62 [o0, o1, o2, o3, o4, o5, o6, o7, o8, o9, o10] [s0] (T, z, xv V, J, R) = XR sc d 131 96 [o0, o1, o2, o3, o4, o5, o6, o7, o8, o9, o10] [xw 1, s0] (T, z, xv V, J, R) :=
  (sw_iconst f_131_62).trans (st_goto (t := 96) f_131_63 ⟨by decide, rfl⟩)
theorem bX7_sew_66 {o0 o1 o2 o3 o4 o5 o7 o8 o9 o10 : Option Value} {s0 : Value} {x6 : Int} (g1 : -2147483648 ≤ x6 ∧ x6 ≤ 2147483647) : XR sc d 131 66 [o0, o1, o2, o3, o4, o5, some (xw x6), o7, o8, o9, o10] [s0] (T, z, xv V, J, R) = if x6 = 0 then XR sc d 131 71 [o0, o1, o2, o3, o4, o5, some (xw x6), o7, o8, o9, o10] [s0] (T, z, xv V, J, R) else XR sc d 131 75 [o0, o1, o2, o3, o4, o5, some (xw x6), o7, o8, o9, o10] [s0] (T, z, xv V, J, R) :=
  (sw_iload f_131_66 rfl).trans (sw_if_ne (t := 75) f_131_68 ⟨by decide, rfl⟩ g1)
theorem bX7_sew_71 {o0 o1 o2 o3 o4 o5 o6 o7 o8 o9 o10 : Option Value} {s0 : Value} : XR sc d 131 71 [o0, o1, o2, o3, o4, o5, o6, o7, o8, o9, o10] [s0] (T, z, xv V, J, R) = XR sc d 131 96 [o0, o1, o2, o3, o4, o5, o6, o7, o8, o9, o10] [xw 2, s0] (T, z, xv V, J, R) :=
  (sw_iconst f_131_71).trans (st_goto (t := 96) f_131_72 ⟨by decide, rfl⟩)
theorem bX7_sew_75 {o2 o3 o4 o5 o6 o7 o8 o9 o10 : Option Value} {s0 : Value} {x1 : Int} {a0 : Nat} (g1 : T a0 = (8, 0)) : XR sc d 131 75 [some (.ref a0), some (xw x1), o2, o3, o4, o5, o6, o7, o8, o9, o10] [s0] (T, z, xv V, J, R) = xret 131 (XR sc d 131) 77 80 [some (.ref a0), some (xw x1), o2, o3, o4, o5, o6, o7, o8, o9, o10] [s0] (X sc d 130 [.ref a0, xw x1] (T, z, xv V, J, R)) :=
  (st_aload_n f_131_75 rfl).trans ((sw_iload_n f_131_76 rfl).trans (st_callV' f_131_77 h_131_175 mn_130 rfl rfl rfl rfl mo_130 g1 rfl))
theorem bX7_sew_80 {o0 o1 o2 o3 o4 o5 o6 o7 o8 o9 o10 : Option Value} {s1 : Value} {y0 : Int} (g1 : -2147483648 ≤ y0 ∧ y0 ≤ 2147483647) : XR sc d 131 80 [o0, o1, o2, o3, o4, o5, o6, o7, o8, o9, o10] [xw y0, s1] (T, z, xv V, J, R) = if y0 = 0 then XR sc d 131 95 [o0, o1, o2, o3, o4, o5, o6, o7, o8, o9, o10] [s1] (T, z, xv V, J, R) else XR sc d 131 83 [o0, o1, o2, o3, o4, o5, o6, o7, o8, o9, o10] [s1] (T, z, xv V, J, R) :=
  sw_if_eq (t := 95) f_131_80 ⟨by decide, rfl⟩ g1
theorem bX7_sew_83 {o1 o3 o4 o5 o6 o7 o8 o9 o10 : Option Value} {s0 : Value} {x2 : Int} {a0 : Nat} (g1 : T a0 = (8, 0)) : XR sc d 131 83 [some (.ref a0), o1, some (xw x2), o3, o4, o5, o6, o7, o8, o9, o10] [s0] (T, z, xv V, J, R) = xret 131 (XR sc d 131) 85 88 [some (.ref a0), o1, some (xw x2), o3, o4, o5, o6, o7, o8, o9, o10] [s0] (X sc d 130 [.ref a0, xw x2] (T, z, xv V, J, R)) :=
  (st_aload_n f_131_83 rfl).trans ((sw_iload_n f_131_84 rfl).trans (st_callV' f_131_85 h_131_175 mn_130 rfl rfl rfl rfl mo_130 g1 rfl))
theorem bX7_sew_88 {o0 o1 o2 o3 o4 o5 o6 o7 o8 o9 o10 : Option Value} {s1 : Value} {y0 : Int} (g1 : -2147483648 ≤ y0 ∧ y0 ≤ 2147483647) : XR sc d 131 88 [o0, o1, o2, o3, o4, o5, o6, o7, o8, o9, o10] [xw y0, s1] (T, z, xv V, J, R) = if y0 = 0 then XR sc d 131 95 [o0, o1, o2, o3, o4, o5, o6, o7, o8, o9, o10] [s1] (T, z, xv V, J, R) else XR sc d 131 91 [o0, o1, o2, o3, o4, o5, o6, o7, o8, o9, o10] [s1] (T, z, xv V, J, R) :=
  sw_if_eq (t := 95) f_131_88 ⟨by decide, rfl⟩ g1
theorem bX7_sew_91 {o0 o1 o2 o3 o4 o5 o6 o7 o8 o9 o10 : Option Value} {s0 : Value} : XR sc d 131 91 [o0, o1, o2, o3, o4, o5, o6, o7, o8, o9, o10] [s0] (T, z, xv V, J, R) = XR sc d 131 96 [o0, o1, o2, o3, o4, o5, o6, o7, o8, o9, o10] [xw 0, s0] (T, z, xv V, J, R) :=
  (sw_iconst f_131_91).trans (st_goto (t := 96) f_131_92 ⟨by decide, rfl⟩)
theorem bX7_sew_95 {o0 o1 o2 o3 o4 o5 o6 o7 o8 o9 o10 : Option Value} {s0 : Value} : XR sc d 131 95 [o0, o1, o2, o3, o4, o5, o6, o7, o8, o9, o10] [s0] (T, z, xv V, J, R) = XR sc d 131 96 [o0, o1, o2, o3, o4, o5, o6, o7, o8, o9, o10] [xw 3, s0] (T, z, xv V, J, R) :=
  sw_iconst f_131_95
theorem bX7_sew_96 {o0 o1 o2 o3 o4 o5 o6 o7 o8 o9 o10 : Option Value} {y0 : Int} {b1 : Nat} (g1 : T b1 = (8, 0)) : XR sc d 131 96 [o0, o1, o2, o3, o4, o5, o6, o7, o8, o9, o10] [xw y0, .ref b1] (T, z, xv V, J, R) = xret 131 (XR sc d 131) 96 99 [o0, o1, o2, o3, o4, o5, o6, o7, o8, o9, o10] [] (X sc d 93 [.ref b1, xw y0] (T, z, xv V, J, R)) :=
  st_callV' f_131_96 h_131_98 mn_93 rfl rfl rfl rfl mo_93 g1 rfl
theorem bX7_sew_99 {o0 o1 o2 o3 o4 o5 o6 o7 o8 o9 o10 : Option Value} {y0 : Int} (g1 : -2147483648 ≤ y0 ∧ y0 ≤ 2147483647) : XR sc d 131 99 [o0, o1, o2, o3, o4, o5, o6, o7, o8, o9, o10] [xw y0] (T, z, xv V, J, R) = if y0 = 0 then XR sc d 131 104 [o0, o1, o2, o3, o4, o5, o6, o7, o8, o9, o10] [] (T, z, xv V, J, R) else XR sc d 131 102 [o0, o1, o2, o3, o4, o5, o6, o7, o8, o9, o10] [] (T, z, xv V, J, R) :=
  sw_if_eq (t := 104) f_131_99 ⟨by decide, rfl⟩ g1
theorem bX7_sew_102 {o0 o1 o2 o3 o4 o5 o6 o7 o8 o9 o10 : Option Value} : XR sc d 131 102 [o0, o1, o2, o3, o4, o5, o6, o7, o8, o9, o10] [] (T, z, xv V, J, R) = some (.inl (some (xw 0)), (T, z, xv V, J, R)) :=
  (sw_iconst f_131_102).trans (sw_ireturn f_131_103 mr_131)
theorem bX7_sew_104 {o3 o4 o5 o6 o7 o8 o9 o10 : Option Value} {x1 x2 : Int} {a0 : Nat} (g1 : T a0 = (8, 0)) (g2 : R a0 11 = some ((R a0 11).getD 0)) (g3 : T ((R a0 11).getD 0) = (32, (T ((R a0 11).getD 0)).2)) (g4 : (0 : Int) ≤ x1 ∧ x1 < ((T ((R a0 11).getD 0)).2 : Int) ∧ (T ((R a0 11).getD 0)).2 ≤ 3584) (g5 : (0 : Int) ≤ x2 ∧ x2 < ((T ((R a0 11).getD 0)).2 : Int) ∧ (T ((R a0 11).getD 0)).2 ≤ 3584) (g6 : R a0 4 = some ((R a0 4).getD 0)) (g7 : T ((R a0 4).getD 0) = (32, (T ((R a0 4).getD 0)).2)) (g8 : (0 : Int) ≤ x1 ∧ x1 < ((T ((R a0 4).getD 0)).2 : Int) ∧ (T ((R a0 4).getD 0)).2 ≤ 3584) (g9 : (0 : Int) ≤ x2 ∧ x2 < ((T ((R a0 4).getD 0)).2 : Int) ∧ (T ((R a0 4).getD 0)).2 ≤ 3584) (g10 : -2147483648 ≤ ((xup2 (xup2 V ((R a0 11).getD 0) x1.toNat ((V ((R a0 11).getD 0) x1.toNat) + 1)) ((R a0 11).getD 0) x2.toNat (((xup2 V ((R a0 11).getD 0) x1.toNat ((V ((R a0 11).getD 0) x1.toNat) + 1)) ((R a0 11).getD 0) x2.toNat) + 1)) ((R a0 4).getD 0) x1.toNat) ∧ ((xup2 (xup2 V ((R a0 11).getD 0) x1.toNat ((V ((R a0 11).getD 0) x1.toNat) + 1)) ((R a0 11).getD 0) x2.toNat (((xup2 V ((R a0 11).getD 0) x1.toNat ((V ((R a0 11).getD 0) x1.toNat) + 1)) ((R a0 11).getD 0) x2.toNat) + 1)) ((R a0 4).getD 0) x1.toNat) ≤ 2147483647) (g11 : -2147483648 ≤ ((xup2 (xup2 V ((R a0 11).getD 0) x1.toNat ((V ((R a0 11).getD 0) x1.toNat) + 1)) ((R a0 11).getD 0) x2.toNat (((xup2 V ((R a0 11).getD 0) x1.toNat ((V ((R a0 11).getD 0) x1.toNat) + 1)) ((R a0 11).getD 0) x2.toNat) + 1)) ((R a0 4).getD 0) x2.toNat) ∧ ((xup2 (xup2 V ((R a0 11).getD 0) x1.toNat ((V ((R a0 11).getD 0) x1.toNat) + 1)) ((R a0 11).getD 0) x2.toNat (((xup2 V ((R a0 11).getD 0) x1.toNat ((V ((R a0 11).getD 0) x1.toNat) + 1)) ((R a0 11).getD 0) x2.toNat) + 1)) ((R a0 4).getD 0) x2.toNat) ≤ 2147483647) : XR sc d 131 104 [some (.ref a0), some (xw x1), some (xw x2), o3, o4, o5, o6, o7, o8, o9, o10] [] (T, z, xv V, J, R) = if ((xup2 (xup2 V ((R a0 11).getD 0) x1.toNat ((V ((R a0 11).getD 0) x1.toNat) + 1)) ((R a0 11).getD 0) x2.toNat (((xup2 V ((R a0 11).getD 0) x1.toNat ((V ((R a0 11).getD 0) x1.toNat) + 1)) ((R a0 11).getD 0) x2.toNat) + 1)) ((R a0 4).getD 0) x2.toNat) ≤ ((xup2 (xup2 V ((R a0 11).getD 0) x1.toNat ((V ((R a0 11).getD 0) x1.toNat) + 1)) ((R a0 11).getD 0) x2.toNat (((xup2 V ((R a0 11).getD 0) x1.toNat ((V ((R a0 11).getD 0) x1.toNat) + 1)) ((R a0 11).getD 0) x2.toNat) + 1)) ((R a0 4).getD 0) x1.toNat) then XR sc d 131 148 [some (.ref a0), some (xw x1), some (xw x2), o3, o4, o5, o6, o7, o8, o9, o10] [] (T, z, xv (xup2 (xup2 V ((R a0 11).getD 0) x1.toNat ((V ((R a0 11).getD 0) x1.toNat) + 1)) ((R a0 11).getD 0) x2.toNat (((xup2 V ((R a0 11).getD 0) x1.toNat ((V ((R a0 11).getD 0) x1.toNat) + 1)) ((R a0 11).getD 0) x2.toNat) + 1)), J, R) else XR sc d 131 139 [some (.ref a0), some (xw x1), some (xw x2), o3, o4, o5, o6, o7, o8, o9, o10] [] (T, z, xv (xup2 (xup2 V ((R a0 11).getD 0) x1.toNat ((V ((R a0 11).getD 0) x1.toNat) + 1)) ((R a0 11).getD 0) x2.toNat (((xup2 V ((R a0 11).getD 0) x1.toNat ((V ((R a0 11).getD 0) x1.toNat) + 1)) ((R a0 11).getD 0) x2.toNat) + 1)), J, R) :=
  (st_aload_n f_131_104 rfl).trans ((st_getR f_131_105 e_131_39 (by decide) g1 g2).trans ((sw_iload_n f_131_108 rfl).trans ((st_dup2 f_131_109 rfl rfl).trans ((sw_iaload f_131_110 g3 g4).trans ((sw_iconst f_131_111).trans ((sw_iadd f_131_112).trans ((sw_iastore f_131_113 g3 g4).trans ((st_aload_n f_131_114 rfl).trans ((st_getR f_131_115 e_131_39 (by decide) g1 g2).trans ((sw_iload_n f_131_118 rfl).trans ((st_dup2 f_131_119 rfl rfl).trans ((sw_iaload f_131_120 g3 g5).trans ((sw_iconst f_131_121).trans ((sw_iadd f_131_122).trans ((sw_iastore f_131_123 g3 g5).trans ((st_aload_n f_131_124 rfl).trans ((st_getR f_131_125 e_131_16 (by decide) g1 g6).trans ((sw_iload_n f_131_128 rfl).trans ((sw_iaload f_131_129 g7 g8).trans ((st_aload_n f_131_130 rfl).trans ((st_getR f_131_131 e_131_16 (by decide) g1 g6).trans ((sw_iload_n f_131_134 rfl).trans ((sw_iaload f_131_135 g7 g9).trans (sw_icmp_ge (t := 148) f_131_136 ⟨by decide, rfl⟩ g10 g11))))))))))))))))))))))))
theorem bX7_sew_139 {o2 o3 o4 o5 o6 o7 o8 o9 o10 : Option Value} {x1 : Int} {a0 : Nat} (g1 : T a0 = (8, 0)) (g2 : R a0 4 = some ((R a0 4).getD 0)) (g3 : T ((R a0 4).getD 0) = (32, (T ((R a0 4).getD 0)).2)) (g4 : (0 : Int) ≤ x1 ∧ x1 < ((T ((R a0 4).getD 0)).2 : Int) ∧ (T ((R a0 4).getD 0)).2 ≤ 3584) : XR sc d 131 139 [some (.ref a0), some (xw x1), o2, o3, o4, o5, o6, o7, o8, o9, o10] [] (T, z, xv V, J, R) = XR sc d 131 154 [some (.ref a0), some (xw x1), o2, o3, o4, o5, o6, o7, o8, o9, o10] [xw (V ((R a0 4).getD 0) x1.toNat)] (T, z, xv V, J, R) :=
  (st_aload_n f_131_139 rfl).trans ((st_getR f_131_140 e_131_16 (by decide) g1 g2).trans ((sw_iload_n f_131_143 rfl).trans ((sw_iaload f_131_144 g3 g4).trans (st_goto (t := 154) f_131_145 ⟨by decide, rfl⟩))))
theorem bX7_sew_148 {o1 o3 o4 o5 o6 o7 o8 o9 o10 : Option Value} {x2 : Int} {a0 : Nat} (g1 : T a0 = (8, 0)) (g2 : R a0 4 = some ((R a0 4).getD 0)) (g3 : T ((R a0 4).getD 0) = (32, (T ((R a0 4).getD 0)).2)) (g4 : (0 : Int) ≤ x2 ∧ x2 < ((T ((R a0 4).getD 0)).2 : Int) ∧ (T ((R a0 4).getD 0)).2 ≤ 3584) : XR sc d 131 148 [some (.ref a0), o1, some (xw x2), o3, o4, o5, o6, o7, o8, o9, o10] [] (T, z, xv V, J, R) = XR sc d 131 154 [some (.ref a0), o1, some (xw x2), o3, o4, o5, o6, o7, o8, o9, o10] [xw (V ((R a0 4).getD 0) x2.toNat)] (T, z, xv V, J, R) :=
  (st_aload_n f_131_148 rfl).trans ((st_getR f_131_149 e_131_16 (by decide) g1 g2).trans ((sw_iload_n f_131_152 rfl).trans (sw_iaload f_131_153 g3 g4)))
theorem bX7_sew_154 {o3 o4 o5 o6 o7 o8 o9 o10 : Option Value} {y0 x1 x2 : Int} {a0 : Nat} (g1 : T a0 = (8, 0)) (g2 : R a0 6 = some ((R a0 6).getD 0)) (g3 : T ((R a0 6).getD 0) = (32, (T ((R a0 6).getD 0)).2)) (g4 : (0 : Int) ≤ x1 ∧ x1 < ((T ((R a0 6).getD 0)).2 : Int) ∧ (T ((R a0 6).getD 0)).2 ≤ 3584) (g5 : (0 : Int) ≤ x2 ∧ x2 < ((T ((R a0 6).getD 0)).2 : Int) ∧ (T ((R a0 6).getD 0)).2 ≤ 3584) (g6 : -2147483648 ≤ (V ((R a0 6).getD 0) x1.toNat) ∧ (V ((R a0 6).getD 0) x1.toNat) ≤ 2147483647) (g7 : -2147483648 ≤ (V ((R a0 6).getD 0) x2.toNat) ∧ (V ((R a0 6).getD 0) x2.toNat) ≤ 2147483647) : XR sc d 131 154 [some (.ref a0), some (xw x1), some (xw x2), o3, o4, o5, o6, o7, o8, o9, o10] [xw y0] (T, z, xv V, J, R) = if (V ((R a0 6).getD 0) x2.toNat) ≤ (V ((R a0 6).getD 0) x1.toNat) then XR sc d 131 180 [some (.ref a0), some (xw x1), some (xw x2), o3, o4, o5, o6, some (xw y0), o8, o9, o10] [] (T, z, xv V, J, R) else XR sc d 131 171 [some (.ref a0), some (xw x1), some (xw x2), o3, o4, o5, o6, some (xw y0), o8, o9, o10] [] (T, z, xv V, J, R) :=
  (sw_istore (L' := [some (.ref a0), some (xw x1), some (xw x2), o3, o4, o5, o6, some (xw y0), o8, o9, o10]) f_131_154 (Nat.le_of_ble_eq_true rfl) rfl).trans ((st_aload_n f_131_156 rfl).trans ((st_getR f_131_157 e_131_22 (by decide) g1 g2).trans ((sw_iload_n f_131_160 rfl).trans ((sw_iaload f_131_161 g3 g4).trans ((st_aload_n f_131_162 rfl).trans ((st_getR f_131_163 e_131_22 (by decide) g1 g2).trans ((sw_iload_n f_131_166 rfl).trans ((sw_iaload f_131_167 g3 g5).trans (sw_icmp_ge (t := 180) f_131_168 ⟨by decide, rfl⟩ g6 g7)))))))))
theorem bX7_sew_171 {o2 o3 o4 o5 o6 o7 o8 o9 o10 : Option Value} {x1 : Int} {a0 : Nat} (g1 : T a0 = (8, 0)) (g2 : R a0 6 = some ((R a0 6).getD 0)) (g3 : T ((R a0 6).getD 0) = (32, (T ((R a0 6).getD 0)).2)) (g4 : (0 : Int) ≤ x1 ∧ x1 < ((T ((R a0 6).getD 0)).2 : Int) ∧ (T ((R a0 6).getD 0)).2 ≤ 3584) : XR sc d 131 171 [some (.ref a0), some (xw x1), o2, o3, o4, o5, o6, o7, o8, o9, o10] [] (T, z, xv V, J, R) = XR sc d 131 186 [some (.ref a0), some (xw x1), o2, o3, o4, o5, o6, o7, o8, o9, o10] [xw (V ((R a0 6).getD 0) x1.toNat)] (T, z, xv V, J, R) :=
  (st_aload_n f_131_171 rfl).trans ((st_getR f_131_172 e_131_22 (by decide) g1 g2).trans ((sw_iload_n f_131_175 rfl).trans ((sw_iaload f_131_176 g3 g4).trans (st_goto (t := 186) f_131_177 ⟨by decide, rfl⟩))))
theorem bX7_sew_180 {o1 o3 o4 o5 o6 o7 o8 o9 o10 : Option Value} {x2 : Int} {a0 : Nat} (g1 : T a0 = (8, 0)) (g2 : R a0 6 = some ((R a0 6).getD 0)) (g3 : T ((R a0 6).getD 0) = (32, (T ((R a0 6).getD 0)).2)) (g4 : (0 : Int) ≤ x2 ∧ x2 < ((T ((R a0 6).getD 0)).2 : Int) ∧ (T ((R a0 6).getD 0)).2 ≤ 3584) : XR sc d 131 180 [some (.ref a0), o1, some (xw x2), o3, o4, o5, o6, o7, o8, o9, o10] [] (T, z, xv V, J, R) = XR sc d 131 186 [some (.ref a0), o1, some (xw x2), o3, o4, o5, o6, o7, o8, o9, o10] [xw (V ((R a0 6).getD 0) x2.toNat)] (T, z, xv V, J, R) :=
  (st_aload_n f_131_180 rfl).trans ((st_getR f_131_181 e_131_22 (by decide) g1 g2).trans ((sw_iload_n f_131_184 rfl).trans (sw_iaload f_131_185 g3 g4)))
theorem bX7_sew_186 {o0 o1 o2 o5 o6 o8 o9 o10 : Option Value} {y0 x3 x7 x4 : Int} (g1 : -2147483648 ≤ ((x3 * x7) * x4) ∧ ((x3 * x7) * x4) ≤ 2147483647) (g2 : -2147483648 ≤ ((y0 * (20 - x3)) * x7) ∧ ((y0 * (20 - x3)) * x7) ≤ 2147483647) : XR sc d 131 186 [o0, o1, o2, some (xw x3), some (xw x4), o5, o6, some (xw x7), o8, o9, o10] [xw y0] (T, z, xv V, J, R) = if ((y0 * (20 - x3)) * x7) ≤ ((x3 * x7) * x4) then XR sc d 131 221 [o0, o1, o2, some (xw x3), some (xw x4), o5, o6, some (xw x7), some (xw y0), some (xw ((x3 * x7) * x4)), some (xw ((y0 * (20 - x3)) * x7))] [] (T, z, xv V, J, R) else XR sc d 131 216 [o0, o1, o2, some (xw x3), some (xw x4), o5, o6, some (xw x7), some (xw y0), some (xw ((x3 * x7) * x4)), some (xw ((y0 * (20 - x3)) * x7))] [] (T, z, xv V, J, R) :=
  (sw_istore (L' := [o0, o1, o2, some (xw x3), some (xw x4), o5, o6, some (xw x7), some (xw y0), o9, o10]) f_131_186 (Nat.le_of_ble_eq_true rfl) rfl).trans ((sw_iload_n f_131_188 rfl).trans ((sw_iload f_131_189 rfl).trans ((sw_imul f_131_191).trans ((sw_iload f_131_192 rfl).trans ((sw_imul f_131_194).trans ((sw_istore (L' := [o0, o1, o2, some (xw x3), some (xw x4), o5, o6, some (xw x7), some (xw y0), some (xw ((x3 * x7) * x4)), o10]) f_131_195 (Nat.le_of_ble_eq_true rfl) rfl).trans ((sw_iload f_131_197 rfl).trans ((sw_bipush f_131_199 c8_20).trans ((sw_iload_n f_131_201 rfl).trans ((sw_isub f_131_202).trans ((sw_imul f_131_203).trans ((sw_iload f_131_204 rfl).trans ((sw_imul f_131_206).trans ((sw_istore (L' := [o0, o1, o2, some (xw x3), some (xw x4), o5, o6, some (xw x7), some (xw y0), some (xw ((x3 * x7) * x4)), some (xw ((y0 * (20 - x3)) * x7))]) f_131_207 (Nat.le_of_ble_eq_true rfl) rfl).trans ((sw_iload f_131_209 rfl).trans ((sw_iload f_131_211 rfl).trans (sw_icmp_ge (t := 221) f_131_213 ⟨by decide, rfl⟩ g1 g2)))))))))))))))))
theorem bX7_sew_216 {o0 o1 o2 o3 o4 o5 o6 o7 o8 o10 : Option Value} {x9 : Int} : XR sc d 131 216 [o0, o1, o2, o3, o4, o5, o6, o7, o8, some (xw x9), o10] [] (T, z, xv V, J, R) = XR sc d 131 223 [o0, o1, o2, o3, o4, o5, o6, o7, o8, some (xw x9), o10] [xw x9] (T, z, xv V, J, R) :=
  (sw_iload f_131_216 rfl).trans (st_goto (t := 223) f_131_218 ⟨by decide, rfl⟩)
theorem bX7_sew_221 {o0 o1 o2 o3 o4 o5 o6 o7 o8 o9 : Option Value} {x10 : Int} : XR sc d 131 221 [o0, o1, o2, o3, o4, o5, o6, o7, o8, o9, some (xw x10)] [] (T, z, xv V, J, R) = XR sc d 131 223 [o0, o1, o2, o3, o4, o5, o6, o7, o8, o9, some (xw x10)] [xw x10] (T, z, xv V, J, R) :=
  sw_iload f_131_221 rfl
theorem bX7_sew_223 {o0 o1 o2 o3 o4 o5 o6 o7 o8 o9 o10 : Option Value} {y0 : Int} : XR sc d 131 223 [o0, o1, o2, o3, o4, o5, o6, o7, o8, o9, o10] [xw y0] (T, z, xv V, J, R) = some (.inl (some (xw y0)), (T, z, xv V, J, R)) :=
  sw_ireturn f_131_223 mr_131
theorem eX7_isHorse {x0 : Int} : X sc (d + 1) 132 [xw x0] (T, z, xv V, J, R) = XR sc d 132 0 [some (xw x0)] [] (T, z, xv V, J, R) :=
  (X_eq ⟨jl_132, by rw [mn_132]; rfl, rfl, by rw [lm_132]; exact Nat.le_of_ble_eq_true rfl⟩).trans (by unfold xent; rw [lm_132]; rfl)
theorem bX7_isHorse_0 {x0 : Int} : XR sc d 132 0 [some (xw x0)] [] (T, z, xv V, J, R) = xret 132 (XR sc d 132) 3 6 [some (xw x0)] [] (X sc d 94 [xw x0, xw 0, xw 5] (T, z, xv V, J, R)) :=
  (sw_iload_n f_132_0 rfl).trans ((sw_iconst f_132_1).trans ((sw_iconst f_132_2).trans (st_callS' f_132_3 h_132_91 mn_94 rfl rfl rfl rfl)))
theorem bX7_isHorse_6 {o0 : Option Value} {y0 : Int} (g1 : y0 = 0 ∨ y0 = 1) : XR sc d 132 6 [o0] [xw y0] (T, z, xv V, J, R) = some (.inl (some (xw y0)), (T, z, xv V, J, R)) :=
  sw_zreturn f_132_6 mr_132 g1
theorem eX7_isSaddle {x0 : Int} : X sc (d + 1) 133 [xw x0] (T, z, xv V, J, R) = XR sc d 133 0 [some (xw x0)] [] (T, z, xv V, J, R) :=
  (X_eq ⟨jl_133, by rw [mn_133]; rfl, rfl, by rw [lm_133]; exact Nat.le_of_ble_eq_true rfl⟩).trans (by unfold xent; rw [lm_133]; rfl)
theorem bX7_isSaddle_0 {x0 : Int} : XR sc d 133 0 [some (xw x0)] [] (T, z, xv V, J, R) = xret 133 (XR sc d 133) 3 6 [some (xw x0)] [] (X sc d 94 [xw x0, xw 0, xw 5] (T, z, xv V, J, R)) :=
  (sw_iload_n f_133_0 rfl).trans ((sw_iconst f_133_1).trans ((sw_iconst f_133_2).trans (st_callS' f_133_3 h_133_91 mn_94 rfl rfl rfl rfl)))
theorem bX7_isSaddle_6 {o0 : Option Value} {y0 : Int} (g1 : y0 = 0 ∨ y0 = 1) : XR sc d 133 6 [o0] [xw y0] (T, z, xv V, J, R) = some (.inl (some (xw y0)), (T, z, xv V, J, R)) :=
  sw_zreturn f_133_6 mr_133 g1
theorem eX7_isSection {x0 : Int} : X sc (d + 1) 134 [xw x0] (T, z, xv V, J, R) = XR sc d 134 0 [some (xw x0)] [] (T, z, xv V, J, R) :=
  (X_eq ⟨jl_134, by rw [mn_134]; rfl, rfl, by rw [lm_134]; exact Nat.le_of_ble_eq_true rfl⟩).trans (by unfold xent; rw [lm_134]; rfl)
theorem bX7_isSection_0 {x0 : Int} : XR sc d 134 0 [some (xw x0)] [] (T, z, xv V, J, R) = xret 134 (XR sc d 134) 4 7 [some (xw x0)] [] (X sc d 94 [xw x0, xw 0, xw 6] (T, z, xv V, J, R)) :=
  (sw_iload_n f_134_0 rfl).trans ((sw_iconst f_134_1).trans ((sw_bipush f_134_2 c8_6).trans (st_callS' f_134_4 h_134_91 mn_94 rfl rfl rfl rfl)))
theorem bX7_isSection_7 {o0 : Option Value} {y0 : Int} (g1 : y0 = 0 ∨ y0 = 1) : XR sc d 134 7 [o0] [xw y0] (T, z, xv V, J, R) = some (.inl (some (xw y0)), (T, z, xv V, J, R)) :=
  sw_zreturn f_134_7 mr_134 g1
theorem eX7_sets {x2 x3 x4 x5 x6 : Int} {a0 a1 : Nat} : X sc (d + 1) 135 [.ref a0, .ref a1, xw x2, xw x3, xw x4, xw x5, xw x6] (T, z, xv V, J, R) = XR sc d 135 0 [some (.ref a0), some (.ref a1), some (xw x2), some (xw x3), some (xw x4), some (xw x5), some (xw x6), none] [] (T, z, xv V, J, R) :=
  (X_eq ⟨jl_135, by rw [mn_135]; rfl, rfl, by rw [lm_135]; exact Nat.le_of_ble_eq_true rfl⟩).trans (by unfold xent; rw [lm_135]; rfl)
theorem bX7_sets_0 {o1 o2 o4 o5 o6 o7 : Option Value} {x3 : Int} {a0 : Nat} (g1 : -2147483648 ≤ x3 ∧ x3 ≤ 2147483647) : XR sc d 135 0 [some (.ref a0), o1, o2, some (xw x3), o4, o5, o6, o7] [] (T, z, xv V, J, R) = if x3 = 0 then XR sc d 135 5 [some (.ref a0), o1, o2, some (xw x3), o4, o5, o6, o7] [.ref a0] (T, z, xv V, J, R) else XR sc d 135 9 [some (.ref a0), o1, o2, some (xw x3), o4, o5, o6, o7] [.ref a0] (T, z, xv V, J, R) :=
  (st_aload_n f_135_0 rfl).trans ((sw_iload_n f_135_1 rfl).trans (sw_if_ne (t := 9) f_135_2 ⟨by decide, rfl⟩ g1))
theorem bX7_sets_5 {o0 o1 o2 o3 o4 o5 o6 o7 : Option Value} {s0 : Value} : XR sc d 135 5 [o0, o1, o2, o3, o4, o5, o6, o7] [s0] (T, z, xv V, J, R) = XR sc d 135 26 [o0, o1, o2, o3, o4, o5, o6, o7] [xw 1, s0] (T, z, xv V, J, R) :=
  (sw_iconst f_135_5).trans (st_goto (t := 26) f_135_6 ⟨by decide, rfl⟩)
theorem bX7_sets_9 {o0 o1 o2 o3 o7 : Option Value} {s0 : Value} {x4 x5 x6 : Int} : XR sc d 135 9 [o0, o1, o2, o3, some (xw x4), some (xw x5), some (xw x6), o7] [s0] (T, z, xv V, J, R) = xret 135 (XR sc d 135) 15 18 [o0, o1, o2, o3, some (xw x4), some (xw x5), some (xw x6), o7] [s0] (X sc d 94 [xw x4, xw x5, xw x6] (T, z, xv V, J, R)) :=
  (sw_iload f_135_9 rfl).trans ((sw_iload f_135_11 rfl).trans ((sw_iload f_135_13 rfl).trans (st_callS' f_135_15 h_135_91 mn_94 rfl rfl rfl rfl)))
theorem bX7_sets_18 {o0 o1 o2 o3 o4 o5 o6 o7 : Option Value} {s1 : Value} {y0 : Int} (g1 : -2147483648 ≤ y0 ∧ y0 ≤ 2147483647) : XR sc d 135 18 [o0, o1, o2, o3, o4, o5, o6, o7] [xw y0, s1] (T, z, xv V, J, R) = if y0 = 0 then XR sc d 135 25 [o0, o1, o2, o3, o4, o5, o6, o7] [s1] (T, z, xv V, J, R) else XR sc d 135 21 [o0, o1, o2, o3, o4, o5, o6, o7] [s1] (T, z, xv V, J, R) :=
  sw_if_eq (t := 25) f_135_18 ⟨by decide, rfl⟩ g1
theorem bX7_sets_21 {o0 o1 o2 o3 o4 o5 o6 o7 : Option Value} {s0 : Value} : XR sc d 135 21 [o0, o1, o2, o3, o4, o5, o6, o7] [s0] (T, z, xv V, J, R) = XR sc d 135 26 [o0, o1, o2, o3, o4, o5, o6, o7] [xw 0, s0] (T, z, xv V, J, R) :=
  (sw_iconst f_135_21).trans (st_goto (t := 26) f_135_22 ⟨by decide, rfl⟩)
theorem bX7_sets_25 {o0 o1 o2 o3 o4 o5 o6 o7 : Option Value} {s0 : Value} : XR sc d 135 25 [o0, o1, o2, o3, o4, o5, o6, o7] [s0] (T, z, xv V, J, R) = XR sc d 135 26 [o0, o1, o2, o3, o4, o5, o6, o7] [xw 2, s0] (T, z, xv V, J, R) :=
  sw_iconst f_135_25
theorem bX7_sets_26 {o0 o1 o2 o3 o4 o5 o6 o7 : Option Value} {y0 : Int} {b1 : Nat} (g1 : T b1 = (8, 0)) : XR sc d 135 26 [o0, o1, o2, o3, o4, o5, o6, o7] [xw y0, .ref b1] (T, z, xv V, J, R) = xret 135 (XR sc d 135) 26 29 [o0, o1, o2, o3, o4, o5, o6, o7] [] (X sc d 93 [.ref b1, xw y0] (T, z, xv V, J, R)) :=
  st_callV' f_135_26 h_135_98 mn_93 rfl rfl rfl rfl mo_93 g1 rfl
theorem bX7_sets_29 {o0 o1 o2 o3 o4 o5 o6 o7 : Option Value} {y0 : Int} (g1 : -2147483648 ≤ y0 ∧ y0 ≤ 2147483647) : XR sc d 135 29 [o0, o1, o2, o3, o4, o5, o6, o7] [xw y0] (T, z, xv V, J, R) = if y0 = 0 then XR sc d 135 34 [o0, o1, o2, o3, o4, o5, o6, o7] [] (T, z, xv V, J, R) else XR sc d 135 32 [o0, o1, o2, o3, o4, o5, o6, o7] [] (T, z, xv V, J, R) :=
  sw_if_eq (t := 34) f_135_29 ⟨by decide, rfl⟩ g1
theorem bX7_sets_32 {o0 o1 o2 o3 o4 o5 o6 o7 : Option Value} : XR sc d 135 32 [o0, o1, o2, o3, o4, o5, o6, o7] [] (T, z, xv V, J, R) = some (.inl (some (xw 0)), (T, z, xv V, J, R)) :=
  (sw_iconst f_135_32).trans (sw_ireturn f_135_33 mr_135)
theorem bX7_sets_34 {o0 o3 o5 o6 o7 : Option Value} {x2 x4 : Int} {a1 : Nat} (g1 : T a1 = (32, (T a1).2)) (g2 : (0 : Int) ≤ x2 ∧ x2 < ((T a1).2 : Int) ∧ (T a1).2 ≤ 3584) : XR sc d 135 34 [o0, some (.ref a1), some (xw x2), o3, some (xw x4), o5, o6, o7] [] (T, z, xv V, J, R) = some (.inl (some (xw (V a1 x2.toNat))), (T, z, xv (xup2 V a1 x2.toNat x4), J, R)) :=
  (st_aload_n f_135_34 rfl).trans ((sw_iload_n f_135_35 rfl).trans ((sw_iaload f_135_36 g1 g2).trans ((sw_istore (L' := [o0, some (.ref a1), some (xw x2), o3, some (xw x4), o5, o6, some (xw (V a1 x2.toNat))]) f_135_37 (Nat.le_of_ble_eq_true rfl) rfl).trans ((st_aload_n f_135_39 rfl).trans ((sw_iload_n f_135_40 rfl).trans ((sw_iload f_135_41 rfl).trans ((sw_iastore f_135_43 g1 g2).trans ((sw_iload f_135_44 rfl).trans (sw_ireturn f_135_46 mr_135)))))))))
theorem eX7_back {x1 x2 x3 : Int} {a0 : Nat} : X sc (d + 1) 136 [.ref a0, xw x1, xw x2, xw x3] (T, z, xv V, J, R) = XR sc d 136 0 [some (.ref a0), some (xw x1), some (xw x2), some (xw x3)] [] (T, z, xv V, J, R) :=
  (X_eq ⟨jl_136, by rw [mn_136]; rfl, rfl, by rw [lm_136]; exact Nat.le_of_ble_eq_true rfl⟩).trans (by unfold xent; rw [lm_136]; rfl)
theorem bX7_back_0 {o3 : Option Value} {x1 x2 : Int} {a0 : Nat} (g1 : T a0 = (8, 0)) (g2 : R a0 20 = some ((R a0 20).getD 0)) : XR sc d 136 0 [some (.ref a0), some (xw x1), some (xw x2), o3] [] (T, z, xv V, J, R) = xret 136 (XR sc d 136) 12 15 [some (.ref a0), some (xw x1), some (xw x2), o3] [xw ((7 * x1) + x2), .ref ((R a0 20).getD 0), .ref a0] (X sc d 132 [xw x1] (T, z, xv V, J, R)) :=
  (st_aload_n f_136_0 rfl).trans ((st_aload_n f_136_1 rfl).trans ((st_getR f_136_2 e_136_63 (by decide) g1 g2).trans ((sw_bipush f_136_5 c8_7).trans ((sw_iload_n f_136_7 rfl).trans ((sw_imul f_136_8).trans ((sw_iload_n f_136_9 rfl).trans ((sw_iadd f_136_10).trans ((sw_iload_n f_136_11 rfl).trans (st_callS' f_136_12 h_136_178 mn_132 rfl rfl rfl rfl)))))))))
theorem bX7_back_15 {o0 o1 o2 o3 : Option Value} {s1 s2 s3 : Value} {y0 : Int} (g1 : -2147483648 ≤ y0 ∧ y0 ≤ 2147483647) : XR sc d 136 15 [o0, o1, o2, o3] [xw y0, s1, s2, s3] (T, z, xv V, J, R) = if y0 = 0 then XR sc d 136 29 [o0, o1, o2, o3] [s1, s2, s3] (T, z, xv V, J, R) else XR sc d 136 18 [o0, o1, o2, o3] [s1, s2, s3] (T, z, xv V, J, R) :=
  sw_if_eq (t := 29) f_136_15 ⟨by decide, rfl⟩ g1
theorem bX7_back_18 {o0 o1 o3 : Option Value} {s0 s1 s2 : Value} {x2 : Int} : XR sc d 136 18 [o0, o1, some (xw x2), o3] [s0, s1, s2] (T, z, xv V, J, R) = xret 136 (XR sc d 136) 19 22 [o0, o1, some (xw x2), o3] [s0, s1, s2] (X sc d 134 [xw x2] (T, z, xv V, J, R)) :=
  (sw_iload_n f_136_18 rfl).trans (st_callS' f_136_19 h_136_181 mn_134 rfl rfl rfl rfl)
theorem bX7_back_22 {o0 o1 o2 o3 : Option Value} {s1 s2 s3 : Value} {y0 : Int} (g1 : -2147483648 ≤ y0 ∧ y0 ≤ 2147483647) : XR sc d 136 22 [o0, o1, o2, o3] [xw y0, s1, s2, s3] (T, z, xv V, J, R) = if y0 = 0 then XR sc d 136 29 [o0, o1, o2, o3] [s1, s2, s3] (T, z, xv V, J, R) else XR sc d 136 25 [o0, o1, o2, o3] [s1, s2, s3] (T, z, xv V, J, R) :=
  sw_if_eq (t := 29) f_136_22 ⟨by decide, rfl⟩ g1
theorem bX7_back_25 {o0 o1 o2 o3 : Option Value} {s0 s1 s2 : Value} : XR sc d 136 25 [o0, o1, o2, o3] [s0, s1, s2] (T, z, xv V, J, R) = XR sc d 136 30 [o0, o1, o2, o3] [xw 1, s0, s1, s2] (T, z, xv V, J, R) :=
  (sw_iconst f_136_25).trans (st_goto (t := 30) f_136_26 ⟨by decide, rfl⟩)
theorem bX7_back_29 {o0 o1 o2 o3 : Option Value} {s0 s1 s2 : Value} : XR sc d 136 29 [o0, o1, o2, o3] [s0, s1, s2] (T, z, xv V, J, R) = XR sc d 136 30 [o0, o1, o2, o3] [xw 0, s0, s1, s2] (T, z, xv V, J, R) :=
  sw_iconst f_136_29
theorem bX7_back_30 {o0 o1 o2 : Option Value} {x3 y0 y1 : Int} {b2 b3 : Nat} (g1 : T b3 = (8, 0)) : XR sc d 136 30 [o0, o1, o2, some (xw x3)] [xw y0, xw y1, .ref b2, .ref b3] (T, z, xv V, J, R) = xret 136 (XR sc d 136) 35 38 [o0, o1, o2, some (xw x3)] [] (X sc d 135 [.ref b3, .ref b2, xw y1, xw y0, xw x3, xw (-50), xw 50] (T, z, xv V, J, R)) :=
  (sw_iload_n f_136_30 rfl).trans ((sw_bipush f_136_31 c8_m50).trans ((sw_bipush f_136_33 c8_50).trans (st_callV' f_136_35 h_136_184 mn_135 rfl rfl rfl rfl mo_135 g1 rfl)))
theorem bX7_back_38 {o0 o1 o2 o3 : Option Value} {y0 : Int} : XR sc d 136 38 [o0, o1, o2, o3] [xw y0] (T, z, xv V, J, R) = some (.inl (some (xw y0)), (T, z, xv V, J, R)) :=
  sw_ireturn f_136_38 mr_136
theorem eX7_tree {x1 x2 x3 : Int} {a0 : Nat} : X sc (d + 1) 137 [.ref a0, xw x1, xw x2, xw x3] (T, z, xv V, J, R) = XR sc d 137 0 [some (.ref a0), some (xw x1), some (xw x2), some (xw x3)] [] (T, z, xv V, J, R) :=
  (X_eq ⟨jl_137, by rw [mn_137]; rfl, rfl, by rw [lm_137]; exact Nat.le_of_ble_eq_true rfl⟩).trans (by unfold xent; rw [lm_137]; rfl)
theorem bX7_tree_0 {o3 : Option Value} {x1 x2 : Int} {a0 : Nat} (g1 : T a0 = (8, 0)) (g2 : R a0 21 = some ((R a0 21).getD 0)) : XR sc d 137 0 [some (.ref a0), some (xw x1), some (xw x2), o3] [] (T, z, xv V, J, R) = xret 137 (XR sc d 137) 12 15 [some (.ref a0), some (xw x1), some (xw x2), o3] [xw ((7 * x1) + x2), .ref ((R a0 21).getD 0), .ref a0] (X sc d 133 [xw x1] (T, z, xv V, J, R)) :=
  (st_aload_n f_137_0 rfl).trans ((st_aload_n f_137_1 rfl).trans ((st_getR f_137_2 e_137_66 (by decide) g1 g2).trans ((sw_bipush f_137_5 c8_7).trans ((sw_iload_n f_137_7 rfl).trans ((sw_imul f_137_8).trans ((sw_iload_n f_137_9 rfl).trans ((sw_iadd f_137_10).trans ((sw_iload_n f_137_11 rfl).trans (st_callS' f_137_12 h_137_188 mn_133 rfl rfl rfl rfl)))))))))
theorem bX7_tree_15 {o0 o1 o2 o3 : Option Value} {s1 s2 s3 : Value} {y0 : Int} (g1 : -2147483648 ≤ y0 ∧ y0 ≤ 2147483647) : XR sc d 137 15 [o0, o1, o2, o3] [xw y0, s1, s2, s3] (T, z, xv V, J, R) = if y0 = 0 then XR sc d 137 29 [o0, o1, o2, o3] [s1, s2, s3] (T, z, xv V, J, R) else XR sc d 137 18 [o0, o1, o2, o3] [s1, s2, s3] (T, z, xv V, J, R) :=
  sw_if_eq (t := 29) f_137_15 ⟨by decide, rfl⟩ g1
theorem bX7_tree_18 {o0 o1 o3 : Option Value} {s0 s1 s2 : Value} {x2 : Int} : XR sc d 137 18 [o0, o1, some (xw x2), o3] [s0, s1, s2] (T, z, xv V, J, R) = xret 137 (XR sc d 137) 19 22 [o0, o1, some (xw x2), o3] [s0, s1, s2] (X sc d 134 [xw x2] (T, z, xv V, J, R)) :=
  (sw_iload_n f_137_18 rfl).trans (st_callS' f_137_19 h_137_181 mn_134 rfl rfl rfl rfl)
theorem bX7_tree_22 {o0 o1 o2 o3 : Option Value} {s1 s2 s3 : Value} {y0 : Int} (g1 : -2147483648 ≤ y0 ∧ y0 ≤ 2147483647) : XR sc d 137 22 [o0, o1, o2, o3] [xw y0, s1, s2, s3] (T, z, xv V, J, R) = if y0 = 0 then XR sc d 137 29 [o0, o1, o2, o3] [s1, s2, s3] (T, z, xv V, J, R) else XR sc d 137 25 [o0, o1, o2, o3] [s1, s2, s3] (T, z, xv V, J, R) :=
  sw_if_eq (t := 29) f_137_22 ⟨by decide, rfl⟩ g1
theorem bX7_tree_25 {o0 o1 o2 o3 : Option Value} {s0 s1 s2 : Value} : XR sc d 137 25 [o0, o1, o2, o3] [s0, s1, s2] (T, z, xv V, J, R) = XR sc d 137 30 [o0, o1, o2, o3] [xw 1, s0, s1, s2] (T, z, xv V, J, R) :=
  (sw_iconst f_137_25).trans (st_goto (t := 30) f_137_26 ⟨by decide, rfl⟩)
theorem bX7_tree_29 {o0 o1 o2 o3 : Option Value} {s0 s1 s2 : Value} : XR sc d 137 29 [o0, o1, o2, o3] [s0, s1, s2] (T, z, xv V, J, R) = XR sc d 137 30 [o0, o1, o2, o3] [xw 0, s0, s1, s2] (T, z, xv V, J, R) :=
  sw_iconst f_137_29
theorem bX7_tree_30 {o0 o1 o2 : Option Value} {x3 y0 y1 : Int} {b2 b3 : Nat} (g1 : T b3 = (8, 0)) : XR sc d 137 30 [o0, o1, o2, some (xw x3)] [xw y0, xw y1, .ref b2, .ref b3] (T, z, xv V, J, R) = xret 137 (XR sc d 137) 35 38 [o0, o1, o2, some (xw x3)] [] (X sc d 135 [.ref b3, .ref b2, xw y1, xw y0, xw x3, xw (-50), xw 50] (T, z, xv V, J, R)) :=
  (sw_iload_n f_137_30 rfl).trans ((sw_bipush f_137_31 c8_m50).trans ((sw_bipush f_137_33 c8_50).trans (st_callV' f_137_35 h_137_184 mn_135 rfl rfl rfl rfl mo_135 g1 rfl)))
theorem bX7_tree_38 {o0 o1 o2 o3 : Option Value} {y0 : Int} : XR sc d 137 38 [o0, o1, o2, o3] [xw y0] (T, z, xv V, J, R) = some (.inl (some (xw y0)), (T, z, xv V, J, R)) :=
  sw_ireturn f_137_38 mr_137
theorem eX7_flock {x1 x2 x3 : Int} {a0 : Nat} : X sc (d + 1) 138 [.ref a0, xw x1, xw x2, xw x3] (T, z, xv V, J, R) = XR sc d 138 0 [some (.ref a0), some (xw x1), some (xw x2), some (xw x3)] [] (T, z, xv V, J, R) :=
  (X_eq ⟨jl_138, by rw [mn_138]; rfl, rfl, by rw [lm_138]; exact Nat.le_of_ble_eq_true rfl⟩).trans (by unfold xent; rw [lm_138]; rfl)
theorem bX7_flock_0 {o3 : Option Value} {x1 x2 : Int} {a0 : Nat} (g1 : T a0 = (8, 0)) (g2 : R a0 22 = some ((R a0 22).getD 0)) : XR sc d 138 0 [some (.ref a0), some (xw x1), some (xw x2), o3] [] (T, z, xv V, J, R) = xret 138 (XR sc d 138) 12 15 [some (.ref a0), some (xw x1), some (xw x2), o3] [xw ((7 * x1) + x2), .ref ((R a0 22).getD 0), .ref a0] (X sc d 133 [xw x1] (T, z, xv V, J, R)) :=
  (st_aload_n f_138_0 rfl).trans ((st_aload_n f_138_1 rfl).trans ((st_getR f_138_2 e_138_69 (by decide) g1 g2).trans ((sw_bipush f_138_5 c8_7).trans ((sw_iload_n f_138_7 rfl).trans ((sw_imul f_138_8).trans ((sw_iload_n f_138_9 rfl).trans ((sw_iadd f_138_10).trans ((sw_iload_n f_138_11 rfl).trans (st_callS' f_138_12 h_138_188 mn_133 rfl rfl rfl rfl)))))))))
theorem bX7_flock_15 {o0 o1 o2 o3 : Option Value} {s1 s2 s3 : Value} {y0 : Int} (g1 : -2147483648 ≤ y0 ∧ y0 ≤ 2147483647) : XR sc d 138 15 [o0, o1, o2, o3] [xw y0, s1, s2, s3] (T, z, xv V, J, R) = if y0 = 0 then XR sc d 138 29 [o0, o1, o2, o3] [s1, s2, s3] (T, z, xv V, J, R) else XR sc d 138 18 [o0, o1, o2, o3] [s1, s2, s3] (T, z, xv V, J, R) :=
  sw_if_eq (t := 29) f_138_15 ⟨by decide, rfl⟩ g1
theorem bX7_flock_18 {o0 o1 o3 : Option Value} {s0 s1 s2 : Value} {x2 : Int} : XR sc d 138 18 [o0, o1, some (xw x2), o3] [s0, s1, s2] (T, z, xv V, J, R) = xret 138 (XR sc d 138) 19 22 [o0, o1, some (xw x2), o3] [s0, s1, s2] (X sc d 134 [xw x2] (T, z, xv V, J, R)) :=
  (sw_iload_n f_138_18 rfl).trans (st_callS' f_138_19 h_138_181 mn_134 rfl rfl rfl rfl)
theorem bX7_flock_22 {o0 o1 o2 o3 : Option Value} {s1 s2 s3 : Value} {y0 : Int} (g1 : -2147483648 ≤ y0 ∧ y0 ≤ 2147483647) : XR sc d 138 22 [o0, o1, o2, o3] [xw y0, s1, s2, s3] (T, z, xv V, J, R) = if y0 = 0 then XR sc d 138 29 [o0, o1, o2, o3] [s1, s2, s3] (T, z, xv V, J, R) else XR sc d 138 25 [o0, o1, o2, o3] [s1, s2, s3] (T, z, xv V, J, R) :=
  sw_if_eq (t := 29) f_138_22 ⟨by decide, rfl⟩ g1
theorem bX7_flock_25 {o0 o1 o2 o3 : Option Value} {s0 s1 s2 : Value} : XR sc d 138 25 [o0, o1, o2, o3] [s0, s1, s2] (T, z, xv V, J, R) = XR sc d 138 30 [o0, o1, o2, o3] [xw 1, s0, s1, s2] (T, z, xv V, J, R) :=
  (sw_iconst f_138_25).trans (st_goto (t := 30) f_138_26 ⟨by decide, rfl⟩)
theorem bX7_flock_29 {o0 o1 o2 o3 : Option Value} {s0 s1 s2 : Value} : XR sc d 138 29 [o0, o1, o2, o3] [s0, s1, s2] (T, z, xv V, J, R) = XR sc d 138 30 [o0, o1, o2, o3] [xw 0, s0, s1, s2] (T, z, xv V, J, R) :=
  sw_iconst f_138_29
theorem bX7_flock_30 {o0 o1 o2 : Option Value} {x3 y0 y1 : Int} {b2 b3 : Nat} (g1 : T b3 = (8, 0)) : XR sc d 138 30 [o0, o1, o2, some (xw x3)] [xw y0, xw y1, .ref b2, .ref b3] (T, z, xv V, J, R) = xret 138 (XR sc d 138) 34 37 [o0, o1, o2, some (xw x3)] [] (X sc d 135 [.ref b3, .ref b2, xw y1, xw y0, xw x3, xw 0, xw 20] (T, z, xv V, J, R)) :=
  (sw_iload_n f_138_30 rfl).trans ((sw_iconst f_138_31).trans ((sw_bipush f_138_32 c8_20).trans (st_callV' f_138_34 h_138_184 mn_135 rfl rfl rfl rfl mo_135 g1 rfl)))
theorem bX7_flock_37 {o0 o1 o2 o3 : Option Value} {y0 : Int} : XR sc d 138 37 [o0, o1, o2, o3] [xw y0] (T, z, xv V, J, R) = some (.inl (some (xw y0)), (T, z, xv V, J, R)) :=
  sw_ireturn f_138_37 mr_138
theorem eX7_gap {x1 x2 x3 : Int} {a0 : Nat} : X sc (d + 1) 139 [.ref a0, xw x1, xw x2, xw x3] (T, z, xv V, J, R) = XR sc d 139 0 [some (.ref a0), some (xw x1), some (xw x2), some (xw x3)] [] (T, z, xv V, J, R) :=
  (X_eq ⟨jl_139, by rw [mn_139]; rfl, rfl, by rw [lm_139]; exact Nat.le_of_ble_eq_true rfl⟩).trans (by unfold xent; rw [lm_139]; rfl)
theorem bX7_gap_0 {x2 x3 x1 : Int} {a0 : Nat} (g1 : T a0 = (8, 0)) (g2 : R a0 21 = some ((R a0 21).getD 0)) (g3 : T ((R a0 21).getD 0) = (32, (T ((R a0 21).getD 0)).2)) (g4 : (0 : Int) ≤ ((7 * x2) + x3) ∧ ((7 * x2) + x3) < ((T ((R a0 21).getD 0)).2 : Int) ∧ (T ((R a0 21).getD 0)).2 ≤ 3584) (g5 : R a0 22 = some ((R a0 22).getD 0)) (g6 : T ((R a0 22).getD 0) = (32, (T ((R a0 22).getD 0)).2)) (g7 : (0 : Int) ≤ ((7 * x2) + x3) ∧ ((7 * x2) + x3) < ((T ((R a0 22).getD 0)).2 : Int) ∧ (T ((R a0 22).getD 0)).2 ≤ 3584) (g8 : R a0 20 = some ((R a0 20).getD 0)) (g9 : T ((R a0 20).getD 0) = (32, (T ((R a0 20).getD 0)).2)) (g10 : (0 : Int) ≤ ((7 * x1) + x3) ∧ ((7 * x1) + x3) < ((T ((R a0 20).getD 0)).2 : Int) ∧ (T ((R a0 20).getD 0)).2 ≤ 3584) : XR sc d 139 0 [some (.ref a0), some (xw x1), some (xw x2), some (xw x3)] [] (T, z, xv V, J, R) = some (.inl (some (xw (((V ((R a0 21).getD 0) ((7 * x2) + x3).toNat) - (V ((R a0 22).getD 0) ((7 * x2) + x3).toNat)) - (V ((R a0 20).getD 0) ((7 * x1) + x3).toNat)))), (T, z, xv V, J, R)) :=
  (st_aload_n f_139_0 rfl).trans ((st_getR f_139_1 e_139_66 (by decide) g1 g2).trans ((sw_bipush f_139_4 c8_7).trans ((sw_iload_n f_139_6 rfl).trans ((sw_imul f_139_7).trans ((sw_iload_n f_139_8 rfl).trans ((sw_iadd f_139_9).trans ((sw_iaload f_139_10 g3 g4).trans ((st_aload_n f_139_11 rfl).trans ((st_getR f_139_12 e_139_69 (by decide) g1 g5).trans ((sw_bipush f_139_15 c8_7).trans ((sw_iload_n f_139_17 rfl).trans ((sw_imul f_139_18).trans ((sw_iload_n f_139_19 rfl).trans ((sw_iadd f_139_20).trans ((sw_iaload f_139_21 g6 g7).trans ((sw_isub f_139_22).trans ((st_aload_n f_139_23 rfl).trans ((st_getR f_139_24 e_139_63 (by decide) g1 g8).trans ((sw_bipush f_139_27 c8_7).trans ((sw_iload_n f_139_29 rfl).trans ((sw_imul f_139_30).trans ((sw_iload_n f_139_31 rfl).trans ((sw_iadd f_139_32).trans ((sw_iaload f_139_33 g9 g10).trans ((sw_isub f_139_34).trans (sw_ireturn f_139_35 mr_139))))))))))))))))))))))))))
theorem eX7_pressureAt {x1 x2 x3 x4 : Int} {a0 : Nat} : X sc (d + 1) 140 [.ref a0, xw x1, xw x2, xw x3, xw x4] (T, z, xv V, J, R) = XR sc d 140 0 [some (.ref a0), some (xw x1), some (xw x2), some (xw x3), some (xw x4), none] [] (T, z, xv V, J, R) :=
  (X_eq ⟨jl_140, by rw [mn_140]; rfl, rfl, by rw [lm_140]; exact Nat.le_of_ble_eq_true rfl⟩).trans (by unfold xent; rw [lm_140]; rfl)
theorem bX7_pressureAt_0 {o5 : Option Value} {x3 x1 x2 x4 : Int} {a0 : Nat} (g1 : T a0 = (8, 0)) : XR sc d 140 0 [some (.ref a0), some (xw x1), some (xw x2), some (xw x3), some (xw x4), o5] [] (T, z, xv V, J, R) = xret 140 (XR sc d 140) 6 9 [some (.ref a0), some (xw x1), some (xw x2), some (xw x3), some (xw x4), o5] [xw x3] (X sc d 139 [.ref a0, xw x1, xw x2, xw x4] (T, z, xv V, J, R)) :=
  (sw_iload_n f_140_0 rfl).trans ((st_aload_n f_140_1 rfl).trans ((sw_iload_n f_140_2 rfl).trans ((sw_iload_n f_140_3 rfl).trans ((sw_iload f_140_4 rfl).trans (st_callV' f_140_6 h_140_191 mn_139 rfl rfl rfl rfl mo_139 g1 rfl)))))
theorem bX7_pressureAt_9 {o0 o1 o2 o3 o4 o5 : Option Value} {y0 y1 : Int} (g1 : -2147483648 ≤ (y1 - y0) ∧ (y1 - y0) ≤ 2147483647) : XR sc d 140 9 [o0, o1, o2, o3, o4, o5] [xw y0, xw y1] (T, z, xv V, J, R) = if (y1 - y0) ≤ 0 then XR sc d 140 24 [o0, o1, o2, o3, o4, some (xw (y1 - y0))] [] (T, z, xv V, J, R) else XR sc d 140 17 [o0, o1, o2, o3, o4, some (xw (y1 - y0))] [] (T, z, xv V, J, R) :=
  (sw_isub f_140_9).trans ((sw_istore (L' := [o0, o1, o2, o3, o4, some (xw (y1 - y0))]) f_140_10 (Nat.le_of_ble_eq_true rfl) rfl).trans ((sw_iload f_140_12 rfl).trans (sw_if_le (t := 24) f_140_14 ⟨by decide, rfl⟩ g1)))
theorem bX7_pressureAt_17 {o0 o1 o2 o3 o4 : Option Value} {x5 : Int} : XR sc d 140 17 [o0, o1, o2, o3, o4, some (xw x5)] [] (T, z, xv V, J, R) = XR sc d 140 25 [o0, o1, o2, o3, o4, some (xw x5)] [xw (4 * x5)] (T, z, xv V, J, R) :=
  (sw_iconst f_140_17).trans ((sw_iload f_140_18 rfl).trans ((sw_imul f_140_20).trans (st_goto (t := 25) f_140_21 ⟨by decide, rfl⟩)))
theorem bX7_pressureAt_24 {o0 o1 o2 o3 o4 o5 : Option Value} : XR sc d 140 24 [o0, o1, o2, o3, o4, o5] [] (T, z, xv V, J, R) = XR sc d 140 25 [o0, o1, o2, o3, o4, o5] [xw 0] (T, z, xv V, J, R) :=
  sw_iconst f_140_24
theorem bX7_pressureAt_25 {o0 o1 o2 o3 o4 o5 : Option Value} {y0 : Int} : XR sc d 140 25 [o0, o1, o2, o3, o4, o5] [xw y0] (T, z, xv V, J, R) = some (.inl (some (xw y0)), (T, z, xv V, J, R)) :=
  sw_ireturn f_140_25 mr_140
theorem eX7_depthOf {x1 x2 x3 : Int} {a0 : Nat} : X sc (d + 1) 141 [.ref a0, xw x1, xw x2, xw x3] (T, z, xv V, J, R) = XR sc d 141 0 [some (.ref a0), some (xw x1), some (xw x2), some (xw x3), none, none, none] [] (T, z, xv V, J, R) :=
  (X_eq ⟨jl_141, by rw [mn_141]; rfl, rfl, by rw [lm_141]; exact Nat.le_of_ble_eq_true rfl⟩).trans (by unfold xent; rw [lm_141]; rfl)
theorem bX7_depthOf_0 {o0 o1 o2 o3 o4 o5 o6 : Option Value} : XR sc d 141 0 [o0, o1, o2, o3, o4, o5, o6] [] (T, z, xv V, J, R) = XR sc d 141 8 [o0, o1, o2, o3, some (xw (-200)), some (xw 0), o6] [] (T, z, xv V, J, R) :=
  (sw_sipush f_141_0 c16_m200).trans ((sw_istore (L' := [o0, o1, o2, o3, some (xw (-200)), o5, o6]) f_141_3 (Nat.le_of_ble_eq_true rfl) rfl).trans ((sw_iconst f_141_5).trans (sw_istore (L' := [o0, o1, o2, o3, some (xw (-200)), some (xw 0), o6]) f_141_6 (Nat.le_of_ble_eq_true rfl) rfl)))
theorem bX7_depthOf_8 {o0 o1 o2 o4 o6 : Option Value} {x5 x3 : Int} (g1 : -2147483648 ≤ x5 ∧ x5 ≤ 2147483647) (g2 : -2147483648 ≤ x3 ∧ x3 ≤ 2147483647) : XR sc d 141 8 [o0, o1, o2, some (xw x3), o4, some (xw x5), o6] [] (T, z, xv V, J, R) = if x3 ≤ x5 then XR sc d 141 54 [o0, o1, o2, some (xw x3), o4, some (xw x5), o6] [] (T, z, xv V, J, R) else XR sc d 141 14 [o0, o1, o2, some (xw x3), o4, some (xw x5), o6] [] (T, z, xv V, J, R) :=
  (sw_iload f_141_8 rfl).trans ((sw_iload_n f_141_10 rfl).trans (sw_icmp_ge (t := 54) f_141_11 ⟨by decide, rfl⟩ g1 g2))
theorem bX7_depthOf_14 {o0 o1 o2 o3 o5 o6 : Option Value} {x4 : Int} : XR sc d 141 14 [o0, o1, o2, o3, some (xw x4), o5, o6] [] (T, z, xv V, J, R) = XR sc d 141 23 [o0, o1, o2, o3, some (xw (x4 + 1)), some (xw 0), some (xw 0)] [] (T, z, xv V, J, R) :=
  (sw_iinc (L' := [o0, o1, o2, o3, some (xw (x4 + 1)), o5, o6]) f_141_14 rfl (Nat.le_of_ble_eq_true rfl) rfl).trans ((sw_iconst f_141_17).trans ((sw_istore (L' := [o0, o1, o2, o3, some (xw (x4 + 1)), some (xw 0), o6]) f_141_18 (Nat.le_of_ble_eq_true rfl) rfl).trans ((sw_iconst f_141_20).trans (sw_istore (L' := [o0, o1, o2, o3, some (xw (x4 + 1)), some (xw 0), some (xw 0)]) f_141_21 (Nat.le_of_ble_eq_true rfl) rfl))))
theorem bX7_depthOf_23 {o0 o1 o2 o3 o4 o5 : Option Value} {x6 : Int} (g1 : -2147483648 ≤ x6 ∧ x6 ≤ 2147483647) : XR sc d 141 23 [o0, o1, o2, o3, o4, o5, some (xw x6)] [] (T, z, xv V, J, R) = if 7 ≤ x6 then XR sc d 141 51 [o0, o1, o2, o3, o4, o5, some (xw x6)] [] (T, z, xv V, J, R) else XR sc d 141 30 [o0, o1, o2, o3, o4, o5, some (xw x6)] [] (T, z, xv V, J, R) :=
  (sw_iload f_141_23 rfl).trans ((sw_bipush f_141_25 c8_7).trans (sw_icmp_ge (t := 51) f_141_27 ⟨by decide, rfl⟩ g1 ⟨by decide, by decide⟩))
theorem bX7_depthOf_30 {o3 : Option Value} {x5 x1 x2 x4 x6 : Int} {a0 : Nat} (g1 : T a0 = (8, 0)) : XR sc d 141 30 [some (.ref a0), some (xw x1), some (xw x2), o3, some (xw x4), some (xw x5), some (xw x6)] [] (T, z, xv V, J, R) = xret 141 (XR sc d 141) 39 42 [some (.ref a0), some (xw x1), some (xw x2), o3, some (xw x4), some (xw x5), some (xw x6)] [xw x5] (X sc d 140 [.ref a0, xw x1, xw x2, xw x4, xw x6] (T, z, xv V, J, R)) :=
  (sw_iload f_141_30 rfl).trans ((st_aload_n f_141_32 rfl).trans ((sw_iload_n f_141_33 rfl).trans ((sw_iload_n f_141_34 rfl).trans ((sw_iload f_141_35 rfl).trans ((sw_iload f_141_37 rfl).trans (st_callV' f_141_39 h_141_194 mn_140 rfl rfl rfl rfl mo_140 g1 rfl))))))
theorem bX7_depthOf_42 {o0 o1 o2 o3 o4 o5 : Option Value} {y0 y1 x6 : Int} : XR sc d 141 42 [o0, o1, o2, o3, o4, o5, some (xw x6)] [xw y0, xw y1] (T, z, xv V, J, R) = XR sc d 141 23 [o0, o1, o2, o3, o4, some (xw (y1 + y0)), some (xw (x6 + 1))] [] (T, z, xv V, J, R) :=
  (sw_iadd f_141_42).trans ((sw_istore (L' := [o0, o1, o2, o3, o4, some (xw (y1 + y0)), some (xw x6)]) f_141_43 (Nat.le_of_ble_eq_true rfl) rfl).trans ((sw_iinc (L' := [o0, o1, o2, o3, o4, some (xw (y1 + y0)), some (xw (x6 + 1))]) f_141_45 rfl (Nat.le_of_ble_eq_true rfl) rfl).trans (st_goto (t := 23) f_141_48 ⟨by decide, rfl⟩)))
theorem bX7_depthOf_51 {o0 o1 o2 o3 o4 o5 o6 : Option Value} : XR sc d 141 51 [o0, o1, o2, o3, o4, o5, o6] [] (T, z, xv V, J, R) = XR sc d 141 8 [o0, o1, o2, o3, o4, o5, o6] [] (T, z, xv V, J, R) :=
  st_goto (t := 8) f_141_51 ⟨by decide, rfl⟩
theorem bX7_depthOf_54 {o0 o1 o2 o3 o5 o6 : Option Value} {x4 : Int} : XR sc d 141 54 [o0, o1, o2, o3, some (xw x4), o5, o6] [] (T, z, xv V, J, R) = some (.inl (some (xw x4)), (T, z, xv V, J, R)) :=
  (sw_iload f_141_54 rfl).trans (sw_ireturn f_141_56 mr_141)
theorem eX7_missesSaddle {x1 x2 x3 x4 : Int} {a0 : Nat} : X sc (d + 1) 142 [.ref a0, xw x1, xw x2, xw x3, xw x4] (T, z, xv V, J, R) = XR sc d 142 0 [some (.ref a0), some (xw x1), some (xw x2), some (xw x3), some (xw x4)] [] (T, z, xv V, J, R) :=
  (X_eq ⟨jl_142, by rw [mn_142]; rfl, rfl, by rw [lm_142]; exact Nat.le_of_ble_eq_true rfl⟩).trans (by unfold xent; rw [lm_142]; rfl)
theorem bX7_missesSaddle_0 {o2 o3 o4 : Option Value} {x1 : Int} {a0 : Nat} : XR sc d 142 0 [some (.ref a0), some (xw x1), o2, o3, o4] [] (T, z, xv V, J, R) = xret 142 (XR sc d 142) 2 5 [some (.ref a0), some (xw x1), o2, o3, o4] [.ref a0] (X sc d 132 [xw x1] (T, z, xv V, J, R)) :=
  (st_aload_n f_142_0 rfl).trans ((sw_iload_n f_142_1 rfl).trans (st_callS' f_142_2 h_142_178 mn_132 rfl rfl rfl rfl))
theorem bX7_missesSaddle_5 {o0 o1 o2 o3 o4 : Option Value} {s1 : Value} {y0 : Int} (g1 : -2147483648 ≤ y0 ∧ y0 ≤ 2147483647) : XR sc d 142 5 [o0, o1, o2, o3, o4] [xw y0, s1] (T, z, xv V, J, R) = if y0 = 0 then XR sc d 142 20 [o0, o1, o2, o3, o4] [s1] (T, z, xv V, J, R) else XR sc d 142 8 [o0, o1, o2, o3, o4] [s1] (T, z, xv V, J, R) :=
  sw_if_eq (t := 20) f_142_5 ⟨by decide, rfl⟩ g1
theorem bX7_missesSaddle_8 {o0 o1 o3 o4 : Option Value} {s0 : Value} {x2 : Int} : XR sc d 142 8 [o0, o1, some (xw x2), o3, o4] [s0] (T, z, xv V, J, R) = xret 142 (XR sc d 142) 9 12 [o0, o1, some (xw x2), o3, o4] [s0] (X sc d 133 [xw x2] (T, z, xv V, J, R)) :=
  (sw_iload_n f_142_8 rfl).trans (st_callS' f_142_9 h_142_188 mn_133 rfl rfl rfl rfl)
theorem bX7_missesSaddle_12 {o0 o1 o2 o3 o4 : Option Value} {s1 : Value} {y0 : Int} (g1 : -2147483648 ≤ y0 ∧ y0 ≤ 2147483647) : XR sc d 142 12 [o0, o1, o2, o3, o4] [xw y0, s1] (T, z, xv V, J, R) = if y0 = 0 then XR sc d 142 20 [o0, o1, o2, o3, o4] [s1] (T, z, xv V, J, R) else XR sc d 142 15 [o0, o1, o2, o3, o4] [s1] (T, z, xv V, J, R) :=
  sw_if_eq (t := 20) f_142_12 ⟨by decide, rfl⟩ g1
theorem bX7_missesSaddle_15 {o0 o1 o2 o3 : Option Value} {s0 : Value} {x4 : Int} (g1 : -2147483648 ≤ x4 ∧ x4 ≤ 2147483647) : XR sc d 142 15 [o0, o1, o2, o3, some (xw x4)] [s0] (T, z, xv V, J, R) = if x4 = 0 then XR sc d 142 20 [o0, o1, o2, o3, some (xw x4)] [s0] (T, z, xv V, J, R) else XR sc d 142 24 [o0, o1, o2, o3, some (xw x4)] [s0] (T, z, xv V, J, R) :=
  (sw_iload f_142_15 rfl).trans (sw_if_ne (t := 24) f_142_17 ⟨by decide, rfl⟩ g1)
theorem bX7_missesSaddle_20 {o0 o1 o2 o3 o4 : Option Value} {s0 : Value} : XR sc d 142 20 [o0, o1, o2, o3, o4] [s0] (T, z, xv V, J, R) = XR sc d 142 33 [o0, o1, o2, o3, o4] [xw 1, s0] (T, z, xv V, J, R) :=
  (sw_iconst f_142_20).trans (st_goto (t := 33) f_142_21 ⟨by decide, rfl⟩)
theorem bX7_missesSaddle_24 {o0 o1 o2 o4 : Option Value} {s0 : Value} {x3 : Int} (g1 : -2147483648 ≤ x3 ∧ x3 ≤ 2147483647) : XR sc d 142 24 [o0, o1, o2, some (xw x3), o4] [s0] (T, z, xv V, J, R) = if x3 = 0 then XR sc d 142 32 [o0, o1, o2, some (xw x3), o4] [s0] (T, z, xv V, J, R) else XR sc d 142 28 [o0, o1, o2, some (xw x3), o4] [s0] (T, z, xv V, J, R) :=
  (sw_iload_n f_142_24 rfl).trans (sw_if_eq (t := 32) f_142_25 ⟨by decide, rfl⟩ g1)
theorem bX7_missesSaddle_28 {o0 o1 o2 o3 o4 : Option Value} {s0 : Value} : XR sc d 142 28 [o0, o1, o2, o3, o4] [s0] (T, z, xv V, J, R) = XR sc d 142 33 [o0, o1, o2, o3, o4] [xw 0, s0] (T, z, xv V, J, R) :=
  (sw_iconst f_142_28).trans (st_goto (t := 33) f_142_29 ⟨by decide, rfl⟩)
theorem bX7_missesSaddle_32 {o0 o1 o2 o3 o4 : Option Value} {s0 : Value} : XR sc d 142 32 [o0, o1, o2, o3, o4] [s0] (T, z, xv V, J, R) = XR sc d 142 33 [o0, o1, o2, o3, o4] [xw 2, s0] (T, z, xv V, J, R) :=
  sw_iconst f_142_32
theorem bX7_missesSaddle_33 {o0 o1 o2 o3 o4 : Option Value} {y0 : Int} {b1 : Nat} (g1 : T b1 = (8, 0)) : XR sc d 142 33 [o0, o1, o2, o3, o4] [xw y0, .ref b1] (T, z, xv V, J, R) = xret 142 (XR sc d 142) 33 36 [o0, o1, o2, o3, o4] [] (X sc d 93 [.ref b1, xw y0] (T, z, xv V, J, R)) :=
  st_callV' f_142_33 h_142_98 mn_93 rfl rfl rfl rfl mo_93 g1 rfl
theorem bX7_missesSaddle_36 {o0 o1 o2 o3 o4 : Option Value} {y0 : Int} (g1 : y0 = 0 ∨ y0 = 1) : XR sc d 142 36 [o0, o1, o2, o3, o4] [xw y0] (T, z, xv V, J, R) = some (.inl (some (xw y0)), (T, z, xv V, J, R)) :=
  sw_zreturn f_142_36 mr_142 g1
theorem eX7_isWeight {x0 : Int} : X sc (d + 1) 143 [xw x0] (T, z, xv V, J, R) = XR sc d 143 0 [some (xw x0)] [] (T, z, xv V, J, R) :=
  (X_eq ⟨jl_143, by rw [mn_143]; rfl, rfl, by rw [lm_143]; exact Nat.le_of_ble_eq_true rfl⟩).trans (by unfold xent; rw [lm_143]; rfl)
theorem bX7_isWeight_0 {x0 : Int} : XR sc d 143 0 [some (xw x0)] [] (T, z, xv V, J, R) = xret 143 (XR sc d 143) 5 8 [some (xw x0)] [] (X sc d 94 [xw x0, xw 1, xw 3000] (T, z, xv V, J, R)) :=
  (sw_iload_n f_143_0 rfl).trans ((sw_iconst f_143_1).trans ((sw_sipush f_143_2 c16_3000).trans (st_callS' f_143_5 h_143_91 mn_94 rfl rfl rfl rfl)))
theorem bX7_isWeight_8 {o0 : Option Value} {y0 : Int} (g1 : y0 = 0 ∨ y0 = 1) : XR sc d 143 8 [o0] [xw y0] (T, z, xv V, J, R) = some (.inl (some (xw y0)), (T, z, xv V, J, R)) :=
  sw_zreturn f_143_8 mr_143 g1
theorem eX7_sinks {x1 x2 x3 : Int} {a0 : Nat} : X sc (d + 1) 144 [.ref a0, xw x1, xw x2, xw x3] (T, z, xv V, J, R) = XR sc d 144 0 [some (.ref a0), some (xw x1), some (xw x2), some (xw x3)] [] (T, z, xv V, J, R) :=
  (X_eq ⟨jl_144, by rw [mn_144]; rfl, rfl, by rw [lm_144]; exact Nat.le_of_ble_eq_true rfl⟩).trans (by unfold xent; rw [lm_144]; rfl)
theorem bX7_sinks_0 {x1 x2 x3 : Int} {a0 : Nat} : XR sc d 144 0 [some (.ref a0), some (xw x1), some (xw x2), some (xw x3)] [] (T, z, xv V, J, R) = xret 144 (XR sc d 144) 4 7 [some (.ref a0), some (xw x1), some (xw x2), some (xw x3)] [xw x2, xw x1, .ref a0] (X sc d 143 [xw x3] (T, z, xv V, J, R)) :=
  (st_aload_n f_144_0 rfl).trans ((sw_iload_n f_144_1 rfl).trans ((sw_iload_n f_144_2 rfl).trans ((sw_iload_n f_144_3 rfl).trans (st_callS' f_144_4 h_144_198 mn_143 rfl rfl rfl rfl))))
theorem bX7_sinks_7 {o0 o1 o2 o3 : Option Value} {y0 y1 y2 : Int} {b3 : Nat} (g1 : T b3 = (8, 0)) : XR sc d 144 7 [o0, o1, o2, o3] [xw y0, xw y1, xw y2, .ref b3] (T, z, xv V, J, R) = xret 144 (XR sc d 144) 8 11 [o0, o1, o2, o3] [] (X sc d 142 [.ref b3, xw y2, xw y1, xw y0, xw 1] (T, z, xv V, J, R)) :=
  (sw_iconst f_144_7).trans (st_callV' f_144_8 h_144_201 mn_142 rfl rfl rfl rfl mo_142 g1 rfl)
theorem bX7_sinks_11 {o0 o1 o2 o3 : Option Value} {y0 : Int} (g1 : -2147483648 ≤ y0 ∧ y0 ≤ 2147483647) : XR sc d 144 11 [o0, o1, o2, o3] [xw y0] (T, z, xv V, J, R) = if y0 = 0 then XR sc d 144 18 [o0, o1, o2, o3] [] (T, z, xv V, J, R) else XR sc d 144 14 [o0, o1, o2, o3] [] (T, z, xv V, J, R) :=
  sw_if_eq (t := 18) f_144_11 ⟨by decide, rfl⟩ g1
theorem bX7_sinks_14 {o0 o1 o2 o3 : Option Value} : XR sc d 144 14 [o0, o1, o2, o3] [] (T, z, xv V, J, R) = XR sc d 144 25 [o0, o1, o2, o3] [xw 0] (T, z, xv V, J, R) :=
  (sw_iconst f_144_14).trans (st_goto (t := 25) f_144_15 ⟨by decide, rfl⟩)
theorem bX7_sinks_18 {x1 x2 x3 : Int} {a0 : Nat} (g1 : T a0 = (8, 0)) : XR sc d 144 18 [some (.ref a0), some (xw x1), some (xw x2), some (xw x3)] [] (T, z, xv V, J, R) = xret 144 (XR sc d 144) 22 25 [some (.ref a0), some (xw x1), some (xw x2), some (xw x3)] [] (X sc d 141 [.ref a0, xw x1, xw x2, xw x3] (T, z, xv V, J, R)) :=
  (st_aload_n f_144_18 rfl).trans ((sw_iload_n f_144_19 rfl).trans ((sw_iload_n f_144_20 rfl).trans ((sw_iload_n f_144_21 rfl).trans (st_callV' f_144_22 h_144_205 mn_141 rfl rfl rfl rfl mo_141 g1 rfl))))
theorem bX7_sinks_25 {o0 o1 o2 o3 : Option Value} {y0 : Int} : XR sc d 144 25 [o0, o1, o2, o3] [xw y0] (T, z, xv V, J, R) = some (.inl (some (xw y0)), (T, z, xv V, J, R)) :=
  sw_ireturn f_144_25 mr_144
theorem eX7_sinksAnew {x1 x2 x3 : Int} {a0 : Nat} : X sc (d + 1) 145 [.ref a0, xw x1, xw x2, xw x3] (T, z, xv V, J, R) = XR sc d 145 0 [some (.ref a0), some (xw x1), some (xw x2), some (xw x3)] [] (T, z, xv V, J, R) :=
  (X_eq ⟨jl_145, by rw [mn_145]; rfl, rfl, by rw [lm_145]; exact Nat.le_of_ble_eq_true rfl⟩).trans (by unfold xent; rw [lm_145]; rfl)
theorem bX7_sinksAnew_0 {x1 x2 x3 : Int} {a0 : Nat} (g1 : T a0 = (8, 0)) : XR sc d 145 0 [some (.ref a0), some (xw x1), some (xw x2), some (xw x3)] [] (T, z, xv V, J, R) = xret 145 (XR sc d 145) 4 7 [some (.ref a0), some (xw x1), some (xw x2), some (xw x3)] [] (X sc d 144 [.ref a0, xw x1, xw x2, xw x3] (T, z, xv V, J, R)) :=
  (st_aload_n f_145_0 rfl).trans ((sw_iload_n f_145_1 rfl).trans ((sw_iload_n f_145_2 rfl).trans ((sw_iload_n f_145_3 rfl).trans (st_callV' f_145_4 h_145_208 mn_144 rfl rfl rfl rfl mo_144 g1 rfl))))
theorem bX7_sinksAnew_7 {o0 o1 o2 o3 : Option Value} {y0 : Int} : XR sc d 145 7 [o0, o1, o2, o3] [xw y0] (T, z, xv V, J, R) = some (.inl (some (xw y0)), (T, z, xv V, J, R)) :=
  sw_ireturn f_145_7 mr_145
theorem eX7_pressure {x1 x2 x3 x4 : Int} {a0 : Nat} : X sc (d + 1) 146 [.ref a0, xw x1, xw x2, xw x3, xw x4] (T, z, xv V, J, R) = XR sc d 146 0 [some (.ref a0), some (xw x1), some (xw x2), some (xw x3), some (xw x4)] [] (T, z, xv V, J, R) :=
  (X_eq ⟨jl_146, by rw [mn_146]; rfl, rfl, by rw [lm_146]; exact Nat.le_of_ble_eq_true rfl⟩).trans (by unfold xent; rw [lm_146]; rfl)
theorem bX7_pressure_0 {o4 : Option Value} {x1 x2 x3 : Int} {a0 : Nat} : XR sc d 146 0 [some (.ref a0), some (xw x1), some (xw x2), some (xw x3), o4] [] (T, z, xv V, J, R) = xret 146 (XR sc d 146) 4 7 [some (.ref a0), some (xw x1), some (xw x2), some (xw x3), o4] [xw x2, xw x1, .ref a0] (X sc d 143 [xw x3] (T, z, xv V, J, R)) :=
  (st_aload_n f_146_0 rfl).trans ((sw_iload_n f_146_1 rfl).trans ((sw_iload_n f_146_2 rfl).trans ((sw_iload_n f_146_3 rfl).trans (st_callS' f_146_4 h_146_198 mn_143 rfl rfl rfl rfl))))
theorem bX7_pressure_7 {o0 o1 o2 o3 : Option Value} {s0 s1 s2 s3 : Value} {x4 : Int} : XR sc d 146 7 [o0, o1, o2, o3, some (xw x4)] [s0, s1, s2, s3] (T, z, xv V, J, R) = xret 146 (XR sc d 146) 9 12 [o0, o1, o2, o3, some (xw x4)] [s0, s1, s2, s3] (X sc d 134 [xw x4] (T, z, xv V, J, R)) :=
  (sw_iload f_146_7 rfl).trans (st_callS' f_146_9 h_146_181 mn_134 rfl rfl rfl rfl)
theorem bX7_pressure_12 {o0 o1 o2 o3 o4 : Option Value} {y0 y1 y2 y3 : Int} {b4 : Nat} (g1 : T b4 = (8, 0)) : XR sc d 146 12 [o0, o1, o2, o3, o4] [xw y0, xw y1, xw y2, xw y3, .ref b4] (T, z, xv V, J, R) = xret 146 (XR sc d 146) 12 15 [o0, o1, o2, o3, o4] [] (X sc d 142 [.ref b4, xw y3, xw y2, xw y1, xw y0] (T, z, xv V, J, R)) :=
  st_callV' f_146_12 h_146_201 mn_142 rfl rfl rfl rfl mo_142 g1 rfl
theorem bX7_pressure_15 {o0 o1 o2 o3 o4 : Option Value} {y0 : Int} (g1 : -2147483648 ≤ y0 ∧ y0 ≤ 2147483647) : XR sc d 146 15 [o0, o1, o2, o3, o4] [xw y0] (T, z, xv V, J, R) = if y0 = 0 then XR sc d 146 22 [o0, o1, o2, o3, o4] [] (T, z, xv V, J, R) else XR sc d 146 18 [o0, o1, o2, o3, o4] [] (T, z, xv V, J, R) :=
  sw_if_eq (t := 22) f_146_15 ⟨by decide, rfl⟩ g1
theorem bX7_pressure_18 {o0 o1 o2 o3 o4 : Option Value} : XR sc d 146 18 [o0, o1, o2, o3, o4] [] (T, z, xv V, J, R) = XR sc d 146 37 [o0, o1, o2, o3, o4] [xw 0] (T, z, xv V, J, R) :=
  (sw_iconst f_146_18).trans (st_goto (t := 37) f_146_19 ⟨by decide, rfl⟩)
theorem bX7_pressure_22 {o4 : Option Value} {x1 x2 x3 : Int} {a0 : Nat} (g1 : T a0 = (8, 0)) : XR sc d 146 22 [some (.ref a0), some (xw x1), some (xw x2), some (xw x3), o4] [] (T, z, xv V, J, R) = xret 146 (XR sc d 146) 29 32 [some (.ref a0), some (xw x1), some (xw x2), some (xw x3), o4] [xw x2, xw x1, .ref a0] (X sc d 141 [.ref a0, xw x1, xw x2, xw x3] (T, z, xv V, J, R)) :=
  (st_aload_n f_146_22 rfl).trans ((sw_iload_n f_146_23 rfl).trans ((sw_iload_n f_146_24 rfl).trans ((st_aload_n f_146_25 rfl).trans ((sw_iload_n f_146_26 rfl).trans ((sw_iload_n f_146_27 rfl).trans ((sw_iload_n f_146_28 rfl).trans (st_callV' f_146_29 h_146_205 mn_141 rfl rfl rfl rfl mo_141 g1 rfl)))))))
theorem bX7_pressure_32 {o0 o1 o2 o3 : Option Value} {x4 y0 y1 y2 : Int} {b3 : Nat} (g1 : T b3 = (8, 0)) : XR sc d 146 32 [o0, o1, o2, o3, some (xw x4)] [xw y0, xw y1, xw y2, .ref b3] (T, z, xv V, J, R) = xret 146 (XR sc d 146) 34 37 [o0, o1, o2, o3, some (xw x4)] [] (X sc d 140 [.ref b3, xw y2, xw y1, xw y0, xw x4] (T, z, xv V, J, R)) :=
  (sw_iload f_146_32 rfl).trans (st_callV' f_146_34 h_146_194 mn_140 rfl rfl rfl rfl mo_140 g1 rfl)
theorem bX7_pressure_37 {o0 o1 o2 o3 o4 : Option Value} {y0 : Int} : XR sc d 146 37 [o0, o1, o2, o3, o4] [xw y0] (T, z, xv V, J, R) = some (.inl (some (xw y0)), (T, z, xv V, J, R)) :=
  sw_ireturn f_146_37 mr_146
theorem eX7_bridges {x1 x2 x3 : Int} {a0 : Nat} : X sc (d + 1) 147 [.ref a0, xw x1, xw x2, xw x3] (T, z, xv V, J, R) = XR sc d 147 0 [some (.ref a0), some (xw x1), some (xw x2), some (xw x3), none, none, none, none, none] [] (T, z, xv V, J, R) :=
  (X_eq ⟨jl_147, by rw [mn_147]; rfl, rfl, by rw [lm_147]; exact Nat.le_of_ble_eq_true rfl⟩).trans (by unfold xent; rw [lm_147]; rfl)
theorem bX7_bridges_0 {o4 o5 o6 o7 o8 : Option Value} {x1 x2 x3 : Int} {a0 : Nat} : XR sc d 147 0 [some (.ref a0), some (xw x1), some (xw x2), some (xw x3), o4, o5, o6, o7, o8] [] (T, z, xv V, J, R) = xret 147 (XR sc d 147) 4 7 [some (.ref a0), some (xw x1), some (xw x2), some (xw x3), o4, o5, o6, o7, o8] [xw x2, xw x1, .ref a0] (X sc d 143 [xw x3] (T, z, xv V, J, R)) :=
  (st_aload_n f_147_0 rfl).trans ((sw_iload_n f_147_1 rfl).trans ((sw_iload_n f_147_2 rfl).trans ((sw_iload_n f_147_3 rfl).trans (st_callS' f_147_4 h_147_198 mn_143 rfl rfl rfl rfl))))
theorem bX7_bridges_7 {o0 o1 o2 o3 o4 o5 o6 o7 o8 : Option Value} {y0 y1 y2 : Int} {b3 : Nat} (g1 : T b3 = (8, 0)) : XR sc d 147 7 [o0, o1, o2, o3, o4, o5, o6, o7, o8] [xw y0, xw y1, xw y2, .ref b3] (T, z, xv V, J, R) = xret 147 (XR sc d 147) 8 11 [o0, o1, o2, o3, o4, o5, o6, o7, o8] [] (X sc d 142 [.ref b3, xw y2, xw y1, xw y0, xw 1] (T, z, xv V, J, R)) :=
  (sw_iconst f_147_7).trans (st_callV' f_147_8 h_147_201 mn_142 rfl rfl rfl rfl mo_142 g1 rfl)
theorem bX7_bridges_11 {o0 o1 o2 o3 o4 o5 o6 o7 o8 : Option Value} {y0 : Int} (g1 : -2147483648 ≤ y0 ∧ y0 ≤ 2147483647) : XR sc d 147 11 [o0, o1, o2, o3, o4, o5, o6, o7, o8] [xw y0] (T, z, xv V, J, R) = if y0 = 0 then XR sc d 147 16 [o0, o1, o2, o3, o4, o5, o6, o7, o8] [] (T, z, xv V, J, R) else XR sc d 147 14 [o0, o1, o2, o3, o4, o5, o6, o7, o8] [] (T, z, xv V, J, R) :=
  sw_if_eq (t := 16) f_147_11 ⟨by decide, rfl⟩ g1
theorem bX7_bridges_14 {o0 o1 o2 o3 o4 o5 o6 o7 o8 : Option Value} : XR sc d 147 14 [o0, o1, o2, o3, o4, o5, o6, o7, o8] [] (T, z, xv V, J, R) = some (.inl (some (xw 0)), (T, z, xv V, J, R)) :=
  (sw_iconst f_147_14).trans (sw_ireturn f_147_15 mr_147)
theorem bX7_bridges_16 {o4 o5 o6 o7 o8 : Option Value} {x1 x2 x3 : Int} {a0 : Nat} (g1 : T a0 = (8, 0)) : XR sc d 147 16 [some (.ref a0), some (xw x1), some (xw x2), some (xw x3), o4, o5, o6, o7, o8] [] (T, z, xv V, J, R) = xret 147 (XR sc d 147) 20 23 [some (.ref a0), some (xw x1), some (xw x2), some (xw x3), o4, o5, o6, o7, o8] [] (X sc d 141 [.ref a0, xw x1, xw x2, xw x3] (T, z, xv V, J, R)) :=
  (st_aload_n f_147_16 rfl).trans ((sw_iload_n f_147_17 rfl).trans ((sw_iload_n f_147_18 rfl).trans ((sw_iload_n f_147_19 rfl).trans (st_callV' f_147_20 h_147_205 mn_141 rfl rfl rfl rfl mo_141 g1 rfl))))
theorem bX7_bridges_23 {o0 o1 o2 o3 o4 o5 o6 o7 o8 : Option Value} {y0 : Int} : XR sc d 147 23 [o0, o1, o2, o3, o4, o5, o6, o7, o8] [xw y0] (T, z, xv V, J, R) = XR sc d 147 31 [o0, o1, o2, o3, some (xw y0), some (xw 0), some (xw 0), o7, o8] [] (T, z, xv V, J, R) :=
  (sw_istore (L' := [o0, o1, o2, o3, some (xw y0), o5, o6, o7, o8]) f_147_23 (Nat.le_of_ble_eq_true rfl) rfl).trans ((sw_iconst f_147_25).trans ((sw_istore (L' := [o0, o1, o2, o3, some (xw y0), some (xw 0), o6, o7, o8]) f_147_26 (Nat.le_of_ble_eq_true rfl) rfl).trans ((sw_iconst f_147_28).trans (sw_istore (L' := [o0, o1, o2, o3, some (xw y0), some (xw 0), some (xw 0), o7, o8]) f_147_29 (Nat.le_of_ble_eq_true rfl) rfl))))
theorem bX7_bridges_31 {o0 o1 o2 o3 o4 o5 o7 o8 : Option Value} {x6 : Int} (g1 : -2147483648 ≤ x6 ∧ x6 ≤ 2147483647) : XR sc d 147 31 [o0, o1, o2, o3, o4, o5, some (xw x6), o7, o8] [] (T, z, xv V, J, R) = if 7 ≤ x6 then XR sc d 147 70 [o0, o1, o2, o3, o4, o5, some (xw x6), o7, o8] [] (T, z, xv V, J, R) else XR sc d 147 38 [o0, o1, o2, o3, o4, o5, some (xw x6), o7, o8] [] (T, z, xv V, J, R) :=
  (sw_iload f_147_31 rfl).trans ((sw_bipush f_147_33 c8_7).trans (sw_icmp_ge (t := 70) f_147_35 ⟨by decide, rfl⟩ g1 ⟨by decide, by decide⟩))
theorem bX7_bridges_38 {o3 o7 o8 : Option Value} {x5 x1 x2 x4 x6 : Int} {a0 : Nat} (g1 : T a0 = (8, 0)) : XR sc d 147 38 [some (.ref a0), some (xw x1), some (xw x2), o3, some (xw x4), some (xw x5), some (xw x6), o7, o8] [] (T, z, xv V, J, R) = xret 147 (XR sc d 147) 47 50 [some (.ref a0), some (xw x1), some (xw x2), o3, some (xw x4), some (xw x5), some (xw x6), o7, o8] [xw x5] (X sc d 140 [.ref a0, xw x1, xw x2, xw x4, xw x6] (T, z, xv V, J, R)) :=
  (sw_iload f_147_38 rfl).trans ((st_aload_n f_147_40 rfl).trans ((sw_iload_n f_147_41 rfl).trans ((sw_iload_n f_147_42 rfl).trans ((sw_iload f_147_43 rfl).trans ((sw_iload f_147_45 rfl).trans (st_callV' f_147_47 h_147_194 mn_140 rfl rfl rfl rfl mo_140 g1 rfl))))))
theorem bX7_bridges_50 {o0 o1 o2 o3 o4 o5 o6 o7 o8 : Option Value} {s1 : Value} {y0 : Int} (g1 : -2147483648 ≤ y0 ∧ y0 ≤ 2147483647) : XR sc d 147 50 [o0, o1, o2, o3, o4, o5, o6, o7, o8] [xw y0, s1] (T, z, xv V, J, R) = if y0 ≤ 0 then XR sc d 147 60 [o0, o1, o2, o3, o4, o5, o6, o7, o8] [s1] (T, z, xv V, J, R) else XR sc d 147 53 [o0, o1, o2, o3, o4, o5, o6, o7, o8] [s1] (T, z, xv V, J, R) :=
  sw_if_le (t := 60) f_147_50 ⟨by decide, rfl⟩ g1
theorem bX7_bridges_53 {o0 o1 o2 o3 o4 o5 o7 o8 : Option Value} {s0 : Value} {x6 : Int} : XR sc d 147 53 [o0, o1, o2, o3, o4, o5, some (xw x6), o7, o8] [s0] (T, z, xv V, J, R) = XR sc d 147 61 [o0, o1, o2, o3, o4, o5, some (xw x6), o7, o8] [xw (iShl 1 x6), s0] (T, z, xv V, J, R) :=
  (sw_iconst f_147_53).trans ((sw_iload f_147_54 rfl).trans ((sw_ishl f_147_56).trans (st_goto (t := 61) f_147_57 ⟨by decide, rfl⟩)))
theorem bX7_bridges_60 {o0 o1 o2 o3 o4 o5 o6 o7 o8 : Option Value} {s0 : Value} : XR sc d 147 60 [o0, o1, o2, o3, o4, o5, o6, o7, o8] [s0] (T, z, xv V, J, R) = XR sc d 147 61 [o0, o1, o2, o3, o4, o5, o6, o7, o8] [xw 0, s0] (T, z, xv V, J, R) :=
  sw_iconst f_147_60
theorem bX7_bridges_61 {o0 o1 o2 o3 o4 o5 o7 o8 : Option Value} {y0 y1 x6 : Int} : XR sc d 147 61 [o0, o1, o2, o3, o4, o5, some (xw x6), o7, o8] [xw y0, xw y1] (T, z, xv V, J, R) = XR sc d 147 31 [o0, o1, o2, o3, o4, some (xw (iOr y1 y0)), some (xw (x6 + 1)), o7, o8] [] (T, z, xv V, J, R) :=
  (sw_ior f_147_61).trans ((sw_istore (L' := [o0, o1, o2, o3, o4, some (xw (iOr y1 y0)), some (xw x6), o7, o8]) f_147_62 (Nat.le_of_ble_eq_true rfl) rfl).trans ((sw_iinc (L' := [o0, o1, o2, o3, o4, some (xw (iOr y1 y0)), some (xw (x6 + 1)), o7, o8]) f_147_64 rfl (Nat.le_of_ble_eq_true rfl) rfl).trans (st_goto (t := 31) f_147_67 ⟨by decide, rfl⟩)))
theorem bX7_bridges_70 {o0 o1 o2 o3 o4 o5 o6 o7 o8 : Option Value} : XR sc d 147 70 [o0, o1, o2, o3, o4, o5, o6, o7, o8] [] (T, z, xv V, J, R) = XR sc d 147 76 [o0, o1, o2, o3, o4, o5, some (xw 0), some (xw 0), o8] [] (T, z, xv V, J, R) :=
  (sw_iconst f_147_70).trans ((sw_istore (L' := [o0, o1, o2, o3, o4, o5, some (xw 0), o7, o8]) f_147_71 (Nat.le_of_ble_eq_true rfl) rfl).trans ((sw_iconst f_147_73).trans (sw_istore (L' := [o0, o1, o2, o3, o4, o5, some (xw 0), some (xw 0), o8]) f_147_74 (Nat.le_of_ble_eq_true rfl) rfl)))
theorem bX7_bridges_76 {o0 o1 o2 o3 o4 o5 o6 o8 : Option Value} {x7 : Int} (g1 : -2147483648 ≤ x7 ∧ x7 ≤ 2147483647) : XR sc d 147 76 [o0, o1, o2, o3, o4, o5, o6, some (xw x7), o8] [] (T, z, xv V, J, R) = if 7 ≤ x7 then XR sc d 147 144 [o0, o1, o2, o3, o4, o5, o6, some (xw x7), o8] [] (T, z, xv V, J, R) else XR sc d 147 83 [o0, o1, o2, o3, o4, o5, o6, some (xw x7), o8] [] (T, z, xv V, J, R) :=
  (sw_iload f_147_76 rfl).trans ((sw_bipush f_147_78 c8_7).trans (sw_icmp_ge (t := 144) f_147_80 ⟨by decide, rfl⟩ g1 ⟨by decide, by decide⟩))
theorem bX7_bridges_83 {o0 o1 o2 o3 o4 o6 o8 : Option Value} {x5 x7 : Int} (g1 : -2147483648 ≤ (iAnd (iShr x5 x7) 1) ∧ (iAnd (iShr x5 x7) 1) ≤ 2147483647) : XR sc d 147 83 [o0, o1, o2, o3, o4, some (xw x5), o6, some (xw x7), o8] [] (T, z, xv V, J, R) = if (iAnd (iShr x5 x7) 1) = 0 then XR sc d 147 93 [o0, o1, o2, o3, o4, some (xw x5), o6, some (xw x7), o8] [] (T, z, xv V, J, R) else XR sc d 147 117 [o0, o1, o2, o3, o4, some (xw x5), o6, some (xw x7), o8] [] (T, z, xv V, J, R) :=
  (sw_iload f_147_83 rfl).trans ((sw_iload f_147_85 rfl).trans ((sw_ishr f_147_87).trans ((sw_iconst f_147_88).trans ((sw_iand f_147_89).trans (sw_if_ne (t := 117) f_147_90 ⟨by decide, rfl⟩ g1)))))
theorem bX7_bridges_93 {o0 o1 o2 o3 o4 o6 o8 : Option Value} {x5 x7 : Int} (g1 : -2147483648 ≤ (iAnd x5 ((iShl 1 x7) - 1)) ∧ (iAnd x5 ((iShl 1 x7) - 1)) ≤ 2147483647) : XR sc d 147 93 [o0, o1, o2, o3, o4, some (xw x5), o6, some (xw x7), o8] [] (T, z, xv V, J, R) = if (iAnd x5 ((iShl 1 x7) - 1)) = 0 then XR sc d 147 117 [o0, o1, o2, o3, o4, some (xw x5), o6, some (xw x7), o8] [] (T, z, xv V, J, R) else XR sc d 147 105 [o0, o1, o2, o3, o4, some (xw x5), o6, some (xw x7), o8] [] (T, z, xv V, J, R) :=
  (sw_iload f_147_93 rfl).trans ((sw_iconst f_147_95).trans ((sw_iload f_147_96 rfl).trans ((sw_ishl f_147_98).trans ((sw_iconst f_147_99).trans ((sw_isub f_147_100).trans ((sw_iand f_147_101).trans (sw_if_eq (t := 117) f_147_102 ⟨by decide, rfl⟩ g1)))))))
theorem bX7_bridges_105 {o0 o1 o2 o3 o4 o6 o8 : Option Value} {x5 x7 : Int} (g1 : -2147483648 ≤ (iShr x5 x7) ∧ (iShr x5 x7) ≤ 2147483647) : XR sc d 147 105 [o0, o1, o2, o3, o4, some (xw x5), o6, some (xw x7), o8] [] (T, z, xv V, J, R) = if (iShr x5 x7) = 0 then XR sc d 147 117 [o0, o1, o2, o3, o4, some (xw x5), o6, some (xw x7), o8] [] (T, z, xv V, J, R) else XR sc d 147 113 [o0, o1, o2, o3, o4, some (xw x5), o6, some (xw x7), o8] [] (T, z, xv V, J, R) :=
  (sw_iload f_147_105 rfl).trans ((sw_iload f_147_107 rfl).trans ((sw_ishr f_147_109).trans (sw_if_eq (t := 117) f_147_110 ⟨by decide, rfl⟩ g1)))
theorem bX7_bridges_113 {o0 o1 o2 o3 o4 o5 o6 o7 o8 : Option Value} : XR sc d 147 113 [o0, o1, o2, o3, o4, o5, o6, o7, o8] [] (T, z, xv V, J, R) = XR sc d 147 118 [o0, o1, o2, o3, o4, o5, o6, o7, o8] [xw 1] (T, z, xv V, J, R) :=
  (sw_iconst f_147_113).trans (st_goto (t := 118) f_147_114 ⟨by decide, rfl⟩)
theorem bX7_bridges_117 {o0 o1 o2 o3 o4 o5 o6 o7 o8 : Option Value} : XR sc d 147 117 [o0, o1, o2, o3, o4, o5, o6, o7, o8] [] (T, z, xv V, J, R) = XR sc d 147 118 [o0, o1, o2, o3, o4, o5, o6, o7, o8] [xw 0] (T, z, xv V, J, R) :=
  sw_iconst f_147_117
theorem bX7_bridges_118 {o0 o1 o2 o3 o4 o5 o7 o8 : Option Value} {y0 x6 : Int} (g1 : -2147483648 ≤ y0 ∧ y0 ≤ 2147483647) : XR sc d 147 118 [o0, o1, o2, o3, o4, o5, some (xw x6), o7, o8] [xw y0] (T, z, xv V, J, R) = if y0 = 0 then XR sc d 147 134 [o0, o1, o2, o3, o4, o5, some (xw x6), o7, some (xw y0)] [xw x6] (T, z, xv V, J, R) else XR sc d 147 127 [o0, o1, o2, o3, o4, o5, some (xw x6), o7, some (xw y0)] [xw x6] (T, z, xv V, J, R) :=
  (sw_istore (L' := [o0, o1, o2, o3, o4, o5, some (xw x6), o7, some (xw y0)]) f_147_118 (Nat.le_of_ble_eq_true rfl) rfl).trans ((sw_iload f_147_120 rfl).trans ((sw_iload f_147_122 rfl).trans (sw_if_eq (t := 134) f_147_124 ⟨by decide, rfl⟩ g1)))
theorem bX7_bridges_127 {o0 o1 o2 o3 o4 o5 o6 o8 : Option Value} {s0 : Value} {x7 : Int} : XR sc d 147 127 [o0, o1, o2, o3, o4, o5, o6, some (xw x7), o8] [s0] (T, z, xv V, J, R) = XR sc d 147 135 [o0, o1, o2, o3, o4, o5, o6, some (xw x7), o8] [xw (iShl 1 x7), s0] (T, z, xv V, J, R) :=
  (sw_iconst f_147_127).trans ((sw_iload f_147_128 rfl).trans ((sw_ishl f_147_130).trans (st_goto (t := 135) f_147_131 ⟨by decide, rfl⟩)))
theorem bX7_bridges_134 {o0 o1 o2 o3 o4 o5 o6 o7 o8 : Option Value} {s0 : Value} : XR sc d 147 134 [o0, o1, o2, o3, o4, o5, o6, o7, o8] [s0] (T, z, xv V, J, R) = XR sc d 147 135 [o0, o1, o2, o3, o4, o5, o6, o7, o8] [xw 0, s0] (T, z, xv V, J, R) :=
  sw_iconst f_147_134
theorem bX7_bridges_135 {o0 o1 o2 o3 o4 o5 o6 o8 : Option Value} {y0 y1 x7 : Int} : XR sc d 147 135 [o0, o1, o2, o3, o4, o5, o6, some (xw x7), o8] [xw y0, xw y1] (T, z, xv V, J, R) = XR sc d 147 76 [o0, o1, o2, o3, o4, o5, some (xw (iOr y1 y0)), some (xw (x7 + 1)), o8] [] (T, z, xv V, J, R) :=
  (sw_ior f_147_135).trans ((sw_istore (L' := [o0, o1, o2, o3, o4, o5, some (xw (iOr y1 y0)), some (xw x7), o8]) f_147_136 (Nat.le_of_ble_eq_true rfl) rfl).trans ((sw_iinc (L' := [o0, o1, o2, o3, o4, o5, some (xw (iOr y1 y0)), some (xw (x7 + 1)), o8]) f_147_138 rfl (Nat.le_of_ble_eq_true rfl) rfl).trans (st_goto (t := 76) f_147_141 ⟨by decide, rfl⟩)))
theorem bX7_bridges_144 {o0 o1 o2 o3 o4 o5 o7 o8 : Option Value} {x6 : Int} : XR sc d 147 144 [o0, o1, o2, o3, o4, o5, some (xw x6), o7, o8] [] (T, z, xv V, J, R) = some (.inl (some (xw x6)), (T, z, xv V, J, R)) :=
  (sw_iload f_147_144 rfl).trans (sw_ireturn f_147_146 mr_147)
theorem eX7_isLame {x1 : Int} {a0 : Nat} : X sc (d + 1) 148 [.ref a0, xw x1] (T, z, xv V, J, R) = XR sc d 148 0 [some (.ref a0), some (xw x1), none, none] [] (T, z, xv V, J, R) :=
  (X_eq ⟨jl_148, by rw [mn_148]; rfl, rfl, by rw [lm_148]; exact Nat.le_of_ble_eq_true rfl⟩).trans (by unfold xent; rw [lm_148]; rfl)
theorem bX7_isLame_0 {o0 o1 o2 o3 : Option Value} : XR sc d 148 0 [o0, o1, o2, o3] [] (T, z, xv V, J, R) = XR sc d 148 4 [o0, o1, some (xw 0), some (xw 0)] [] (T, z, xv V, J, R) :=
  (sw_iconst f_148_0).trans ((sw_istore_n (L' := [o0, o1, some (xw 0), o3]) f_148_1 (Nat.le_of_ble_eq_true rfl) rfl).trans ((sw_iconst f_148_2).trans (sw_istore_n (L' := [o0, o1, some (xw 0), some (xw 0)]) f_148_3 (Nat.le_of_ble_eq_true rfl) rfl)))
theorem bX7_isLame_4 {o0 o1 o2 : Option Value} {x3 : Int} (g1 : -2147483648 ≤ x3 ∧ x3 ≤ 2147483647) : XR sc d 148 4 [o0, o1, o2, some (xw x3)] [] (T, z, xv V, J, R) = if 7 ≤ x3 then XR sc d 148 42 [o0, o1, o2, some (xw x3)] [] (T, z, xv V, J, R) else XR sc d 148 10 [o0, o1, o2, some (xw x3)] [] (T, z, xv V, J, R) :=
  (sw_iload_n f_148_4 rfl).trans ((sw_bipush f_148_5 c8_7).trans (sw_icmp_ge (t := 42) f_148_7 ⟨by decide, rfl⟩ g1 ⟨by decide, by decide⟩))
theorem bX7_isLame_10 {o0 o1 o3 : Option Value} {x2 : Int} (g1 : -2147483648 ≤ x2 ∧ x2 ≤ 2147483647) : XR sc d 148 10 [o0, o1, some (xw x2), o3] [] (T, z, xv V, J, R) = if x2 = 0 then XR sc d 148 14 [o0, o1, some (xw x2), o3] [] (T, z, xv V, J, R) else XR sc d 148 30 [o0, o1, some (xw x2), o3] [] (T, z, xv V, J, R) :=
  (sw_iload_n f_148_10 rfl).trans (sw_if_ne (t := 30) f_148_11 ⟨by decide, rfl⟩ g1)
theorem bX7_isLame_14 {o2 : Option Value} {x1 x3 : Int} {a0 : Nat} (g1 : T a0 = (8, 0)) (g2 : R a0 23 = some ((R a0 23).getD 0)) (g3 : T ((R a0 23).getD 0) = (32, (T ((R a0 23).getD 0)).2)) (g4 : (0 : Int) ≤ ((7 * x1) + x3) ∧ ((7 * x1) + x3) < ((T ((R a0 23).getD 0)).2 : Int) ∧ (T ((R a0 23).getD 0)).2 ≤ 3584) (g5 : -2147483648 ≤ (V ((R a0 23).getD 0) ((7 * x1) + x3).toNat) ∧ (V ((R a0 23).getD 0) ((7 * x1) + x3).toNat) ≤ 2147483647) : XR sc d 148 14 [some (.ref a0), some (xw x1), o2, some (xw x3)] [] (T, z, xv V, J, R) = if (V ((R a0 23).getD 0) ((7 * x1) + x3).toNat) < 100 then XR sc d 148 34 [some (.ref a0), some (xw x1), o2, some (xw x3)] [] (T, z, xv V, J, R) else XR sc d 148 30 [some (.ref a0), some (xw x1), o2, some (xw x3)] [] (T, z, xv V, J, R) :=
  (st_aload_n f_148_14 rfl).trans ((st_getR f_148_15 e_148_72 (by decide) g1 g2).trans ((sw_bipush f_148_18 c8_7).trans ((sw_iload_n f_148_20 rfl).trans ((sw_imul f_148_21).trans ((sw_iload_n f_148_22 rfl).trans ((sw_iadd f_148_23).trans ((sw_iaload f_148_24 g3 g4).trans ((sw_bipush f_148_25 c8_100).trans (sw_icmp_lt (t := 34) f_148_27 ⟨by decide, rfl⟩ g5 ⟨by decide, by decide⟩)))))))))
theorem bX7_isLame_30 {o0 o1 o2 o3 : Option Value} : XR sc d 148 30 [o0, o1, o2, o3] [] (T, z, xv V, J, R) = XR sc d 148 35 [o0, o1, o2, o3] [xw 1] (T, z, xv V, J, R) :=
  (sw_iconst f_148_30).trans (st_goto (t := 35) f_148_31 ⟨by decide, rfl⟩)
theorem bX7_isLame_34 {o0 o1 o2 o3 : Option Value} : XR sc d 148 34 [o0, o1, o2, o3] [] (T, z, xv V, J, R) = XR sc d 148 35 [o0, o1, o2, o3] [xw 0] (T, z, xv V, J, R) :=
  sw_iconst f_148_34
theorem bX7_isLame_35 {o0 o1 o2 : Option Value} {y0 x3 : Int} : XR sc d 148 35 [o0, o1, o2, some (xw x3)] [xw y0] (T, z, xv V, J, R) = XR sc d 148 4 [o0, o1, some (xw y0), some (xw (x3 + 1))] [] (T, z, xv V, J, R) :=
  (sw_istore_n (L' := [o0, o1, some (xw y0), some (xw x3)]) f_148_35 (Nat.le_of_ble_eq_true rfl) rfl).trans ((sw_iinc (L' := [o0, o1, some (xw y0), some (xw (x3 + 1))]) f_148_36 rfl (Nat.le_of_ble_eq_true rfl) rfl).trans (st_goto (t := 4) f_148_39 ⟨by decide, rfl⟩))
theorem bX7_isLame_42 {o0 o1 o3 : Option Value} {x2 : Int} (g1 : x2 = 0 ∨ x2 = 1) : XR sc d 148 42 [o0, o1, some (xw x2), o3] [] (T, z, xv V, J, R) = some (.inl (some (xw x2)), (T, z, xv V, J, R)) :=
  (sw_iload_n f_148_42 rfl).trans (sw_zreturn f_148_43 mr_148 g1)
theorem eX7_ride {x1 x2 x3 x4 x5 x6 : Int} {a0 : Nat} : X sc (d + 1) 149 [.ref a0, xw x1, xw x2, xw x3, xw x4, xw x5, xw x6] (T, z, xv V, J, R) = XR sc d 149 0 [some (.ref a0), some (xw x1), some (xw x2), some (xw x3), some (xw x4), some (xw x5), some (xw x6), none, none, none, none, none, none, none, none] [] (T, z, xv V, J, R) :=
  (X_eq ⟨jl_149, by rw [mn_149]; rfl, rfl, by rw [lm_149]; exact Nat.le_of_ble_eq_true rfl⟩).trans (by unfold xent; rw [lm_149]; rfl)
theorem bX7_ride_0 {o0 o1 o2 o3 o5 o6 o7 o8 o9 o10 o11 o12 o13 o14 : Option Value} {x4 : Int} : XR sc d 149 0 [o0, o1, o2, o3, some (xw x4), o5, o6, o7, o8, o9, o10, o11, o12, o13, o14] [] (T, z, xv V, J, R) = xret 149 (XR sc d 149) 6 9 [o0, o1, o2, o3, some (xw x4), o5, o6, o7, o8, o9, o10, o11, o12, o13, o14] [] (X sc d 94 [xw x4, xw 1, xw 1000] (T, z, xv V, J, R)) :=
  (sw_iload f_149_0 rfl).trans ((sw_iconst f_149_2).trans ((sw_sipush f_149_3 c16_1000).trans (st_callS' f_149_6 h_149_91 mn_94 rfl rfl rfl rfl)))
theorem bX7_ride_9 {o0 o1 o2 o3 o4 o5 o6 o7 o8 o9 o10 o11 o12 o13 o14 : Option Value} {y0 : Int} (g1 : -2147483648 ≤ y0 ∧ y0 ≤ 2147483647) : XR sc d 149 9 [o0, o1, o2, o3, o4, o5, o6, o7, o8, o9, o10, o11, o12, o13, o14] [xw y0] (T, z, xv V, J, R) = if y0 = 0 then XR sc d 149 37 [o0, o1, o2, o3, o4, o5, o6, o7, o8, o9, o10, o11, o12, o13, o14] [] (T, z, xv V, J, R) else XR sc d 149 12 [o0, o1, o2, o3, o4, o5, o6, o7, o8, o9, o10, o11, o12, o13, o14] [] (T, z, xv V, J, R) :=
  sw_if_eq (t := 37) f_149_9 ⟨by decide, rfl⟩ g1
theorem bX7_ride_12 {o0 o1 o2 o3 o4 o6 o7 o8 o9 o10 o11 o12 o13 o14 : Option Value} {x5 : Int} : XR sc d 149 12 [o0, o1, o2, o3, o4, some (xw x5), o6, o7, o8, o9, o10, o11, o12, o13, o14] [] (T, z, xv V, J, R) = xret 149 (XR sc d 149) 16 19 [o0, o1, o2, o3, o4, some (xw x5), o6, o7, o8, o9, o10, o11, o12, o13, o14] [] (X sc d 94 [xw x5, xw 1, xw 3] (T, z, xv V, J, R)) :=
  (sw_iload f_149_12 rfl).trans ((sw_iconst f_149_14).trans ((sw_iconst f_149_15).trans (st_callS' f_149_16 h_149_91 mn_94 rfl rfl rfl rfl)))
theorem bX7_ride_19 {o0 o1 o2 o3 o4 o5 o6 o7 o8 o9 o10 o11 o12 o13 o14 : Option Value} {y0 : Int} (g1 : -2147483648 ≤ y0 ∧ y0 ≤ 2147483647) : XR sc d 149 19 [o0, o1, o2, o3, o4, o5, o6, o7, o8, o9, o10, o11, o12, o13, o14] [xw y0] (T, z, xv V, J, R) = if y0 = 0 then XR sc d 149 37 [o0, o1, o2, o3, o4, o5, o6, o7, o8, o9, o10, o11, o12, o13, o14] [] (T, z, xv V, J, R) else XR sc d 149 22 [o0, o1, o2, o3, o4, o5, o6, o7, o8, o9, o10, o11, o12, o13, o14] [] (T, z, xv V, J, R) :=
  sw_if_eq (t := 37) f_149_19 ⟨by decide, rfl⟩ g1
theorem bX7_ride_22 {o0 o1 o2 o3 o4 o5 o7 o8 o9 o10 o11 o12 o13 o14 : Option Value} {x6 : Int} : XR sc d 149 22 [o0, o1, o2, o3, o4, o5, some (xw x6), o7, o8, o9, o10, o11, o12, o13, o14] [] (T, z, xv V, J, R) = xret 149 (XR sc d 149) 27 30 [o0, o1, o2, o3, o4, o5, some (xw x6), o7, o8, o9, o10, o11, o12, o13, o14] [] (X sc d 94 [xw x6, xw 1, xw 10] (T, z, xv V, J, R)) :=
  (sw_iload f_149_22 rfl).trans ((sw_iconst f_149_24).trans ((sw_bipush f_149_25 c8_10).trans (st_callS' f_149_27 h_149_91 mn_94 rfl rfl rfl rfl)))
theorem bX7_ride_30 {o0 o1 o2 o3 o4 o5 o6 o7 o8 o9 o10 o11 o12 o13 o14 : Option Value} {y0 : Int} (g1 : -2147483648 ≤ y0 ∧ y0 ≤ 2147483647) : XR sc d 149 30 [o0, o1, o2, o3, o4, o5, o6, o7, o8, o9, o10, o11, o12, o13, o14] [xw y0] (T, z, xv V, J, R) = if y0 = 0 then XR sc d 149 37 [o0, o1, o2, o3, o4, o5, o6, o7, o8, o9, o10, o11, o12, o13, o14] [] (T, z, xv V, J, R) else XR sc d 149 33 [o0, o1, o2, o3, o4, o5, o6, o7, o8, o9, o10, o11, o12, o13, o14] [] (T, z, xv V, J, R) :=
  sw_if_eq (t := 37) f_149_30 ⟨by decide, rfl⟩ g1
theorem bX7_ride_33 {o0 o1 o2 o3 o4 o5 o6 o7 o8 o9 o10 o11 o12 o13 o14 : Option Value} : XR sc d 149 33 [o0, o1, o2, o3, o4, o5, o6, o7, o8, o9, o10, o11, o12, o13, o14] [] (T, z, xv V, J, R) = XR sc d 149 38 [o0, o1, o2, o3, o4, o5, o6, o7, o8, o9, o10, o11, o12, o13, o14] [xw 1] (T, z, xv V, J, R) :=
  (sw_iconst f_149_33).trans (st_goto (t := 38) f_149_34 ⟨by decide, rfl⟩)
theorem bX7_ride_37 {o0 o1 o2 o3 o4 o5 o6 o7 o8 o9 o10 o11 o12 o13 o14 : Option Value} : XR sc d 149 37 [o0, o1, o2, o3, o4, o5, o6, o7, o8, o9, o10, o11, o12, o13, o14] [] (T, z, xv V, J, R) = XR sc d 149 38 [o0, o1, o2, o3, o4, o5, o6, o7, o8, o9, o10, o11, o12, o13, o14] [xw 0] (T, z, xv V, J, R) :=
  sw_iconst f_149_37
theorem bX7_ride_38 {o0 o2 o3 o4 o5 o6 o7 o8 o9 o10 o11 o12 o13 o14 : Option Value} {y0 x1 : Int} : XR sc d 149 38 [o0, some (xw x1), o2, o3, o4, o5, o6, o7, o8, o9, o10, o11, o12, o13, o14] [xw y0] (T, z, xv V, J, R) = xret 149 (XR sc d 149) 41 44 [o0, some (xw x1), o2, o3, o4, o5, o6, some (xw y0), o8, o9, o10, o11, o12, o13, o14] [] (X sc d 132 [xw x1] (T, z, xv V, J, R)) :=
  (sw_istore (L' := [o0, some (xw x1), o2, o3, o4, o5, o6, some (xw y0), o8, o9, o10, o11, o12, o13, o14]) f_149_38 (Nat.le_of_ble_eq_true rfl) rfl).trans ((sw_iload_n f_149_40 rfl).trans (st_callS' f_149_41 h_149_178 mn_132 rfl rfl rfl rfl))
theorem bX7_ride_44 {o0 o1 o2 o3 o4 o5 o6 o7 o8 o9 o10 o11 o12 o13 o14 : Option Value} {y0 : Int} (g1 : -2147483648 ≤ y0 ∧ y0 ≤ 2147483647) : XR sc d 149 44 [o0, o1, o2, o3, o4, o5, o6, o7, o8, o9, o10, o11, o12, o13, o14] [xw y0] (T, z, xv V, J, R) = if y0 = 0 then XR sc d 149 67 [o0, o1, o2, o3, o4, o5, o6, o7, o8, o9, o10, o11, o12, o13, o14] [] (T, z, xv V, J, R) else XR sc d 149 47 [o0, o1, o2, o3, o4, o5, o6, o7, o8, o9, o10, o11, o12, o13, o14] [] (T, z, xv V, J, R) :=
  sw_if_eq (t := 67) f_149_44 ⟨by decide, rfl⟩ g1
theorem bX7_ride_47 {o0 o1 o3 o4 o5 o6 o7 o8 o9 o10 o11 o12 o13 o14 : Option Value} {x2 : Int} : XR sc d 149 47 [o0, o1, some (xw x2), o3, o4, o5, o6, o7, o8, o9, o10, o11, o12, o13, o14] [] (T, z, xv V, J, R) = xret 149 (XR sc d 149) 48 51 [o0, o1, some (xw x2), o3, o4, o5, o6, o7, o8, o9, o10, o11, o12, o13, o14] [] (X sc d 133 [xw x2] (T, z, xv V, J, R)) :=
  (sw_iload_n f_149_47 rfl).trans (st_callS' f_149_48 h_149_188 mn_133 rfl rfl rfl rfl)
theorem bX7_ride_51 {o0 o1 o2 o3 o4 o5 o6 o7 o8 o9 o10 o11 o12 o13 o14 : Option Value} {y0 : Int} (g1 : -2147483648 ≤ y0 ∧ y0 ≤ 2147483647) : XR sc d 149 51 [o0, o1, o2, o3, o4, o5, o6, o7, o8, o9, o10, o11, o12, o13, o14] [xw y0] (T, z, xv V, J, R) = if y0 = 0 then XR sc d 149 67 [o0, o1, o2, o3, o4, o5, o6, o7, o8, o9, o10, o11, o12, o13, o14] [] (T, z, xv V, J, R) else XR sc d 149 54 [o0, o1, o2, o3, o4, o5, o6, o7, o8, o9, o10, o11, o12, o13, o14] [] (T, z, xv V, J, R) :=
  sw_if_eq (t := 67) f_149_51 ⟨by decide, rfl⟩ g1
theorem bX7_ride_54 {o0 o1 o2 o4 o5 o6 o7 o8 o9 o10 o11 o12 o13 o14 : Option Value} {x3 : Int} : XR sc d 149 54 [o0, o1, o2, some (xw x3), o4, o5, o6, o7, o8, o9, o10, o11, o12, o13, o14] [] (T, z, xv V, J, R) = xret 149 (XR sc d 149) 57 60 [o0, o1, o2, some (xw x3), o4, o5, o6, o7, o8, o9, o10, o11, o12, o13, o14] [] (X sc d 94 [xw x3, xw 0, xw 3] (T, z, xv V, J, R)) :=
  (sw_iload_n f_149_54 rfl).trans ((sw_iconst f_149_55).trans ((sw_iconst f_149_56).trans (st_callS' f_149_57 h_149_91 mn_94 rfl rfl rfl rfl)))
theorem bX7_ride_60 {o0 o1 o2 o3 o4 o5 o6 o7 o8 o9 o10 o11 o12 o13 o14 : Option Value} {y0 : Int} (g1 : -2147483648 ≤ y0 ∧ y0 ≤ 2147483647) : XR sc d 149 60 [o0, o1, o2, o3, o4, o5, o6, o7, o8, o9, o10, o11, o12, o13, o14] [xw y0] (T, z, xv V, J, R) = if y0 = 0 then XR sc d 149 67 [o0, o1, o2, o3, o4, o5, o6, o7, o8, o9, o10, o11, o12, o13, o14] [] (T, z, xv V, J, R) else XR sc d 149 63 [o0, o1, o2, o3, o4, o5, o6, o7, o8, o9, o10, o11, o12, o13, o14] [] (T, z, xv V, J, R) :=
  sw_if_eq (t := 67) f_149_60 ⟨by decide, rfl⟩ g1
theorem bX7_ride_63 {o0 o1 o2 o3 o4 o5 o6 o7 o8 o9 o10 o11 o12 o13 o14 : Option Value} : XR sc d 149 63 [o0, o1, o2, o3, o4, o5, o6, o7, o8, o9, o10, o11, o12, o13, o14] [] (T, z, xv V, J, R) = XR sc d 149 68 [o0, o1, o2, o3, o4, o5, o6, o7, o8, o9, o10, o11, o12, o13, o14] [xw 1] (T, z, xv V, J, R) :=
  (sw_iconst f_149_63).trans (st_goto (t := 68) f_149_64 ⟨by decide, rfl⟩)
theorem bX7_ride_67 {o0 o1 o2 o3 o4 o5 o6 o7 o8 o9 o10 o11 o12 o13 o14 : Option Value} : XR sc d 149 67 [o0, o1, o2, o3, o4, o5, o6, o7, o8, o9, o10, o11, o12, o13, o14] [] (T, z, xv V, J, R) = XR sc d 149 68 [o0, o1, o2, o3, o4, o5, o6, o7, o8, o9, o10, o11, o12, o13, o14] [xw 0] (T, z, xv V, J, R) :=
  sw_iconst f_149_67
theorem bX7_ride_68 {o1 o2 o3 o4 o5 o6 o7 o8 o9 o10 o11 o12 o13 o14 : Option Value} {y0 : Int} {a0 : Nat} (g1 : -2147483648 ≤ y0 ∧ y0 ≤ 2147483647) : XR sc d 149 68 [some (.ref a0), o1, o2, o3, o4, o5, o6, o7, o8, o9, o10, o11, o12, o13, o14] [xw y0] (T, z, xv V, J, R) = if y0 = 0 then XR sc d 149 76 [some (.ref a0), o1, o2, o3, o4, o5, o6, o7, some (xw y0), o9, o10, o11, o12, o13, o14] [.ref a0] (T, z, xv V, J, R) else XR sc d 149 80 [some (.ref a0), o1, o2, o3, o4, o5, o6, o7, some (xw y0), o9, o10, o11, o12, o13, o14] [.ref a0] (T, z, xv V, J, R) :=
  (sw_istore (L' := [some (.ref a0), o1, o2, o3, o4, o5, o6, o7, some (xw y0), o9, o10, o11, o12, o13, o14]) f_149_68 (Nat.le_of_ble_eq_true rfl) rfl).trans ((st_aload_n f_149_70 rfl).trans ((sw_iload f_149_71 rfl).trans (sw_if_ne (t := 80) f_149_73 ⟨by decide, rfl⟩ g1)))
theorem bX7_ride_76 {o0 o1 o2 o3 o4 o5 o6 o7 o8 o9 o10 o11 o12 o13 o14 : Option Value} {s0 : Value} : XR sc d 149 76 [o0, o1, o2, o3, o4, o5, o6, o7, o8, o9, o10, o11, o12, o13, o14] [s0] (T, z, xv V, J, R) = XR sc d 149 111 [o0, o1, o2, o3, o4, o5, o6, o7, o8, o9, o10, o11, o12, o13, o14] [xw 1, s0] (T, z, xv V, J, R) :=
  (sw_iconst f_149_76).trans (st_goto (t := 111) f_149_77 ⟨by decide, rfl⟩)
theorem bX7_ride_80 {o0 o1 o2 o3 o4 o5 o6 o8 o9 o10 o11 o12 o13 o14 : Option Value} {s0 : Value} {x7 : Int} (g1 : -2147483648 ≤ x7 ∧ x7 ≤ 2147483647) : XR sc d 149 80 [o0, o1, o2, o3, o4, o5, o6, some (xw x7), o8, o9, o10, o11, o12, o13, o14] [s0] (T, z, xv V, J, R) = if x7 = 0 then XR sc d 149 85 [o0, o1, o2, o3, o4, o5, o6, some (xw x7), o8, o9, o10, o11, o12, o13, o14] [s0] (T, z, xv V, J, R) else XR sc d 149 89 [o0, o1, o2, o3, o4, o5, o6, some (xw x7), o8, o9, o10, o11, o12, o13, o14] [s0] (T, z, xv V, J, R) :=
  (sw_iload f_149_80 rfl).trans (sw_if_ne (t := 89) f_149_82 ⟨by decide, rfl⟩ g1)
theorem bX7_ride_85 {o0 o1 o2 o3 o4 o5 o6 o7 o8 o9 o10 o11 o12 o13 o14 : Option Value} {s0 : Value} : XR sc d 149 85 [o0, o1, o2, o3, o4, o5, o6, o7, o8, o9, o10, o11, o12, o13, o14] [s0] (T, z, xv V, J, R) = XR sc d 149 111 [o0, o1, o2, o3, o4, o5, o6, o7, o8, o9, o10, o11, o12, o13, o14] [xw 2, s0] (T, z, xv V, J, R) :=
  (sw_iconst f_149_85).trans (st_goto (t := 111) f_149_86 ⟨by decide, rfl⟩)
theorem bX7_ride_89 {o2 o3 o4 o5 o6 o7 o8 o9 o10 o11 o12 o13 o14 : Option Value} {s0 : Value} {x1 : Int} {a0 : Nat} (g1 : T a0 = (8, 0)) : XR sc d 149 89 [some (.ref a0), some (xw x1), o2, o3, o4, o5, o6, o7, o8, o9, o10, o11, o12, o13, o14] [s0] (T, z, xv V, J, R) = xret 149 (XR sc d 149) 91 94 [some (.ref a0), some (xw x1), o2, o3, o4, o5, o6, o7, o8, o9, o10, o11, o12, o13, o14] [s0] (X sc d 148 [.ref a0, xw x1] (T, z, xv V, J, R)) :=
  (st_aload_n f_149_89 rfl).trans ((sw_iload_n f_149_90 rfl).trans (st_callV' f_149_91 h_149_211 mn_148 rfl rfl rfl rfl mo_148 g1 rfl))
theorem bX7_ride_94 {o0 o1 o2 o3 o4 o5 o6 o7 o8 o9 o10 o11 o12 o13 o14 : Option Value} {s1 : Value} {y0 : Int} (g1 : -2147483648 ≤ y0 ∧ y0 ≤ 2147483647) : XR sc d 149 94 [o0, o1, o2, o3, o4, o5, o6, o7, o8, o9, o10, o11, o12, o13, o14] [xw y0, s1] (T, z, xv V, J, R) = if y0 = 0 then XR sc d 149 97 [o0, o1, o2, o3, o4, o5, o6, o7, o8, o9, o10, o11, o12, o13, o14] [s1] (T, z, xv V, J, R) else XR sc d 149 106 [o0, o1, o2, o3, o4, o5, o6, o7, o8, o9, o10, o11, o12, o13, o14] [s1] (T, z, xv V, J, R) :=
  sw_if_ne (t := 106) f_149_94 ⟨by decide, rfl⟩ g1
theorem bX7_ride_97 {o1 o2 o3 o4 o5 o6 o7 o8 o9 o10 o11 o12 o13 o14 : Option Value} {s0 : Value} {a0 : Nat} (g1 : T a0 = (8, 0)) (g2 : -2147483648 ≤ (V a0 24) ∧ (V a0 24) ≤ 2147483647) : XR sc d 149 97 [some (.ref a0), o1, o2, o3, o4, o5, o6, o7, o8, o9, o10, o11, o12, o13, o14] [s0] (T, z, xv V, J, R) = if (V a0 24) = 60 then XR sc d 149 106 [some (.ref a0), o1, o2, o3, o4, o5, o6, o7, o8, o9, o10, o11, o12, o13, o14] [s0] (T, z, xv V, J, R) else XR sc d 149 110 [some (.ref a0), o1, o2, o3, o4, o5, o6, o7, o8, o9, o10, o11, o12, o13, o14] [s0] (T, z, xv V, J, R) :=
  (st_aload_n f_149_97 rfl).trans ((sw_getI f_149_98 e_149_214 (by decide) g1).trans ((sw_bipush f_149_101 c8_60).trans (sw_icmp_ne (t := 110) f_149_103 ⟨by decide, rfl⟩ g2 ⟨by decide, by decide⟩)))
theorem bX7_ride_106 {o0 o1 o2 o3 o4 o5 o6 o7 o8 o9 o10 o11 o12 o13 o14 : Option Value} {s0 : Value} : XR sc d 149 106 [o0, o1, o2, o3, o4, o5, o6, o7, o8, o9, o10, o11, o12, o13, o14] [s0] (T, z, xv V, J, R) = XR sc d 149 111 [o0, o1, o2, o3, o4, o5, o6, o7, o8, o9, o10, o11, o12, o13, o14] [xw 3, s0] (T, z, xv V, J, R) :=
  (sw_iconst f_149_106).trans (st_goto (t := 111) f_149_107 ⟨by decide, rfl⟩)
theorem bX7_ride_110 {o0 o1 o2 o3 o4 o5 o6 o7 o8 o9 o10 o11 o12 o13 o14 : Option Value} {s0 : Value} : XR sc d 149 110 [o0, o1, o2, o3, o4, o5, o6, o7, o8, o9, o10, o11, o12, o13, o14] [s0] (T, z, xv V, J, R) = XR sc d 149 111 [o0, o1, o2, o3, o4, o5, o6, o7, o8, o9, o10, o11, o12, o13, o14] [xw 0, s0] (T, z, xv V, J, R) :=
  sw_iconst f_149_110
theorem bX7_ride_111 {o0 o1 o2 o3 o4 o5 o6 o7 o8 o9 o10 o11 o12 o13 o14 : Option Value} {y0 : Int} {b1 : Nat} (g1 : T b1 = (8, 0)) : XR sc d 149 111 [o0, o1, o2, o3, o4, o5, o6, o7, o8, o9, o10, o11, o12, o13, o14] [xw y0, .ref b1] (T, z, xv V, J, R) = xret 149 (XR sc d 149) 111 114 [o0, o1, o2, o3, o4, o5, o6, o7, o8, o9, o10, o11, o12, o13, o14] [] (X sc d 93 [.ref b1, xw y0] (T, z, xv V, J, R)) :=
  st_callV' f_149_111 h_149_98 mn_93 rfl rfl rfl rfl mo_93 g1 rfl
theorem bX7_ride_114 {o0 o1 o2 o3 o4 o5 o6 o7 o8 o9 o10 o11 o12 o13 o14 : Option Value} {y0 : Int} (g1 : -2147483648 ≤ y0 ∧ y0 ≤ 2147483647) : XR sc d 149 114 [o0, o1, o2, o3, o4, o5, o6, o7, o8, o9, o10, o11, o12, o13, o14] [xw y0] (T, z, xv V, J, R) = if y0 = 0 then XR sc d 149 119 [o0, o1, o2, o3, o4, o5, o6, o7, o8, o9, o10, o11, o12, o13, o14] [] (T, z, xv V, J, R) else XR sc d 149 117 [o0, o1, o2, o3, o4, o5, o6, o7, o8, o9, o10, o11, o12, o13, o14] [] (T, z, xv V, J, R) :=
  sw_if_eq (t := 119) f_149_114 ⟨by decide, rfl⟩ g1
theorem bX7_ride_117 {o0 o1 o2 o3 o4 o5 o6 o7 o8 o9 o10 o11 o12 o13 o14 : Option Value} : XR sc d 149 117 [o0, o1, o2, o3, o4, o5, o6, o7, o8, o9, o10, o11, o12, o13, o14] [] (T, z, xv V, J, R) = some (.inl (some (xw 0)), (T, z, xv V, J, R)) :=
  (sw_iconst f_149_117).trans (sw_ireturn f_149_118 mr_149)
theorem bX7_ride_119 {o3 o6 o7 o8 o9 o10 o11 o12 o13 o14 : Option Value} {x1 x2 x4 x5 : Int} {a0 : Nat} (g1 : T a0 = (8, 0)) : XR sc d 149 119 [some (.ref a0), some (xw x1), some (xw x2), o3, some (xw x4), some (xw x5), o6, o7, o8, o9, o10, o11, o12, o13, o14] [] (T, z, xv V, J, R) = xret 149 (XR sc d 149) 127 130 [some (.ref a0), some (xw x1), some (xw x2), o3, some (xw x4), some (xw x5), o6, o7, o8, o9, o10, o11, o12, o13, o14] [] (X sc d 141 [.ref a0, xw x1, xw x2, xw (x4 * x5)] (T, z, xv V, J, R)) :=
  (st_aload_n f_149_119 rfl).trans ((sw_iload_n f_149_120 rfl).trans ((sw_iload_n f_149_121 rfl).trans ((sw_iload f_149_122 rfl).trans ((sw_iload f_149_124 rfl).trans ((sw_imul f_149_126).trans (st_callV' f_149_127 h_149_205 mn_141 rfl rfl rfl rfl mo_141 g1 rfl))))))
theorem bX7_ride_130 {o0 o1 o2 o3 o4 o5 o6 o7 o8 o9 o10 o11 o12 o13 o14 : Option Value} {y0 : Int} : XR sc d 149 130 [o0, o1, o2, o3, o4, o5, o6, o7, o8, o9, o10, o11, o12, o13, o14] [xw y0] (T, z, xv V, J, R) = XR sc d 149 138 [o0, o1, o2, o3, o4, o5, o6, o7, o8, some (xw y0), some (xw 0), some (xw 0), o12, o13, o14] [] (T, z, xv V, J, R) :=
  (sw_istore (L' := [o0, o1, o2, o3, o4, o5, o6, o7, o8, some (xw y0), o10, o11, o12, o13, o14]) f_149_130 (Nat.le_of_ble_eq_true rfl) rfl).trans ((sw_iconst f_149_132).trans ((sw_istore (L' := [o0, o1, o2, o3, o4, o5, o6, o7, o8, some (xw y0), some (xw 0), o11, o12, o13, o14]) f_149_133 (Nat.le_of_ble_eq_true rfl) rfl).trans ((sw_iconst f_149_135).trans (sw_istore (L' := [o0, o1, o2, o3, o4, o5, o6, o7, o8, some (xw y0), some (xw 0), some (xw 0), o12, o13, o14]) f_149_136 (Nat.le_of_ble_eq_true rfl) rfl))))
theorem bX7_ride_138 {o0 o1 o2 o3 o4 o5 o6 o7 o8 o9 o10 o12 o13 o14 : Option Value} {x11 : Int} (g1 : -2147483648 ≤ x11 ∧ x11 ≤ 2147483647) : XR sc d 149 138 [o0, o1, o2, o3, o4, o5, o6, o7, o8, o9, o10, some (xw x11), o12, o13, o14] [] (T, z, xv V, J, R) = if 7 ≤ x11 then XR sc d 149 314 [o0, o1, o2, o3, o4, o5, o6, o7, o8, o9, o10, some (xw x11), o12, o13, o14] [] (T, z, xv V, J, R) else XR sc d 149 145 [o0, o1, o2, o3, o4, o5, o6, o7, o8, o9, o10, some (xw x11), o12, o13, o14] [] (T, z, xv V, J, R) :=
  (sw_iload f_149_138 rfl).trans ((sw_bipush f_149_140 c8_7).trans (sw_icmp_ge (t := 314) f_149_142 ⟨by decide, rfl⟩ g1 ⟨by decide, by decide⟩))
theorem bX7_ride_145 {o3 o4 o5 o6 o7 o8 o10 o12 o13 o14 : Option Value} {x1 x2 x9 x11 : Int} {a0 : Nat} (g1 : T a0 = (8, 0)) : XR sc d 149 145 [some (.ref a0), some (xw x1), some (xw x2), o3, o4, o5, o6, o7, o8, some (xw x9), o10, some (xw x11), o12, o13, o14] [] (T, z, xv V, J, R) = xret 149 (XR sc d 149) 152 155 [some (.ref a0), some (xw x1), some (xw x2), o3, o4, o5, o6, o7, o8, some (xw x9), o10, some (xw x11), o12, o13, o14] [] (X sc d 140 [.ref a0, xw x1, xw x2, xw x9, xw x11] (T, z, xv V, J, R)) :=
  (st_aload_n f_149_145 rfl).trans ((sw_iload_n f_149_146 rfl).trans ((sw_iload_n f_149_147 rfl).trans ((sw_iload f_149_148 rfl).trans ((sw_iload f_149_150 rfl).trans (st_callV' f_149_152 h_149_194 mn_140 rfl rfl rfl rfl mo_140 g1 rfl)))))
theorem bX7_ride_155 {o0 o1 o2 o3 o4 o5 o6 o7 o8 o9 o10 o11 o12 o13 o14 : Option Value} {y0 : Int} (g1 : -2147483648 ≤ y0 ∧ y0 ≤ 2147483647) : XR sc d 149 155 [o0, o1, o2, o3, o4, o5, o6, o7, o8, o9, o10, o11, o12, o13, o14] [xw y0] (T, z, xv V, J, R) = if y0 ≤ 40 then XR sc d 149 175 [o0, o1, o2, o3, o4, o5, o6, o7, o8, o9, o10, o11, some (xw y0), o13, o14] [] (T, z, xv V, J, R) else XR sc d 149 164 [o0, o1, o2, o3, o4, o5, o6, o7, o8, o9, o10, o11, some (xw y0), o13, o14] [] (T, z, xv V, J, R) :=
  (sw_istore (L' := [o0, o1, o2, o3, o4, o5, o6, o7, o8, o9, o10, o11, some (xw y0), o13, o14]) f_149_155 (Nat.le_of_ble_eq_true rfl) rfl).trans ((sw_iload f_149_157 rfl).trans ((sw_bipush f_149_159 c8_40).trans (sw_icmp_le (t := 175) f_149_161 ⟨by decide, rfl⟩ g1 ⟨by decide, by decide⟩)))
theorem bX7_ride_164 {o0 o1 o2 o3 o4 o5 o7 o8 o9 o10 o11 o13 o14 : Option Value} {x12 x6 : Int} : XR sc d 149 164 [o0, o1, o2, o3, o4, o5, some (xw x6), o7, o8, o9, o10, o11, some (xw x12), o13, o14] [] (T, z, xv V, J, R) = XR sc d 149 176 [o0, o1, o2, o3, o4, o5, some (xw x6), o7, o8, o9, o10, o11, some (xw x12), o13, o14] [xw ((x12 - 40) * x6)] (T, z, xv V, J, R) :=
  (sw_iload f_149_164 rfl).trans ((sw_bipush f_149_166 c8_40).trans ((sw_isub f_149_168).trans ((sw_iload f_149_169 rfl).trans ((sw_imul f_149_171).trans (st_goto (t := 176) f_149_172 ⟨by decide, rfl⟩)))))
theorem bX7_ride_175 {o0 o1 o2 o3 o4 o5 o6 o7 o8 o9 o10 o11 o12 o13 o14 : Option Value} : XR sc d 149 175 [o0, o1, o2, o3, o4, o5, o6, o7, o8, o9, o10, o11, o12, o13, o14] [] (T, z, xv V, J, R) = XR sc d 149 176 [o0, o1, o2, o3, o4, o5, o6, o7, o8, o9, o10, o11, o12, o13, o14] [xw 0] (T, z, xv V, J, R) :=
  sw_iconst f_149_175
theorem bX7_ride_176 {o0 o2 o3 o4 o5 o6 o7 o8 o9 o13 o14 : Option Value} {y0 x1 x11 x10 x12 : Int} (g1 : -2147483648 ≤ x12 ∧ x12 ≤ 2147483647) : XR sc d 149 176 [o0, some (xw x1), o2, o3, o4, o5, o6, o7, o8, o9, some (xw x10), some (xw x11), some (xw x12), o13, o14] [xw y0] (T, z, xv V, J, R) = if x12 ≤ 40 then XR sc d 149 200 [o0, some (xw x1), o2, o3, o4, o5, o6, o7, o8, o9, some (xw x10), some (xw x11), some (xw x12), some (xw y0), some (xw ((7 * x1) + x11))] [xw x10] (T, z, xv V, J, R) else XR sc d 149 196 [o0, some (xw x1), o2, o3, o4, o5, o6, o7, o8, o9, some (xw x10), some (xw x11), some (xw x12), some (xw y0), some (xw ((7 * x1) + x11))] [xw x10] (T, z, xv V, J, R) :=
  (sw_istore (L' := [o0, some (xw x1), o2, o3, o4, o5, o6, o7, o8, o9, some (xw x10), some (xw x11), some (xw x12), some (xw y0), o14]) f_149_176 (Nat.le_of_ble_eq_true rfl) rfl).trans ((sw_bipush f_149_178 c8_7).trans ((sw_iload_n f_149_180 rfl).trans ((sw_imul f_149_181).trans ((sw_iload f_149_182 rfl).trans ((sw_iadd f_149_184).trans ((sw_istore (L' := [o0, some (xw x1), o2, o3, o4, o5, o6, o7, o8, o9, some (xw x10), some (xw x11), some (xw x12), some (xw y0), some (xw ((7 * x1) + x11))]) f_149_185 (Nat.le_of_ble_eq_true rfl) rfl).trans ((sw_iload f_149_187 rfl).trans ((sw_iload f_149_189 rfl).trans ((sw_bipush f_149_191 c8_40).trans (sw_icmp_le (t := 200) f_149_193 ⟨by decide, rfl⟩ g1 ⟨by decide, by decide⟩))))))))))
theorem bX7_ride_196 {o0 o1 o2 o3 o4 o5 o6 o7 o8 o9 o10 o11 o12 o13 o14 : Option Value} {s0 : Value} : XR sc d 149 196 [o0, o1, o2, o3, o4, o5, o6, o7, o8, o9, o10, o11, o12, o13, o14] [s0] (T, z, xv V, J, R) = XR sc d 149 201 [o0, o1, o2, o3, o4, o5, o6, o7, o8, o9, o10, o11, o12, o13, o14] [xw 1, s0] (T, z, xv V, J, R) :=
  (sw_iconst f_149_196).trans (st_goto (t := 201) f_149_197 ⟨by decide, rfl⟩)
theorem bX7_ride_200 {o0 o1 o2 o3 o4 o5 o6 o7 o8 o9 o10 o11 o12 o13 o14 : Option Value} {s0 : Value} : XR sc d 149 200 [o0, o1, o2, o3, o4, o5, o6, o7, o8, o9, o10, o11, o12, o13, o14] [s0] (T, z, xv V, J, R) = XR sc d 149 201 [o0, o1, o2, o3, o4, o5, o6, o7, o8, o9, o10, o11, o12, o13, o14] [xw 0, s0] (T, z, xv V, J, R) :=
  sw_iconst f_149_200
theorem bX7_ride_201 {o1 o4 o6 o7 o8 o9 o10 : Option Value} {y0 y1 x14 x13 x2 x3 x5 x11 x12 : Int} {a0 : Nat} (g1 : T a0 = (8, 0)) (g2 : R a0 23 = some ((R a0 23).getD 0)) (g3 : T ((R a0 23).getD 0) = (32, (T ((R a0 23).getD 0)).2)) (g4 : (0 : Int) ≤ x14 ∧ x14 < ((T ((R a0 23).getD 0)).2 : Int) ∧ (T ((R a0 23).getD 0)).2 ≤ 3584) (g5 : R a0 25 = some ((R a0 25).getD 0)) (g6 : T ((R a0 25).getD 0) = (32, (T ((R a0 25).getD 0)).2)) (g7 : (0 : Int) ≤ ((6 * x14) + x2) ∧ ((6 * x14) + x2) < ((T ((R a0 25).getD 0)).2 : Int) ∧ (T ((R a0 25).getD 0)).2 ≤ 3584) (g8 : R a0 26 = some ((R a0 26).getD 0)) (g9 : T ((R a0 26).getD 0) = (32, (T ((R a0 26).getD 0)).2)) (g10 : (0 : Int) ≤ ((4 * x14) + x3) ∧ ((4 * x14) + x3) < ((T ((R a0 26).getD 0)).2 : Int) ∧ (T ((R a0 26).getD 0)).2 ≤ 3584) (g11 : R a0 27 = some ((R a0 27).getD 0)) (g12 : T ((R a0 27).getD 0) = (32, (T ((R a0 27).getD 0)).2)) (g13 : (0 : Int) ≤ ((4 * x14) + x5) ∧ ((4 * x14) + x5) < ((T ((R a0 27).getD 0)).2 : Int) ∧ (T ((R a0 27).getD 0)).2 ≤ 3584) (g14 : R a0 22 = some ((R a0 22).getD 0)) (g15 : T ((R a0 22).getD 0) = (32, (T ((R a0 22).getD 0)).2)) (g16 : (0 : Int) ≤ ((7 * x2) + x11) ∧ ((7 * x2) + x11) < ((T ((R a0 22).getD 0)).2 : Int) ∧ (T ((R a0 22).getD 0)).2 ≤ 3584) (g17 : -2147483648 ≤ x12 ∧ x12 ≤ 2147483647) : XR sc d 149 201 [some (.ref a0), o1, some (xw x2), some (xw x3), o4, some (xw x5), o6, o7, o8, o9, o10, some (xw x11), some (xw x12), some (xw x13), some (xw x14)] [xw y0, xw y1] (T, z, xv V, J, R) = if x12 ≤ 20 then XR sc d 149 305 [some (.ref a0), o1, some (xw x2), some (xw x3), o4, some (xw x5), o6, o7, o8, o9, some (xw (y1 + y0)), some (xw x11), some (xw x12), some (xw x13), some (xw x14)] [xw ((xup2 (xup2 (xup2 (xup2 V ((R a0 23).getD 0) x14.toNat ((V ((R a0 23).getD 0) x14.toNat) + x13)) ((R a0 25).getD 0) ((6 * x14) + x2).toNat (((xup2 V ((R a0 23).getD 0) x14.toNat ((V ((R a0 23).getD 0) x14.toNat) + x13)) ((R a0 25).getD 0) ((6 * x14) + x2).toNat) + x13)) ((R a0 26).getD 0) ((4 * x14) + x3).toNat (((xup2 (xup2 V ((R a0 23).getD 0) x14.toNat ((V ((R a0 23).getD 0) x14.toNat) + x13)) ((R a0 25).getD 0) ((6 * x14) + x2).toNat (((xup2 V ((R a0 23).getD 0) x14.toNat ((V ((R a0 23).getD 0) x14.toNat) + x13)) ((R a0 25).getD 0) ((6 * x14) + x2).toNat) + x13)) ((R a0 26).getD 0) ((4 * x14) + x3).toNat) + x13)) ((R a0 27).getD 0) ((4 * x14) + x5).toNat (((xup2 (xup2 (xup2 V ((R a0 23).getD 0) x14.toNat ((V ((R a0 23).getD 0) x14.toNat) + x13)) ((R a0 25).getD 0) ((6 * x14) + x2).toNat (((xup2 V ((R a0 23).getD 0) x14.toNat ((V ((R a0 23).getD 0) x14.toNat) + x13)) ((R a0 25).getD 0) ((6 * x14) + x2).toNat) + x13)) ((R a0 26).getD 0) ((4 * x14) + x3).toNat (((xup2 (xup2 V ((R a0 23).getD 0) x14.toNat ((V ((R a0 23).getD 0) x14.toNat) + x13)) ((R a0 25).getD 0) ((6 * x14) + x2).toNat (((xup2 V ((R a0 23).getD 0) x14.toNat ((V ((R a0 23).getD 0) x14.toNat) + x13)) ((R a0 25).getD 0) ((6 * x14) + x2).toNat) + x13)) ((R a0 26).getD 0) ((4 * x14) + x3).toNat) + x13)) ((R a0 27).getD 0) ((4 * x14) + x5).toNat) + x13)) ((R a0 22).getD 0) ((7 * x2) + x11).toNat), xw ((7 * x2) + x11), .ref ((R a0 22).getD 0)] (T, z, xv (xup2 (xup2 (xup2 (xup2 V ((R a0 23).getD 0) x14.toNat ((V ((R a0 23).getD 0) x14.toNat) + x13)) ((R a0 25).getD 0) ((6 * x14) + x2).toNat (((xup2 V ((R a0 23).getD 0) x14.toNat ((V ((R a0 23).getD 0) x14.toNat) + x13)) ((R a0 25).getD 0) ((6 * x14) + x2).toNat) + x13)) ((R a0 26).getD 0) ((4 * x14) + x3).toNat (((xup2 (xup2 V ((R a0 23).getD 0) x14.toNat ((V ((R a0 23).getD 0) x14.toNat) + x13)) ((R a0 25).getD 0) ((6 * x14) + x2).toNat (((xup2 V ((R a0 23).getD 0) x14.toNat ((V ((R a0 23).getD 0) x14.toNat) + x13)) ((R a0 25).getD 0) ((6 * x14) + x2).toNat) + x13)) ((R a0 26).getD 0) ((4 * x14) + x3).toNat) + x13)) ((R a0 27).getD 0) ((4 * x14) + x5).toNat (((xup2 (xup2 (xup2 V ((R a0 23).getD 0) x14.toNat ((V ((R a0 23).getD 0) x14.toNat) + x13)) ((R a0 25).getD 0) ((6 * x14) + x2).toNat (((xup2 V ((R a0 23).getD 0) x14.toNat ((V ((R a0 23).getD 0) x14.toNat) + x13)) ((R a0 25).getD 0) ((6 * x14) + x2).toNat) + x13)) ((R a0 26).getD 0) ((4 * x14) + x3).toNat (((xup2 (xup2 V ((R a0 23).getD 0) x14.toNat ((V ((R a0 23).getD 0) x14.toNat) + x13)) ((R a0 25).getD 0) ((6 * x14) + x2).toNat (((xup2 V ((R a0 23).getD 0) x14.toNat ((V ((R a0 23).getD 0) x14.toNat) + x13)) ((R a0 25).getD 0) ((6 * x14) + x2).toNat) + x13)) ((R a0 26).getD 0) ((4 * x14) + x3).toNat) + x13)) ((R a0 27).getD 0) ((4 * x14) + x5).toNat) + x13)), J, R) else XR sc d 149 286 [some (.ref a0), o1, some (xw x2), some (xw x3), o4, some (xw x5), o6, o7, o8, o9, some (xw (y1 + y0)), some (xw x11), some (xw x12), some (xw x13), some (xw x14)] [xw ((xup2 (xup2 (xup2 (xup2 V ((R a0 23).getD 0) x14.toNat ((V ((R a0 23).getD 0) x14.toNat) + x13)) ((R a0 25).getD 0) ((6 * x14) + x2).toNat (((xup2 V ((R a0 23).getD 0) x14.toNat ((V ((R a0 23).getD 0) x14.toNat) + x13)) ((R a0 25).getD 0) ((6 * x14) + x2).toNat) + x13)) ((R a0 26).getD 0) ((4 * x14) + x3).toNat (((xup2 (xup2 V ((R a0 23).getD 0) x14.toNat ((V ((R a0 23).getD 0) x14.toNat) + x13)) ((R a0 25).getD 0) ((6 * x14) + x2).toNat (((xup2 V ((R a0 23).getD 0) x14.toNat ((V ((R a0 23).getD 0) x14.toNat) + x13)) ((R a0 25).getD 0) ((6 * x14) + x2).toNat) + x13)) ((R a0 26).getD 0) ((4 * x14) + x3).toNat) + x13)) ((R a0 27).getD 0) ((4 * x14) + x5).toNat (((xup2 (xup2 (xup2 V ((R a0 23).getD 0) x14.toNat ((V ((R a0 23).getD 0) x14.toNat) + x13)) ((R a0 25).getD 0) ((6 * x14) + x2).toNat (((xup2 V ((R a0 23).getD 0) x14.toNat ((V ((R a0 23).getD 0) x14.toNat) + x13)) ((R a0 25).getD 0) ((6 * x14) + x2).toNat) + x13)) ((R a0 26).getD 0) ((4 * x14) + x3).toNat (((xup2 (xup2 V ((R a0 23).getD 0) x14.toNat ((V ((R a0 23).getD 0) x14.toNat) + x13)) ((R a0 25).getD 0) ((6 * x14) + x2).toNat (((xup2 V ((R a0 23).getD 0) x14.toNat ((V ((R a0 23).getD 0) x14.toNat) + x13)) ((R a0 25).getD 0) ((6 * x14) + x2).toNat) + x13)) ((R a0 26).getD 0) ((4 * x14) + x3).toNat) + x13)) ((R a0 27).getD 0) ((4 * x14) + x5).toNat) + x13)) ((R a0 22).getD 0) ((7 * x2) + x11).toNat), xw ((7 * x2) + x11), .ref ((R a0 22).getD 0)] (T, z, xv (xup2 (xup2 (xup2 (xup2 V ((R a0 23).getD 0) x14.toNat ((V ((R a0 23).getD 0) x14.toNat) + x13)) ((R a0 25).getD 0) ((6 * x14) + x2).toNat (((xup2 V ((R a0 23).getD 0) x14.toNat ((V ((R a0 23).getD 0) x14.toNat) + x13)) ((R a0 25).getD 0) ((6 * x14) + x2).toNat) + x13)) ((R a0 26).getD 0) ((4 * x14) + x3).toNat (((xup2 (xup2 V ((R a0 23).getD 0) x14.toNat ((V ((R a0 23).getD 0) x14.toNat) + x13)) ((R a0 25).getD 0) ((6 * x14) + x2).toNat (((xup2 V ((R a0 23).getD 0) x14.toNat ((V ((R a0 23).getD 0) x14.toNat) + x13)) ((R a0 25).getD 0) ((6 * x14) + x2).toNat) + x13)) ((R a0 26).getD 0) ((4 * x14) + x3).toNat) + x13)) ((R a0 27).getD 0) ((4 * x14) + x5).toNat (((xup2 (xup2 (xup2 V ((R a0 23).getD 0) x14.toNat ((V ((R a0 23).getD 0) x14.toNat) + x13)) ((R a0 25).getD 0) ((6 * x14) + x2).toNat (((xup2 V ((R a0 23).getD 0) x14.toNat ((V ((R a0 23).getD 0) x14.toNat) + x13)) ((R a0 25).getD 0) ((6 * x14) + x2).toNat) + x13)) ((R a0 26).getD 0) ((4 * x14) + x3).toNat (((xup2 (xup2 V ((R a0 23).getD 0) x14.toNat ((V ((R a0 23).getD 0) x14.toNat) + x13)) ((R a0 25).getD 0) ((6 * x14) + x2).toNat (((xup2 V ((R a0 23).getD 0) x14.toNat ((V ((R a0 23).getD 0) x14.toNat) + x13)) ((R a0 25).getD 0) ((6 * x14) + x2).toNat) + x13)) ((R a0 26).getD 0) ((4 * x14) + x3).toNat) + x13)) ((R a0 27).getD 0) ((4 * x14) + x5).toNat) + x13)), J, R) :=
  (sw_iadd f_149_201).trans ((sw_istore (L' := [some (.ref a0), o1, some (xw x2), some (xw x3), o4, some (xw x5), o6, o7, o8, o9, some (xw (y1 + y0)), some (xw x11), some (xw x12), some (xw x13), some (xw x14)]) f_149_202 (Nat.le_of_ble_eq_true rfl) rfl).trans ((st_aload_n f_149_204 rfl).trans ((st_getR f_149_205 e_149_72 (by decide) g1 g2).trans ((sw_iload f_149_208 rfl).trans ((st_dup2 f_149_210 rfl rfl).trans ((sw_iaload f_149_211 g3 g4).trans ((sw_iload f_149_212 rfl).trans ((sw_iadd f_149_214).trans ((sw_iastore f_149_215 g3 g4).trans ((st_aload_n f_149_216 rfl).trans ((st_getR f_149_217 e_149_75 (by decide) g1 g5).trans ((sw_bipush f_149_220 c8_6).trans ((sw_iload f_149_222 rfl).trans ((sw_imul f_149_224).trans ((sw_iload_n f_149_225 rfl).trans ((sw_iadd f_149_226).trans ((st_dup2 f_149_227 rfl rfl).trans ((sw_iaload f_149_228 g6 g7).trans ((sw_iload f_149_229 rfl).trans ((sw_iadd f_149_231).trans ((sw_iastore f_149_232 g6 g7).trans ((st_aload_n f_149_233 rfl).trans ((st_getR f_149_234 e_149_78 (by decide) g1 g8).trans ((sw_iconst f_149_237).trans ((sw_iload f_149_238 rfl).trans ((sw_imul f_149_240).trans ((sw_iload_n f_149_241 rfl).trans ((sw_iadd f_149_242).trans ((st_dup2 f_149_243 rfl rfl).trans ((sw_iaload f_149_244 g9 g10).trans ((sw_iload f_149_245 rfl).trans ((sw_iadd f_149_247).trans ((sw_iastore f_149_248 g9 g10).trans ((st_aload_n f_149_249 rfl).trans ((st_getR f_149_250 e_149_81 (by decide) g1 g11).trans ((sw_iconst f_149_253).trans ((sw_iload f_149_254 rfl).trans ((sw_imul f_149_256).trans ((sw_iload f_149_257 rfl).trans ((sw_iadd f_149_259).trans ((st_dup2 f_149_260 rfl rfl).trans ((sw_iaload f_149_261 g12 g13).trans ((sw_iload f_149_262 rfl).trans ((sw_iadd f_149_264).trans ((sw_iastore f_149_265 g12 g13).trans ((st_aload_n f_149_266 rfl).trans ((st_getR f_149_267 e_149_69 (by decide) g1 g14).trans ((sw_bipush f_149_270 c8_7).trans ((sw_iload_n f_149_272 rfl).trans ((sw_imul f_149_273).trans ((sw_iload f_149_274 rfl).trans ((sw_iadd f_149_276).trans ((st_dup2 f_149_277 rfl rfl).trans ((sw_iaload f_149_278 g15 g16).trans ((sw_iload f_149_279 rfl).trans ((sw_bipush f_149_281 c8_20).trans (sw_icmp_le (t := 305) f_149_283 ⟨by decide, rfl⟩ g17 ⟨by decide, by decide⟩)))))))))))))))))))))))))))))))))))))))))))))))))))))))))
theorem bX7_ride_286 {o1 o3 o4 o5 o6 o7 o8 o9 o10 o12 o13 o14 : Option Value} {s0 s1 s2 : Value} {x2 x11 : Int} {a0 : Nat} (g1 : T a0 = (8, 0)) (g2 : R a0 22 = some ((R a0 22).getD 0)) (g3 : T ((R a0 22).getD 0) = (32, (T ((R a0 22).getD 0)).2)) (g4 : (0 : Int) ≤ ((7 * x2) + x11) ∧ ((7 * x2) + x11) < ((T ((R a0 22).getD 0)).2 : Int) ∧ (T ((R a0 22).getD 0)).2 ≤ 3584) (g5 : -2147483648 ≤ (V ((R a0 22).getD 0) ((7 * x2) + x11).toNat) ∧ (V ((R a0 22).getD 0) ((7 * x2) + x11).toNat) ≤ 2147483647) : XR sc d 149 286 [some (.ref a0), o1, some (xw x2), o3, o4, o5, o6, o7, o8, o9, o10, some (xw x11), o12, o13, o14] [s0, s1, s2] (T, z, xv V, J, R) = if (V ((R a0 22).getD 0) ((7 * x2) + x11).toNat) ≤ 0 then XR sc d 149 305 [some (.ref a0), o1, some (xw x2), o3, o4, o5, o6, o7, o8, o9, o10, some (xw x11), o12, o13, o14] [s0, s1, s2] (T, z, xv V, J, R) else XR sc d 149 301 [some (.ref a0), o1, some (xw x2), o3, o4, o5, o6, o7, o8, o9, o10, some (xw x11), o12, o13, o14] [s0, s1, s2] (T, z, xv V, J, R) :=
  (st_aload_n f_149_286 rfl).trans ((st_getR f_149_287 e_149_69 (by decide) g1 g2).trans ((sw_bipush f_149_290 c8_7).trans ((sw_iload_n f_149_292 rfl).trans ((sw_imul f_149_293).trans ((sw_iload f_149_294 rfl).trans ((sw_iadd f_149_296).trans ((sw_iaload f_149_297 g3 g4).trans (sw_if_le (t := 305) f_149_298 ⟨by decide, rfl⟩ g5))))))))
theorem bX7_ride_301 {o0 o1 o2 o3 o4 o5 o6 o7 o8 o9 o10 o11 o12 o13 o14 : Option Value} {s0 s1 s2 : Value} : XR sc d 149 301 [o0, o1, o2, o3, o4, o5, o6, o7, o8, o9, o10, o11, o12, o13, o14] [s0, s1, s2] (T, z, xv V, J, R) = XR sc d 149 306 [o0, o1, o2, o3, o4, o5, o6, o7, o8, o9, o10, o11, o12, o13, o14] [xw 1, s0, s1, s2] (T, z, xv V, J, R) :=
  (sw_iconst f_149_301).trans (st_goto (t := 306) f_149_302 ⟨by decide, rfl⟩)
theorem bX7_ride_305 {o0 o1 o2 o3 o4 o5 o6 o7 o8 o9 o10 o11 o12 o13 o14 : Option Value} {s0 s1 s2 : Value} : XR sc d 149 305 [o0, o1, o2, o3, o4, o5, o6, o7, o8, o9, o10, o11, o12, o13, o14] [s0, s1, s2] (T, z, xv V, J, R) = XR sc d 149 306 [o0, o1, o2, o3, o4, o5, o6, o7, o8, o9, o10, o11, o12, o13, o14] [xw 0, s0, s1, s2] (T, z, xv V, J, R) :=
  sw_iconst f_149_305
theorem bX7_ride_306 {o0 o1 o2 o3 o4 o5 o6 o7 o8 o9 o10 o12 o13 o14 : Option Value} {y0 y1 y2 x11 : Int} {b3 : Nat} (g1 : T b3 = (32, (T b3).2)) (g2 : (0 : Int) ≤ y2 ∧ y2 < ((T b3).2 : Int) ∧ (T b3).2 ≤ 3584) : XR sc d 149 306 [o0, o1, o2, o3, o4, o5, o6, o7, o8, o9, o10, some (xw x11), o12, o13, o14] [xw y0, xw y1, xw y2, .ref b3] (T, z, xv V, J, R) = XR sc d 149 138 [o0, o1, o2, o3, o4, o5, o6, o7, o8, o9, o10, some (xw (x11 + 1)), o12, o13, o14] [] (T, z, xv (xup2 V b3 y2.toNat (y1 - y0)), J, R) :=
  (sw_isub f_149_306).trans ((sw_iastore f_149_307 g1 g2).trans ((sw_iinc (L' := [o0, o1, o2, o3, o4, o5, o6, o7, o8, o9, o10, some (xw (x11 + 1)), o12, o13, o14]) f_149_308 rfl (Nat.le_of_ble_eq_true rfl) rfl).trans (st_goto (t := 138) f_149_311 ⟨by decide, rfl⟩)))
theorem bX7_ride_314 {o1 o2 o3 o4 o5 o6 o7 o8 o9 o11 o12 o13 o14 : Option Value} {x10 : Int} {a0 : Nat} (g1 : T a0 = (8, 0)) : XR sc d 149 314 [some (.ref a0), o1, o2, o3, o4, o5, o6, o7, o8, o9, some (xw x10), o11, o12, o13, o14] [] (T, z, xv V, J, R) = some (.inl (some (xw x10)), (T, z, xv (xup2 V a0 24 ((V a0 24) + 1)), J, R)) :=
  (st_aload_n f_149_314 rfl).trans ((st_dup f_149_315 rfl).trans ((sw_getI f_149_316 e_149_214 (by decide) g1).trans ((sw_iconst f_149_319).trans ((sw_iadd f_149_320).trans ((sw_putI f_149_321 e_149_214 (Or.inl rfl) (Or.inl rfl) g1).trans ((sw_iload f_149_324 rfl).trans (sw_ireturn f_149_326 mr_149)))))))
theorem eX7_rest {x1 : Int} {a0 : Nat} : X sc (d + 1) 150 [.ref a0, xw x1] (T, z, xv V, J, R) = XR sc d 150 0 [some (.ref a0), some (xw x1), none, none] [] (T, z, xv V, J, R) :=
  (X_eq ⟨jl_150, by rw [mn_150]; rfl, rfl, by rw [lm_150]; exact Nat.le_of_ble_eq_true rfl⟩).trans (by unfold xent; rw [lm_150]; rfl)
theorem bX7_rest_0 {o2 o3 : Option Value} {x1 : Int} {a0 : Nat} : XR sc d 150 0 [some (.ref a0), some (xw x1), o2, o3] [] (T, z, xv V, J, R) = xret 150 (XR sc d 150) 5 8 [some (.ref a0), some (xw x1), o2, o3] [.ref a0] (X sc d 94 [xw x1, xw 1, xw 100] (T, z, xv V, J, R)) :=
  (st_aload_n f_150_0 rfl).trans ((sw_iload_n f_150_1 rfl).trans ((sw_iconst f_150_2).trans ((sw_bipush f_150_3 c8_100).trans (st_callS' f_150_5 h_150_91 mn_94 rfl rfl rfl rfl))))
theorem bX7_rest_8 {o0 o1 o2 o3 : Option Value} {s1 : Value} {y0 : Int} (g1 : -2147483648 ≤ y0 ∧ y0 ≤ 2147483647) : XR sc d 150 8 [o0, o1, o2, o3] [xw y0, s1] (T, z, xv V, J, R) = if y0 = 0 then XR sc d 150 15 [o0, o1, o2, o3] [s1] (T, z, xv V, J, R) else XR sc d 150 11 [o0, o1, o2, o3] [s1] (T, z, xv V, J, R) :=
  sw_if_eq (t := 15) f_150_8 ⟨by decide, rfl⟩ g1
theorem bX7_rest_11 {o0 o1 o2 o3 : Option Value} {s0 : Value} : XR sc d 150 11 [o0, o1, o2, o3] [s0] (T, z, xv V, J, R) = XR sc d 150 16 [o0, o1, o2, o3] [xw 0, s0] (T, z, xv V, J, R) :=
  (sw_iconst f_150_11).trans (st_goto (t := 16) f_150_12 ⟨by decide, rfl⟩)
theorem bX7_rest_15 {o0 o1 o2 o3 : Option Value} {s0 : Value} : XR sc d 150 15 [o0, o1, o2, o3] [s0] (T, z, xv V, J, R) = XR sc d 150 16 [o0, o1, o2, o3] [xw 1, s0] (T, z, xv V, J, R) :=
  sw_iconst f_150_15
theorem bX7_rest_16 {o0 o1 o2 o3 : Option Value} {y0 : Int} {b1 : Nat} (g1 : T b1 = (8, 0)) : XR sc d 150 16 [o0, o1, o2, o3] [xw y0, .ref b1] (T, z, xv V, J, R) = xret 150 (XR sc d 150) 16 19 [o0, o1, o2, o3] [] (X sc d 93 [.ref b1, xw y0] (T, z, xv V, J, R)) :=
  st_callV' f_150_16 h_150_98 mn_93 rfl rfl rfl rfl mo_93 g1 rfl
theorem bX7_rest_19 {o0 o1 o2 o3 : Option Value} {y0 : Int} (g1 : -2147483648 ≤ y0 ∧ y0 ≤ 2147483647) : XR sc d 150 19 [o0, o1, o2, o3] [xw y0] (T, z, xv V, J, R) = if y0 = 0 then XR sc d 150 24 [o0, o1, o2, o3] [] (T, z, xv V, J, R) else XR sc d 150 22 [o0, o1, o2, o3] [] (T, z, xv V, J, R) :=
  sw_if_eq (t := 24) f_150_19 ⟨by decide, rfl⟩ g1
theorem bX7_rest_22 {o0 o1 o2 o3 : Option Value} : XR sc d 150 22 [o0, o1, o2, o3] [] (T, z, xv V, J, R) = some (.inl (some (xw 0)), (T, z, xv V, J, R)) :=
  (sw_iconst f_150_22).trans (sw_ireturn f_150_23 mr_150)
theorem bX7_rest_24 {o0 o1 o2 o3 : Option Value} : XR sc d 150 24 [o0, o1, o2, o3] [] (T, z, xv V, J, R) = XR sc d 150 26 [o0, o1, some (xw 0), o3] [] (T, z, xv V, J, R) :=
  (sw_iconst f_150_24).trans (sw_istore_n (L' := [o0, o1, some (xw 0), o3]) f_150_25 (Nat.le_of_ble_eq_true rfl) rfl)
theorem bX7_rest_26 {o0 o1 o3 : Option Value} {x2 : Int} (g1 : -2147483648 ≤ x2 ∧ x2 ≤ 2147483647) : XR sc d 150 26 [o0, o1, some (xw x2), o3] [] (T, z, xv V, J, R) = if 42 ≤ x2 then XR sc d 150 72 [o0, o1, some (xw x2), o3] [] (T, z, xv V, J, R) else XR sc d 150 32 [o0, o1, some (xw x2), o3] [] (T, z, xv V, J, R) :=
  (sw_iload_n f_150_26 rfl).trans ((sw_bipush f_150_27 c8_42).trans (sw_icmp_ge (t := 72) f_150_29 ⟨by decide, rfl⟩ g1 ⟨by decide, by decide⟩))
theorem bX7_rest_32 {o3 : Option Value} {x2 x1 : Int} {a0 : Nat} (g1 : T a0 = (8, 0)) (g2 : R a0 23 = some ((R a0 23).getD 0)) (g3 : T ((R a0 23).getD 0) = (32, (T ((R a0 23).getD 0)).2)) (g4 : (0 : Int) ≤ x2 ∧ x2 < ((T ((R a0 23).getD 0)).2 : Int) ∧ (T ((R a0 23).getD 0)).2 ≤ 3584) (g5 : -2147483648 ≤ (V ((R a0 23).getD 0) x2.toNat) ∧ (V ((R a0 23).getD 0) x2.toNat) ≤ 2147483647) (g6 : -2147483648 ≤ (10 * x1) ∧ (10 * x1) ≤ 2147483647) : XR sc d 150 32 [some (.ref a0), some (xw x1), some (xw x2), o3] [] (T, z, xv V, J, R) = if (V ((R a0 23).getD 0) x2.toNat) ≤ (10 * x1) then XR sc d 150 64 [some (.ref a0), some (xw x1), some (xw x2), o3] [xw x2, .ref ((R a0 23).getD 0)] (T, z, xv V, J, R) else XR sc d 150 50 [some (.ref a0), some (xw x1), some (xw x2), o3] [xw x2, .ref ((R a0 23).getD 0)] (T, z, xv V, J, R) :=
  (st_aload_n f_150_32 rfl).trans ((st_getR f_150_33 e_150_72 (by decide) g1 g2).trans ((sw_iload_n f_150_36 rfl).trans ((st_aload_n f_150_37 rfl).trans ((st_getR f_150_38 e_150_72 (by decide) g1 g2).trans ((sw_iload_n f_150_41 rfl).trans ((sw_iaload f_150_42 g3 g4).trans ((sw_bipush f_150_43 c8_10).trans ((sw_iload_n f_150_45 rfl).trans ((sw_imul f_150_46).trans (sw_icmp_le (t := 64) f_150_47 ⟨by decide, rfl⟩ g5 g6))))))))))
theorem bX7_rest_50 {o3 : Option Value} {s0 s1 : Value} {x2 x1 : Int} {a0 : Nat} (g1 : T a0 = (8, 0)) (g2 : R a0 23 = some ((R a0 23).getD 0)) (g3 : T ((R a0 23).getD 0) = (32, (T ((R a0 23).getD 0)).2)) (g4 : (0 : Int) ≤ x2 ∧ x2 < ((T ((R a0 23).getD 0)).2 : Int) ∧ (T ((R a0 23).getD 0)).2 ≤ 3584) : XR sc d 150 50 [some (.ref a0), some (xw x1), some (xw x2), o3] [s0, s1] (T, z, xv V, J, R) = XR sc d 150 65 [some (.ref a0), some (xw x1), some (xw x2), o3] [xw ((V ((R a0 23).getD 0) x2.toNat) - (10 * x1)), s0, s1] (T, z, xv V, J, R) :=
  (st_aload_n f_150_50 rfl).trans ((st_getR f_150_51 e_150_72 (by decide) g1 g2).trans ((sw_iload_n f_150_54 rfl).trans ((sw_iaload f_150_55 g3 g4).trans ((sw_bipush f_150_56 c8_10).trans ((sw_iload_n f_150_58 rfl).trans ((sw_imul f_150_59).trans ((sw_isub f_150_60).trans (st_goto (t := 65) f_150_61 ⟨by decide, rfl⟩))))))))
theorem bX7_rest_64 {o0 o1 o2 o3 : Option Value} {s0 s1 : Value} : XR sc d 150 64 [o0, o1, o2, o3] [s0, s1] (T, z, xv V, J, R) = XR sc d 150 65 [o0, o1, o2, o3] [xw 0, s0, s1] (T, z, xv V, J, R) :=
  sw_iconst f_150_64
theorem bX7_rest_65 {o0 o1 o3 : Option Value} {y0 y1 x2 : Int} {b2 : Nat} (g1 : T b2 = (32, (T b2).2)) (g2 : (0 : Int) ≤ y1 ∧ y1 < ((T b2).2 : Int) ∧ (T b2).2 ≤ 3584) : XR sc d 150 65 [o0, o1, some (xw x2), o3] [xw y0, xw y1, .ref b2] (T, z, xv V, J, R) = XR sc d 150 26 [o0, o1, some (xw (x2 + 1)), o3] [] (T, z, xv (xup2 V b2 y1.toNat y0), J, R) :=
  (sw_iastore f_150_65 g1 g2).trans ((sw_iinc (L' := [o0, o1, some (xw (x2 + 1)), o3]) f_150_66 rfl (Nat.le_of_ble_eq_true rfl) rfl).trans (st_goto (t := 26) f_150_69 ⟨by decide, rfl⟩))
theorem bX7_rest_72 {o0 o1 o2 o3 : Option Value} : XR sc d 150 72 [o0, o1, o2, o3] [] (T, z, xv V, J, R) = XR sc d 150 76 [o0, o1, some (xw 0), some (xw 0)] [] (T, z, xv V, J, R) :=
  (sw_iconst f_150_72).trans ((sw_istore_n (L' := [o0, o1, some (xw 0), o3]) f_150_73 (Nat.le_of_ble_eq_true rfl) rfl).trans ((sw_iconst f_150_74).trans (sw_istore_n (L' := [o0, o1, some (xw 0), some (xw 0)]) f_150_75 (Nat.le_of_ble_eq_true rfl) rfl)))
theorem bX7_rest_76 {o0 o1 o2 : Option Value} {x3 : Int} (g1 : -2147483648 ≤ x3 ∧ x3 ≤ 2147483647) : XR sc d 150 76 [o0, o1, o2, some (xw x3)] [] (T, z, xv V, J, R) = if 6 ≤ x3 then XR sc d 150 104 [o0, o1, o2, some (xw x3)] [] (T, z, xv V, J, R) else XR sc d 150 82 [o0, o1, o2, some (xw x3)] [] (T, z, xv V, J, R) :=
  (sw_iload_n f_150_76 rfl).trans ((sw_bipush f_150_77 c8_6).trans (sw_icmp_ge (t := 104) f_150_79 ⟨by decide, rfl⟩ g1 ⟨by decide, by decide⟩))
theorem bX7_rest_82 {o1 : Option Value} {x2 x3 : Int} {a0 : Nat} (g1 : T a0 = (8, 0)) : XR sc d 150 82 [some (.ref a0), o1, some (xw x2), some (xw x3)] [] (T, z, xv V, J, R) = xret 150 (XR sc d 150) 85 88 [some (.ref a0), o1, some (xw x2), some (xw x3)] [xw x2] (X sc d 148 [.ref a0, xw x3] (T, z, xv V, J, R)) :=
  (sw_iload_n f_150_82 rfl).trans ((st_aload_n f_150_83 rfl).trans ((sw_iload_n f_150_84 rfl).trans (st_callV' f_150_85 h_150_211 mn_148 rfl rfl rfl rfl mo_148 g1 rfl)))
theorem bX7_rest_88 {o0 o1 o2 o3 : Option Value} {s1 : Value} {y0 : Int} (g1 : -2147483648 ≤ y0 ∧ y0 ≤ 2147483647) : XR sc d 150 88 [o0, o1, o2, o3] [xw y0, s1] (T, z, xv V, J, R) = if y0 = 0 then XR sc d 150 95 [o0, o1, o2, o3] [s1] (T, z, xv V, J, R) else XR sc d 150 91 [o0, o1, o2, o3] [s1] (T, z, xv V, J, R) :=
  sw_if_eq (t := 95) f_150_88 ⟨by decide, rfl⟩ g1
theorem bX7_rest_91 {o0 o1 o2 o3 : Option Value} {s0 : Value} : XR sc d 150 91 [o0, o1, o2, o3] [s0] (T, z, xv V, J, R) = XR sc d 150 96 [o0, o1, o2, o3] [xw 1, s0] (T, z, xv V, J, R) :=
  (sw_iconst f_150_91).trans (st_goto (t := 96) f_150_92 ⟨by decide, rfl⟩)
theorem bX7_rest_95 {o0 o1 o2 o3 : Option Value} {s0 : Value} : XR sc d 150 95 [o0, o1, o2, o3] [s0] (T, z, xv V, J, R) = XR sc d 150 96 [o0, o1, o2, o3] [xw 0, s0] (T, z, xv V, J, R) :=
  sw_iconst f_150_95
theorem bX7_rest_96 {o0 o1 o2 : Option Value} {y0 y1 x3 : Int} : XR sc d 150 96 [o0, o1, o2, some (xw x3)] [xw y0, xw y1] (T, z, xv V, J, R) = XR sc d 150 76 [o0, o1, some (xw (y1 + y0)), some (xw (x3 + 1))] [] (T, z, xv V, J, R) :=
  (sw_iadd f_150_96).trans ((sw_istore_n (L' := [o0, o1, some (xw (y1 + y0)), some (xw x3)]) f_150_97 (Nat.le_of_ble_eq_true rfl) rfl).trans ((sw_iinc (L' := [o0, o1, some (xw (y1 + y0)), some (xw (x3 + 1))]) f_150_98 rfl (Nat.le_of_ble_eq_true rfl) rfl).trans (st_goto (t := 76) f_150_101 ⟨by decide, rfl⟩)))
theorem bX7_rest_104 {o0 o1 o3 : Option Value} {x2 : Int} : XR sc d 150 104 [o0, o1, some (xw x2), o3] [] (T, z, xv V, J, R) = some (.inl (some (xw x2)), (T, z, xv V, J, R)) :=
  (sw_iload_n f_150_104 rfl).trans (sw_ireturn f_150_105 mr_150)
theorem eX7_sore {x1 x2 x3 : Int} {a0 : Nat} : X sc (d + 1) 151 [.ref a0, xw x1, xw x2, xw x3] (T, z, xv V, J, R) = XR sc d 151 0 [some (.ref a0), some (xw x1), some (xw x2), some (xw x3)] [] (T, z, xv V, J, R) :=
  (X_eq ⟨jl_151, by rw [mn_151]; rfl, rfl, by rw [lm_151]; exact Nat.le_of_ble_eq_true rfl⟩).trans (by unfold xent; rw [lm_151]; rfl)
theorem bX7_sore_0 {o2 o3 : Option Value} {x1 : Int} {a0 : Nat} : XR sc d 151 0 [some (.ref a0), some (xw x1), o2, o3] [] (T, z, xv V, J, R) = xret 151 (XR sc d 151) 2 5 [some (.ref a0), some (xw x1), o2, o3] [.ref a0] (X sc d 132 [xw x1] (T, z, xv V, J, R)) :=
  (st_aload_n f_151_0 rfl).trans ((sw_iload_n f_151_1 rfl).trans (st_callS' f_151_2 h_151_178 mn_132 rfl rfl rfl rfl))
theorem bX7_sore_5 {o0 o1 o2 o3 : Option Value} {s1 : Value} {y0 : Int} (g1 : -2147483648 ≤ y0 ∧ y0 ≤ 2147483647) : XR sc d 151 5 [o0, o1, o2, o3] [xw y0, s1] (T, z, xv V, J, R) = if y0 = 0 then XR sc d 151 15 [o0, o1, o2, o3] [s1] (T, z, xv V, J, R) else XR sc d 151 8 [o0, o1, o2, o3] [s1] (T, z, xv V, J, R) :=
  sw_if_eq (t := 15) f_151_5 ⟨by decide, rfl⟩ g1
theorem bX7_sore_8 {o0 o1 o3 : Option Value} {s0 : Value} {x2 : Int} : XR sc d 151 8 [o0, o1, some (xw x2), o3] [s0] (T, z, xv V, J, R) = xret 151 (XR sc d 151) 9 12 [o0, o1, some (xw x2), o3] [s0] (X sc d 134 [xw x2] (T, z, xv V, J, R)) :=
  (sw_iload_n f_151_8 rfl).trans (st_callS' f_151_9 h_151_181 mn_134 rfl rfl rfl rfl)
theorem bX7_sore_12 {o0 o1 o2 o3 : Option Value} {s1 : Value} {y0 : Int} (g1 : -2147483648 ≤ y0 ∧ y0 ≤ 2147483647) : XR sc d 151 12 [o0, o1, o2, o3] [xw y0, s1] (T, z, xv V, J, R) = if y0 = 0 then XR sc d 151 15 [o0, o1, o2, o3] [s1] (T, z, xv V, J, R) else XR sc d 151 19 [o0, o1, o2, o3] [s1] (T, z, xv V, J, R) :=
  sw_if_ne (t := 19) f_151_12 ⟨by decide, rfl⟩ g1
theorem bX7_sore_15 {o0 o1 o2 o3 : Option Value} {s0 : Value} : XR sc d 151 15 [o0, o1, o2, o3] [s0] (T, z, xv V, J, R) = XR sc d 151 33 [o0, o1, o2, o3] [xw 1, s0] (T, z, xv V, J, R) :=
  (sw_iconst f_151_15).trans (st_goto (t := 33) f_151_16 ⟨by decide, rfl⟩)
theorem bX7_sore_19 {o0 o1 o2 : Option Value} {s0 : Value} {x3 : Int} : XR sc d 151 19 [o0, o1, o2, some (xw x3)] [s0] (T, z, xv V, J, R) = xret 151 (XR sc d 151) 22 25 [o0, o1, o2, some (xw x3)] [s0] (X sc d 94 [xw x3, xw 0, xw 2] (T, z, xv V, J, R)) :=
  (sw_iload_n f_151_19 rfl).trans ((sw_iconst f_151_20).trans ((sw_iconst f_151_21).trans (st_callS' f_151_22 h_151_91 mn_94 rfl rfl rfl rfl)))
theorem bX7_sore_25 {o0 o1 o2 o3 : Option Value} {s1 : Value} {y0 : Int} (g1 : -2147483648 ≤ y0 ∧ y0 ≤ 2147483647) : XR sc d 151 25 [o0, o1, o2, o3] [xw y0, s1] (T, z, xv V, J, R) = if y0 = 0 then XR sc d 151 32 [o0, o1, o2, o3] [s1] (T, z, xv V, J, R) else XR sc d 151 28 [o0, o1, o2, o3] [s1] (T, z, xv V, J, R) :=
  sw_if_eq (t := 32) f_151_25 ⟨by decide, rfl⟩ g1
theorem bX7_sore_28 {o0 o1 o2 o3 : Option Value} {s0 : Value} : XR sc d 151 28 [o0, o1, o2, o3] [s0] (T, z, xv V, J, R) = XR sc d 151 33 [o0, o1, o2, o3] [xw 0, s0] (T, z, xv V, J, R) :=
  (sw_iconst f_151_28).trans (st_goto (t := 33) f_151_29 ⟨by decide, rfl⟩)
theorem bX7_sore_32 {o0 o1 o2 o3 : Option Value} {s0 : Value} : XR sc d 151 32 [o0, o1, o2, o3] [s0] (T, z, xv V, J, R) = XR sc d 151 33 [o0, o1, o2, o3] [xw 2, s0] (T, z, xv V, J, R) :=
  sw_iconst f_151_32
theorem bX7_sore_33 {o0 o1 o2 o3 : Option Value} {y0 : Int} {b1 : Nat} (g1 : T b1 = (8, 0)) : XR sc d 151 33 [o0, o1, o2, o3] [xw y0, .ref b1] (T, z, xv V, J, R) = xret 151 (XR sc d 151) 33 36 [o0, o1, o2, o3] [] (X sc d 93 [.ref b1, xw y0] (T, z, xv V, J, R)) :=
  st_callV' f_151_33 h_151_98 mn_93 rfl rfl rfl rfl mo_93 g1 rfl
theorem bX7_sore_36 {o0 o1 o2 o3 : Option Value} {y0 : Int} (g1 : -2147483648 ≤ y0 ∧ y0 ≤ 2147483647) : XR sc d 151 36 [o0, o1, o2, o3] [xw y0] (T, z, xv V, J, R) = if y0 = 0 then XR sc d 151 41 [o0, o1, o2, o3] [] (T, z, xv V, J, R) else XR sc d 151 39 [o0, o1, o2, o3] [] (T, z, xv V, J, R) :=
  sw_if_eq (t := 41) f_151_36 ⟨by decide, rfl⟩ g1
theorem bX7_sore_39 {o0 o1 o2 o3 : Option Value} : XR sc d 151 39 [o0, o1, o2, o3] [] (T, z, xv V, J, R) = some (.inl (some (xw 0)), (T, z, xv V, J, R)) :=
  (sw_iconst f_151_39).trans (sw_ireturn f_151_40 mr_151)
theorem bX7_sore_41 {o0 o1 o2 : Option Value} {x3 : Int} (g1 : -2147483648 ≤ x3 ∧ x3 ≤ 2147483647) : XR sc d 151 41 [o0, o1, o2, some (xw x3)] [] (T, z, xv V, J, R) = if x3 = 0 then XR sc d 151 45 [o0, o1, o2, some (xw x3)] [] (T, z, xv V, J, R) else XR sc d 151 59 [o0, o1, o2, some (xw x3)] [] (T, z, xv V, J, R) :=
  (sw_iload_n f_151_41 rfl).trans (sw_if_ne (t := 59) f_151_42 ⟨by decide, rfl⟩ g1)
theorem bX7_sore_45 {o3 : Option Value} {x1 x2 : Int} {a0 : Nat} (g1 : T a0 = (8, 0)) (g2 : R a0 23 = some ((R a0 23).getD 0)) (g3 : T ((R a0 23).getD 0) = (32, (T ((R a0 23).getD 0)).2)) (g4 : (0 : Int) ≤ ((7 * x1) + x2) ∧ ((7 * x1) + x2) < ((T ((R a0 23).getD 0)).2 : Int) ∧ (T ((R a0 23).getD 0)).2 ≤ 3584) : XR sc d 151 45 [some (.ref a0), some (xw x1), some (xw x2), o3] [] (T, z, xv V, J, R) = XR sc d 151 91 [some (.ref a0), some (xw x1), some (xw x2), o3] [xw (V ((R a0 23).getD 0) ((7 * x1) + x2).toNat)] (T, z, xv V, J, R) :=
  (st_aload_n f_151_45 rfl).trans ((st_getR f_151_46 e_151_72 (by decide) g1 g2).trans ((sw_bipush f_151_49 c8_7).trans ((sw_iload_n f_151_51 rfl).trans ((sw_imul f_151_52).trans ((sw_iload_n f_151_53 rfl).trans ((sw_iadd f_151_54).trans ((sw_iaload f_151_55 g3 g4).trans (st_goto (t := 91) f_151_56 ⟨by decide, rfl⟩))))))))
theorem bX7_sore_59 {o0 o1 o2 : Option Value} {x3 : Int} (g1 : -2147483648 ≤ x3 ∧ x3 ≤ 2147483647) : XR sc d 151 59 [o0, o1, o2, some (xw x3)] [] (T, z, xv V, J, R) = if x3 = 1 then XR sc d 151 64 [o0, o1, o2, some (xw x3)] [] (T, z, xv V, J, R) else XR sc d 151 78 [o0, o1, o2, some (xw x3)] [] (T, z, xv V, J, R) :=
  (sw_iload_n f_151_59 rfl).trans ((sw_iconst f_151_60).trans (sw_icmp_ne (t := 78) f_151_61 ⟨by decide, rfl⟩ g1 ⟨by decide, by decide⟩))
theorem bX7_sore_64 {o3 : Option Value} {x1 x2 : Int} {a0 : Nat} (g1 : T a0 = (8, 0)) (g2 : R a0 20 = some ((R a0 20).getD 0)) (g3 : T ((R a0 20).getD 0) = (32, (T ((R a0 20).getD 0)).2)) (g4 : (0 : Int) ≤ ((7 * x1) + x2) ∧ ((7 * x1) + x2) < ((T ((R a0 20).getD 0)).2 : Int) ∧ (T ((R a0 20).getD 0)).2 ≤ 3584) : XR sc d 151 64 [some (.ref a0), some (xw x1), some (xw x2), o3] [] (T, z, xv V, J, R) = XR sc d 151 91 [some (.ref a0), some (xw x1), some (xw x2), o3] [xw (V ((R a0 20).getD 0) ((7 * x1) + x2).toNat)] (T, z, xv V, J, R) :=
  (st_aload_n f_151_64 rfl).trans ((st_getR f_151_65 e_151_63 (by decide) g1 g2).trans ((sw_bipush f_151_68 c8_7).trans ((sw_iload_n f_151_70 rfl).trans ((sw_imul f_151_71).trans ((sw_iload_n f_151_72 rfl).trans ((sw_iadd f_151_73).trans ((sw_iaload f_151_74 g3 g4).trans (st_goto (t := 91) f_151_75 ⟨by decide, rfl⟩))))))))
theorem bX7_sore_78 {o2 o3 : Option Value} {x1 : Int} {a0 : Nat} (g1 : T a0 = (8, 0)) : XR sc d 151 78 [some (.ref a0), some (xw x1), o2, o3] [] (T, z, xv V, J, R) = xret 151 (XR sc d 151) 80 83 [some (.ref a0), some (xw x1), o2, o3] [] (X sc d 148 [.ref a0, xw x1] (T, z, xv V, J, R)) :=
  (st_aload_n f_151_78 rfl).trans ((sw_iload_n f_151_79 rfl).trans (st_callV' f_151_80 h_151_211 mn_148 rfl rfl rfl rfl mo_148 g1 rfl))
theorem bX7_sore_83 {o0 o1 o2 o3 : Option Value} {y0 : Int} (g1 : -2147483648 ≤ y0 ∧ y0 ≤ 2147483647) : XR sc d 151 83 [o0, o1, o2, o3] [xw y0] (T, z, xv V, J, R) = if y0 = 0 then XR sc d 151 90 [o0, o1, o2, o3] [] (T, z, xv V, J, R) else XR sc d 151 86 [o0, o1, o2, o3] [] (T, z, xv V, J, R) :=
  sw_if_eq (t := 90) f_151_83 ⟨by decide, rfl⟩ g1
theorem bX7_sore_86 {o0 o1 o2 o3 : Option Value} : XR sc d 151 86 [o0, o1, o2, o3] [] (T, z, xv V, J, R) = XR sc d 151 91 [o0, o1, o2, o3] [xw 1] (T, z, xv V, J, R) :=
  (sw_iconst f_151_86).trans (st_goto (t := 91) f_151_87 ⟨by decide, rfl⟩)
theorem bX7_sore_90 {o0 o1 o2 o3 : Option Value} : XR sc d 151 90 [o0, o1, o2, o3] [] (T, z, xv V, J, R) = XR sc d 151 91 [o0, o1, o2, o3] [xw 0] (T, z, xv V, J, R) :=
  sw_iconst f_151_90
theorem bX7_sore_91 {o0 o1 o2 o3 : Option Value} {y0 : Int} : XR sc d 151 91 [o0, o1, o2, o3] [xw y0] (T, z, xv V, J, R) = some (.inl (some (xw y0)), (T, z, xv V, J, R)) :=
  sw_ireturn f_151_91 mr_151
theorem eX7_shareOf {x1 x2 x3 : Int} {a0 : Nat} : X sc (d + 1) 152 [.ref a0, xw x1, xw x2, xw x3] (T, z, xv V, J, R) = XR sc d 152 0 [some (.ref a0), some (xw x1), some (xw x2), some (xw x3), none] [] (T, z, xv V, J, R) :=
  (X_eq ⟨jl_152, by rw [mn_152]; rfl, rfl, by rw [lm_152]; exact Nat.le_of_ble_eq_true rfl⟩).trans (by unfold xent; rw [lm_152]; rfl)
theorem bX7_shareOf_0 {o0 o1 o3 o4 : Option Value} {x2 : Int} (g1 : -2147483648 ≤ x2 ∧ x2 ≤ 2147483647) : XR sc d 152 0 [o0, o1, some (xw x2), o3, o4] [] (T, z, xv V, J, R) = if x2 = 0 then XR sc d 152 4 [o0, o1, some (xw x2), o3, o4] [] (T, z, xv V, J, R) else XR sc d 152 27 [o0, o1, some (xw x2), o3, o4] [] (T, z, xv V, J, R) :=
  (sw_iload_n f_152_0 rfl).trans (sw_if_ne (t := 27) f_152_1 ⟨by decide, rfl⟩ g1)
theorem bX7_shareOf_4 {o0 o1 o2 o4 : Option Value} {x3 : Int} : XR sc d 152 4 [o0, o1, o2, some (xw x3), o4] [] (T, z, xv V, J, R) = xret 152 (XR sc d 152) 5 8 [o0, o1, o2, some (xw x3), o4] [] (X sc d 133 [xw x3] (T, z, xv V, J, R)) :=
  (sw_iload_n f_152_4 rfl).trans (st_callS' f_152_5 h_152_188 mn_133 rfl rfl rfl rfl)
theorem bX7_shareOf_8 {o0 o1 o2 o3 o4 : Option Value} {y0 : Int} (g1 : -2147483648 ≤ y0 ∧ y0 ≤ 2147483647) : XR sc d 152 8 [o0, o1, o2, o3, o4] [xw y0] (T, z, xv V, J, R) = if y0 = 0 then XR sc d 152 25 [o0, o1, o2, o3, o4] [] (T, z, xv V, J, R) else XR sc d 152 11 [o0, o1, o2, o3, o4] [] (T, z, xv V, J, R) :=
  sw_if_eq (t := 25) f_152_8 ⟨by decide, rfl⟩ g1
theorem bX7_shareOf_11 {o2 o4 : Option Value} {x1 x3 : Int} {a0 : Nat} (g1 : T a0 = (8, 0)) (g2 : R a0 25 = some ((R a0 25).getD 0)) (g3 : T ((R a0 25).getD 0) = (32, (T ((R a0 25).getD 0)).2)) (g4 : (0 : Int) ≤ ((6 * x1) + x3) ∧ ((6 * x1) + x3) < ((T ((R a0 25).getD 0)).2 : Int) ∧ (T ((R a0 25).getD 0)).2 ≤ 3584) : XR sc d 152 11 [some (.ref a0), some (xw x1), o2, some (xw x3), o4] [] (T, z, xv V, J, R) = XR sc d 152 26 [some (.ref a0), some (xw x1), o2, some (xw x3), o4] [xw (V ((R a0 25).getD 0) ((6 * x1) + x3).toNat)] (T, z, xv V, J, R) :=
  (st_aload_n f_152_11 rfl).trans ((st_getR f_152_12 e_152_75 (by decide) g1 g2).trans ((sw_bipush f_152_15 c8_6).trans ((sw_iload_n f_152_17 rfl).trans ((sw_imul f_152_18).trans ((sw_iload_n f_152_19 rfl).trans ((sw_iadd f_152_20).trans ((sw_iaload f_152_21 g3 g4).trans (st_goto (t := 26) f_152_22 ⟨by decide, rfl⟩))))))))
theorem bX7_shareOf_25 {o0 o1 o2 o3 o4 : Option Value} : XR sc d 152 25 [o0, o1, o2, o3, o4] [] (T, z, xv V, J, R) = XR sc d 152 26 [o0, o1, o2, o3, o4] [xw 0] (T, z, xv V, J, R) :=
  sw_iconst f_152_25
theorem bX7_shareOf_26 {o0 o1 o2 o3 o4 : Option Value} {y0 : Int} : XR sc d 152 26 [o0, o1, o2, o3, o4] [xw y0] (T, z, xv V, J, R) = some (.inl (some (xw y0)), (T, z, xv V, J, R)) :=
  sw_ireturn f_152_26 mr_152
theorem bX7_shareOf_27 {o0 o1 o4 : Option Value} {x3 x2 : Int} (g1 : -2147483648 ≤ x2 ∧ x2 ≤ 2147483647) : XR sc d 152 27 [o0, o1, some (xw x2), some (xw x3), o4] [] (T, z, xv V, J, R) = if x2 = 1 then XR sc d 152 33 [o0, o1, some (xw x2), some (xw x3), o4] [xw x3] (T, z, xv V, J, R) else XR sc d 152 37 [o0, o1, some (xw x2), some (xw x3), o4] [xw x3] (T, z, xv V, J, R) :=
  (sw_iload_n f_152_27 rfl).trans ((sw_iload_n f_152_28 rfl).trans ((sw_iconst f_152_29).trans (sw_icmp_ne (t := 37) f_152_30 ⟨by decide, rfl⟩ g1 ⟨by decide, by decide⟩)))
theorem bX7_shareOf_33 {o0 o1 o2 o3 o4 : Option Value} {s0 : Value} : XR sc d 152 33 [o0, o1, o2, o3, o4] [s0] (T, z, xv V, J, R) = XR sc d 152 38 [o0, o1, o2, o3, o4] [xw 0, s0] (T, z, xv V, J, R) :=
  (sw_iconst f_152_33).trans (st_goto (t := 38) f_152_34 ⟨by decide, rfl⟩)
theorem bX7_shareOf_37 {o0 o1 o2 o3 o4 : Option Value} {s0 : Value} : XR sc d 152 37 [o0, o1, o2, o3, o4] [s0] (T, z, xv V, J, R) = XR sc d 152 38 [o0, o1, o2, o3, o4] [xw 1, s0] (T, z, xv V, J, R) :=
  sw_iconst f_152_37
theorem bX7_shareOf_38 {o0 o1 o2 o3 o4 : Option Value} {y0 y1 : Int} : XR sc d 152 38 [o0, o1, o2, o3, o4] [xw y0, xw y1] (T, z, xv V, J, R) = xret 152 (XR sc d 152) 39 42 [o0, o1, o2, o3, o4] [] (X sc d 94 [xw y1, xw y0, xw 3] (T, z, xv V, J, R)) :=
  (sw_iconst f_152_38).trans (st_callS' f_152_39 h_152_91 mn_94 rfl rfl rfl rfl)
theorem bX7_shareOf_42 {o0 o1 o2 o3 o4 : Option Value} {y0 : Int} (g1 : -2147483648 ≤ y0 ∧ y0 ≤ 2147483647) : XR sc d 152 42 [o0, o1, o2, o3, o4] [xw y0] (T, z, xv V, J, R) = if y0 = 0 then XR sc d 152 49 [o0, o1, o2, o3, some (xw y0)] [] (T, z, xv V, J, R) else XR sc d 152 53 [o0, o1, o2, o3, some (xw y0)] [] (T, z, xv V, J, R) :=
  (sw_istore (L' := [o0, o1, o2, o3, some (xw y0)]) f_152_42 (Nat.le_of_ble_eq_true rfl) rfl).trans ((sw_iload f_152_44 rfl).trans (sw_if_ne (t := 53) f_152_46 ⟨by decide, rfl⟩ g1))
theorem bX7_shareOf_49 {o0 o1 o2 o3 o4 : Option Value} : XR sc d 152 49 [o0, o1, o2, o3, o4] [] (T, z, xv V, J, R) = XR sc d 152 81 [o0, o1, o2, o3, o4] [xw 0] (T, z, xv V, J, R) :=
  (sw_iconst f_152_49).trans (st_goto (t := 81) f_152_50 ⟨by decide, rfl⟩)
theorem bX7_shareOf_53 {o0 o1 o3 o4 : Option Value} {x2 : Int} (g1 : -2147483648 ≤ x2 ∧ x2 ≤ 2147483647) : XR sc d 152 53 [o0, o1, some (xw x2), o3, o4] [] (T, z, xv V, J, R) = if x2 = 1 then XR sc d 152 58 [o0, o1, some (xw x2), o3, o4] [] (T, z, xv V, J, R) else XR sc d 152 71 [o0, o1, some (xw x2), o3, o4] [] (T, z, xv V, J, R) :=
  (sw_iload_n f_152_53 rfl).trans ((sw_iconst f_152_54).trans (sw_icmp_ne (t := 71) f_152_55 ⟨by decide, rfl⟩ g1 ⟨by decide, by decide⟩))
theorem bX7_shareOf_58 {o2 o4 : Option Value} {x1 x3 : Int} {a0 : Nat} (g1 : T a0 = (8, 0)) (g2 : R a0 26 = some ((R a0 26).getD 0)) (g3 : T ((R a0 26).getD 0) = (32, (T ((R a0 26).getD 0)).2)) (g4 : (0 : Int) ≤ ((4 * x1) + x3) ∧ ((4 * x1) + x3) < ((T ((R a0 26).getD 0)).2 : Int) ∧ (T ((R a0 26).getD 0)).2 ≤ 3584) : XR sc d 152 58 [some (.ref a0), some (xw x1), o2, some (xw x3), o4] [] (T, z, xv V, J, R) = XR sc d 152 81 [some (.ref a0), some (xw x1), o2, some (xw x3), o4] [xw (V ((R a0 26).getD 0) ((4 * x1) + x3).toNat)] (T, z, xv V, J, R) :=
  (st_aload_n f_152_58 rfl).trans ((st_getR f_152_59 e_152_78 (by decide) g1 g2).trans ((sw_iconst f_152_62).trans ((sw_iload_n f_152_63 rfl).trans ((sw_imul f_152_64).trans ((sw_iload_n f_152_65 rfl).trans ((sw_iadd f_152_66).trans ((sw_iaload f_152_67 g3 g4).trans (st_goto (t := 81) f_152_68 ⟨by decide, rfl⟩))))))))
theorem bX7_shareOf_71 {o2 o4 : Option Value} {x1 x3 : Int} {a0 : Nat} (g1 : T a0 = (8, 0)) (g2 : R a0 27 = some ((R a0 27).getD 0)) (g3 : T ((R a0 27).getD 0) = (32, (T ((R a0 27).getD 0)).2)) (g4 : (0 : Int) ≤ ((4 * x1) + x3) ∧ ((4 * x1) + x3) < ((T ((R a0 27).getD 0)).2 : Int) ∧ (T ((R a0 27).getD 0)).2 ≤ 3584) : XR sc d 152 71 [some (.ref a0), some (xw x1), o2, some (xw x3), o4] [] (T, z, xv V, J, R) = XR sc d 152 81 [some (.ref a0), some (xw x1), o2, some (xw x3), o4] [xw (V ((R a0 27).getD 0) ((4 * x1) + x3).toNat)] (T, z, xv V, J, R) :=
  (st_aload_n f_152_71 rfl).trans ((st_getR f_152_72 e_152_81 (by decide) g1 g2).trans ((sw_iconst f_152_75).trans ((sw_iload_n f_152_76 rfl).trans ((sw_imul f_152_77).trans ((sw_iload_n f_152_78 rfl).trans ((sw_iadd f_152_79).trans (sw_iaload f_152_80 g3 g4)))))))
theorem bX7_shareOf_81 {o0 o1 o2 o3 o4 : Option Value} {y0 : Int} : XR sc d 152 81 [o0, o1, o2, o3, o4] [xw y0] (T, z, xv V, J, R) = some (.inl (some (xw y0)), (T, z, xv V, J, R)) :=
  sw_ireturn f_152_81 mr_152
theorem eX7_missesShare {x1 x2 x3 : Int} {a0 : Nat} : X sc (d + 1) 153 [.ref a0, xw x1, xw x2, xw x3] (T, z, xv V, J, R) = XR sc d 153 0 [some (.ref a0), some (xw x1), some (xw x2), some (xw x3)] [] (T, z, xv V, J, R) :=
  (X_eq ⟨jl_153, by rw [mn_153]; rfl, rfl, by rw [lm_153]; exact Nat.le_of_ble_eq_true rfl⟩).trans (by unfold xent; rw [lm_153]; rfl)
theorem bX7_missesShare_0 {o2 o3 : Option Value} {x1 : Int} {a0 : Nat} : XR sc d 153 0 [some (.ref a0), some (xw x1), o2, o3] [] (T, z, xv V, J, R) = xret 153 (XR sc d 153) 2 5 [some (.ref a0), some (xw x1), o2, o3] [.ref a0] (X sc d 132 [xw x1] (T, z, xv V, J, R)) :=
  (st_aload_n f_153_0 rfl).trans ((sw_iload_n f_153_1 rfl).trans (st_callS' f_153_2 h_153_178 mn_132 rfl rfl rfl rfl))
theorem bX7_missesShare_5 {o0 o1 o2 o3 : Option Value} {s1 : Value} {y0 : Int} (g1 : -2147483648 ≤ y0 ∧ y0 ≤ 2147483647) : XR sc d 153 5 [o0, o1, o2, o3] [xw y0, s1] (T, z, xv V, J, R) = if y0 = 0 then XR sc d 153 15 [o0, o1, o2, o3] [s1] (T, z, xv V, J, R) else XR sc d 153 8 [o0, o1, o2, o3] [s1] (T, z, xv V, J, R) :=
  sw_if_eq (t := 15) f_153_5 ⟨by decide, rfl⟩ g1
theorem bX7_missesShare_8 {o0 o1 o3 : Option Value} {s0 : Value} {x2 : Int} : XR sc d 153 8 [o0, o1, some (xw x2), o3] [s0] (T, z, xv V, J, R) = xret 153 (XR sc d 153) 9 12 [o0, o1, some (xw x2), o3] [s0] (X sc d 134 [xw x2] (T, z, xv V, J, R)) :=
  (sw_iload_n f_153_8 rfl).trans (st_callS' f_153_9 h_153_181 mn_134 rfl rfl rfl rfl)
theorem bX7_missesShare_12 {o0 o1 o2 o3 : Option Value} {s1 : Value} {y0 : Int} (g1 : -2147483648 ≤ y0 ∧ y0 ≤ 2147483647) : XR sc d 153 12 [o0, o1, o2, o3] [xw y0, s1] (T, z, xv V, J, R) = if y0 = 0 then XR sc d 153 15 [o0, o1, o2, o3] [s1] (T, z, xv V, J, R) else XR sc d 153 19 [o0, o1, o2, o3] [s1] (T, z, xv V, J, R) :=
  sw_if_ne (t := 19) f_153_12 ⟨by decide, rfl⟩ g1
theorem bX7_missesShare_15 {o0 o1 o2 o3 : Option Value} {s0 : Value} : XR sc d 153 15 [o0, o1, o2, o3] [s0] (T, z, xv V, J, R) = XR sc d 153 33 [o0, o1, o2, o3] [xw 1, s0] (T, z, xv V, J, R) :=
  (sw_iconst f_153_15).trans (st_goto (t := 33) f_153_16 ⟨by decide, rfl⟩)
theorem bX7_missesShare_19 {o0 o1 o2 : Option Value} {s0 : Value} {x3 : Int} : XR sc d 153 19 [o0, o1, o2, some (xw x3)] [s0] (T, z, xv V, J, R) = xret 153 (XR sc d 153) 22 25 [o0, o1, o2, some (xw x3)] [s0] (X sc d 94 [xw x3, xw 0, xw 2] (T, z, xv V, J, R)) :=
  (sw_iload_n f_153_19 rfl).trans ((sw_iconst f_153_20).trans ((sw_iconst f_153_21).trans (st_callS' f_153_22 h_153_91 mn_94 rfl rfl rfl rfl)))
theorem bX7_missesShare_25 {o0 o1 o2 o3 : Option Value} {s1 : Value} {y0 : Int} (g1 : -2147483648 ≤ y0 ∧ y0 ≤ 2147483647) : XR sc d 153 25 [o0, o1, o2, o3] [xw y0, s1] (T, z, xv V, J, R) = if y0 = 0 then XR sc d 153 32 [o0, o1, o2, o3] [s1] (T, z, xv V, J, R) else XR sc d 153 28 [o0, o1, o2, o3] [s1] (T, z, xv V, J, R) :=
  sw_if_eq (t := 32) f_153_25 ⟨by decide, rfl⟩ g1
theorem bX7_missesShare_28 {o0 o1 o2 o3 : Option Value} {s0 : Value} : XR sc d 153 28 [o0, o1, o2, o3] [s0] (T, z, xv V, J, R) = XR sc d 153 33 [o0, o1, o2, o3] [xw 0, s0] (T, z, xv V, J, R) :=
  (sw_iconst f_153_28).trans (st_goto (t := 33) f_153_29 ⟨by decide, rfl⟩)
theorem bX7_missesShare_32 {o0 o1 o2 o3 : Option Value} {s0 : Value} : XR sc d 153 32 [o0, o1, o2, o3] [s0] (T, z, xv V, J, R) = XR sc d 153 33 [o0, o1, o2, o3] [xw 2, s0] (T, z, xv V, J, R) :=
  sw_iconst f_153_32
theorem bX7_missesShare_33 {o0 o1 o2 o3 : Option Value} {y0 : Int} {b1 : Nat} (g1 : T b1 = (8, 0)) : XR sc d 153 33 [o0, o1, o2, o3] [xw y0, .ref b1] (T, z, xv V, J, R) = xret 153 (XR sc d 153) 33 36 [o0, o1, o2, o3] [] (X sc d 93 [.ref b1, xw y0] (T, z, xv V, J, R)) :=
  st_callV' f_153_33 h_153_98 mn_93 rfl rfl rfl rfl mo_93 g1 rfl
theorem bX7_missesShare_36 {o0 o1 o2 o3 : Option Value} {y0 : Int} (g1 : y0 = 0 ∨ y0 = 1) : XR sc d 153 36 [o0, o1, o2, o3] [xw y0] (T, z, xv V, J, R) = some (.inl (some (xw y0)), (T, z, xv V, J, R)) :=
  sw_zreturn f_153_36 mr_153 g1
theorem eX7_share {x1 x2 x3 x4 : Int} {a0 : Nat} : X sc (d + 1) 154 [.ref a0, xw x1, xw x2, xw x3, xw x4] (T, z, xv V, J, R) = XR sc d 154 0 [some (.ref a0), some (xw x1), some (xw x2), some (xw x3), some (xw x4)] [] (T, z, xv V, J, R) :=
  (X_eq ⟨jl_154, by rw [mn_154]; rfl, rfl, by rw [lm_154]; exact Nat.le_of_ble_eq_true rfl⟩).trans (by unfold xent; rw [lm_154]; rfl)
theorem bX7_share_0 {o4 : Option Value} {x1 x2 x3 : Int} {a0 : Nat} (g1 : T a0 = (8, 0)) : XR sc d 154 0 [some (.ref a0), some (xw x1), some (xw x2), some (xw x3), o4] [] (T, z, xv V, J, R) = xret 154 (XR sc d 154) 4 7 [some (.ref a0), some (xw x1), some (xw x2), some (xw x3), o4] [] (X sc d 153 [.ref a0, xw x1, xw x2, xw x3] (T, z, xv V, J, R)) :=
  (st_aload_n f_154_0 rfl).trans ((sw_iload_n f_154_1 rfl).trans ((sw_iload_n f_154_2 rfl).trans ((sw_iload_n f_154_3 rfl).trans (st_callV' f_154_4 h_154_217 mn_153 rfl rfl rfl rfl mo_153 g1 rfl))))
theorem bX7_share_7 {o0 o1 o2 o3 o4 : Option Value} {y0 : Int} (g1 : -2147483648 ≤ y0 ∧ y0 ≤ 2147483647) : XR sc d 154 7 [o0, o1, o2, o3, o4] [xw y0] (T, z, xv V, J, R) = if y0 = 0 then XR sc d 154 14 [o0, o1, o2, o3, o4] [] (T, z, xv V, J, R) else XR sc d 154 10 [o0, o1, o2, o3, o4] [] (T, z, xv V, J, R) :=
  sw_if_eq (t := 14) f_154_7 ⟨by decide, rfl⟩ g1
theorem bX7_share_10 {o0 o1 o2 o3 o4 : Option Value} : XR sc d 154 10 [o0, o1, o2, o3, o4] [] (T, z, xv V, J, R) = XR sc d 154 27 [o0, o1, o2, o3, o4] [xw 0] (T, z, xv V, J, R) :=
  (sw_iconst f_154_10).trans (st_goto (t := 27) f_154_11 ⟨by decide, rfl⟩)
theorem bX7_share_14 {x1 x2 x3 x4 : Int} {a0 : Nat} (g1 : T a0 = (8, 0)) : XR sc d 154 14 [some (.ref a0), some (xw x1), some (xw x2), some (xw x3), some (xw x4)] [] (T, z, xv V, J, R) = xret 154 (XR sc d 154) 24 27 [some (.ref a0), some (xw x1), some (xw x2), some (xw x3), some (xw x4)] [] (X sc d 152 [.ref a0, xw ((7 * x1) + x2), xw x3, xw x4] (T, z, xv V, J, R)) :=
  (st_aload_n f_154_14 rfl).trans ((sw_bipush f_154_15 c8_7).trans ((sw_iload_n f_154_17 rfl).trans ((sw_imul f_154_18).trans ((sw_iload_n f_154_19 rfl).trans ((sw_iadd f_154_20).trans ((sw_iload_n f_154_21 rfl).trans ((sw_iload f_154_22 rfl).trans (st_callV' f_154_24 h_154_220 mn_152 rfl rfl rfl rfl mo_152 g1 rfl))))))))
theorem bX7_share_27 {o0 o1 o2 o3 o4 : Option Value} {y0 : Int} : XR sc d 154 27 [o0, o1, o2, o3, o4] [xw y0] (T, z, xv V, J, R) = some (.inl (some (xw y0)), (T, z, xv V, J, R)) :=
  sw_ireturn f_154_27 mr_154
theorem eX7_cause {x1 x2 x3 : Int} {a0 : Nat} : X sc (d + 1) 155 [.ref a0, xw x1, xw x2, xw x3] (T, z, xv V, J, R) = XR sc d 155 0 [some (.ref a0), some (xw x1), some (xw x2), some (xw x3), none, none, none] [] (T, z, xv V, J, R) :=
  (X_eq ⟨jl_155, by rw [mn_155]; rfl, rfl, by rw [lm_155]; exact Nat.le_of_ble_eq_true rfl⟩).trans (by unfold xent; rw [lm_155]; rfl)
theorem bX7_cause_0 {o4 o5 o6 : Option Value} {x1 x2 x3 : Int} {a0 : Nat} (g1 : T a0 = (8, 0)) : XR sc d 155 0 [some (.ref a0), some (xw x1), some (xw x2), some (xw x3), o4, o5, o6] [] (T, z, xv V, J, R) = xret 155 (XR sc d 155) 4 7 [some (.ref a0), some (xw x1), some (xw x2), some (xw x3), o4, o5, o6] [] (X sc d 153 [.ref a0, xw x1, xw x2, xw x3] (T, z, xv V, J, R)) :=
  (st_aload_n f_155_0 rfl).trans ((sw_iload_n f_155_1 rfl).trans ((sw_iload_n f_155_2 rfl).trans ((sw_iload_n f_155_3 rfl).trans (st_callV' f_155_4 h_155_217 mn_153 rfl rfl rfl rfl mo_153 g1 rfl))))
theorem bX7_cause_7 {o0 o1 o2 o3 o4 o5 o6 : Option Value} {y0 : Int} (g1 : -2147483648 ≤ y0 ∧ y0 ≤ 2147483647) : XR sc d 155 7 [o0, o1, o2, o3, o4, o5, o6] [xw y0] (T, z, xv V, J, R) = if y0 = 0 then XR sc d 155 12 [o0, o1, o2, o3, o4, o5, o6] [] (T, z, xv V, J, R) else XR sc d 155 10 [o0, o1, o2, o3, o4, o5, o6] [] (T, z, xv V, J, R) :=
  sw_if_eq (t := 12) f_155_7 ⟨by decide, rfl⟩ g1
theorem bX7_cause_10 {o0 o1 o2 o3 o4 o5 o6 : Option Value} : XR sc d 155 10 [o0, o1, o2, o3, o4, o5, o6] [] (T, z, xv V, J, R) = some (.inl (some (xw 0)), (T, z, xv V, J, R)) :=
  (sw_iconst f_155_10).trans (sw_ireturn f_155_11 mr_155)
theorem bX7_cause_12 {o0 o1 o2 o3 o4 o5 o6 : Option Value} : XR sc d 155 12 [o0, o1, o2, o3, o4, o5, o6] [] (T, z, xv V, J, R) = XR sc d 155 18 [o0, o1, o2, o3, some (xw (-1)), some (xw 0), o6] [] (T, z, xv V, J, R) :=
  (sw_iconst f_155_12).trans ((sw_istore (L' := [o0, o1, o2, o3, some (xw (-1)), o5, o6]) f_155_13 (Nat.le_of_ble_eq_true rfl) rfl).trans ((sw_iconst f_155_15).trans (sw_istore (L' := [o0, o1, o2, o3, some (xw (-1)), some (xw 0), o6]) f_155_16 (Nat.le_of_ble_eq_true rfl) rfl)))
theorem bX7_cause_18 {o0 o1 o2 o3 o4 o6 : Option Value} {x5 : Int} (g1 : -2147483648 ≤ x5 ∧ x5 ≤ 2147483647) : XR sc d 155 18 [o0, o1, o2, o3, o4, some (xw x5), o6] [] (T, z, xv V, J, R) = if 6 ≤ x5 then XR sc d 155 84 [o0, o1, o2, o3, o4, some (xw x5), o6] [] (T, z, xv V, J, R) else XR sc d 155 25 [o0, o1, o2, o3, o4, some (xw x5), o6] [] (T, z, xv V, J, R) :=
  (sw_iload f_155_18 rfl).trans ((sw_bipush f_155_20 c8_6).trans (sw_icmp_ge (t := 84) f_155_22 ⟨by decide, rfl⟩ g1 ⟨by decide, by decide⟩))
theorem bX7_cause_25 {o4 o6 : Option Value} {x1 x2 x3 x5 : Int} {a0 : Nat} (g1 : T a0 = (8, 0)) : XR sc d 155 25 [some (.ref a0), some (xw x1), some (xw x2), some (xw x3), o4, some (xw x5), o6] [] (T, z, xv V, J, R) = xret 155 (XR sc d 155) 35 38 [some (.ref a0), some (xw x1), some (xw x2), some (xw x3), o4, some (xw x5), o6] [] (X sc d 152 [.ref a0, xw ((7 * x1) + x2), xw x3, xw x5] (T, z, xv V, J, R)) :=
  (st_aload_n f_155_25 rfl).trans ((sw_bipush f_155_26 c8_7).trans ((sw_iload_n f_155_28 rfl).trans ((sw_imul f_155_29).trans ((sw_iload_n f_155_30 rfl).trans ((sw_iadd f_155_31).trans ((sw_iload_n f_155_32 rfl).trans ((sw_iload f_155_33 rfl).trans (st_callV' f_155_35 h_155_220 mn_152 rfl rfl rfl rfl mo_152 g1 rfl))))))))
theorem bX7_cause_38 {o0 o1 o2 o3 o4 o5 o6 : Option Value} {y0 : Int} (g1 : -2147483648 ≤ y0 ∧ y0 ≤ 2147483647) : XR sc d 155 38 [o0, o1, o2, o3, o4, o5, o6] [xw y0] (T, z, xv V, J, R) = if y0 ≤ 0 then XR sc d 155 74 [o0, o1, o2, o3, o4, o5, some (xw y0)] [] (T, z, xv V, J, R) else XR sc d 155 45 [o0, o1, o2, o3, o4, o5, some (xw y0)] [] (T, z, xv V, J, R) :=
  (sw_istore (L' := [o0, o1, o2, o3, o4, o5, some (xw y0)]) f_155_38 (Nat.le_of_ble_eq_true rfl) rfl).trans ((sw_iload f_155_40 rfl).trans (sw_if_le (t := 74) f_155_42 ⟨by decide, rfl⟩ g1))
theorem bX7_cause_45 {o0 o1 o2 o3 o5 o6 : Option Value} {x4 : Int} (g1 : -2147483648 ≤ x4 ∧ x4 ≤ 2147483647) : XR sc d 155 45 [o0, o1, o2, o3, some (xw x4), o5, o6] [] (T, z, xv V, J, R) = if x4 = (-1) then XR sc d 155 69 [o0, o1, o2, o3, some (xw x4), o5, o6] [] (T, z, xv V, J, R) else XR sc d 155 51 [o0, o1, o2, o3, some (xw x4), o5, o6] [] (T, z, xv V, J, R) :=
  (sw_iload f_155_45 rfl).trans ((sw_iconst f_155_47).trans (sw_icmp_eq (t := 69) f_155_48 ⟨by decide, rfl⟩ g1 ⟨by decide, by decide⟩))
theorem bX7_cause_51 {o5 : Option Value} {x6 x1 x2 x3 x4 : Int} {a0 : Nat} (g1 : T a0 = (8, 0)) : XR sc d 155 51 [some (.ref a0), some (xw x1), some (xw x2), some (xw x3), some (xw x4), o5, some (xw x6)] [] (T, z, xv V, J, R) = xret 155 (XR sc d 155) 63 66 [some (.ref a0), some (xw x1), some (xw x2), some (xw x3), some (xw x4), o5, some (xw x6)] [xw x6] (X sc d 152 [.ref a0, xw ((7 * x1) + x2), xw x3, xw x4] (T, z, xv V, J, R)) :=
  (sw_iload f_155_51 rfl).trans ((st_aload_n f_155_53 rfl).trans ((sw_bipush f_155_54 c8_7).trans ((sw_iload_n f_155_56 rfl).trans ((sw_imul f_155_57).trans ((sw_iload_n f_155_58 rfl).trans ((sw_iadd f_155_59).trans ((sw_iload_n f_155_60 rfl).trans ((sw_iload f_155_61 rfl).trans (st_callV' f_155_63 h_155_220 mn_152 rfl rfl rfl rfl mo_152 g1 rfl)))))))))
theorem bX7_cause_66 {o0 o1 o2 o3 o4 o5 o6 : Option Value} {y0 y1 : Int} (g1 : -2147483648 ≤ y1 ∧ y1 ≤ 2147483647) (g2 : -2147483648 ≤ y0 ∧ y0 ≤ 2147483647) : XR sc d 155 66 [o0, o1, o2, o3, o4, o5, o6] [xw y0, xw y1] (T, z, xv V, J, R) = if y1 ≤ y0 then XR sc d 155 74 [o0, o1, o2, o3, o4, o5, o6] [] (T, z, xv V, J, R) else XR sc d 155 69 [o0, o1, o2, o3, o4, o5, o6] [] (T, z, xv V, J, R) :=
  sw_icmp_le (t := 74) f_155_66 ⟨by decide, rfl⟩ g1 g2
theorem bX7_cause_69 {o0 o1 o2 o3 o4 o6 : Option Value} {x5 : Int} : XR sc d 155 69 [o0, o1, o2, o3, o4, some (xw x5), o6] [] (T, z, xv V, J, R) = XR sc d 155 76 [o0, o1, o2, o3, o4, some (xw x5), o6] [xw x5] (T, z, xv V, J, R) :=
  (sw_iload f_155_69 rfl).trans (st_goto (t := 76) f_155_71 ⟨by decide, rfl⟩)
theorem bX7_cause_74 {o0 o1 o2 o3 o5 o6 : Option Value} {x4 : Int} : XR sc d 155 74 [o0, o1, o2, o3, some (xw x4), o5, o6] [] (T, z, xv V, J, R) = XR sc d 155 76 [o0, o1, o2, o3, some (xw x4), o5, o6] [xw x4] (T, z, xv V, J, R) :=
  sw_iload f_155_74 rfl
theorem bX7_cause_76 {o0 o1 o2 o3 o4 o6 : Option Value} {y0 x5 : Int} : XR sc d 155 76 [o0, o1, o2, o3, o4, some (xw x5), o6] [xw y0] (T, z, xv V, J, R) = XR sc d 155 18 [o0, o1, o2, o3, some (xw y0), some (xw (x5 + 1)), o6] [] (T, z, xv V, J, R) :=
  (sw_istore (L' := [o0, o1, o2, o3, some (xw y0), some (xw x5), o6]) f_155_76 (Nat.le_of_ble_eq_true rfl) rfl).trans ((sw_iinc (L' := [o0, o1, o2, o3, some (xw y0), some (xw (x5 + 1)), o6]) f_155_78 rfl (Nat.le_of_ble_eq_true rfl) rfl).trans (st_goto (t := 18) f_155_81 ⟨by decide, rfl⟩))
theorem bX7_cause_84 {o0 o1 o2 o3 o5 o6 : Option Value} {x4 : Int} : XR sc d 155 84 [o0, o1, o2, o3, some (xw x4), o5, o6] [] (T, z, xv V, J, R) = some (.inl (some (xw x4)), (T, z, xv V, J, R)) :=
  (sw_iload f_155_84 rfl).trans (sw_ireturn f_155_86 mr_155)
theorem eX7_rides {a0 : Nat} : X sc (d + 1) 156 [.ref a0] (T, z, xv V, J, R) = XR sc d 156 0 [some (.ref a0)] [] (T, z, xv V, J, R) :=
  (X_eq ⟨jl_156, by rw [mn_156]; rfl, rfl, by rw [lm_156]; exact Nat.le_of_ble_eq_true rfl⟩).trans (by unfold xent; rw [lm_156]; rfl)
theorem bX7_rides_0 {a0 : Nat} (g1 : T a0 = (8, 0)) : XR sc d 156 0 [some (.ref a0)] [] (T, z, xv V, J, R) = some (.inl (some (xw ((xup2 V a0 28 0) a0 24))), (T, z, xv (xup2 V a0 28 0), J, R)) :=
  (st_aload_n f_156_0 rfl).trans ((sw_iconst f_156_1).trans ((sw_putI f_156_2 e_156_84 (Or.inl rfl) (Or.inl rfl) g1).trans ((st_aload_n f_156_5 rfl).trans ((sw_getI f_156_6 e_156_214 (by decide) g1).trans (sw_ireturn f_156_9 mr_156)))))
end BLK
