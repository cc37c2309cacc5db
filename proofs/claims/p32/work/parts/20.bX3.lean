/-! instructions, by program (gen2.py) -/
set_option maxRecDepth 100000 in
theorem f_24_0 : xft 24 0 = some (.aload_n 0) := by decide +kernel
set_option maxRecDepth 100000 in
theorem f_24_1 : xft 24 1 = some (.invokespecial 3) := by decide +kernel
set_option maxRecDepth 100000 in
theorem f_24_4 : xft 24 4 = some (.aload_n 0) := by decide +kernel
set_option maxRecDepth 100000 in
theorem f_24_5 : xft 24 5 = some (.bipush 64) := by decide +kernel
set_option maxRecDepth 100000 in
theorem f_24_7 : xft 24 7 = some (.newarray .int) := by decide +kernel
set_option maxRecDepth 100000 in
theorem f_24_9 : xft 24 9 = some (.putfield 9) := by decide +kernel
set_option maxRecDepth 100000 in
theorem f_24_12 : xft 24 12 = some (.aload_n 0) := by decide +kernel
set_option maxRecDepth 100000 in
theorem f_24_13 : xft 24 13 = some (.bipush 64) := by decide +kernel
set_option maxRecDepth 100000 in
theorem f_24_15 : xft 24 15 = some (.newarray .int) := by decide +kernel
set_option maxRecDepth 100000 in
theorem f_24_17 : xft 24 17 = some (.putfield 15) := by decide +kernel
set_option maxRecDepth 100000 in
theorem f_24_20 : xft 24 20 = some (.aload_n 0) := by decide +kernel
set_option maxRecDepth 100000 in
theorem f_24_21 : xft 24 21 = some (.bipush 64) := by decide +kernel
set_option maxRecDepth 100000 in
theorem f_24_23 : xft 24 23 = some (.newarray .boolean) := by decide +kernel
set_option maxRecDepth 100000 in
theorem f_24_25 : xft 24 25 = some (.putfield 18) := by decide +kernel
set_option maxRecDepth 100000 in
theorem f_24_28 : xft 24 28 = some (.aload_n 0) := by decide +kernel
set_option maxRecDepth 100000 in
theorem f_24_29 : xft 24 29 = some (.bipush 8) := by decide +kernel
set_option maxRecDepth 100000 in
theorem f_24_31 : xft 24 31 = some (.newarray .int) := by decide +kernel
set_option maxRecDepth 100000 in
theorem f_24_33 : xft 24 33 = some (.putfield 22) := by decide +kernel
set_option maxRecDepth 100000 in
theorem f_24_36 : xft 24 36 = some (.aload_n 0) := by decide +kernel
set_option maxRecDepth 100000 in
theorem f_24_37 : xft 24 37 = some (.bipush 8) := by decide +kernel
set_option maxRecDepth 100000 in
theorem f_24_39 : xft 24 39 = some (.newarray .int) := by decide +kernel
set_option maxRecDepth 100000 in
theorem f_24_41 : xft 24 41 = some (.putfield 25) := by decide +kernel
set_option maxRecDepth 100000 in
theorem f_24_44 : xft 24 44 = some (.return_) := by decide +kernel
set_option maxRecDepth 100000 in
theorem f_25_0 : xft 25 0 = some (.aload_n 0) := by decide +kernel
set_option maxRecDepth 100000 in
theorem f_25_1 : xft 25 1 = some (.invokevirtual 28) := by decide +kernel
set_option maxRecDepth 100000 in
theorem f_25_4 : xft 25 4 = some (.aload_n 1) := by decide +kernel
set_option maxRecDepth 100000 in
theorem f_25_5 : xft 25 5 = some (.astore 4) := by decide +kernel
set_option maxRecDepth 100000 in
theorem f_25_7 : xft 25 7 = some (.aload 4) := by decide +kernel
set_option maxRecDepth 100000 in
theorem f_25_9 : xft 25 9 = some (.arraylength) := by decide +kernel
set_option maxRecDepth 100000 in
theorem f_25_10 : xft 25 10 = some (.istore 5) := by decide +kernel
set_option maxRecDepth 100000 in
theorem f_25_12 : xft 25 12 = some (.iconst 0) := by decide +kernel
set_option maxRecDepth 100000 in
theorem f_25_13 : xft 25 13 = some (.istore 6) := by decide +kernel
set_option maxRecDepth 100000 in
theorem f_25_15 : xft 25 15 = some (.iload 6) := by decide +kernel
set_option maxRecDepth 100000 in
theorem f_25_17 : xft 25 17 = some (.iload 5) := by decide +kernel
set_option maxRecDepth 100000 in
theorem f_25_19 : xft 25 19 = some (.if_icmp .ge 73) := by decide +kernel
set_option maxRecDepth 100000 in
theorem f_25_22 : xft 25 22 = some (.aload 4) := by decide +kernel
set_option maxRecDepth 100000 in
theorem f_25_24 : xft 25 24 = some (.iload 6) := by decide +kernel
set_option maxRecDepth 100000 in
theorem f_25_26 : xft 25 26 = some (.aaload) := by decide +kernel
set_option maxRecDepth 100000 in
theorem f_25_27 : xft 25 27 = some (.astore 7) := by decide +kernel
set_option maxRecDepth 100000 in
theorem f_25_29 : xft 25 29 = some (.aload 7) := by decide +kernel
set_option maxRecDepth 100000 in
theorem f_25_31 : xft 25 31 = some (.ifnull 55) := by decide +kernel
set_option maxRecDepth 100000 in
theorem f_25_34 : xft 25 34 = some (.aload 7) := by decide +kernel
set_option maxRecDepth 100000 in
theorem f_25_36 : xft 25 36 = some (.invokevirtual 31) := by decide +kernel
set_option maxRecDepth 100000 in
theorem f_25_39 : xft 25 39 = some (.ifCond .eq 47) := by decide +kernel
set_option maxRecDepth 100000 in
theorem f_25_42 : xft 25 42 = some (.aload_n 0) := by decide +kernel
set_option maxRecDepth 100000 in
theorem f_25_43 : xft 25 43 = some (.aload 7) := by decide +kernel
set_option maxRecDepth 100000 in
theorem f_25_45 : xft 25 45 = some (.getfield 37) := by decide +kernel
set_option maxRecDepth 100000 in
theorem f_25_48 : xft 25 48 = some (.aload 7) := by decide +kernel
set_option maxRecDepth 100000 in
theorem f_25_50 : xft 25 50 = some (.getfield 41) := by decide +kernel
set_option maxRecDepth 100000 in
theorem f_25_53 : xft 25 53 = some (.invokestatic 44) := by decide +kernel
set_option maxRecDepth 100000 in
theorem f_25_56 : xft 25 56 = some (.aload 7) := by decide +kernel
set_option maxRecDepth 100000 in
theorem f_25_58 : xft 25 58 = some (.getfield 48) := by decide +kernel
set_option maxRecDepth 100000 in
theorem f_25_61 : xft 25 61 = some (.invokevirtual 51) := by decide +kernel
set_option maxRecDepth 100000 in
theorem f_25_64 : xft 25 64 = some (.aload_n 0) := by decide +kernel
set_option maxRecDepth 100000 in
theorem f_25_65 : xft 25 65 = some (.aload 7) := by decide +kernel
set_option maxRecDepth 100000 in
theorem f_25_67 : xft 25 67 = some (.getfield 41) := by decide +kernel
set_option maxRecDepth 100000 in
theorem f_25_70 : xft 25 70 = some (.aload 7) := by decide +kernel
set_option maxRecDepth 100000 in
theorem f_25_72 : xft 25 72 = some (.getfield 37) := by decide +kernel
set_option maxRecDepth 100000 in
theorem f_25_75 : xft 25 75 = some (.invokestatic 44) := by decide +kernel
set_option maxRecDepth 100000 in
theorem f_25_78 : xft 25 78 = some (.aload 7) := by decide +kernel
set_option maxRecDepth 100000 in
theorem f_25_80 : xft 25 80 = some (.getfield 48) := by decide +kernel
set_option maxRecDepth 100000 in
theorem f_25_83 : xft 25 83 = some (.invokevirtual 51) := by decide +kernel
set_option maxRecDepth 100000 in
theorem f_25_86 : xft 25 86 = some (.iinc 6 1) := by decide +kernel
set_option maxRecDepth 100000 in
theorem f_25_89 : xft 25 89 = some (.goto (-74)) := by decide +kernel
set_option maxRecDepth 100000 in
theorem f_25_92 : xft 25 92 = some (.aload_n 0) := by decide +kernel
set_option maxRecDepth 100000 in
theorem f_25_93 : xft 25 93 = some (.iload_n 3) := by decide +kernel
set_option maxRecDepth 100000 in
theorem f_25_94 : xft 25 94 = some (.invokevirtual 55) := by decide +kernel
set_option maxRecDepth 100000 in
theorem f_25_97 : xft 25 97 = some (.aload_n 0) := by decide +kernel
set_option maxRecDepth 100000 in
theorem f_25_98 : xft 25 98 = some (.iload_n 2) := by decide +kernel
set_option maxRecDepth 100000 in
theorem f_25_99 : xft 25 99 = some (.iload_n 3) := by decide +kernel
set_option maxRecDepth 100000 in
theorem f_25_100 : xft 25 100 = some (.invokevirtual 59) := by decide +kernel
set_option maxRecDepth 100000 in
theorem f_25_103 : xft 25 103 = some (.return_) := by decide +kernel
set_option maxRecDepth 100000 in
theorem f_26_0 : xft 26 0 = some (.aload_n 0) := by decide +kernel
set_option maxRecDepth 100000 in
theorem f_26_1 : xft 26 1 = some (.getfield 62) := by decide +kernel
set_option maxRecDepth 100000 in
theorem f_26_4 : xft 26 4 = some (.ifCond .le 7) := by decide +kernel
set_option maxRecDepth 100000 in
theorem f_26_7 : xft 26 7 = some (.iconst 1) := by decide +kernel
set_option maxRecDepth 100000 in
theorem f_26_8 : xft 26 8 = some (.goto 4) := by decide +kernel
set_option maxRecDepth 100000 in
theorem f_26_11 : xft 26 11 = some (.iconst 0) := by decide +kernel
set_option maxRecDepth 100000 in
theorem f_26_12 : xft 26 12 = some (.ireturn) := by decide +kernel
set_option maxRecDepth 100000 in
theorem f_27_0 : xft 27 0 = some (.iload_n 1) := by decide +kernel
set_option maxRecDepth 100000 in
theorem f_27_1 : xft 27 1 = some (.ifCond .lt 29) := by decide +kernel
set_option maxRecDepth 100000 in
theorem f_27_4 : xft 27 4 = some (.iload_n 1) := by decide +kernel
set_option maxRecDepth 100000 in
theorem f_27_5 : xft 27 5 = some (.aload_n 0) := by decide +kernel
set_option maxRecDepth 100000 in
theorem f_27_6 : xft 27 6 = some (.getfield 62) := by decide +kernel
set_option maxRecDepth 100000 in
theorem f_27_9 : xft 27 9 = some (.if_icmp .ge 21) := by decide +kernel
set_option maxRecDepth 100000 in
theorem f_27_12 : xft 27 12 = some (.iload_n 1) := by decide +kernel
set_option maxRecDepth 100000 in
theorem f_27_13 : xft 27 13 = some (.aload_n 0) := by decide +kernel
set_option maxRecDepth 100000 in
theorem f_27_14 : xft 27 14 = some (.getfield 25) := by decide +kernel
set_option maxRecDepth 100000 in
theorem f_27_17 : xft 27 17 = some (.arraylength) := by decide +kernel
set_option maxRecDepth 100000 in
theorem f_27_18 : xft 27 18 = some (.if_icmp .ge 12) := by decide +kernel
set_option maxRecDepth 100000 in
theorem f_27_21 : xft 27 21 = some (.aload_n 0) := by decide +kernel
set_option maxRecDepth 100000 in
theorem f_27_22 : xft 27 22 = some (.getfield 25) := by decide +kernel
set_option maxRecDepth 100000 in
theorem f_27_25 : xft 27 25 = some (.iload_n 1) := by decide +kernel
set_option maxRecDepth 100000 in
theorem f_27_26 : xft 27 26 = some (.iaload) := by decide +kernel
set_option maxRecDepth 100000 in
theorem f_27_27 : xft 27 27 = some (.goto 4) := by decide +kernel
set_option maxRecDepth 100000 in
theorem f_27_30 : xft 27 30 = some (.iconst (-1)) := by decide +kernel
set_option maxRecDepth 100000 in
theorem f_27_31 : xft 27 31 = some (.ireturn) := by decide +kernel
set_option maxRecDepth 100000 in
theorem f_28_0 : xft 28 0 = some (.aload_n 1) := by decide +kernel
set_option maxRecDepth 100000 in
theorem f_28_1 : xft 28 1 = some (.invokevirtual 31) := by decide +kernel
set_option maxRecDepth 100000 in
theorem f_28_4 : xft 28 4 = some (.ifCond .ne 5) := by decide +kernel
set_option maxRecDepth 100000 in
theorem f_28_7 : xft 28 7 = some (.iconst 0) := by decide +kernel
set_option maxRecDepth 100000 in
theorem f_28_8 : xft 28 8 = some (.ireturn) := by decide +kernel
set_option maxRecDepth 100000 in
theorem f_28_9 : xft 28 9 = some (.aload_n 1) := by decide +kernel
set_option maxRecDepth 100000 in
theorem f_28_10 : xft 28 10 = some (.getfield 37) := by decide +kernel
set_option maxRecDepth 100000 in
theorem f_28_13 : xft 28 13 = some (.aload_n 1) := by decide +kernel
set_option maxRecDepth 100000 in
theorem f_28_14 : xft 28 14 = some (.getfield 41) := by decide +kernel
set_option maxRecDepth 100000 in
theorem f_28_17 : xft 28 17 = some (.invokestatic 44) := by decide +kernel
set_option maxRecDepth 100000 in
theorem f_28_20 : xft 28 20 = some (.istore_n 2) := by decide +kernel
set_option maxRecDepth 100000 in
theorem f_28_21 : xft 28 21 = some (.aload_n 0) := by decide +kernel
set_option maxRecDepth 100000 in
theorem f_28_22 : xft 28 22 = some (.getfield 18) := by decide +kernel
set_option maxRecDepth 100000 in
theorem f_28_25 : xft 28 25 = some (.iload_n 2) := by decide +kernel
set_option maxRecDepth 100000 in
theorem f_28_26 : xft 28 26 = some (.baload) := by decide +kernel
set_option maxRecDepth 100000 in
theorem f_28_27 : xft 28 27 = some (.ifCond .eq 20) := by decide +kernel
set_option maxRecDepth 100000 in
theorem f_28_30 : xft 28 30 = some (.aload_n 1) := by decide +kernel
set_option maxRecDepth 100000 in
theorem f_28_31 : xft 28 31 = some (.getfield 48) := by decide +kernel
set_option maxRecDepth 100000 in
theorem f_28_34 : xft 28 34 = some (.aload_n 0) := by decide +kernel
set_option maxRecDepth 100000 in
theorem f_28_35 : xft 28 35 = some (.getfield 9) := by decide +kernel
set_option maxRecDepth 100000 in
theorem f_28_38 : xft 28 38 = some (.iload_n 2) := by decide +kernel
set_option maxRecDepth 100000 in
theorem f_28_39 : xft 28 39 = some (.iaload) := by decide +kernel
set_option maxRecDepth 100000 in
theorem f_28_40 : xft 28 40 = some (.if_icmp .ne 7) := by decide +kernel
set_option maxRecDepth 100000 in
theorem f_28_43 : xft 28 43 = some (.iconst 1) := by decide +kernel
set_option maxRecDepth 100000 in
theorem f_28_44 : xft 28 44 = some (.goto 4) := by decide +kernel
set_option maxRecDepth 100000 in
theorem f_28_47 : xft 28 47 = some (.iconst 0) := by decide +kernel
set_option maxRecDepth 100000 in
theorem f_28_48 : xft 28 48 = some (.ireturn) := by decide +kernel
set_option maxRecDepth 100000 in
theorem f_29_0 : xft 29 0 = some (.aload_n 0) := by decide +kernel
set_option maxRecDepth 100000 in
theorem f_29_1 : xft 29 1 = some (.aload_n 1) := by decide +kernel
set_option maxRecDepth 100000 in
theorem f_29_2 : xft 29 2 = some (.invokevirtual 65) := by decide +kernel
set_option maxRecDepth 100000 in
theorem f_29_5 : xft 29 5 = some (.ifCond .eq 22) := by decide +kernel
set_option maxRecDepth 100000 in
theorem f_29_8 : xft 29 8 = some (.aload_n 0) := by decide +kernel
set_option maxRecDepth 100000 in
theorem f_29_9 : xft 29 9 = some (.getfield 15) := by decide +kernel
set_option maxRecDepth 100000 in
theorem f_29_12 : xft 29 12 = some (.aload_n 1) := by decide +kernel
set_option maxRecDepth 100000 in
theorem f_29_13 : xft 29 13 = some (.getfield 37) := by decide +kernel
set_option maxRecDepth 100000 in
theorem f_29_16 : xft 29 16 = some (.aload_n 1) := by decide +kernel
set_option maxRecDepth 100000 in
theorem f_29_17 : xft 29 17 = some (.getfield 41) := by decide +kernel
set_option maxRecDepth 100000 in
theorem f_29_20 : xft 29 20 = some (.invokestatic 44) := by decide +kernel
set_option maxRecDepth 100000 in
theorem f_29_23 : xft 29 23 = some (.iaload) := by decide +kernel
set_option maxRecDepth 100000 in
theorem f_29_24 : xft 29 24 = some (.goto 4) := by decide +kernel
set_option maxRecDepth 100000 in
theorem f_29_27 : xft 29 27 = some (.iconst 0) := by decide +kernel
set_option maxRecDepth 100000 in
theorem f_29_28 : xft 29 28 = some (.istore_n 3) := by decide +kernel
set_option maxRecDepth 100000 in
theorem f_29_29 : xft 29 29 = some (.iload_n 3) := by decide +kernel
set_option maxRecDepth 100000 in
theorem f_29_30 : xft 29 30 = some (.ifCond .le 13) := by decide +kernel
set_option maxRecDepth 100000 in
theorem f_29_33 : xft 29 33 = some (.iload_n 2) := by decide +kernel
set_option maxRecDepth 100000 in
theorem f_29_34 : xft 29 34 = some (.iload_n 3) := by decide +kernel
set_option maxRecDepth 100000 in
theorem f_29_35 : xft 29 35 = some (.iadd) := by decide +kernel
set_option maxRecDepth 100000 in
theorem f_29_36 : xft 29 36 = some (.iconst 1) := by decide +kernel
set_option maxRecDepth 100000 in
theorem f_29_37 : xft 29 37 = some (.isub) := by decide +kernel
set_option maxRecDepth 100000 in
theorem f_29_38 : xft 29 38 = some (.iload_n 3) := by decide +kernel
set_option maxRecDepth 100000 in
theorem f_29_39 : xft 29 39 = some (.idiv) := by decide +kernel
set_option maxRecDepth 100000 in
theorem f_29_40 : xft 29 40 = some (.goto 4) := by decide +kernel
set_option maxRecDepth 100000 in
theorem f_29_43 : xft 29 43 = some (.iconst 0) := by decide +kernel
set_option maxRecDepth 100000 in
theorem f_29_44 : xft 29 44 = some (.ireturn) := by decide +kernel
set_option maxRecDepth 100000 in
theorem f_30_0 : xft 30 0 = some (.aload_n 0) := by decide +kernel
set_option maxRecDepth 100000 in
theorem f_30_1 : xft 30 1 = some (.aload_n 1) := by decide +kernel
set_option maxRecDepth 100000 in
theorem f_30_2 : xft 30 2 = some (.invokevirtual 65) := by decide +kernel
set_option maxRecDepth 100000 in
theorem f_30_5 : xft 30 5 = some (.ifCond .eq 22) := by decide +kernel
set_option maxRecDepth 100000 in
theorem f_30_8 : xft 30 8 = some (.aload_n 0) := by decide +kernel
set_option maxRecDepth 100000 in
theorem f_30_9 : xft 30 9 = some (.getfield 15) := by decide +kernel
set_option maxRecDepth 100000 in
theorem f_30_12 : xft 30 12 = some (.aload_n 1) := by decide +kernel
set_option maxRecDepth 100000 in
theorem f_30_13 : xft 30 13 = some (.getfield 37) := by decide +kernel
set_option maxRecDepth 100000 in
theorem f_30_16 : xft 30 16 = some (.aload_n 1) := by decide +kernel
set_option maxRecDepth 100000 in
theorem f_30_17 : xft 30 17 = some (.getfield 41) := by decide +kernel
set_option maxRecDepth 100000 in
theorem f_30_20 : xft 30 20 = some (.invokestatic 44) := by decide +kernel
set_option maxRecDepth 100000 in
theorem f_30_23 : xft 30 23 = some (.iaload) := by decide +kernel
set_option maxRecDepth 100000 in
theorem f_30_24 : xft 30 24 = some (.goto 4) := by decide +kernel
set_option maxRecDepth 100000 in
theorem f_30_27 : xft 30 27 = some (.iconst 0) := by decide +kernel
set_option maxRecDepth 100000 in
theorem f_30_28 : xft 30 28 = some (.istore_n 2) := by decide +kernel
set_option maxRecDepth 100000 in
theorem f_30_29 : xft 30 29 = some (.iload_n 2) := by decide +kernel
set_option maxRecDepth 100000 in
theorem f_30_30 : xft 30 30 = some (.aload_n 1) := by decide +kernel
set_option maxRecDepth 100000 in
theorem f_30_31 : xft 30 31 = some (.invokevirtual 69) := by decide +kernel
set_option maxRecDepth 100000 in
theorem f_30_34 : xft 30 34 = some (.imul) := by decide +kernel
set_option maxRecDepth 100000 in
theorem f_30_35 : xft 30 35 = some (.ireturn) := by decide +kernel
set_option maxRecDepth 100000 in
theorem f_31_0 : xft 31 0 = some (.iload_n 0) := by decide +kernel
set_option maxRecDepth 100000 in
theorem f_31_1 : xft 31 1 = some (.bipush 8) := by decide +kernel
set_option maxRecDepth 100000 in
theorem f_31_3 : xft 31 3 = some (.imul) := by decide +kernel
set_option maxRecDepth 100000 in
theorem f_31_4 : xft 31 4 = some (.iload_n 1) := by decide +kernel
set_option maxRecDepth 100000 in
theorem f_31_5 : xft 31 5 = some (.iadd) := by decide +kernel
set_option maxRecDepth 100000 in
theorem f_31_6 : xft 31 6 = some (.ireturn) := by decide +kernel
set_option maxRecDepth 100000 in
theorem f_32_0 : xft 32 0 = some (.iconst 0) := by decide +kernel
set_option maxRecDepth 100000 in
theorem f_32_1 : xft 32 1 = some (.istore_n 1) := by decide +kernel
set_option maxRecDepth 100000 in
theorem f_32_2 : xft 32 2 = some (.iload_n 1) := by decide +kernel
set_option maxRecDepth 100000 in
theorem f_32_3 : xft 32 3 = some (.bipush 64) := by decide +kernel
set_option maxRecDepth 100000 in
theorem f_32_5 : xft 32 5 = some (.if_icmp .ge 30) := by decide +kernel
set_option maxRecDepth 100000 in
theorem f_32_8 : xft 32 8 = some (.aload_n 0) := by decide +kernel
set_option maxRecDepth 100000 in
theorem f_32_9 : xft 32 9 = some (.getfield 9) := by decide +kernel
set_option maxRecDepth 100000 in
theorem f_32_12 : xft 32 12 = some (.iload_n 1) := by decide +kernel
set_option maxRecDepth 100000 in
theorem f_32_13 : xft 32 13 = some (.iconst 0) := by decide +kernel
set_option maxRecDepth 100000 in
theorem f_32_14 : xft 32 14 = some (.iastore) := by decide +kernel
set_option maxRecDepth 100000 in
theorem f_32_15 : xft 32 15 = some (.aload_n 0) := by decide +kernel
set_option maxRecDepth 100000 in
theorem f_32_16 : xft 32 16 = some (.getfield 15) := by decide +kernel
set_option maxRecDepth 100000 in
theorem f_32_19 : xft 32 19 = some (.iload_n 1) := by decide +kernel
set_option maxRecDepth 100000 in
theorem f_32_20 : xft 32 20 = some (.iconst 0) := by decide +kernel
set_option maxRecDepth 100000 in
theorem f_32_21 : xft 32 21 = some (.iastore) := by decide +kernel
set_option maxRecDepth 100000 in
theorem f_32_22 : xft 32 22 = some (.aload_n 0) := by decide +kernel
set_option maxRecDepth 100000 in
theorem f_32_23 : xft 32 23 = some (.getfield 18) := by decide +kernel
set_option maxRecDepth 100000 in
theorem f_32_26 : xft 32 26 = some (.iload_n 1) := by decide +kernel
set_option maxRecDepth 100000 in
theorem f_32_27 : xft 32 27 = some (.iconst 0) := by decide +kernel
set_option maxRecDepth 100000 in
theorem f_32_28 : xft 32 28 = some (.bastore) := by decide +kernel
set_option maxRecDepth 100000 in
theorem f_32_29 : xft 32 29 = some (.iinc 1 1) := by decide +kernel
set_option maxRecDepth 100000 in
theorem f_32_32 : xft 32 32 = some (.goto (-30)) := by decide +kernel
set_option maxRecDepth 100000 in
theorem f_32_35 : xft 32 35 = some (.aload_n 0) := by decide +kernel
set_option maxRecDepth 100000 in
theorem f_32_36 : xft 32 36 = some (.iconst 0) := by decide +kernel
set_option maxRecDepth 100000 in
theorem f_32_37 : xft 32 37 = some (.putfield 62) := by decide +kernel
set_option maxRecDepth 100000 in
theorem f_32_40 : xft 32 40 = some (.return_) := by decide +kernel
set_option maxRecDepth 100000 in
theorem f_33_0 : xft 33 0 = some (.aload_n 0) := by decide +kernel
set_option maxRecDepth 100000 in
theorem f_33_1 : xft 33 1 = some (.getfield 9) := by decide +kernel
set_option maxRecDepth 100000 in
theorem f_33_4 : xft 33 4 = some (.iload_n 1) := by decide +kernel
set_option maxRecDepth 100000 in
theorem f_33_5 : xft 33 5 = some (.iaload) := by decide +kernel
set_option maxRecDepth 100000 in
theorem f_33_6 : xft 33 6 = some (.ifCond .eq 13) := by decide +kernel
set_option maxRecDepth 100000 in
theorem f_33_9 : xft 33 9 = some (.iload_n 2) := by decide +kernel
set_option maxRecDepth 100000 in
theorem f_33_10 : xft 33 10 = some (.aload_n 0) := by decide +kernel
set_option maxRecDepth 100000 in
theorem f_33_11 : xft 33 11 = some (.getfield 9) := by decide +kernel
set_option maxRecDepth 100000 in
theorem f_33_14 : xft 33 14 = some (.iload_n 1) := by decide +kernel
set_option maxRecDepth 100000 in
theorem f_33_15 : xft 33 15 = some (.iaload) := by decide +kernel
set_option maxRecDepth 100000 in
theorem f_33_16 : xft 33 16 = some (.if_icmp .ge 17) := by decide +kernel
set_option maxRecDepth 100000 in
theorem f_33_19 : xft 33 19 = some (.aload_n 0) := by decide +kernel
set_option maxRecDepth 100000 in
theorem f_33_20 : xft 33 20 = some (.getfield 9) := by decide +kernel
set_option maxRecDepth 100000 in
theorem f_33_23 : xft 33 23 = some (.iload_n 1) := by decide +kernel
set_option maxRecDepth 100000 in
theorem f_33_24 : xft 33 24 = some (.iload_n 2) := by decide +kernel
set_option maxRecDepth 100000 in
theorem f_33_25 : xft 33 25 = some (.iastore) := by decide +kernel
set_option maxRecDepth 100000 in
theorem f_33_26 : xft 33 26 = some (.aload_n 0) := by decide +kernel
set_option maxRecDepth 100000 in
theorem f_33_27 : xft 33 27 = some (.getfield 15) := by decide +kernel
set_option maxRecDepth 100000 in
theorem f_33_30 : xft 33 30 = some (.iload_n 1) := by decide +kernel
set_option maxRecDepth 100000 in
theorem f_33_31 : xft 33 31 = some (.iconst 0) := by decide +kernel
set_option maxRecDepth 100000 in
theorem f_33_32 : xft 33 32 = some (.iastore) := by decide +kernel
set_option maxRecDepth 100000 in
theorem f_33_33 : xft 33 33 = some (.iload_n 2) := by decide +kernel
set_option maxRecDepth 100000 in
theorem f_33_34 : xft 33 34 = some (.aload_n 0) := by decide +kernel
set_option maxRecDepth 100000 in
theorem f_33_35 : xft 33 35 = some (.getfield 9) := by decide +kernel
set_option maxRecDepth 100000 in
theorem f_33_38 : xft 33 38 = some (.iload_n 1) := by decide +kernel
set_option maxRecDepth 100000 in
theorem f_33_39 : xft 33 39 = some (.iaload) := by decide +kernel
set_option maxRecDepth 100000 in
theorem f_33_40 : xft 33 40 = some (.if_icmp .ne 13) := by decide +kernel
set_option maxRecDepth 100000 in
theorem f_33_43 : xft 33 43 = some (.aload_n 0) := by decide +kernel
set_option maxRecDepth 100000 in
theorem f_33_44 : xft 33 44 = some (.getfield 15) := by decide +kernel
set_option maxRecDepth 100000 in
theorem f_33_47 : xft 33 47 = some (.iload_n 1) := by decide +kernel
set_option maxRecDepth 100000 in
theorem f_33_48 : xft 33 48 = some (.dup2) := by decide +kernel
set_option maxRecDepth 100000 in
theorem f_33_49 : xft 33 49 = some (.iaload) := by decide +kernel
set_option maxRecDepth 100000 in
theorem f_33_50 : xft 33 50 = some (.iconst 1) := by decide +kernel
set_option maxRecDepth 100000 in
theorem f_33_51 : xft 33 51 = some (.iadd) := by decide +kernel
set_option maxRecDepth 100000 in
theorem f_33_52 : xft 33 52 = some (.iastore) := by decide +kernel
set_option maxRecDepth 100000 in
theorem f_33_53 : xft 33 53 = some (.return_) := by decide +kernel
set_option maxRecDepth 100000 in
theorem f_34_0 : xft 34 0 = some (.iconst 0) := by decide +kernel
set_option maxRecDepth 100000 in
theorem f_34_1 : xft 34 1 = some (.istore_n 2) := by decide +kernel
set_option maxRecDepth 100000 in
theorem f_34_2 : xft 34 2 = some (.iload_n 2) := by decide +kernel
set_option maxRecDepth 100000 in
theorem f_34_3 : xft 34 3 = some (.bipush 8) := by decide +kernel
set_option maxRecDepth 100000 in
theorem f_34_5 : xft 34 5 = some (.if_icmp .ge 17) := by decide +kernel
set_option maxRecDepth 100000 in
theorem f_34_8 : xft 34 8 = some (.aload_n 0) := by decide +kernel
set_option maxRecDepth 100000 in
theorem f_34_9 : xft 34 9 = some (.getfield 22) := by decide +kernel
set_option maxRecDepth 100000 in
theorem f_34_12 : xft 34 12 = some (.iload_n 2) := by decide +kernel
set_option maxRecDepth 100000 in
theorem f_34_13 : xft 34 13 = some (.ldc 73) := by decide +kernel
set_option maxRecDepth 100000 in
theorem f_34_15 : xft 34 15 = some (.iastore) := by decide +kernel
set_option maxRecDepth 100000 in
theorem f_34_16 : xft 34 16 = some (.iinc 2 1) := by decide +kernel
set_option maxRecDepth 100000 in
theorem f_34_19 : xft 34 19 = some (.goto (-17)) := by decide +kernel
set_option maxRecDepth 100000 in
theorem f_34_22 : xft 34 22 = some (.aload_n 0) := by decide +kernel
set_option maxRecDepth 100000 in
theorem f_34_23 : xft 34 23 = some (.getfield 22) := by decide +kernel
set_option maxRecDepth 100000 in
theorem f_34_26 : xft 34 26 = some (.iload_n 1) := by decide +kernel
set_option maxRecDepth 100000 in
theorem f_34_27 : xft 34 27 = some (.iconst 0) := by decide +kernel
set_option maxRecDepth 100000 in
theorem f_34_28 : xft 34 28 = some (.iastore) := by decide +kernel
set_option maxRecDepth 100000 in
theorem f_34_29 : xft 34 29 = some (.iconst 1) := by decide +kernel
set_option maxRecDepth 100000 in
theorem f_34_30 : xft 34 30 = some (.istore_n 2) := by decide +kernel
set_option maxRecDepth 100000 in
theorem f_34_31 : xft 34 31 = some (.iconst 0) := by decide +kernel
set_option maxRecDepth 100000 in
theorem f_34_32 : xft 34 32 = some (.istore_n 3) := by decide +kernel
set_option maxRecDepth 100000 in
theorem f_34_33 : xft 34 33 = some (.iload_n 3) := by decide +kernel
set_option maxRecDepth 100000 in
theorem f_34_34 : xft 34 34 = some (.bipush 8) := by decide +kernel
set_option maxRecDepth 100000 in
theorem f_34_36 : xft 34 36 = some (.if_icmp .ge 62) := by decide +kernel
set_option maxRecDepth 100000 in
theorem f_34_39 : xft 34 39 = some (.iload_n 2) := by decide +kernel
set_option maxRecDepth 100000 in
theorem f_34_40 : xft 34 40 = some (.ifCond .eq 58) := by decide +kernel
set_option maxRecDepth 100000 in
theorem f_34_43 : xft 34 43 = some (.iconst 0) := by decide +kernel
set_option maxRecDepth 100000 in
theorem f_34_44 : xft 34 44 = some (.istore_n 2) := by decide +kernel
set_option maxRecDepth 100000 in
theorem f_34_45 : xft 34 45 = some (.iconst 0) := by decide +kernel
set_option maxRecDepth 100000 in
theorem f_34_46 : xft 34 46 = some (.istore 4) := by decide +kernel
set_option maxRecDepth 100000 in
theorem f_34_48 : xft 34 48 = some (.iload 4) := by decide +kernel
set_option maxRecDepth 100000 in
theorem f_34_50 : xft 34 50 = some (.bipush 8) := by decide +kernel
set_option maxRecDepth 100000 in
theorem f_34_52 : xft 34 52 = some (.if_icmp .ge 40) := by decide +kernel
set_option maxRecDepth 100000 in
theorem f_34_55 : xft 34 55 = some (.aload_n 0) := by decide +kernel
set_option maxRecDepth 100000 in
theorem f_34_56 : xft 34 56 = some (.iload 4) := by decide +kernel
set_option maxRecDepth 100000 in
theorem f_34_58 : xft 34 58 = some (.invokevirtual 74) := by decide +kernel
set_option maxRecDepth 100000 in
theorem f_34_61 : xft 34 61 = some (.istore 5) := by decide +kernel
set_option maxRecDepth 100000 in
theorem f_34_63 : xft 34 63 = some (.iload 5) := by decide +kernel
set_option maxRecDepth 100000 in
theorem f_34_65 : xft 34 65 = some (.aload_n 0) := by decide +kernel
set_option maxRecDepth 100000 in
theorem f_34_66 : xft 34 66 = some (.getfield 22) := by decide +kernel
set_option maxRecDepth 100000 in
theorem f_34_69 : xft 34 69 = some (.iload 4) := by decide +kernel
set_option maxRecDepth 100000 in
theorem f_34_71 : xft 34 71 = some (.iaload) := by decide +kernel
set_option maxRecDepth 100000 in
theorem f_34_72 : xft 34 72 = some (.if_icmp .ge 14) := by decide +kernel
set_option maxRecDepth 100000 in
theorem f_34_75 : xft 34 75 = some (.aload_n 0) := by decide +kernel
set_option maxRecDepth 100000 in
theorem f_34_76 : xft 34 76 = some (.getfield 22) := by decide +kernel
set_option maxRecDepth 100000 in
theorem f_34_79 : xft 34 79 = some (.iload 4) := by decide +kernel
set_option maxRecDepth 100000 in
theorem f_34_81 : xft 34 81 = some (.iload 5) := by decide +kernel
set_option maxRecDepth 100000 in
theorem f_34_83 : xft 34 83 = some (.iastore) := by decide +kernel
set_option maxRecDepth 100000 in
theorem f_34_84 : xft 34 84 = some (.iconst 1) := by decide +kernel
set_option maxRecDepth 100000 in
theorem f_34_85 : xft 34 85 = some (.istore_n 2) := by decide +kernel
set_option maxRecDepth 100000 in
theorem f_34_86 : xft 34 86 = some (.iinc 4 1) := by decide +kernel
set_option maxRecDepth 100000 in
theorem f_34_89 : xft 34 89 = some (.goto (-41)) := by decide +kernel
set_option maxRecDepth 100000 in
theorem f_34_92 : xft 34 92 = some (.iinc 3 1) := by decide +kernel
set_option maxRecDepth 100000 in
theorem f_34_95 : xft 34 95 = some (.goto (-62)) := by decide +kernel
set_option maxRecDepth 100000 in
theorem f_34_98 : xft 34 98 = some (.return_) := by decide +kernel
set_option maxRecDepth 100000 in
theorem f_35_0 : xft 35 0 = some (.ldc 73) := by decide +kernel
set_option maxRecDepth 100000 in
theorem f_35_2 : xft 35 2 = some (.istore_n 2) := by decide +kernel
set_option maxRecDepth 100000 in
theorem f_35_3 : xft 35 3 = some (.iconst 0) := by decide +kernel
set_option maxRecDepth 100000 in
theorem f_35_4 : xft 35 4 = some (.istore_n 3) := by decide +kernel
set_option maxRecDepth 100000 in
theorem f_35_5 : xft 35 5 = some (.iload_n 3) := by decide +kernel
set_option maxRecDepth 100000 in
theorem f_35_6 : xft 35 6 = some (.bipush 8) := by decide +kernel
set_option maxRecDepth 100000 in
theorem f_35_8 : xft 35 8 = some (.if_icmp .ge 20) := by decide +kernel
set_option maxRecDepth 100000 in
theorem f_35_11 : xft 35 11 = some (.iload_n 2) := by decide +kernel
set_option maxRecDepth 100000 in
theorem f_35_12 : xft 35 12 = some (.aload_n 0) := by decide +kernel
set_option maxRecDepth 100000 in
theorem f_35_13 : xft 35 13 = some (.iload_n 1) := by decide +kernel
set_option maxRecDepth 100000 in
theorem f_35_14 : xft 35 14 = some (.iload_n 3) := by decide +kernel
set_option maxRecDepth 100000 in
theorem f_35_15 : xft 35 15 = some (.invokevirtual 78) := by decide +kernel
set_option maxRecDepth 100000 in
theorem f_35_18 : xft 35 18 = some (.invokestatic 81) := by decide +kernel
set_option maxRecDepth 100000 in
theorem f_35_21 : xft 35 21 = some (.istore_n 2) := by decide +kernel
set_option maxRecDepth 100000 in
theorem f_35_22 : xft 35 22 = some (.iinc 3 1) := by decide +kernel
set_option maxRecDepth 100000 in
theorem f_35_25 : xft 35 25 = some (.goto (-20)) := by decide +kernel
set_option maxRecDepth 100000 in
theorem f_35_28 : xft 35 28 = some (.iload_n 2) := by decide +kernel
set_option maxRecDepth 100000 in
theorem f_35_29 : xft 35 29 = some (.ireturn) := by decide +kernel
set_option maxRecDepth 100000 in
theorem f_36_0 : xft 36 0 = some (.aload_n 0) := by decide +kernel
set_option maxRecDepth 100000 in
theorem f_36_1 : xft 36 1 = some (.getfield 9) := by decide +kernel
set_option maxRecDepth 100000 in
theorem f_36_4 : xft 36 4 = some (.iload_n 1) := by decide +kernel
set_option maxRecDepth 100000 in
theorem f_36_5 : xft 36 5 = some (.iload_n 2) := by decide +kernel
set_option maxRecDepth 100000 in
theorem f_36_6 : xft 36 6 = some (.invokestatic 44) := by decide +kernel
set_option maxRecDepth 100000 in
theorem f_36_9 : xft 36 9 = some (.iaload) := by decide +kernel
set_option maxRecDepth 100000 in
theorem f_36_10 : xft 36 10 = some (.istore_n 3) := by decide +kernel
set_option maxRecDepth 100000 in
theorem f_36_11 : xft 36 11 = some (.iload_n 3) := by decide +kernel
set_option maxRecDepth 100000 in
theorem f_36_12 : xft 36 12 = some (.ifCond .le 19) := by decide +kernel
set_option maxRecDepth 100000 in
theorem f_36_15 : xft 36 15 = some (.iload_n 3) := by decide +kernel
set_option maxRecDepth 100000 in
theorem f_36_16 : xft 36 16 = some (.bipush 16) := by decide +kernel
set_option maxRecDepth 100000 in
theorem f_36_18 : xft 36 18 = some (.imul) := by decide +kernel
set_option maxRecDepth 100000 in
theorem f_36_19 : xft 36 19 = some (.iconst 1) := by decide +kernel
set_option maxRecDepth 100000 in
theorem f_36_20 : xft 36 20 = some (.iadd) := by decide +kernel
set_option maxRecDepth 100000 in
theorem f_36_21 : xft 36 21 = some (.aload_n 0) := by decide +kernel
set_option maxRecDepth 100000 in
theorem f_36_22 : xft 36 22 = some (.getfield 22) := by decide +kernel
set_option maxRecDepth 100000 in
theorem f_36_25 : xft 36 25 = some (.iload_n 2) := by decide +kernel
set_option maxRecDepth 100000 in
theorem f_36_26 : xft 36 26 = some (.iaload) := by decide +kernel
set_option maxRecDepth 100000 in
theorem f_36_27 : xft 36 27 = some (.iadd) := by decide +kernel
set_option maxRecDepth 100000 in
theorem f_36_28 : xft 36 28 = some (.goto 5) := by decide +kernel
set_option maxRecDepth 100000 in
theorem f_36_31 : xft 36 31 = some (.ldc 73) := by decide +kernel
set_option maxRecDepth 100000 in
theorem f_36_33 : xft 36 33 = some (.ireturn) := by decide +kernel
set_option maxRecDepth 100000 in
theorem f_37_0 : xft 37 0 = some (.aload_n 0) := by decide +kernel
set_option maxRecDepth 100000 in
theorem f_37_1 : xft 37 1 = some (.getfield 22) := by decide +kernel
set_option maxRecDepth 100000 in
theorem f_37_4 : xft 37 4 = some (.iload_n 1) := by decide +kernel
set_option maxRecDepth 100000 in
theorem f_37_5 : xft 37 5 = some (.iaload) := by decide +kernel
set_option maxRecDepth 100000 in
theorem f_37_6 : xft 37 6 = some (.ldc 73) := by decide +kernel
set_option maxRecDepth 100000 in
theorem f_37_8 : xft 37 8 = some (.if_icmp .lt 4) := by decide +kernel
set_option maxRecDepth 100000 in
theorem f_37_11 : xft 37 11 = some (.return_) := by decide +kernel
set_option maxRecDepth 100000 in
theorem f_37_12 : xft 37 12 = some (.iload_n 1) := by decide +kernel
set_option maxRecDepth 100000 in
theorem f_37_13 : xft 37 13 = some (.istore_n 3) := by decide +kernel
set_option maxRecDepth 100000 in
theorem f_37_14 : xft 37 14 = some (.aload_n 0) := by decide +kernel
set_option maxRecDepth 100000 in
theorem f_37_15 : xft 37 15 = some (.getfield 25) := by decide +kernel
set_option maxRecDepth 100000 in
theorem f_37_18 : xft 37 18 = some (.iconst 0) := by decide +kernel
set_option maxRecDepth 100000 in
theorem f_37_19 : xft 37 19 = some (.iload_n 1) := by decide +kernel
set_option maxRecDepth 100000 in
theorem f_37_20 : xft 37 20 = some (.iastore) := by decide +kernel
set_option maxRecDepth 100000 in
theorem f_37_21 : xft 37 21 = some (.aload_n 0) := by decide +kernel
set_option maxRecDepth 100000 in
theorem f_37_22 : xft 37 22 = some (.iconst 1) := by decide +kernel
set_option maxRecDepth 100000 in
theorem f_37_23 : xft 37 23 = some (.putfield 62) := by decide +kernel
set_option maxRecDepth 100000 in
theorem f_37_26 : xft 37 26 = some (.iconst 1) := by decide +kernel
set_option maxRecDepth 100000 in
theorem f_37_27 : xft 37 27 = some (.istore 4) := by decide +kernel
set_option maxRecDepth 100000 in
theorem f_37_29 : xft 37 29 = some (.iload 4) := by decide +kernel
set_option maxRecDepth 100000 in
theorem f_37_31 : xft 37 31 = some (.bipush 8) := by decide +kernel
set_option maxRecDepth 100000 in
theorem f_37_33 : xft 37 33 = some (.if_icmp .ge 72) := by decide +kernel
set_option maxRecDepth 100000 in
theorem f_37_36 : xft 37 36 = some (.iload_n 3) := by decide +kernel
set_option maxRecDepth 100000 in
theorem f_37_37 : xft 37 37 = some (.iload_n 2) := by decide +kernel
set_option maxRecDepth 100000 in
theorem f_37_38 : xft 37 38 = some (.if_icmp .eq 67) := by decide +kernel
set_option maxRecDepth 100000 in
theorem f_37_41 : xft 37 41 = some (.aload_n 0) := by decide +kernel
set_option maxRecDepth 100000 in
theorem f_37_42 : xft 37 42 = some (.iload_n 3) := by decide +kernel
set_option maxRecDepth 100000 in
theorem f_37_43 : xft 37 43 = some (.invokevirtual 86) := by decide +kernel
set_option maxRecDepth 100000 in
theorem f_37_46 : xft 37 46 = some (.istore 5) := by decide +kernel
set_option maxRecDepth 100000 in
theorem f_37_48 : xft 37 48 = some (.iload 5) := by decide +kernel
set_option maxRecDepth 100000 in
theorem f_37_50 : xft 37 50 = some (.iconst (-1)) := by decide +kernel
set_option maxRecDepth 100000 in
theorem f_37_51 : xft 37 51 = some (.if_icmp .ne 4) := by decide +kernel
set_option maxRecDepth 100000 in
theorem f_37_54 : xft 37 54 = some (.return_) := by decide +kernel
set_option maxRecDepth 100000 in
theorem f_37_55 : xft 37 55 = some (.aload_n 0) := by decide +kernel
set_option maxRecDepth 100000 in
theorem f_37_56 : xft 37 56 = some (.getfield 18) := by decide +kernel
set_option maxRecDepth 100000 in
theorem f_37_59 : xft 37 59 = some (.iload_n 3) := by decide +kernel
set_option maxRecDepth 100000 in
theorem f_37_60 : xft 37 60 = some (.iload 5) := by decide +kernel
set_option maxRecDepth 100000 in
theorem f_37_62 : xft 37 62 = some (.invokestatic 44) := by decide +kernel
set_option maxRecDepth 100000 in
theorem f_37_65 : xft 37 65 = some (.iconst 1) := by decide +kernel
set_option maxRecDepth 100000 in
theorem f_37_66 : xft 37 66 = some (.bastore) := by decide +kernel
set_option maxRecDepth 100000 in
theorem f_37_67 : xft 37 67 = some (.aload_n 0) := by decide +kernel
set_option maxRecDepth 100000 in
theorem f_37_68 : xft 37 68 = some (.getfield 18) := by decide +kernel
set_option maxRecDepth 100000 in
theorem f_37_71 : xft 37 71 = some (.iload 5) := by decide +kernel
set_option maxRecDepth 100000 in
theorem f_37_73 : xft 37 73 = some (.iload_n 3) := by decide +kernel
set_option maxRecDepth 100000 in
theorem f_37_74 : xft 37 74 = some (.invokestatic 44) := by decide +kernel
set_option maxRecDepth 100000 in
theorem f_37_77 : xft 37 77 = some (.iconst 1) := by decide +kernel
set_option maxRecDepth 100000 in
theorem f_37_78 : xft 37 78 = some (.bastore) := by decide +kernel
set_option maxRecDepth 100000 in
theorem f_37_79 : xft 37 79 = some (.aload_n 0) := by decide +kernel
set_option maxRecDepth 100000 in
theorem f_37_80 : xft 37 80 = some (.getfield 25) := by decide +kernel
set_option maxRecDepth 100000 in
theorem f_37_83 : xft 37 83 = some (.iload 4) := by decide +kernel
set_option maxRecDepth 100000 in
theorem f_37_85 : xft 37 85 = some (.iload 5) := by decide +kernel
set_option maxRecDepth 100000 in
theorem f_37_87 : xft 37 87 = some (.iastore) := by decide +kernel
set_option maxRecDepth 100000 in
theorem f_37_88 : xft 37 88 = some (.aload_n 0) := by decide +kernel
set_option maxRecDepth 100000 in
theorem f_37_89 : xft 37 89 = some (.iload 4) := by decide +kernel
set_option maxRecDepth 100000 in
theorem f_37_91 : xft 37 91 = some (.iconst 1) := by decide +kernel
set_option maxRecDepth 100000 in
theorem f_37_92 : xft 37 92 = some (.iadd) := by decide +kernel
set_option maxRecDepth 100000 in
theorem f_37_93 : xft 37 93 = some (.putfield 62) := by decide +kernel
set_option maxRecDepth 100000 in
theorem f_37_96 : xft 37 96 = some (.iload 5) := by decide +kernel
set_option maxRecDepth 100000 in
theorem f_37_98 : xft 37 98 = some (.istore_n 3) := by decide +kernel
set_option maxRecDepth 100000 in
theorem f_37_99 : xft 37 99 = some (.iinc 4 1) := by decide +kernel
set_option maxRecDepth 100000 in
theorem f_37_102 : xft 37 102 = some (.goto (-73)) := by decide +kernel
set_option maxRecDepth 100000 in
theorem f_37_105 : xft 37 105 = some (.return_) := by decide +kernel
set_option maxRecDepth 100000 in
theorem f_38_0 : xft 38 0 = some (.iconst 0) := by decide +kernel
set_option maxRecDepth 100000 in
theorem f_38_1 : xft 38 1 = some (.istore_n 2) := by decide +kernel
set_option maxRecDepth 100000 in
theorem f_38_2 : xft 38 2 = some (.iload_n 2) := by decide +kernel
set_option maxRecDepth 100000 in
theorem f_38_3 : xft 38 3 = some (.bipush 8) := by decide +kernel
set_option maxRecDepth 100000 in
theorem f_38_5 : xft 38 5 = some (.if_icmp .ge 26) := by decide +kernel
set_option maxRecDepth 100000 in
theorem f_38_8 : xft 38 8 = some (.aload_n 0) := by decide +kernel
set_option maxRecDepth 100000 in
theorem f_38_9 : xft 38 9 = some (.iload_n 1) := by decide +kernel
set_option maxRecDepth 100000 in
theorem f_38_10 : xft 38 10 = some (.iload_n 2) := by decide +kernel
set_option maxRecDepth 100000 in
theorem f_38_11 : xft 38 11 = some (.invokevirtual 78) := by decide +kernel
set_option maxRecDepth 100000 in
theorem f_38_14 : xft 38 14 = some (.aload_n 0) := by decide +kernel
set_option maxRecDepth 100000 in
theorem f_38_15 : xft 38 15 = some (.getfield 22) := by decide +kernel
set_option maxRecDepth 100000 in
theorem f_38_18 : xft 38 18 = some (.iload_n 1) := by decide +kernel
set_option maxRecDepth 100000 in
theorem f_38_19 : xft 38 19 = some (.iaload) := by decide +kernel
set_option maxRecDepth 100000 in
theorem f_38_20 : xft 38 20 = some (.if_icmp .ne 5) := by decide +kernel
set_option maxRecDepth 100000 in
theorem f_38_23 : xft 38 23 = some (.iload_n 2) := by decide +kernel
set_option maxRecDepth 100000 in
theorem f_38_24 : xft 38 24 = some (.ireturn) := by decide +kernel
set_option maxRecDepth 100000 in
theorem f_38_25 : xft 38 25 = some (.iinc 2 1) := by decide +kernel
set_option maxRecDepth 100000 in
theorem f_38_28 : xft 38 28 = some (.goto (-26)) := by decide +kernel
set_option maxRecDepth 100000 in
theorem f_38_31 : xft 38 31 = some (.iconst (-1)) := by decide +kernel
set_option maxRecDepth 100000 in
theorem f_38_32 : xft 38 32 = some (.ireturn) := by decide +kernel
/-! blocks, by program (gen2.py) -/
section BLK
variable {sc : xS} {d : Nat} {T : Nat → Nat × Nat} {z : Nat × Nat} {V : Nat → Nat → Int} {J : Nat → Nat → Int64} {R : Nat → Nat → Option Nat}
theorem eX3_init {a0 : Nat} : X sc (d + 1) 24 [.ref a0] (T, z, xv V, J, R) = XR sc d 24 0 [some (.ref a0)] [] (T, z, xv V, J, R) :=
  (X_eq ⟨jl_24, by rw [mn_24]; rfl, rfl, by rw [lm_24]; exact Nat.le_of_ble_eq_true rfl⟩).trans (by unfold xent; rw [lm_24]; rfl)
theorem bX3_init_0 {a0 : Nat} (g1 : 1 ≤ d) (g2 : (va_up T z.1 (32, 64)) a0 = (5, 0)) (g3 : (va_up (va_up T z.1 (32, 64)) (z.1 + 1) (32, 64)) a0 = (5, 0)) (g4 : (va_up (va_up (va_up T z.1 (32, 64)) (z.1 + 1) (32, 64)) (z.1 + 2) (33, 64)) a0 = (5, 0)) (g5 : (va_up (va_up (va_up (va_up T z.1 (32, 64)) (z.1 + 1) (32, 64)) (z.1 + 2) (33, 64)) (z.1 + 3) (32, 8)) a0 = (5, 0)) (g6 : (va_up (va_up (va_up (va_up (va_up T z.1 (32, 64)) (z.1 + 1) (32, 64)) (z.1 + 2) (33, 64)) (z.1 + 3) (32, 8)) (z.1 + 4) (32, 8)) a0 = (5, 0)) : XR sc d 24 0 [some (.ref a0)] [] (T, z, xv V, J, R) = some (.inl none, ((va_up (va_up (va_up (va_up (va_up T z.1 (32, 64)) (z.1 + 1) (32, 64)) (z.1 + 2) (33, 64)) (z.1 + 3) (32, 8)) (z.1 + 4) (32, 8)), (z.1 + 5, z.2 + 64 + 64 + 64 + 8 + 8), xv (va_up (va_up (va_up (va_up (va_up V z.1 (fun _ => 0)) (z.1 + 1) (fun _ => 0)) (z.1 + 2) (fun _ => 0)) (z.1 + 3) (fun _ => 0)) (z.1 + 4) (fun _ => 0)), (va_up (va_up (va_up (va_up (va_up J z.1 (fun _ => 0)) (z.1 + 1) (fun _ => 0)) (z.1 + 2) (fun _ => 0)) (z.1 + 3) (fun _ => 0)) (z.1 + 4) (fun _ => 0)), (xup2 (va_up (xup2 (va_up (xup2 (va_up (xup2 (va_up (xup2 (va_up R z.1 (fun _ => none)) a0 0 (some z.1)) (z.1 + 1) (fun _ => none)) a0 1 (some (z.1 + 1))) (z.1 + 2) (fun _ => none)) a0 2 (some (z.1 + 2))) (z.1 + 3) (fun _ => none)) a0 3 (some (z.1 + 3))) (z.1 + 4) (fun _ => none)) a0 4 (some (z.1 + 4))))) :=
  (st_aload_n f_24_0 rfl).trans ((st_objinit f_24_1 r_24_3 t_24_3 ⟨g1, Nat.le_of_ble_eq_true rfl⟩).trans ((st_aload_n f_24_4 rfl).trans ((sw_bipush f_24_5 c8_64).trans ((sw_newI 64 f_24_7 ⟨rfl, by decide⟩).trans ((st_putR f_24_9 e_24_9 rfl (Or.inr n_24) g2).trans ((st_aload_n f_24_12 rfl).trans ((sw_bipush f_24_13 c8_64).trans ((sw_newI 64 f_24_15 ⟨rfl, by decide⟩).trans ((st_putR f_24_17 e_24_15 rfl (Or.inr n_24) g3).trans ((st_aload_n f_24_20 rfl).trans ((sw_bipush f_24_21 c8_64).trans ((sw_newZ 64 f_24_23 ⟨rfl, by decide⟩).trans ((st_putR f_24_25 e_24_18 rfl (Or.inr n_24) g4).trans ((st_aload_n f_24_28 rfl).trans ((sw_bipush f_24_29 c8_8).trans ((sw_newI 8 f_24_31 ⟨rfl, by decide⟩).trans ((st_putR f_24_33 e_24_22 rfl (Or.inr n_24) g5).trans ((st_aload_n f_24_36 rfl).trans ((sw_bipush f_24_37 c8_8).trans ((sw_newI 8 f_24_39 ⟨rfl, by decide⟩).trans ((st_putR f_24_41 e_24_25 rfl (Or.inr n_24) g6).trans (st_return f_24_44 mr_24))))))))))))))))))))))
theorem eX3_look {x2 x3 : Int} {a0 a1 : Nat} : X sc (d + 1) 25 [.ref a0, .ref a1, xw x2, xw x3] (T, z, xv V, J, R) = XR sc d 25 0 [some (.ref a0), some (.ref a1), some (xw x2), some (xw x3), none, none, none, none] [] (T, z, xv V, J, R) :=
  (X_eq ⟨jl_25, by rw [mn_25]; rfl, rfl, by rw [lm_25]; exact Nat.le_of_ble_eq_true rfl⟩).trans (by unfold xent; rw [lm_25]; rfl)
theorem bX3_look_0r {o1 o2 o3 o4 o5 o6 o7 : Option Value} {a0 : Nat} (g1 : T a0 = (5, 0)) : XR sc d 25 0 [some (.ref a0), o1, o2, o3, o4, o5, o6, o7] [] (T, z, xv V, J, R) = xret 25 (XR sc d 25) 1 4 [some (.ref a0), o1, o2, o3, o4, o5, o6, o7] [] (X sc d 32 [.ref a0] (T, z, xv V, J, R)) :=
  (st_aload_n f_25_0 rfl).trans (st_callV' f_25_1 h_25_28 mn_32 rfl rfl rfl rfl mo_32 g1 rfl)
theorem bX3_look_4r {o0 o2 o3 o4 o5 o6 o7 : Option Value} {a1 : Nat} (g1 : T a1 = ((T a1).1, (T a1).2)) (g2 : (32 ≤ (T a1).1 ∧ (T a1).1 < 35) ∨ (40 ≤ (T a1).1 ∧ (T a1).1 < 44)) : XR sc d 25 4 [o0, some (.ref a1), o2, o3, o4, o5, o6, o7] [] (T, z, xv V, J, R) = XR sc d 25 15 [o0, some (.ref a1), o2, o3, some (.ref a1), some (xw ((T a1).2 : Int)), some (xw 0), o7] [] (T, z, xv V, J, R) :=
  (st_aload_n f_25_4 rfl).trans ((st_astore (L' := [o0, some (.ref a1), o2, o3, some (.ref a1), o5, o6, o7]) f_25_5 (Nat.le_of_ble_eq_true rfl) rfl).trans ((st_aload f_25_7 rfl).trans ((sw_alenI f_25_9 g1 g2).trans ((sw_istore (L' := [o0, some (.ref a1), o2, o3, some (.ref a1), some (xw ((T a1).2 : Int)), o6, o7]) f_25_10 (Nat.le_of_ble_eq_true rfl) rfl).trans ((sw_iconst f_25_12).trans (sw_istore (L' := [o0, some (.ref a1), o2, o3, some (.ref a1), some (xw ((T a1).2 : Int)), some (xw 0), o7]) f_25_13 (Nat.le_of_ble_eq_true rfl) rfl))))))
theorem bX3_look_15 {o0 o1 o2 o3 o4 o7 : Option Value} {x6 x5 : Int} (g1 : -2147483648 ≤ x6 ∧ x6 ≤ 2147483647) (g2 : -2147483648 ≤ x5 ∧ x5 ≤ 2147483647) : XR sc d 25 15 [o0, o1, o2, o3, o4, some (xw x5), some (xw x6), o7] [] (T, z, xv V, J, R) = if x5 ≤ x6 then XR sc d 25 92 [o0, o1, o2, o3, o4, some (xw x5), some (xw x6), o7] [] (T, z, xv V, J, R) else XR sc d 25 22 [o0, o1, o2, o3, o4, some (xw x5), some (xw x6), o7] [] (T, z, xv V, J, R) :=
  (sw_iload f_25_15 rfl).trans ((sw_iload f_25_17 rfl).trans (sw_icmp_ge (t := 92) f_25_19 ⟨by decide, rfl⟩ g1 g2))
theorem bX3_look_22rr {o0 o1 o2 o3 o5 o7 : Option Value} {x6 : Int} {a4 : Nat} (g1 : T a4 = ((T a4).1, (T a4).2)) (g2 : 40 ≤ (T a4).1 ∧ (T a4).1 < 44) (g3 : (0 : Int) ≤ x6 ∧ x6 < ((T a4).2 : Int) ∧ (T a4).2 ≤ 3584) (g4 : R a4 x6.toNat = some ((R a4 x6.toNat).getD 0)) : XR sc d 25 22 [o0, o1, o2, o3, some (.ref a4), o5, some (xw x6), o7] [] (T, z, xv V, J, R) = XR sc d 25 34 [o0, o1, o2, o3, some (.ref a4), o5, some (xw x6), some (.ref ((R a4 x6.toNat).getD 0))] [] (T, z, xv V, J, R) :=
  (st_aload f_25_22 rfl).trans ((sw_iload f_25_24 rfl).trans ((sw_aaload f_25_26 g1 g2 g3 g4).trans ((st_astore (L' := [o0, o1, o2, o3, some (.ref a4), o5, some (xw x6), some (.ref ((R a4 x6.toNat).getD 0))]) f_25_27 (Nat.le_of_ble_eq_true rfl) rfl).trans ((st_aload f_25_29 rfl).trans (st_ifnull f_25_31)))))
theorem bX3_look_22rn {o0 o1 o2 o3 o5 o7 : Option Value} {x6 : Int} {a4 : Nat} (g1 : T a4 = ((T a4).1, (T a4).2)) (g2 : 40 ≤ (T a4).1 ∧ (T a4).1 < 44) (g3 : (0 : Int) ≤ x6 ∧ x6 < ((T a4).2 : Int) ∧ (T a4).2 ≤ 3584) (g4 : R a4 x6.toNat = none) : XR sc d 25 22 [o0, o1, o2, o3, some (.ref a4), o5, some (xw x6), o7] [] (T, z, xv V, J, R) = XR sc d 25 86 [o0, o1, o2, o3, some (.ref a4), o5, some (xw x6), some (.null)] [] (T, z, xv V, J, R) :=
  (st_aload f_25_22 rfl).trans ((sw_iload f_25_24 rfl).trans ((sw_aaload f_25_26 g1 g2 g3 g4).trans ((st_astoreN (L' := [o0, o1, o2, o3, some (.ref a4), o5, some (xw x6), some (.null)]) f_25_27 (Nat.le_of_ble_eq_true rfl) rfl).trans ((st_aloadN f_25_29 rfl).trans (st_ifnullN (t := 86) f_25_31 ⟨by decide, rfl⟩)))))
theorem bX3_look_34r {o0 o1 o2 o3 o4 o5 o6 : Option Value} {a7 : Nat} (g1 : T a7 = (2, 0)) : XR sc d 25 34 [o0, o1, o2, o3, o4, o5, o6, some (.ref a7)] [] (T, z, xv V, J, R) = xret 25 (XR sc d 25) 36 39 [o0, o1, o2, o3, o4, o5, o6, some (.ref a7)] [] (X sc d 20 [.ref a7] (T, z, xv V, J, R)) :=
  (st_aload f_25_34 rfl).trans (st_callV' f_25_36 h_25_31 mn_20 rfl rfl rfl rfl mo_20 g1 rfl)
theorem bX3_look_39 {o0 o1 o2 o3 o4 o5 o6 o7 : Option Value} {y0 : Int} (g1 : -2147483648 ≤ y0 ∧ y0 ≤ 2147483647) : XR sc d 25 39 [o0, o1, o2, o3, o4, o5, o6, o7] [xw y0] (T, z, xv V, J, R) = if y0 = 0 then XR sc d 25 86 [o0, o1, o2, o3, o4, o5, o6, o7] [] (T, z, xv V, J, R) else XR sc d 25 42 [o0, o1, o2, o3, o4, o5, o6, o7] [] (T, z, xv V, J, R) :=
  sw_if_eq (t := 86) f_25_39 ⟨by decide, rfl⟩ g1
theorem bX3_look_42rr {o1 o2 o3 o4 o5 o6 : Option Value} {a0 a7 : Nat} (g1 : T a7 = (2, 0)) : XR sc d 25 42 [some (.ref a0), o1, o2, o3, o4, o5, o6, some (.ref a7)] [] (T, z, xv V, J, R) = xret 25 (XR sc d 25) 53 56 [some (.ref a0), o1, o2, o3, o4, o5, o6, some (.ref a7)] [.ref a0] (X sc d 31 [xw (V a7 9), xw (V a7 10)] (T, z, xv V, J, R)) :=
  (st_aload_n f_25_42 rfl).trans ((st_aload f_25_43 rfl).trans ((sw_getI f_25_45 e_25_37 (by decide) g1).trans ((st_aload f_25_48 rfl).trans ((sw_getI f_25_50 e_25_41 (by decide) g1).trans (st_callS' f_25_53 h_25_44 mn_31 rfl rfl rfl rfl)))))
theorem bX3_look_42nr {o1 o2 o3 o4 o5 o6 : Option Value} {a7 : Nat} (g1 : T a7 = (2, 0)) : XR sc d 25 42 [some .null, o1, o2, o3, o4, o5, o6, some (.ref a7)] [] (T, z, xv V, J, R) = xret 25 (XR sc d 25) 53 56 [some (.null), o1, o2, o3, o4, o5, o6, some (.ref a7)] [.null] (X sc d 31 [xw (V a7 9), xw (V a7 10)] (T, z, xv V, J, R)) :=
  (st_aload_nN f_25_42 rfl).trans ((st_aload f_25_43 rfl).trans ((sw_getI f_25_45 e_25_37 (by decide) g1).trans ((st_aload f_25_48 rfl).trans ((sw_getI f_25_50 e_25_41 (by decide) g1).trans (st_callS' f_25_53 h_25_44 mn_31 rfl rfl rfl rfl)))))
theorem bX3_look_56rr {o0 o1 o2 o3 o4 o5 o6 : Option Value} {y0 : Int} {a7 b1 : Nat} (g1 : T a7 = (2, 0)) (g2 : T b1 = (5, 0)) : XR sc d 25 56 [o0, o1, o2, o3, o4, o5, o6, some (.ref a7)] [xw y0, .ref b1] (T, z, xv V, J, R) = xret 25 (XR sc d 25) 61 64 [o0, o1, o2, o3, o4, o5, o6, some (.ref a7)] [] (X sc d 33 [.ref b1, xw y0, xw (V a7 11)] (T, z, xv V, J, R)) :=
  (st_aload f_25_56 rfl).trans ((sw_getI f_25_58 e_25_48 (by decide) g1).trans (st_callV' f_25_61 h_25_51 mn_33 rfl rfl rfl rfl mo_33 g2 rfl))
theorem bX3_look_64rr {o1 o2 o3 o4 o5 o6 : Option Value} {a0 a7 : Nat} (g1 : T a7 = (2, 0)) : XR sc d 25 64 [some (.ref a0), o1, o2, o3, o4, o5, o6, some (.ref a7)] [] (T, z, xv V, J, R) = xret 25 (XR sc d 25) 75 78 [some (.ref a0), o1, o2, o3, o4, o5, o6, some (.ref a7)] [.ref a0] (X sc d 31 [xw (V a7 10), xw (V a7 9)] (T, z, xv V, J, R)) :=
  (st_aload_n f_25_64 rfl).trans ((st_aload f_25_65 rfl).trans ((sw_getI f_25_67 e_25_41 (by decide) g1).trans ((st_aload f_25_70 rfl).trans ((sw_getI f_25_72 e_25_37 (by decide) g1).trans (st_callS' f_25_75 h_25_44 mn_31 rfl rfl rfl rfl)))))
theorem bX3_look_64nr {o1 o2 o3 o4 o5 o6 : Option Value} {a7 : Nat} (g1 : T a7 = (2, 0)) : XR sc d 25 64 [some .null, o1, o2, o3, o4, o5, o6, some (.ref a7)] [] (T, z, xv V, J, R) = xret 25 (XR sc d 25) 75 78 [some (.null), o1, o2, o3, o4, o5, o6, some (.ref a7)] [.null] (X sc d 31 [xw (V a7 10), xw (V a7 9)] (T, z, xv V, J, R)) :=
  (st_aload_nN f_25_64 rfl).trans ((st_aload f_25_65 rfl).trans ((sw_getI f_25_67 e_25_41 (by decide) g1).trans ((st_aload f_25_70 rfl).trans ((sw_getI f_25_72 e_25_37 (by decide) g1).trans (st_callS' f_25_75 h_25_44 mn_31 rfl rfl rfl rfl)))))
theorem bX3_look_78rr {o0 o1 o2 o3 o4 o5 o6 : Option Value} {y0 : Int} {a7 b1 : Nat} (g1 : T a7 = (2, 0)) (g2 : T b1 = (5, 0)) : XR sc d 25 78 [o0, o1, o2, o3, o4, o5, o6, some (.ref a7)] [xw y0, .ref b1] (T, z, xv V, J, R) = xret 25 (XR sc d 25) 83 86 [o0, o1, o2, o3, o4, o5, o6, some (.ref a7)] [] (X sc d 33 [.ref b1, xw y0, xw (V a7 11)] (T, z, xv V, J, R)) :=
  (st_aload f_25_78 rfl).trans ((sw_getI f_25_80 e_25_48 (by decide) g1).trans (st_callV' f_25_83 h_25_51 mn_33 rfl rfl rfl rfl mo_33 g2 rfl))
theorem bX3_look_86 {o0 o1 o2 o3 o4 o5 o7 : Option Value} {x6 : Int} : XR sc d 25 86 [o0, o1, o2, o3, o4, o5, some (xw x6), o7] [] (T, z, xv V, J, R) = XR sc d 25 15 [o0, o1, o2, o3, o4, o5, some (xw (x6 + 1)), o7] [] (T, z, xv V, J, R) :=
  (sw_iinc (L' := [o0, o1, o2, o3, o4, o5, some (xw (x6 + 1)), o7]) f_25_86 rfl (Nat.le_of_ble_eq_true rfl) rfl).trans (st_goto (t := 15) f_25_89 ⟨by decide, rfl⟩)
theorem bX3_look_92r {o1 o2 o4 o5 o6 o7 : Option Value} {x3 : Int} {a0 : Nat} (g1 : T a0 = (5, 0)) : XR sc d 25 92 [some (.ref a0), o1, o2, some (xw x3), o4, o5, o6, o7] [] (T, z, xv V, J, R) = xret 25 (XR sc d 25) 94 97 [some (.ref a0), o1, o2, some (xw x3), o4, o5, o6, o7] [] (X sc d 34 [.ref a0, xw x3] (T, z, xv V, J, R)) :=
  (st_aload_n f_25_92 rfl).trans ((sw_iload_n f_25_93 rfl).trans (st_callV' f_25_94 h_25_55 mn_34 rfl rfl rfl rfl mo_34 g1 rfl))
theorem bX3_look_97r {o1 o4 o5 o6 o7 : Option Value} {x2 x3 : Int} {a0 : Nat} (g1 : T a0 = (5, 0)) : XR sc d 25 97 [some (.ref a0), o1, some (xw x2), some (xw x3), o4, o5, o6, o7] [] (T, z, xv V, J, R) = xret 25 (XR sc d 25) 100 103 [some (.ref a0), o1, some (xw x2), some (xw x3), o4, o5, o6, o7] [] (X sc d 37 [.ref a0, xw x2, xw x3] (T, z, xv V, J, R)) :=
  (st_aload_n f_25_97 rfl).trans ((sw_iload_n f_25_98 rfl).trans ((sw_iload_n f_25_99 rfl).trans (st_callV' f_25_100 h_25_59 mn_37 rfl rfl rfl rfl mo_37 g1 rfl)))
theorem bX3_look_103 {o0 o1 o2 o3 o4 o5 o6 o7 : Option Value} : XR sc d 25 103 [o0, o1, o2, o3, o4, o5, o6, o7] [] (T, z, xv V, J, R) = some (.inl none, (T, z, xv V, J, R)) :=
  st_return f_25_103 mr_25
theorem eX3_exists {a0 : Nat} : X sc (d + 1) 26 [.ref a0] (T, z, xv V, J, R) = XR sc d 26 0 [some (.ref a0)] [] (T, z, xv V, J, R) :=
  (X_eq ⟨jl_26, by rw [mn_26]; rfl, rfl, by rw [lm_26]; exact Nat.le_of_ble_eq_true rfl⟩).trans (by unfold xent; rw [lm_26]; rfl)
theorem bX3_exists_0 {a0 : Nat} (g1 : T a0 = (5, 0)) (g2 : -2147483648 ≤ (V a0 5) ∧ (V a0 5) ≤ 2147483647) : XR sc d 26 0 [some (.ref a0)] [] (T, z, xv V, J, R) = if (V a0 5) ≤ 0 then XR sc d 26 11 [some (.ref a0)] [] (T, z, xv V, J, R) else XR sc d 26 7 [some (.ref a0)] [] (T, z, xv V, J, R) :=
  (st_aload_n f_26_0 rfl).trans ((sw_getI f_26_1 e_26_62 (by decide) g1).trans (sw_if_le (t := 11) f_26_4 ⟨by decide, rfl⟩ g2))
theorem bX3_exists_7 {o0 : Option Value} : XR sc d 26 7 [o0] [] (T, z, xv V, J, R) = XR sc d 26 12 [o0] [xw 1] (T, z, xv V, J, R) :=
  (sw_iconst f_26_7).trans (st_goto (t := 12) f_26_8 ⟨by decide, rfl⟩)
theorem bX3_exists_11 {o0 : Option Value} : XR sc d 26 11 [o0] [] (T, z, xv V, J, R) = XR sc d 26 12 [o0] [xw 0] (T, z, xv V, J, R) :=
  sw_iconst f_26_11
theorem bX3_exists_12 {o0 : Option Value} {y0 : Int} (g1 : y0 = 0 ∨ y0 = 1) : XR sc d 26 12 [o0] [xw y0] (T, z, xv V, J, R) = some (.inl (some (xw y0)), (T, z, xv V, J, R)) :=
  sw_zreturn f_26_12 mr_26 g1
theorem eX3_ringAt {x1 : Int} {a0 : Nat} : X sc (d + 1) 27 [.ref a0, xw x1] (T, z, xv V, J, R) = XR sc d 27 0 [some (.ref a0), some (xw x1)] [] (T, z, xv V, J, R) :=
  (X_eq ⟨jl_27, by rw [mn_27]; rfl, rfl, by rw [lm_27]; exact Nat.le_of_ble_eq_true rfl⟩).trans (by unfold xent; rw [lm_27]; rfl)
theorem bX3_ringAt_0 {o0 : Option Value} {x1 : Int} (g1 : -2147483648 ≤ x1 ∧ x1 ≤ 2147483647) : XR sc d 27 0 [o0, some (xw x1)] [] (T, z, xv V, J, R) = if x1 < 0 then XR sc d 27 30 [o0, some (xw x1)] [] (T, z, xv V, J, R) else XR sc d 27 4 [o0, some (xw x1)] [] (T, z, xv V, J, R) :=
  (sw_iload_n f_27_0 rfl).trans (sw_if_lt (t := 30) f_27_1 ⟨by decide, rfl⟩ g1)
theorem bX3_ringAt_4 {x1 : Int} {a0 : Nat} (g1 : T a0 = (5, 0)) (g2 : -2147483648 ≤ x1 ∧ x1 ≤ 2147483647) (g3 : -2147483648 ≤ (V a0 5) ∧ (V a0 5) ≤ 2147483647) : XR sc d 27 4 [some (.ref a0), some (xw x1)] [] (T, z, xv V, J, R) = if (V a0 5) ≤ x1 then XR sc d 27 30 [some (.ref a0), some (xw x1)] [] (T, z, xv V, J, R) else XR sc d 27 12 [some (.ref a0), some (xw x1)] [] (T, z, xv V, J, R) :=
  (sw_iload_n f_27_4 rfl).trans ((st_aload_n f_27_5 rfl).trans ((sw_getI f_27_6 e_27_62 (by decide) g1).trans (sw_icmp_ge (t := 30) f_27_9 ⟨by decide, rfl⟩ g2 g3)))
theorem bX3_ringAt_12 {x1 : Int} {a0 : Nat} (g1 : T a0 = (5, 0)) (g2 : R a0 4 = some ((R a0 4).getD 0)) (g3 : T ((R a0 4).getD 0) = ((T ((R a0 4).getD 0)).1, (T ((R a0 4).getD 0)).2)) (g4 : (32 ≤ (T ((R a0 4).getD 0)).1 ∧ (T ((R a0 4).getD 0)).1 < 35) ∨ (40 ≤ (T ((R a0 4).getD 0)).1 ∧ (T ((R a0 4).getD 0)).1 < 44)) (g5 : -2147483648 ≤ x1 ∧ x1 ≤ 2147483647) (g6 : -2147483648 ≤ ((T ((R a0 4).getD 0)).2 : Int) ∧ ((T ((R a0 4).getD 0)).2 : Int) ≤ 2147483647) : XR sc d 27 12 [some (.ref a0), some (xw x1)] [] (T, z, xv V, J, R) = if ((T ((R a0 4).getD 0)).2 : Int) ≤ x1 then XR sc d 27 30 [some (.ref a0), some (xw x1)] [] (T, z, xv V, J, R) else XR sc d 27 21 [some (.ref a0), some (xw x1)] [] (T, z, xv V, J, R) :=
  (sw_iload_n f_27_12 rfl).trans ((st_aload_n f_27_13 rfl).trans ((st_getR f_27_14 e_27_25 (by decide) g1 g2).trans ((sw_alenI f_27_17 g3 g4).trans (sw_icmp_ge (t := 30) f_27_18 ⟨by decide, rfl⟩ g5 g6))))
theorem bX3_ringAt_21 {x1 : Int} {a0 : Nat} (g1 : T a0 = (5, 0)) (g2 : R a0 4 = some ((R a0 4).getD 0)) (g3 : T ((R a0 4).getD 0) = (32, (T ((R a0 4).getD 0)).2)) (g4 : (0 : Int) ≤ x1 ∧ x1 < ((T ((R a0 4).getD 0)).2 : Int) ∧ (T ((R a0 4).getD 0)).2 ≤ 3584) : XR sc d 27 21 [some (.ref a0), some (xw x1)] [] (T, z, xv V, J, R) = XR sc d 27 31 [some (.ref a0), some (xw x1)] [xw (V ((R a0 4).getD 0) x1.toNat)] (T, z, xv V, J, R) :=
  (st_aload_n f_27_21 rfl).trans ((st_getR f_27_22 e_27_25 (by decide) g1 g2).trans ((sw_iload_n f_27_25 rfl).trans ((sw_iaload f_27_26 g3 g4).trans (st_goto (t := 31) f_27_27 ⟨by decide, rfl⟩))))
theorem bX3_ringAt_30 {o0 o1 : Option Value} : XR sc d 27 30 [o0, o1] [] (T, z, xv V, J, R) = XR sc d 27 31 [o0, o1] [xw (-1)] (T, z, xv V, J, R) :=
  sw_iconst f_27_30
theorem bX3_ringAt_31 {o0 o1 : Option Value} {y0 : Int} : XR sc d 27 31 [o0, o1] [xw y0] (T, z, xv V, J, R) = some (.inl (some (xw y0)), (T, z, xv V, J, R)) :=
  sw_ireturn f_27_31 mr_27
theorem eX3_isBearing {a0 a1 : Nat} : X sc (d + 1) 28 [.ref a0, .ref a1] (T, z, xv V, J, R) = XR sc d 28 0 [some (.ref a0), some (.ref a1), none] [] (T, z, xv V, J, R) :=
  (X_eq ⟨jl_28, by rw [mn_28]; rfl, rfl, by rw [lm_28]; exact Nat.le_of_ble_eq_true rfl⟩).trans (by unfold xent; rw [lm_28]; rfl)
theorem bX3_isBearing_0 {o0 o2 : Option Value} {a1 : Nat} (g1 : T a1 = (2, 0)) : XR sc d 28 0 [o0, some (.ref a1), o2] [] (T, z, xv V, J, R) = xret 28 (XR sc d 28) 1 4 [o0, some (.ref a1), o2] [] (X sc d 20 [.ref a1] (T, z, xv V, J, R)) :=
  (st_aload_n f_28_0 rfl).trans (st_callV' f_28_1 h_28_31 mn_20 rfl rfl rfl rfl mo_20 g1 rfl)
theorem bX3_isBearing_4 {o0 o1 o2 : Option Value} {y0 : Int} (g1 : -2147483648 ≤ y0 ∧ y0 ≤ 2147483647) : XR sc d 28 4 [o0, o1, o2] [xw y0] (T, z, xv V, J, R) = if y0 = 0 then XR sc d 28 7 [o0, o1, o2] [] (T, z, xv V, J, R) else XR sc d 28 9 [o0, o1, o2] [] (T, z, xv V, J, R) :=
  sw_if_ne (t := 9) f_28_4 ⟨by decide, rfl⟩ g1
theorem bX3_isBearing_7 {o0 o1 o2 : Option Value} : XR sc d 28 7 [o0, o1, o2] [] (T, z, xv V, J, R) = some (.inl (some (xw 0)), (T, z, xv V, J, R)) :=
  (sw_iconst f_28_7).trans (sw_zreturn f_28_8 mr_28 (by decide))
theorem bX3_isBearing_9 {o0 o2 : Option Value} {a1 : Nat} (g1 : T a1 = (2, 0)) : XR sc d 28 9 [o0, some (.ref a1), o2] [] (T, z, xv V, J, R) = xret 28 (XR sc d 28) 17 20 [o0, some (.ref a1), o2] [] (X sc d 31 [xw (V a1 9), xw (V a1 10)] (T, z, xv V, J, R)) :=
  (st_aload_n f_28_9 rfl).trans ((sw_getI f_28_10 e_28_37 (by decide) g1).trans ((st_aload_n f_28_13 rfl).trans ((sw_getI f_28_14 e_28_41 (by decide) g1).trans (st_callS' f_28_17 h_28_44 mn_31 rfl rfl rfl rfl))))
theorem bX3_isBearing_20 {o1 o2 : Option Value} {y0 : Int} {a0 : Nat} (g1 : T a0 = (5, 0)) (g2 : R a0 2 = some ((R a0 2).getD 0)) (g3 : T ((R a0 2).getD 0) = (33, (T ((R a0 2).getD 0)).2)) (g4 : (0 : Int) ≤ y0 ∧ y0 < ((T ((R a0 2).getD 0)).2 : Int) ∧ (T ((R a0 2).getD 0)).2 ≤ 3584) (g5 : -2147483648 ≤ (V ((R a0 2).getD 0) y0.toNat) ∧ (V ((R a0 2).getD 0) y0.toNat) ≤ 2147483647) : XR sc d 28 20 [some (.ref a0), o1, o2] [xw y0] (T, z, xv V, J, R) = if (V ((R a0 2).getD 0) y0.toNat) = 0 then XR sc d 28 47 [some (.ref a0), o1, some (xw y0)] [] (T, z, xv V, J, R) else XR sc d 28 30 [some (.ref a0), o1, some (xw y0)] [] (T, z, xv V, J, R) :=
  (sw_istore_n (L' := [some (.ref a0), o1, some (xw y0)]) f_28_20 (Nat.le_of_ble_eq_true rfl) rfl).trans ((st_aload_n f_28_21 rfl).trans ((st_getR f_28_22 e_28_18 (by decide) g1 g2).trans ((sw_iload_n f_28_25 rfl).trans ((sw_baload f_28_26 g3 g4).trans (sw_if_eq (t := 47) f_28_27 ⟨by decide, rfl⟩ g5)))))
theorem bX3_isBearing_30 {x2 : Int} {a1 a0 : Nat} (g1 : T a1 = (2, 0)) (g2 : T a0 = (5, 0)) (g3 : R a0 0 = some ((R a0 0).getD 0)) (g4 : T ((R a0 0).getD 0) = (32, (T ((R a0 0).getD 0)).2)) (g5 : (0 : Int) ≤ x2 ∧ x2 < ((T ((R a0 0).getD 0)).2 : Int) ∧ (T ((R a0 0).getD 0)).2 ≤ 3584) (g6 : -2147483648 ≤ (V a1 11) ∧ (V a1 11) ≤ 2147483647) (g7 : -2147483648 ≤ (V ((R a0 0).getD 0) x2.toNat) ∧ (V ((R a0 0).getD 0) x2.toNat) ≤ 2147483647) : XR sc d 28 30 [some (.ref a0), some (.ref a1), some (xw x2)] [] (T, z, xv V, J, R) = if (V a1 11) = (V ((R a0 0).getD 0) x2.toNat) then XR sc d 28 43 [some (.ref a0), some (.ref a1), some (xw x2)] [] (T, z, xv V, J, R) else XR sc d 28 47 [some (.ref a0), some (.ref a1), some (xw x2)] [] (T, z, xv V, J, R) :=
  (st_aload_n f_28_30 rfl).trans ((sw_getI f_28_31 e_28_48 (by decide) g1).trans ((st_aload_n f_28_34 rfl).trans ((st_getR f_28_35 e_28_9 (by decide) g2 g3).trans ((sw_iload_n f_28_38 rfl).trans ((sw_iaload f_28_39 g4 g5).trans (sw_icmp_ne (t := 47) f_28_40 ⟨by decide, rfl⟩ g6 g7))))))
theorem bX3_isBearing_43 {o0 o1 o2 : Option Value} : XR sc d 28 43 [o0, o1, o2] [] (T, z, xv V, J, R) = XR sc d 28 48 [o0, o1, o2] [xw 1] (T, z, xv V, J, R) :=
  (sw_iconst f_28_43).trans (st_goto (t := 48) f_28_44 ⟨by decide, rfl⟩)
theorem bX3_isBearing_47 {o0 o1 o2 : Option Value} : XR sc d 28 47 [o0, o1, o2] [] (T, z, xv V, J, R) = XR sc d 28 48 [o0, o1, o2] [xw 0] (T, z, xv V, J, R) :=
  sw_iconst f_28_47
theorem bX3_isBearing_48 {o0 o1 o2 : Option Value} {y0 : Int} (g1 : y0 = 0 ∨ y0 = 1) : XR sc d 28 48 [o0, o1, o2] [xw y0] (T, z, xv V, J, R) = some (.inl (some (xw y0)), (T, z, xv V, J, R)) :=
  sw_zreturn f_28_48 mr_28 g1
theorem eX3_burden {x2 : Int} {a0 a1 : Nat} : X sc (d + 1) 29 [.ref a0, .ref a1, xw x2] (T, z, xv V, J, R) = XR sc d 29 0 [some (.ref a0), some (.ref a1), some (xw x2), none] [] (T, z, xv V, J, R) :=
  (X_eq ⟨jl_29, by rw [mn_29]; rfl, rfl, by rw [lm_29]; exact Nat.le_of_ble_eq_true rfl⟩).trans (by unfold xent; rw [lm_29]; rfl)
theorem bX3_burden_0 {o2 o3 : Option Value} {a0 a1 : Nat} (g1 : T a0 = (5, 0)) : XR sc d 29 0 [some (.ref a0), some (.ref a1), o2, o3] [] (T, z, xv V, J, R) = xret 29 (XR sc d 29) 2 5 [some (.ref a0), some (.ref a1), o2, o3] [] (X sc d 28 [.ref a0, .ref a1] (T, z, xv V, J, R)) :=
  (st_aload_n f_29_0 rfl).trans ((st_aload_n f_29_1 rfl).trans (st_callV' f_29_2 h_29_65 mn_28 rfl rfl rfl rfl mo_28 g1 rfl))
theorem bX3_burden_5 {o0 o1 o2 o3 : Option Value} {y0 : Int} (g1 : -2147483648 ≤ y0 ∧ y0 ≤ 2147483647) : XR sc d 29 5 [o0, o1, o2, o3] [xw y0] (T, z, xv V, J, R) = if y0 = 0 then XR sc d 29 27 [o0, o1, o2, o3] [] (T, z, xv V, J, R) else XR sc d 29 8 [o0, o1, o2, o3] [] (T, z, xv V, J, R) :=
  sw_if_eq (t := 27) f_29_5 ⟨by decide, rfl⟩ g1
theorem bX3_burden_8 {o2 o3 : Option Value} {a0 a1 : Nat} (g1 : T a0 = (5, 0)) (g2 : R a0 1 = some ((R a0 1).getD 0)) (g3 : T a1 = (2, 0)) : XR sc d 29 8 [some (.ref a0), some (.ref a1), o2, o3] [] (T, z, xv V, J, R) = xret 29 (XR sc d 29) 20 23 [some (.ref a0), some (.ref a1), o2, o3] [.ref ((R a0 1).getD 0)] (X sc d 31 [xw (V a1 9), xw (V a1 10)] (T, z, xv V, J, R)) :=
  (st_aload_n f_29_8 rfl).trans ((st_getR f_29_9 e_29_15 (by decide) g1 g2).trans ((st_aload_n f_29_12 rfl).trans ((sw_getI f_29_13 e_29_37 (by decide) g3).trans ((st_aload_n f_29_16 rfl).trans ((sw_getI f_29_17 e_29_41 (by decide) g3).trans (st_callS' f_29_20 h_29_44 mn_31 rfl rfl rfl rfl))))))
theorem bX3_burden_23 {o0 o1 o2 o3 : Option Value} {y0 : Int} {b1 : Nat} (g1 : T b1 = (32, (T b1).2)) (g2 : (0 : Int) ≤ y0 ∧ y0 < ((T b1).2 : Int) ∧ (T b1).2 ≤ 3584) : XR sc d 29 23 [o0, o1, o2, o3] [xw y0, .ref b1] (T, z, xv V, J, R) = XR sc d 29 28 [o0, o1, o2, o3] [xw (V b1 y0.toNat)] (T, z, xv V, J, R) :=
  (sw_iaload f_29_23 g1 g2).trans (st_goto (t := 28) f_29_24 ⟨by decide, rfl⟩)
theorem bX3_burden_27 {o0 o1 o2 o3 : Option Value} : XR sc d 29 27 [o0, o1, o2, o3] [] (T, z, xv V, J, R) = XR sc d 29 28 [o0, o1, o2, o3] [xw 0] (T, z, xv V, J, R) :=
  sw_iconst f_29_27
theorem bX3_burden_28 {o0 o1 o2 o3 : Option Value} {y0 : Int} (g1 : -2147483648 ≤ y0 ∧ y0 ≤ 2147483647) : XR sc d 29 28 [o0, o1, o2, o3] [xw y0] (T, z, xv V, J, R) = if y0 ≤ 0 then XR sc d 29 43 [o0, o1, o2, some (xw y0)] [] (T, z, xv V, J, R) else XR sc d 29 33 [o0, o1, o2, some (xw y0)] [] (T, z, xv V, J, R) :=
  (sw_istore_n (L' := [o0, o1, o2, some (xw y0)]) f_29_28 (Nat.le_of_ble_eq_true rfl) rfl).trans ((sw_iload_n f_29_29 rfl).trans (sw_if_le (t := 43) f_29_30 ⟨by decide, rfl⟩ g1))
theorem bX3_burden_33 {o0 o1 : Option Value} {x2 x3 : Int} (g1 : 0 < x3 ∧ x3 ≤ 2147483647 ∧ 0 ≤ ((x2 + x3) - 1) ∧ ((x2 + x3) - 1) ≤ 2147483647) : XR sc d 29 33 [o0, o1, some (xw x2), some (xw x3)] [] (T, z, xv V, J, R) = XR sc d 29 44 [o0, o1, some (xw x2), some (xw x3)] [xw (((x2 + x3) - 1) / x3)] (T, z, xv V, J, R) :=
  (sw_iload_n f_29_33 rfl).trans ((sw_iload_n f_29_34 rfl).trans ((sw_iadd f_29_35).trans ((sw_iconst f_29_36).trans ((sw_isub f_29_37).trans ((sw_iload_n f_29_38 rfl).trans ((sw_idiv f_29_39 g1).trans (st_goto (t := 44) f_29_40 ⟨by decide, rfl⟩)))))))
theorem bX3_burden_43 {o0 o1 o2 o3 : Option Value} : XR sc d 29 43 [o0, o1, o2, o3] [] (T, z, xv V, J, R) = XR sc d 29 44 [o0, o1, o2, o3] [xw 0] (T, z, xv V, J, R) :=
  sw_iconst f_29_43
theorem bX3_burden_44 {o0 o1 o2 o3 : Option Value} {y0 : Int} : XR sc d 29 44 [o0, o1, o2, o3] [xw y0] (T, z, xv V, J, R) = some (.inl (some (xw y0)), (T, z, xv V, J, R)) :=
  sw_ireturn f_29_44 mr_29
theorem eX3_mostFor {a0 a1 : Nat} : X sc (d + 1) 30 [.ref a0, .ref a1] (T, z, xv V, J, R) = XR sc d 30 0 [some (.ref a0), some (.ref a1), none] [] (T, z, xv V, J, R) :=
  (X_eq ⟨jl_30, by rw [mn_30]; rfl, rfl, by rw [lm_30]; exact Nat.le_of_ble_eq_true rfl⟩).trans (by unfold xent; rw [lm_30]; rfl)
theorem bX3_mostFor_0 {o2 : Option Value} {a0 a1 : Nat} (g1 : T a0 = (5, 0)) : XR sc d 30 0 [some (.ref a0), some (.ref a1), o2] [] (T, z, xv V, J, R) = xret 30 (XR sc d 30) 2 5 [some (.ref a0), some (.ref a1), o2] [] (X sc d 28 [.ref a0, .ref a1] (T, z, xv V, J, R)) :=
  (st_aload_n f_30_0 rfl).trans ((st_aload_n f_30_1 rfl).trans (st_callV' f_30_2 h_30_65 mn_28 rfl rfl rfl rfl mo_28 g1 rfl))
theorem bX3_mostFor_5 {o0 o1 o2 : Option Value} {y0 : Int} (g1 : -2147483648 ≤ y0 ∧ y0 ≤ 2147483647) : XR sc d 30 5 [o0, o1, o2] [xw y0] (T, z, xv V, J, R) = if y0 = 0 then XR sc d 30 27 [o0, o1, o2] [] (T, z, xv V, J, R) else XR sc d 30 8 [o0, o1, o2] [] (T, z, xv V, J, R) :=
  sw_if_eq (t := 27) f_30_5 ⟨by decide, rfl⟩ g1
theorem bX3_mostFor_8 {o2 : Option Value} {a0 a1 : Nat} (g1 : T a0 = (5, 0)) (g2 : R a0 1 = some ((R a0 1).getD 0)) (g3 : T a1 = (2, 0)) : XR sc d 30 8 [some (.ref a0), some (.ref a1), o2] [] (T, z, xv V, J, R) = xret 30 (XR sc d 30) 20 23 [some (.ref a0), some (.ref a1), o2] [.ref ((R a0 1).getD 0)] (X sc d 31 [xw (V a1 9), xw (V a1 10)] (T, z, xv V, J, R)) :=
  (st_aload_n f_30_8 rfl).trans ((st_getR f_30_9 e_30_15 (by decide) g1 g2).trans ((st_aload_n f_30_12 rfl).trans ((sw_getI f_30_13 e_30_37 (by decide) g3).trans ((st_aload_n f_30_16 rfl).trans ((sw_getI f_30_17 e_30_41 (by decide) g3).trans (st_callS' f_30_20 h_30_44 mn_31 rfl rfl rfl rfl))))))
theorem bX3_mostFor_23 {o0 o1 o2 : Option Value} {y0 : Int} {b1 : Nat} (g1 : T b1 = (32, (T b1).2)) (g2 : (0 : Int) ≤ y0 ∧ y0 < ((T b1).2 : Int) ∧ (T b1).2 ≤ 3584) : XR sc d 30 23 [o0, o1, o2] [xw y0, .ref b1] (T, z, xv V, J, R) = XR sc d 30 28 [o0, o1, o2] [xw (V b1 y0.toNat)] (T, z, xv V, J, R) :=
  (sw_iaload f_30_23 g1 g2).trans (st_goto (t := 28) f_30_24 ⟨by decide, rfl⟩)
theorem bX3_mostFor_27 {o0 o1 o2 : Option Value} : XR sc d 30 27 [o0, o1, o2] [] (T, z, xv V, J, R) = XR sc d 30 28 [o0, o1, o2] [xw 0] (T, z, xv V, J, R) :=
  sw_iconst f_30_27
theorem bX3_mostFor_28 {o0 o2 : Option Value} {y0 : Int} {a1 : Nat} (g1 : T a1 = (2, 0)) : XR sc d 30 28 [o0, some (.ref a1), o2] [xw y0] (T, z, xv V, J, R) = xret 30 (XR sc d 30) 31 34 [o0, some (.ref a1), some (xw y0)] [xw y0] (X sc d 19 [.ref a1] (T, z, xv V, J, R)) :=
  (sw_istore_n (L' := [o0, some (.ref a1), some (xw y0)]) f_30_28 (Nat.le_of_ble_eq_true rfl) rfl).trans ((sw_iload_n f_30_29 rfl).trans ((st_aload_n f_30_30 rfl).trans (st_callV' f_30_31 h_30_69 mn_19 rfl rfl rfl rfl mo_19 g1 rfl)))
theorem bX3_mostFor_34 {o0 o1 o2 : Option Value} {y0 y1 : Int} : XR sc d 30 34 [o0, o1, o2] [xw y0, xw y1] (T, z, xv V, J, R) = some (.inl (some (xw (y1 * y0))), (T, z, xv V, J, R)) :=
  (sw_imul f_30_34).trans (sw_ireturn f_30_35 mr_30)
theorem eX3_pair {x0 x1 : Int} : X sc (d + 1) 31 [xw x0, xw x1] (T, z, xv V, J, R) = XR sc d 31 0 [some (xw x0), some (xw x1)] [] (T, z, xv V, J, R) :=
  (X_eq ⟨jl_31, by rw [mn_31]; rfl, rfl, by rw [lm_31]; exact Nat.le_of_ble_eq_true rfl⟩).trans (by unfold xent; rw [lm_31]; rfl)
theorem bX3_pair_0 {x0 x1 : Int} : XR sc d 31 0 [some (xw x0), some (xw x1)] [] (T, z, xv V, J, R) = some (.inl (some (xw ((x0 * 8) + x1))), (T, z, xv V, J, R)) :=
  (sw_iload_n f_31_0 rfl).trans ((sw_bipush f_31_1 c8_8).trans ((sw_imul f_31_3).trans ((sw_iload_n f_31_4 rfl).trans ((sw_iadd f_31_5).trans (sw_ireturn f_31_6 mr_31)))))
theorem eX3_clear {a0 : Nat} : X sc (d + 1) 32 [.ref a0] (T, z, xv V, J, R) = XR sc d 32 0 [some (.ref a0), none] [] (T, z, xv V, J, R) :=
  (X_eq ⟨jl_32, by rw [mn_32]; rfl, rfl, by rw [lm_32]; exact Nat.le_of_ble_eq_true rfl⟩).trans (by unfold xent; rw [lm_32]; rfl)
theorem bX3_clear_0 {o0 o1 : Option Value} : XR sc d 32 0 [o0, o1] [] (T, z, xv V, J, R) = XR sc d 32 2 [o0, some (xw 0)] [] (T, z, xv V, J, R) :=
  (sw_iconst f_32_0).trans (sw_istore_n (L' := [o0, some (xw 0)]) f_32_1 (Nat.le_of_ble_eq_true rfl) rfl)
theorem bX3_clear_2 {o0 : Option Value} {x1 : Int} (g1 : -2147483648 ≤ x1 ∧ x1 ≤ 2147483647) : XR sc d 32 2 [o0, some (xw x1)] [] (T, z, xv V, J, R) = if 64 ≤ x1 then XR sc d 32 35 [o0, some (xw x1)] [] (T, z, xv V, J, R) else XR sc d 32 8 [o0, some (xw x1)] [] (T, z, xv V, J, R) :=
  (sw_iload_n f_32_2 rfl).trans ((sw_bipush f_32_3 c8_64).trans (sw_icmp_ge (t := 35) f_32_5 ⟨by decide, rfl⟩ g1 ⟨by decide, by decide⟩))
theorem bX3_clear_8 {x1 : Int} {a0 : Nat} (g1 : T a0 = (5, 0)) (g2 : R a0 0 = some ((R a0 0).getD 0)) (g3 : T ((R a0 0).getD 0) = (32, (T ((R a0 0).getD 0)).2)) (g4 : (0 : Int) ≤ x1 ∧ x1 < ((T ((R a0 0).getD 0)).2 : Int) ∧ (T ((R a0 0).getD 0)).2 ≤ 3584) (g5 : R a0 1 = some ((R a0 1).getD 0)) (g6 : T ((R a0 1).getD 0) = (32, (T ((R a0 1).getD 0)).2)) (g7 : (0 : Int) ≤ x1 ∧ x1 < ((T ((R a0 1).getD 0)).2 : Int) ∧ (T ((R a0 1).getD 0)).2 ≤ 3584) (g8 : R a0 2 = some ((R a0 2).getD 0)) (g9 : T ((R a0 2).getD 0) = (33, (T ((R a0 2).getD 0)).2)) (g10 : (0 : Int) ≤ x1 ∧ x1 < ((T ((R a0 2).getD 0)).2 : Int) ∧ (T ((R a0 2).getD 0)).2 ≤ 3584) : XR sc d 32 8 [some (.ref a0), some (xw x1)] [] (T, z, xv V, J, R) = XR sc d 32 2 [some (.ref a0), some (xw (x1 + 1))] [] (T, z, xv (xup2 (xup2 (xup2 V ((R a0 0).getD 0) x1.toNat 0) ((R a0 1).getD 0) x1.toNat 0) ((R a0 2).getD 0) x1.toNat 0), J, R) :=
  (st_aload_n f_32_8 rfl).trans ((st_getR f_32_9 e_32_9 (by decide) g1 g2).trans ((sw_iload_n f_32_12 rfl).trans ((sw_iconst f_32_13).trans ((sw_iastore f_32_14 g3 g4).trans ((st_aload_n f_32_15 rfl).trans ((st_getR f_32_16 e_32_15 (by decide) g1 g5).trans ((sw_iload_n f_32_19 rfl).trans ((sw_iconst f_32_20).trans ((sw_iastore f_32_21 g6 g7).trans ((st_aload_n f_32_22 rfl).trans ((st_getR f_32_23 e_32_18 (by decide) g1 g8).trans ((sw_iload_n f_32_26 rfl).trans ((sw_iconst f_32_27).trans ((sw_bastore f_32_28 g9 g10 (by decide)).trans ((sw_iinc (L' := [some (.ref a0), some (xw (x1 + 1))]) f_32_29 rfl (Nat.le_of_ble_eq_true rfl) rfl).trans (st_goto (t := 2) f_32_32 ⟨by decide, rfl⟩))))))))))))))))
theorem bX3_clear_35 {o1 : Option Value} {a0 : Nat} (g1 : T a0 = (5, 0)) : XR sc d 32 35 [some (.ref a0), o1] [] (T, z, xv V, J, R) = some (.inl none, (T, z, xv (xup2 V a0 5 0), J, R)) :=
  (st_aload_n f_32_35 rfl).trans ((sw_iconst f_32_36).trans ((sw_putI f_32_37 e_32_62 (Or.inl rfl) (Or.inl rfl) g1).trans (st_return f_32_40 mr_32)))
theorem eX3_note {x1 x2 : Int} {a0 : Nat} : X sc (d + 1) 33 [.ref a0, xw x1, xw x2] (T, z, xv V, J, R) = XR sc d 33 0 [some (.ref a0), some (xw x1), some (xw x2)] [] (T, z, xv V, J, R) :=
  (X_eq ⟨jl_33, by rw [mn_33]; rfl, rfl, by rw [lm_33]; exact Nat.le_of_ble_eq_true rfl⟩).trans (by unfold xent; rw [lm_33]; rfl)
theorem bX3_note_0 {o2 : Option Value} {x1 : Int} {a0 : Nat} (g1 : T a0 = (5, 0)) (g2 : R a0 0 = some ((R a0 0).getD 0)) (g3 : T ((R a0 0).getD 0) = (32, (T ((R a0 0).getD 0)).2)) (g4 : (0 : Int) ≤ x1 ∧ x1 < ((T ((R a0 0).getD 0)).2 : Int) ∧ (T ((R a0 0).getD 0)).2 ≤ 3584) (g5 : -2147483648 ≤ (V ((R a0 0).getD 0) x1.toNat) ∧ (V ((R a0 0).getD 0) x1.toNat) ≤ 2147483647) : XR sc d 33 0 [some (.ref a0), some (xw x1), o2] [] (T, z, xv V, J, R) = if (V ((R a0 0).getD 0) x1.toNat) = 0 then XR sc d 33 19 [some (.ref a0), some (xw x1), o2] [] (T, z, xv V, J, R) else XR sc d 33 9 [some (.ref a0), some (xw x1), o2] [] (T, z, xv V, J, R) :=
  (st_aload_n f_33_0 rfl).trans ((st_getR f_33_1 e_33_9 (by decide) g1 g2).trans ((sw_iload_n f_33_4 rfl).trans ((sw_iaload f_33_5 g3 g4).trans (sw_if_eq (t := 19) f_33_6 ⟨by decide, rfl⟩ g5))))
theorem bX3_note_9 {x2 x1 : Int} {a0 : Nat} (g1 : T a0 = (5, 0)) (g2 : R a0 0 = some ((R a0 0).getD 0)) (g3 : T ((R a0 0).getD 0) = (32, (T ((R a0 0).getD 0)).2)) (g4 : (0 : Int) ≤ x1 ∧ x1 < ((T ((R a0 0).getD 0)).2 : Int) ∧ (T ((R a0 0).getD 0)).2 ≤ 3584) (g5 : -2147483648 ≤ x2 ∧ x2 ≤ 2147483647) (g6 : -2147483648 ≤ (V ((R a0 0).getD 0) x1.toNat) ∧ (V ((R a0 0).getD 0) x1.toNat) ≤ 2147483647) : XR sc d 33 9 [some (.ref a0), some (xw x1), some (xw x2)] [] (T, z, xv V, J, R) = if (V ((R a0 0).getD 0) x1.toNat) ≤ x2 then XR sc d 33 33 [some (.ref a0), some (xw x1), some (xw x2)] [] (T, z, xv V, J, R) else XR sc d 33 19 [some (.ref a0), some (xw x1), some (xw x2)] [] (T, z, xv V, J, R) :=
  (sw_iload_n f_33_9 rfl).trans ((st_aload_n f_33_10 rfl).trans ((st_getR f_33_11 e_33_9 (by decide) g1 g2).trans ((sw_iload_n f_33_14 rfl).trans ((sw_iaload f_33_15 g3 g4).trans (sw_icmp_ge (t := 33) f_33_16 ⟨by decide, rfl⟩ g5 g6)))))
theorem bX3_note_19 {x1 x2 : Int} {a0 : Nat} (g1 : T a0 = (5, 0)) (g2 : R a0 0 = some ((R a0 0).getD 0)) (g3 : T ((R a0 0).getD 0) = (32, (T ((R a0 0).getD 0)).2)) (g4 : (0 : Int) ≤ x1 ∧ x1 < ((T ((R a0 0).getD 0)).2 : Int) ∧ (T ((R a0 0).getD 0)).2 ≤ 3584) (g5 : R a0 1 = some ((R a0 1).getD 0)) (g6 : T ((R a0 1).getD 0) = (32, (T ((R a0 1).getD 0)).2)) (g7 : (0 : Int) ≤ x1 ∧ x1 < ((T ((R a0 1).getD 0)).2 : Int) ∧ (T ((R a0 1).getD 0)).2 ≤ 3584) : XR sc d 33 19 [some (.ref a0), some (xw x1), some (xw x2)] [] (T, z, xv V, J, R) = XR sc d 33 33 [some (.ref a0), some (xw x1), some (xw x2)] [] (T, z, xv (xup2 (xup2 V ((R a0 0).getD 0) x1.toNat x2) ((R a0 1).getD 0) x1.toNat 0), J, R) :=
  (st_aload_n f_33_19 rfl).trans ((st_getR f_33_20 e_33_9 (by decide) g1 g2).trans ((sw_iload_n f_33_23 rfl).trans ((sw_iload_n f_33_24 rfl).trans ((sw_iastore f_33_25 g3 g4).trans ((st_aload_n f_33_26 rfl).trans ((st_getR f_33_27 e_33_15 (by decide) g1 g5).trans ((sw_iload_n f_33_30 rfl).trans ((sw_iconst f_33_31).trans (sw_iastore f_33_32 g6 g7)))))))))
theorem bX3_note_33 {x2 x1 : Int} {a0 : Nat} (g1 : T a0 = (5, 0)) (g2 : R a0 0 = some ((R a0 0).getD 0)) (g3 : T ((R a0 0).getD 0) = (32, (T ((R a0 0).getD 0)).2)) (g4 : (0 : Int) ≤ x1 ∧ x1 < ((T ((R a0 0).getD 0)).2 : Int) ∧ (T ((R a0 0).getD 0)).2 ≤ 3584) (g5 : -2147483648 ≤ x2 ∧ x2 ≤ 2147483647) (g6 : -2147483648 ≤ (V ((R a0 0).getD 0) x1.toNat) ∧ (V ((R a0 0).getD 0) x1.toNat) ≤ 2147483647) : XR sc d 33 33 [some (.ref a0), some (xw x1), some (xw x2)] [] (T, z, xv V, J, R) = if x2 = (V ((R a0 0).getD 0) x1.toNat) then XR sc d 33 43 [some (.ref a0), some (xw x1), some (xw x2)] [] (T, z, xv V, J, R) else XR sc d 33 53 [some (.ref a0), some (xw x1), some (xw x2)] [] (T, z, xv V, J, R) :=
  (sw_iload_n f_33_33 rfl).trans ((st_aload_n f_33_34 rfl).trans ((st_getR f_33_35 e_33_9 (by decide) g1 g2).trans ((sw_iload_n f_33_38 rfl).trans ((sw_iaload f_33_39 g3 g4).trans (sw_icmp_ne (t := 53) f_33_40 ⟨by decide, rfl⟩ g5 g6)))))
theorem bX3_note_43 {o2 : Option Value} {x1 : Int} {a0 : Nat} (g1 : T a0 = (5, 0)) (g2 : R a0 1 = some ((R a0 1).getD 0)) (g3 : T ((R a0 1).getD 0) = (32, (T ((R a0 1).getD 0)).2)) (g4 : (0 : Int) ≤ x1 ∧ x1 < ((T ((R a0 1).getD 0)).2 : Int) ∧ (T ((R a0 1).getD 0)).2 ≤ 3584) : XR sc d 33 43 [some (.ref a0), some (xw x1), o2] [] (T, z, xv V, J, R) = XR sc d 33 53 [some (.ref a0), some (xw x1), o2] [] (T, z, xv (xup2 V ((R a0 1).getD 0) x1.toNat ((V ((R a0 1).getD 0) x1.toNat) + 1)), J, R) :=
  (st_aload_n f_33_43 rfl).trans ((st_getR f_33_44 e_33_15 (by decide) g1 g2).trans ((sw_iload_n f_33_47 rfl).trans ((st_dup2 f_33_48 rfl rfl).trans ((sw_iaload f_33_49 g3 g4).trans ((sw_iconst f_33_50).trans ((sw_iadd f_33_51).trans (sw_iastore f_33_52 g3 g4)))))))
theorem bX3_note_53 {o0 o1 o2 : Option Value} : XR sc d 33 53 [o0, o1, o2] [] (T, z, xv V, J, R) = some (.inl none, (T, z, xv V, J, R)) :=
  st_return f_33_53 mr_33
theorem eX3_reckon {x1 : Int} {a0 : Nat} : X sc (d + 1) 34 [.ref a0, xw x1] (T, z, xv V, J, R) = XR sc d 34 0 [some (.ref a0), some (xw x1), none, none, none, none] [] (T, z, xv V, J, R) :=
  (X_eq ⟨jl_34, by rw [mn_34]; rfl, rfl, by rw [lm_34]; exact Nat.le_of_ble_eq_true rfl⟩).trans (by unfold xent; rw [lm_34]; rfl)
theorem bX3_reckon_0 {o0 o1 o2 o3 o4 o5 : Option Value} : XR sc d 34 0 [o0, o1, o2, o3, o4, o5] [] (T, z, xv V, J, R) = XR sc d 34 2 [o0, o1, some (xw 0), o3, o4, o5] [] (T, z, xv V, J, R) :=
  (sw_iconst f_34_0).trans (sw_istore_n (L' := [o0, o1, some (xw 0), o3, o4, o5]) f_34_1 (Nat.le_of_ble_eq_true rfl) rfl)
theorem bX3_reckon_2 {o0 o1 o3 o4 o5 : Option Value} {x2 : Int} (g1 : -2147483648 ≤ x2 ∧ x2 ≤ 2147483647) : XR sc d 34 2 [o0, o1, some (xw x2), o3, o4, o5] [] (T, z, xv V, J, R) = if 8 ≤ x2 then XR sc d 34 22 [o0, o1, some (xw x2), o3, o4, o5] [] (T, z, xv V, J, R) else XR sc d 34 8 [o0, o1, some (xw x2), o3, o4, o5] [] (T, z, xv V, J, R) :=
  (sw_iload_n f_34_2 rfl).trans ((sw_bipush f_34_3 c8_8).trans (sw_icmp_ge (t := 22) f_34_5 ⟨by decide, rfl⟩ g1 ⟨by decide, by decide⟩))
theorem bX3_reckon_8 {o1 o3 o4 o5 : Option Value} {x2 : Int} {a0 : Nat} (g1 : T a0 = (5, 0)) (g2 : R a0 3 = some ((R a0 3).getD 0)) (g3 : T ((R a0 3).getD 0) = (32, (T ((R a0 3).getD 0)).2)) (g4 : (0 : Int) ≤ x2 ∧ x2 < ((T ((R a0 3).getD 0)).2 : Int) ∧ (T ((R a0 3).getD 0)).2 ≤ 3584) : XR sc d 34 8 [some (.ref a0), o1, some (xw x2), o3, o4, o5] [] (T, z, xv V, J, R) = XR sc d 34 2 [some (.ref a0), o1, some (xw (x2 + 1)), o3, o4, o5] [] (T, z, xv (xup2 V ((R a0 3).getD 0) x2.toNat 1000000), J, R) :=
  (st_aload_n f_34_8 rfl).trans ((st_getR f_34_9 e_34_22 (by decide) g1 g2).trans ((sw_iload_n f_34_12 rfl).trans ((sw_ldc 1000000 f_34_13 k_34_73 rfl).trans ((sw_iastore f_34_15 g3 g4).trans ((sw_iinc (L' := [some (.ref a0), o1, some (xw (x2 + 1)), o3, o4, o5]) f_34_16 rfl (Nat.le_of_ble_eq_true rfl) rfl).trans (st_goto (t := 2) f_34_19 ⟨by decide, rfl⟩))))))
theorem bX3_reckon_22 {o2 o3 o4 o5 : Option Value} {x1 : Int} {a0 : Nat} (g1 : T a0 = (5, 0)) (g2 : R a0 3 = some ((R a0 3).getD 0)) (g3 : T ((R a0 3).getD 0) = (32, (T ((R a0 3).getD 0)).2)) (g4 : (0 : Int) ≤ x1 ∧ x1 < ((T ((R a0 3).getD 0)).2 : Int) ∧ (T ((R a0 3).getD 0)).2 ≤ 3584) : XR sc d 34 22 [some (.ref a0), some (xw x1), o2, o3, o4, o5] [] (T, z, xv V, J, R) = XR sc d 34 33 [some (.ref a0), some (xw x1), some (xw 1), some (xw 0), o4, o5] [] (T, z, xv (xup2 V ((R a0 3).getD 0) x1.toNat 0), J, R) :=
  (st_aload_n f_34_22 rfl).trans ((st_getR f_34_23 e_34_22 (by decide) g1 g2).trans ((sw_iload_n f_34_26 rfl).trans ((sw_iconst f_34_27).trans ((sw_iastore f_34_28 g3 g4).trans ((sw_iconst f_34_29).trans ((sw_istore_n (L' := [some (.ref a0), some (xw x1), some (xw 1), o3, o4, o5]) f_34_30 (Nat.le_of_ble_eq_true rfl) rfl).trans ((sw_iconst f_34_31).trans (sw_istore_n (L' := [some (.ref a0), some (xw x1), some (xw 1), some (xw 0), o4, o5]) f_34_32 (Nat.le_of_ble_eq_true rfl) rfl))))))))
theorem bX3_reckon_33 {o0 o1 o2 o4 o5 : Option Value} {x3 : Int} (g1 : -2147483648 ≤ x3 ∧ x3 ≤ 2147483647) : XR sc d 34 33 [o0, o1, o2, some (xw x3), o4, o5] [] (T, z, xv V, J, R) = if 8 ≤ x3 then XR sc d 34 98 [o0, o1, o2, some (xw x3), o4, o5] [] (T, z, xv V, J, R) else XR sc d 34 39 [o0, o1, o2, some (xw x3), o4, o5] [] (T, z, xv V, J, R) :=
  (sw_iload_n f_34_33 rfl).trans ((sw_bipush f_34_34 c8_8).trans (sw_icmp_ge (t := 98) f_34_36 ⟨by decide, rfl⟩ g1 ⟨by decide, by decide⟩))
theorem bX3_reckon_39 {o0 o1 o3 o4 o5 : Option Value} {x2 : Int} (g1 : -2147483648 ≤ x2 ∧ x2 ≤ 2147483647) : XR sc d 34 39 [o0, o1, some (xw x2), o3, o4, o5] [] (T, z, xv V, J, R) = if x2 = 0 then XR sc d 34 98 [o0, o1, some (xw x2), o3, o4, o5] [] (T, z, xv V, J, R) else XR sc d 34 43 [o0, o1, some (xw x2), o3, o4, o5] [] (T, z, xv V, J, R) :=
  (sw_iload_n f_34_39 rfl).trans (sw_if_eq (t := 98) f_34_40 ⟨by decide, rfl⟩ g1)
theorem bX3_reckon_43 {o0 o1 o2 o3 o4 o5 : Option Value} : XR sc d 34 43 [o0, o1, o2, o3, o4, o5] [] (T, z, xv V, J, R) = XR sc d 34 48 [o0, o1, some (xw 0), o3, some (xw 0), o5] [] (T, z, xv V, J, R) :=
  (sw_iconst f_34_43).trans ((sw_istore_n (L' := [o0, o1, some (xw 0), o3, o4, o5]) f_34_44 (Nat.le_of_ble_eq_true rfl) rfl).trans ((sw_iconst f_34_45).trans (sw_istore (L' := [o0, o1, some (xw 0), o3, some (xw 0), o5]) f_34_46 (Nat.le_of_ble_eq_true rfl) rfl)))
theorem bX3_reckon_48 {o0 o1 o2 o3 o5 : Option Value} {x4 : Int} (g1 : -2147483648 ≤ x4 ∧ x4 ≤ 2147483647) : XR sc d 34 48 [o0, o1, o2, o3, some (xw x4), o5] [] (T, z, xv V, J, R) = if 8 ≤ x4 then XR sc d 34 92 [o0, o1, o2, o3, some (xw x4), o5] [] (T, z, xv V, J, R) else XR sc d 34 55 [o0, o1, o2, o3, some (xw x4), o5] [] (T, z, xv V, J, R) :=
  (sw_iload f_34_48 rfl).trans ((sw_bipush f_34_50 c8_8).trans (sw_icmp_ge (t := 92) f_34_52 ⟨by decide, rfl⟩ g1 ⟨by decide, by decide⟩))
theorem bX3_reckon_55 {o1 o2 o3 o5 : Option Value} {x4 : Int} {a0 : Nat} (g1 : T a0 = (5, 0)) : XR sc d 34 55 [some (.ref a0), o1, o2, o3, some (xw x4), o5] [] (T, z, xv V, J, R) = xret 34 (XR sc d 34) 58 61 [some (.ref a0), o1, o2, o3, some (xw x4), o5] [] (X sc d 35 [.ref a0, xw x4] (T, z, xv V, J, R)) :=
  (st_aload_n f_34_55 rfl).trans ((sw_iload f_34_56 rfl).trans (st_callV' f_34_58 h_34_74 mn_35 rfl rfl rfl rfl mo_35 g1 rfl))
theorem bX3_reckon_61 {o1 o2 o3 o5 : Option Value} {y0 x4 : Int} {a0 : Nat} (g1 : T a0 = (5, 0)) (g2 : R a0 3 = some ((R a0 3).getD 0)) (g3 : T ((R a0 3).getD 0) = (32, (T ((R a0 3).getD 0)).2)) (g4 : (0 : Int) ≤ x4 ∧ x4 < ((T ((R a0 3).getD 0)).2 : Int) ∧ (T ((R a0 3).getD 0)).2 ≤ 3584) (g5 : -2147483648 ≤ y0 ∧ y0 ≤ 2147483647) (g6 : -2147483648 ≤ (V ((R a0 3).getD 0) x4.toNat) ∧ (V ((R a0 3).getD 0) x4.toNat) ≤ 2147483647) : XR sc d 34 61 [some (.ref a0), o1, o2, o3, some (xw x4), o5] [xw y0] (T, z, xv V, J, R) = if (V ((R a0 3).getD 0) x4.toNat) ≤ y0 then XR sc d 34 86 [some (.ref a0), o1, o2, o3, some (xw x4), some (xw y0)] [] (T, z, xv V, J, R) else XR sc d 34 75 [some (.ref a0), o1, o2, o3, some (xw x4), some (xw y0)] [] (T, z, xv V, J, R) :=
  (sw_istore (L' := [some (.ref a0), o1, o2, o3, some (xw x4), some (xw y0)]) f_34_61 (Nat.le_of_ble_eq_true rfl) rfl).trans ((sw_iload f_34_63 rfl).trans ((st_aload_n f_34_65 rfl).trans ((st_getR f_34_66 e_34_22 (by decide) g1 g2).trans ((sw_iload f_34_69 rfl).trans ((sw_iaload f_34_71 g3 g4).trans (sw_icmp_ge (t := 86) f_34_72 ⟨by decide, rfl⟩ g5 g6))))))
theorem bX3_reckon_75 {o1 o2 o3 : Option Value} {x4 x5 : Int} {a0 : Nat} (g1 : T a0 = (5, 0)) (g2 : R a0 3 = some ((R a0 3).getD 0)) (g3 : T ((R a0 3).getD 0) = (32, (T ((R a0 3).getD 0)).2)) (g4 : (0 : Int) ≤ x4 ∧ x4 < ((T ((R a0 3).getD 0)).2 : Int) ∧ (T ((R a0 3).getD 0)).2 ≤ 3584) : XR sc d 34 75 [some (.ref a0), o1, o2, o3, some (xw x4), some (xw x5)] [] (T, z, xv V, J, R) = XR sc d 34 86 [some (.ref a0), o1, some (xw 1), o3, some (xw x4), some (xw x5)] [] (T, z, xv (xup2 V ((R a0 3).getD 0) x4.toNat x5), J, R) :=
  (st_aload_n f_34_75 rfl).trans ((st_getR f_34_76 e_34_22 (by decide) g1 g2).trans ((sw_iload f_34_79 rfl).trans ((sw_iload f_34_81 rfl).trans ((sw_iastore f_34_83 g3 g4).trans ((sw_iconst f_34_84).trans (sw_istore_n (L' := [some (.ref a0), o1, some (xw 1), o3, some (xw x4), some (xw x5)]) f_34_85 (Nat.le_of_ble_eq_true rfl) rfl))))))
theorem bX3_reckon_86 {o0 o1 o2 o3 o5 : Option Value} {x4 : Int} : XR sc d 34 86 [o0, o1, o2, o3, some (xw x4), o5] [] (T, z, xv V, J, R) = XR sc d 34 48 [o0, o1, o2, o3, some (xw (x4 + 1)), o5] [] (T, z, xv V, J, R) :=
  (sw_iinc (L' := [o0, o1, o2, o3, some (xw (x4 + 1)), o5]) f_34_86 rfl (Nat.le_of_ble_eq_true rfl) rfl).trans (st_goto (t := 48) f_34_89 ⟨by decide, rfl⟩)
theorem bX3_reckon_92 {o0 o1 o2 o4 o5 : Option Value} {x3 : Int} : XR sc d 34 92 [o0, o1, o2, some (xw x3), o4, o5] [] (T, z, xv V, J, R) = XR sc d 34 33 [o0, o1, o2, some (xw (x3 + 1)), o4, o5] [] (T, z, xv V, J, R) :=
  (sw_iinc (L' := [o0, o1, o2, some (xw (x3 + 1)), o4, o5]) f_34_92 rfl (Nat.le_of_ble_eq_true rfl) rfl).trans (st_goto (t := 33) f_34_95 ⟨by decide, rfl⟩)
theorem bX3_reckon_98 {o0 o1 o2 o3 o4 o5 : Option Value} : XR sc d 34 98 [o0, o1, o2, o3, o4, o5] [] (T, z, xv V, J, R) = some (.inl none, (T, z, xv V, J, R)) :=
  st_return f_34_98 mr_34
theorem eX3_nearest {x1 : Int} {a0 : Nat} : X sc (d + 1) 35 [.ref a0, xw x1] (T, z, xv V, J, R) = XR sc d 35 0 [some (.ref a0), some (xw x1), none, none] [] (T, z, xv V, J, R) :=
  (X_eq ⟨jl_35, by rw [mn_35]; rfl, rfl, by rw [lm_35]; exact Nat.le_of_ble_eq_true rfl⟩).trans (by unfold xent; rw [lm_35]; rfl)
theorem bX3_nearest_0 {o0 o1 o2 o3 : Option Value} : XR sc d 35 0 [o0, o1, o2, o3] [] (T, z, xv V, J, R) = XR sc d 35 5 [o0, o1, some (xw 1000000), some (xw 0)] [] (T, z, xv V, J, R) :=
  (sw_ldc 1000000 f_35_0 k_35_73 rfl).trans ((sw_istore_n (L' := [o0, o1, some (xw 1000000), o3]) f_35_2 (Nat.le_of_ble_eq_true rfl) rfl).trans ((sw_iconst f_35_3).trans (sw_istore_n (L' := [o0, o1, some (xw 1000000), some (xw 0)]) f_35_4 (Nat.le_of_ble_eq_true rfl) rfl)))
theorem bX3_nearest_5 {o0 o1 o2 : Option Value} {x3 : Int} (g1 : -2147483648 ≤ x3 ∧ x3 ≤ 2147483647) : XR sc d 35 5 [o0, o1, o2, some (xw x3)] [] (T, z, xv V, J, R) = if 8 ≤ x3 then XR sc d 35 28 [o0, o1, o2, some (xw x3)] [] (T, z, xv V, J, R) else XR sc d 35 11 [o0, o1, o2, some (xw x3)] [] (T, z, xv V, J, R) :=
  (sw_iload_n f_35_5 rfl).trans ((sw_bipush f_35_6 c8_8).trans (sw_icmp_ge (t := 28) f_35_8 ⟨by decide, rfl⟩ g1 ⟨by decide, by decide⟩))
theorem bX3_nearest_11 {x2 x1 x3 : Int} {a0 : Nat} (g1 : T a0 = (5, 0)) : XR sc d 35 11 [some (.ref a0), some (xw x1), some (xw x2), some (xw x3)] [] (T, z, xv V, J, R) = xret 35 (XR sc d 35) 15 18 [some (.ref a0), some (xw x1), some (xw x2), some (xw x3)] [xw x2] (X sc d 36 [.ref a0, xw x1, xw x3] (T, z, xv V, J, R)) :=
  (sw_iload_n f_35_11 rfl).trans ((st_aload_n f_35_12 rfl).trans ((sw_iload_n f_35_13 rfl).trans ((sw_iload_n f_35_14 rfl).trans (st_callV' f_35_15 h_35_78 mn_36 rfl rfl rfl rfl mo_36 g1 rfl))))
theorem bX3_nearest_18 {o0 o1 o2 o3 : Option Value} {y0 y1 : Int} : XR sc d 35 18 [o0, o1, o2, o3] [xw y0, xw y1] (T, z, xv V, J, R) = xret 35 (XR sc d 35) 18 21 [o0, o1, o2, o3] [] (X sc d 159 [xw y1, xw y0] (T, z, xv V, J, R)) :=
  st_callS' f_35_18 h_35_81 mn_159 rfl rfl rfl rfl
theorem bX3_nearest_21 {o0 o1 o2 : Option Value} {y0 x3 : Int} : XR sc d 35 21 [o0, o1, o2, some (xw x3)] [xw y0] (T, z, xv V, J, R) = XR sc d 35 5 [o0, o1, some (xw y0), some (xw (x3 + 1))] [] (T, z, xv V, J, R) :=
  (sw_istore_n (L' := [o0, o1, some (xw y0), some (xw x3)]) f_35_21 (Nat.le_of_ble_eq_true rfl) rfl).trans ((sw_iinc (L' := [o0, o1, some (xw y0), some (xw (x3 + 1))]) f_35_22 rfl (Nat.le_of_ble_eq_true rfl) rfl).trans (st_goto (t := 5) f_35_25 ⟨by decide, rfl⟩))
theorem bX3_nearest_28 {o0 o1 o3 : Option Value} {x2 : Int} : XR sc d 35 28 [o0, o1, some (xw x2), o3] [] (T, z, xv V, J, R) = some (.inl (some (xw x2)), (T, z, xv V, J, R)) :=
  (sw_iload_n f_35_28 rfl).trans (sw_ireturn f_35_29 mr_35)
theorem eX3_through {x1 x2 : Int} {a0 : Nat} : X sc (d + 1) 36 [.ref a0, xw x1, xw x2] (T, z, xv V, J, R) = XR sc d 36 0 [some (.ref a0), some (xw x1), some (xw x2), none] [] (T, z, xv V, J, R) :=
  (X_eq ⟨jl_36, by rw [mn_36]; rfl, rfl, by rw [lm_36]; exact Nat.le_of_ble_eq_true rfl⟩).trans (by unfold xent; rw [lm_36]; rfl)
theorem bX3_through_0 {o3 : Option Value} {x1 x2 : Int} {a0 : Nat} (g1 : T a0 = (5, 0)) (g2 : R a0 0 = some ((R a0 0).getD 0)) : XR sc d 36 0 [some (.ref a0), some (xw x1), some (xw x2), o3] [] (T, z, xv V, J, R) = xret 36 (XR sc d 36) 6 9 [some (.ref a0), some (xw x1), some (xw x2), o3] [.ref ((R a0 0).getD 0)] (X sc d 31 [xw x1, xw x2] (T, z, xv V, J, R)) :=
  (st_aload_n f_36_0 rfl).trans ((st_getR f_36_1 e_36_9 (by decide) g1 g2).trans ((sw_iload_n f_36_4 rfl).trans ((sw_iload_n f_36_5 rfl).trans (st_callS' f_36_6 h_36_44 mn_31 rfl rfl rfl rfl))))
theorem bX3_through_9 {o0 o1 o2 o3 : Option Value} {y0 : Int} {b1 : Nat} (g1 : T b1 = (32, (T b1).2)) (g2 : (0 : Int) ≤ y0 ∧ y0 < ((T b1).2 : Int) ∧ (T b1).2 ≤ 3584) (g3 : -2147483648 ≤ (V b1 y0.toNat) ∧ (V b1 y0.toNat) ≤ 2147483647) : XR sc d 36 9 [o0, o1, o2, o3] [xw y0, .ref b1] (T, z, xv V, J, R) = if (V b1 y0.toNat) ≤ 0 then XR sc d 36 31 [o0, o1, o2, some (xw (V b1 y0.toNat))] [] (T, z, xv V, J, R) else XR sc d 36 15 [o0, o1, o2, some (xw (V b1 y0.toNat))] [] (T, z, xv V, J, R) :=
  (sw_iaload f_36_9 g1 g2).trans ((sw_istore_n (L' := [o0, o1, o2, some (xw (V b1 y0.toNat))]) f_36_10 (Nat.le_of_ble_eq_true rfl) rfl).trans ((sw_iload_n f_36_11 rfl).trans (sw_if_le (t := 31) f_36_12 ⟨by decide, rfl⟩ g3)))
theorem bX3_through_15 {o1 : Option Value} {x3 x2 : Int} {a0 : Nat} (g1 : T a0 = (5, 0)) (g2 : R a0 3 = some ((R a0 3).getD 0)) (g3 : T ((R a0 3).getD 0) = (32, (T ((R a0 3).getD 0)).2)) (g4 : (0 : Int) ≤ x2 ∧ x2 < ((T ((R a0 3).getD 0)).2 : Int) ∧ (T ((R a0 3).getD 0)).2 ≤ 3584) : XR sc d 36 15 [some (.ref a0), o1, some (xw x2), some (xw x3)] [] (T, z, xv V, J, R) = XR sc d 36 33 [some (.ref a0), o1, some (xw x2), some (xw x3)] [xw (((x3 * 16) + 1) + (V ((R a0 3).getD 0) x2.toNat))] (T, z, xv V, J, R) :=
  (sw_iload_n f_36_15 rfl).trans ((sw_bipush f_36_16 c8_16).trans ((sw_imul f_36_18).trans ((sw_iconst f_36_19).trans ((sw_iadd f_36_20).trans ((st_aload_n f_36_21 rfl).trans ((st_getR f_36_22 e_36_22 (by decide) g1 g2).trans ((sw_iload_n f_36_25 rfl).trans ((sw_iaload f_36_26 g3 g4).trans ((sw_iadd f_36_27).trans (st_goto (t := 33) f_36_28 ⟨by decide, rfl⟩))))))))))
theorem bX3_through_31 {o0 o1 o2 o3 : Option Value} : XR sc d 36 31 [o0, o1, o2, o3] [] (T, z, xv V, J, R) = XR sc d 36 33 [o0, o1, o2, o3] [xw 1000000] (T, z, xv V, J, R) :=
  sw_ldc 1000000 f_36_31 k_36_73 rfl
theorem bX3_through_33 {o0 o1 o2 o3 : Option Value} {y0 : Int} : XR sc d 36 33 [o0, o1, o2, o3] [xw y0] (T, z, xv V, J, R) = some (.inl (some (xw y0)), (T, z, xv V, J, R)) :=
  sw_ireturn f_36_33 mr_36
theorem eX3_walk {x1 x2 : Int} {a0 : Nat} : X sc (d + 1) 37 [.ref a0, xw x1, xw x2] (T, z, xv V, J, R) = XR sc d 37 0 [some (.ref a0), some (xw x1), some (xw x2), none, none, none] [] (T, z, xv V, J, R) :=
  (X_eq ⟨jl_37, by rw [mn_37]; rfl, rfl, by rw [lm_37]; exact Nat.le_of_ble_eq_true rfl⟩).trans (by unfold xent; rw [lm_37]; rfl)
theorem bX3_walk_0 {o2 o3 o4 o5 : Option Value} {x1 : Int} {a0 : Nat} (g1 : T a0 = (5, 0)) (g2 : R a0 3 = some ((R a0 3).getD 0)) (g3 : T ((R a0 3).getD 0) = (32, (T ((R a0 3).getD 0)).2)) (g4 : (0 : Int) ≤ x1 ∧ x1 < ((T ((R a0 3).getD 0)).2 : Int) ∧ (T ((R a0 3).getD 0)).2 ≤ 3584) (g5 : -2147483648 ≤ (V ((R a0 3).getD 0) x1.toNat) ∧ (V ((R a0 3).getD 0) x1.toNat) ≤ 2147483647) : XR sc d 37 0 [some (.ref a0), some (xw x1), o2, o3, o4, o5] [] (T, z, xv V, J, R) = if (V ((R a0 3).getD 0) x1.toNat) < 1000000 then XR sc d 37 12 [some (.ref a0), some (xw x1), o2, o3, o4, o5] [] (T, z, xv V, J, R) else XR sc d 37 11 [some (.ref a0), some (xw x1), o2, o3, o4, o5] [] (T, z, xv V, J, R) :=
  (st_aload_n f_37_0 rfl).trans ((st_getR f_37_1 e_37_22 (by decide) g1 g2).trans ((sw_iload_n f_37_4 rfl).trans ((sw_iaload f_37_5 g3 g4).trans ((sw_ldc 1000000 f_37_6 k_37_73 rfl).trans (sw_icmp_lt (t := 12) f_37_8 ⟨by decide, rfl⟩ g5 ⟨by decide, by decide⟩)))))
theorem bX3_walk_11 {o0 o1 o2 o3 o4 o5 : Option Value} : XR sc d 37 11 [o0, o1, o2, o3, o4, o5] [] (T, z, xv V, J, R) = some (.inl none, (T, z, xv V, J, R)) :=
  st_return f_37_11 mr_37
theorem bX3_walk_12 {o2 o3 o4 o5 : Option Value} {x1 : Int} {a0 : Nat} (g1 : T a0 = (5, 0)) (g2 : R a0 4 = some ((R a0 4).getD 0)) (g3 : T ((R a0 4).getD 0) = (32, (T ((R a0 4).getD 0)).2)) (g4 : (0 : Int) ≤ 0 ∧ 0 < ((T ((R a0 4).getD 0)).2 : Int) ∧ (T ((R a0 4).getD 0)).2 ≤ 3584) : XR sc d 37 12 [some (.ref a0), some (xw x1), o2, o3, o4, o5] [] (T, z, xv V, J, R) = XR sc d 37 29 [some (.ref a0), some (xw x1), o2, some (xw x1), some (xw 1), o5] [] (T, z, xv (xup2 (xup2 V ((R a0 4).getD 0) 0 x1) a0 5 1), J, R) :=
  (sw_iload_n f_37_12 rfl).trans ((sw_istore_n (L' := [some (.ref a0), some (xw x1), o2, some (xw x1), o4, o5]) f_37_13 (Nat.le_of_ble_eq_true rfl) rfl).trans ((st_aload_n f_37_14 rfl).trans ((st_getR f_37_15 e_37_25 (by decide) g1 g2).trans ((sw_iconst f_37_18).trans ((sw_iload_n f_37_19 rfl).trans ((sw_iastore f_37_20 g3 g4).trans ((st_aload_n f_37_21 rfl).trans ((sw_iconst f_37_22).trans ((sw_putI f_37_23 e_37_62 (Or.inl rfl) (Or.inl rfl) g1).trans ((sw_iconst f_37_26).trans (sw_istore (L' := [some (.ref a0), some (xw x1), o2, some (xw x1), some (xw 1), o5]) f_37_27 (Nat.le_of_ble_eq_true rfl) rfl)))))))))))
theorem bX3_walk_29 {o0 o1 o2 o3 o5 : Option Value} {x4 : Int} (g1 : -2147483648 ≤ x4 ∧ x4 ≤ 2147483647) : XR sc d 37 29 [o0, o1, o2, o3, some (xw x4), o5] [] (T, z, xv V, J, R) = if 8 ≤ x4 then XR sc d 37 105 [o0, o1, o2, o3, some (xw x4), o5] [] (T, z, xv V, J, R) else XR sc d 37 36 [o0, o1, o2, o3, some (xw x4), o5] [] (T, z, xv V, J, R) :=
  (sw_iload f_37_29 rfl).trans ((sw_bipush f_37_31 c8_8).trans (sw_icmp_ge (t := 105) f_37_33 ⟨by decide, rfl⟩ g1 ⟨by decide, by decide⟩))
theorem bX3_walk_36 {o0 o1 o4 o5 : Option Value} {x3 x2 : Int} (g1 : -2147483648 ≤ x3 ∧ x3 ≤ 2147483647) (g2 : -2147483648 ≤ x2 ∧ x2 ≤ 2147483647) : XR sc d 37 36 [o0, o1, some (xw x2), some (xw x3), o4, o5] [] (T, z, xv V, J, R) = if x3 = x2 then XR sc d 37 105 [o0, o1, some (xw x2), some (xw x3), o4, o5] [] (T, z, xv V, J, R) else XR sc d 37 41 [o0, o1, some (xw x2), some (xw x3), o4, o5] [] (T, z, xv V, J, R) :=
  (sw_iload_n f_37_36 rfl).trans ((sw_iload_n f_37_37 rfl).trans (sw_icmp_eq (t := 105) f_37_38 ⟨by decide, rfl⟩ g1 g2))
theorem bX3_walk_41 {o1 o2 o4 o5 : Option Value} {x3 : Int} {a0 : Nat} (g1 : T a0 = (5, 0)) : XR sc d 37 41 [some (.ref a0), o1, o2, some (xw x3), o4, o5] [] (T, z, xv V, J, R) = xret 37 (XR sc d 37) 43 46 [some (.ref a0), o1, o2, some (xw x3), o4, o5] [] (X sc d 38 [.ref a0, xw x3] (T, z, xv V, J, R)) :=
  (st_aload_n f_37_41 rfl).trans ((sw_iload_n f_37_42 rfl).trans (st_callV' f_37_43 h_37_86 mn_38 rfl rfl rfl rfl mo_38 g1 rfl))
theorem bX3_walk_46 {o0 o1 o2 o3 o4 o5 : Option Value} {y0 : Int} (g1 : -2147483648 ≤ y0 ∧ y0 ≤ 2147483647) : XR sc d 37 46 [o0, o1, o2, o3, o4, o5] [xw y0] (T, z, xv V, J, R) = if y0 = (-1) then XR sc d 37 54 [o0, o1, o2, o3, o4, some (xw y0)] [] (T, z, xv V, J, R) else XR sc d 37 55 [o0, o1, o2, o3, o4, some (xw y0)] [] (T, z, xv V, J, R) :=
  (sw_istore (L' := [o0, o1, o2, o3, o4, some (xw y0)]) f_37_46 (Nat.le_of_ble_eq_true rfl) rfl).trans ((sw_iload f_37_48 rfl).trans ((sw_iconst f_37_50).trans (sw_icmp_ne (t := 55) f_37_51 ⟨by decide, rfl⟩ g1 ⟨by decide, by decide⟩)))
theorem bX3_walk_54 {o0 o1 o2 o3 o4 o5 : Option Value} : XR sc d 37 54 [o0, o1, o2, o3, o4, o5] [] (T, z, xv V, J, R) = some (.inl none, (T, z, xv V, J, R)) :=
  st_return f_37_54 mr_37
theorem bX3_walk_55 {o1 o2 o4 : Option Value} {x3 x5 : Int} {a0 : Nat} (g1 : T a0 = (5, 0)) (g2 : R a0 2 = some ((R a0 2).getD 0)) : XR sc d 37 55 [some (.ref a0), o1, o2, some (xw x3), o4, some (xw x5)] [] (T, z, xv V, J, R) = xret 37 (XR sc d 37) 62 65 [some (.ref a0), o1, o2, some (xw x3), o4, some (xw x5)] [.ref ((R a0 2).getD 0)] (X sc d 31 [xw x3, xw x5] (T, z, xv V, J, R)) :=
  (st_aload_n f_37_55 rfl).trans ((st_getR f_37_56 e_37_18 (by decide) g1 g2).trans ((sw_iload_n f_37_59 rfl).trans ((sw_iload f_37_60 rfl).trans (st_callS' f_37_62 h_37_44 mn_31 rfl rfl rfl rfl))))
theorem bX3_walk_65 {o1 o2 o4 : Option Value} {y0 x5 x3 : Int} {b1 a0 : Nat} (g1 : T b1 = (33, (T b1).2)) (g2 : (0 : Int) ≤ y0 ∧ y0 < ((T b1).2 : Int) ∧ (T b1).2 ≤ 3584) (g3 : T a0 = (5, 0)) (g4 : R a0 2 = some ((R a0 2).getD 0)) : XR sc d 37 65 [some (.ref a0), o1, o2, some (xw x3), o4, some (xw x5)] [xw y0, .ref b1] (T, z, xv V, J, R) = xret 37 (XR sc d 37) 74 77 [some (.ref a0), o1, o2, some (xw x3), o4, some (xw x5)] [.ref ((R a0 2).getD 0)] (X sc d 31 [xw x5, xw x3] (T, z, xv (xup2 V b1 y0.toNat 1), J, R)) :=
  (sw_iconst f_37_65).trans ((sw_bastore f_37_66 g1 g2 (by decide)).trans ((st_aload_n f_37_67 rfl).trans ((st_getR f_37_68 e_37_18 (by decide) g3 g4).trans ((sw_iload f_37_71 rfl).trans ((sw_iload_n f_37_73 rfl).trans (st_callS' f_37_74 h_37_44 mn_31 rfl rfl rfl rfl))))))
theorem bX3_walk_77 {o1 o2 o3 : Option Value} {y0 x4 x5 : Int} {b1 a0 : Nat} (g1 : T b1 = (33, (T b1).2)) (g2 : (0 : Int) ≤ y0 ∧ y0 < ((T b1).2 : Int) ∧ (T b1).2 ≤ 3584) (g3 : T a0 = (5, 0)) (g4 : R a0 4 = some ((R a0 4).getD 0)) (g5 : T ((R a0 4).getD 0) = (32, (T ((R a0 4).getD 0)).2)) (g6 : (0 : Int) ≤ x4 ∧ x4 < ((T ((R a0 4).getD 0)).2 : Int) ∧ (T ((R a0 4).getD 0)).2 ≤ 3584) : XR sc d 37 77 [some (.ref a0), o1, o2, o3, some (xw x4), some (xw x5)] [xw y0, .ref b1] (T, z, xv V, J, R) = XR sc d 37 29 [some (.ref a0), o1, o2, some (xw x5), some (xw (x4 + 1)), some (xw x5)] [] (T, z, xv (xup2 (xup2 (xup2 V b1 y0.toNat 1) ((R a0 4).getD 0) x4.toNat x5) a0 5 (x4 + 1)), J, R) :=
  (sw_iconst f_37_77).trans ((sw_bastore f_37_78 g1 g2 (by decide)).trans ((st_aload_n f_37_79 rfl).trans ((st_getR f_37_80 e_37_25 (by decide) g3 g4).trans ((sw_iload f_37_83 rfl).trans ((sw_iload f_37_85 rfl).trans ((sw_iastore f_37_87 g5 g6).trans ((st_aload_n f_37_88 rfl).trans ((sw_iload f_37_89 rfl).trans ((sw_iconst f_37_91).trans ((sw_iadd f_37_92).trans ((sw_putI f_37_93 e_37_62 (Or.inl rfl) (Or.inl rfl) g3).trans ((sw_iload f_37_96 rfl).trans ((sw_istore_n (L' := [some (.ref a0), o1, o2, some (xw x5), some (xw x4), some (xw x5)]) f_37_98 (Nat.le_of_ble_eq_true rfl) rfl).trans ((sw_iinc (L' := [some (.ref a0), o1, o2, some (xw x5), some (xw (x4 + 1)), some (xw x5)]) f_37_99 rfl (Nat.le_of_ble_eq_true rfl) rfl).trans (st_goto (t := 29) f_37_102 ⟨by decide, rfl⟩)))))))))))))))
theorem bX3_walk_105 {o0 o1 o2 o3 o4 o5 : Option Value} : XR sc d 37 105 [o0, o1, o2, o3, o4, o5] [] (T, z, xv V, J, R) = some (.inl none, (T, z, xv V, J, R)) :=
  st_return f_37_105 mr_37
theorem eX3_lowestNext {x1 : Int} {a0 : Nat} : X sc (d + 1) 38 [.ref a0, xw x1] (T, z, xv V, J, R) = XR sc d 38 0 [some (.ref a0), some (xw x1), none] [] (T, z, xv V, J, R) :=
  (X_eq ⟨jl_38, by rw [mn_38]; rfl, rfl, by rw [lm_38]; exact Nat.le_of_ble_eq_true rfl⟩).trans (by unfold xent; rw [lm_38]; rfl)
theorem bX3_lowestNext_0 {o0 o1 o2 : Option Value} : XR sc d 38 0 [o0, o1, o2] [] (T, z, xv V, J, R) = XR sc d 38 2 [o0, o1, some (xw 0)] [] (T, z, xv V, J, R) :=
  (sw_iconst f_38_0).trans (sw_istore_n (L' := [o0, o1, some (xw 0)]) f_38_1 (Nat.le_of_ble_eq_true rfl) rfl)
theorem bX3_lowestNext_2 {o0 o1 : Option Value} {x2 : Int} (g1 : -2147483648 ≤ x2 ∧ x2 ≤ 2147483647) : XR sc d 38 2 [o0, o1, some (xw x2)] [] (T, z, xv V, J, R) = if 8 ≤ x2 then XR sc d 38 31 [o0, o1, some (xw x2)] [] (T, z, xv V, J, R) else XR sc d 38 8 [o0, o1, some (xw x2)] [] (T, z, xv V, J, R) :=
  (sw_iload_n f_38_2 rfl).trans ((sw_bipush f_38_3 c8_8).trans (sw_icmp_ge (t := 31) f_38_5 ⟨by decide, rfl⟩ g1 ⟨by decide, by decide⟩))
theorem bX3_lowestNext_8 {x1 x2 : Int} {a0 : Nat} (g1 : T a0 = (5, 0)) : XR sc d 38 8 [some (.ref a0), some (xw x1), some (xw x2)] [] (T, z, xv V, J, R) = xret 38 (XR sc d 38) 11 14 [some (.ref a0), some (xw x1), some (xw x2)] [] (X sc d 36 [.ref a0, xw x1, xw x2] (T, z, xv V, J, R)) :=
  (st_aload_n f_38_8 rfl).trans ((sw_iload_n f_38_9 rfl).trans ((sw_iload_n f_38_10 rfl).trans (st_callV' f_38_11 h_38_78 mn_36 rfl rfl rfl rfl mo_36 g1 rfl)))
theorem bX3_lowestNext_14 {o2 : Option Value} {x1 y0 : Int} {a0 : Nat} (g1 : T a0 = (5, 0)) (g2 : R a0 3 = some ((R a0 3).getD 0)) (g3 : T ((R a0 3).getD 0) = (32, (T ((R a0 3).getD 0)).2)) (g4 : (0 : Int) ≤ x1 ∧ x1 < ((T ((R a0 3).getD 0)).2 : Int) ∧ (T ((R a0 3).getD 0)).2 ≤ 3584) (g5 : -2147483648 ≤ y0 ∧ y0 ≤ 2147483647) (g6 : -2147483648 ≤ (V ((R a0 3).getD 0) x1.toNat) ∧ (V ((R a0 3).getD 0) x1.toNat) ≤ 2147483647) : XR sc d 38 14 [some (.ref a0), some (xw x1), o2] [xw y0] (T, z, xv V, J, R) = if y0 = (V ((R a0 3).getD 0) x1.toNat) then XR sc d 38 23 [some (.ref a0), some (xw x1), o2] [] (T, z, xv V, J, R) else XR sc d 38 25 [some (.ref a0), some (xw x1), o2] [] (T, z, xv V, J, R) :=
  (st_aload_n f_38_14 rfl).trans ((st_getR f_38_15 e_38_22 (by decide) g1 g2).trans ((sw_iload_n f_38_18 rfl).trans ((sw_iaload f_38_19 g3 g4).trans (sw_icmp_ne (t := 25) f_38_20 ⟨by decide, rfl⟩ g5 g6))))
theorem bX3_lowestNext_23 {o0 o1 : Option Value} {x2 : Int} : XR sc d 38 23 [o0, o1, some (xw x2)] [] (T, z, xv V, J, R) = some (.inl (some (xw x2)), (T, z, xv V, J, R)) :=
  (sw_iload_n f_38_23 rfl).trans (sw_ireturn f_38_24 mr_38)
theorem bX3_lowestNext_25 {o0 o1 : Option Value} {x2 : Int} : XR sc d 38 25 [o0, o1, some (xw x2)] [] (T, z, xv V, J, R) = XR sc d 38 2 [o0, o1, some (xw (x2 + 1))] [] (T, z, xv V, J, R) :=
  (sw_iinc (L' := [o0, o1, some (xw (x2 + 1))]) f_38_25 rfl (Nat.le_of_ble_eq_true rfl) rfl).trans (st_goto (t := 2) f_38_28 ⟨by decide, rfl⟩)
theorem bX3_lowestNext_31 {o0 o1 o2 : Option Value} : XR sc d 38 31 [o0, o1, o2] [] (T, z, xv V, J, R) = some (.inl (some (xw (-1))), (T, z, xv V, J, R)) :=
  (sw_iconst f_38_31).trans (sw_ireturn f_38_32 mr_38)
end BLK
