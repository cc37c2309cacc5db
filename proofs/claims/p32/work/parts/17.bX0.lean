/-! instructions, by program (gen2.py) -/
set_option maxRecDepth 100000 in
theorem f_0_0 : xft 0 0 = some (.aload_n 0) := by decide +kernel
set_option maxRecDepth 100000 in
theorem f_0_1 : xft 0 1 = some (.invokespecial 3) := by decide +kernel
set_option maxRecDepth 100000 in
theorem f_0_4 : xft 0 4 = some (.aload_n 0) := by decide +kernel
set_option maxRecDepth 100000 in
theorem f_0_5 : xft 0 5 = some (.iload_n 1) := by decide +kernel
set_option maxRecDepth 100000 in
theorem f_0_6 : xft 0 6 = some (.putfield 9) := by decide +kernel
set_option maxRecDepth 100000 in
theorem f_0_9 : xft 0 9 = some (.aload_n 0) := by decide +kernel
set_option maxRecDepth 100000 in
theorem f_0_10 : xft 0 10 = some (.bipush 96) := by decide +kernel
set_option maxRecDepth 100000 in
theorem f_0_12 : xft 0 12 = some (.newarray .boolean) := by decide +kernel
set_option maxRecDepth 100000 in
theorem f_0_14 : xft 0 14 = some (.putfield 15) := by decide +kernel
set_option maxRecDepth 100000 in
theorem f_0_17 : xft 0 17 = some (.return_) := by decide +kernel
set_option maxRecDepth 100000 in
theorem f_1_0 : xft 1 0 = some (.iload_n 2) := by decide +kernel
set_option maxRecDepth 100000 in
theorem f_1_1 : xft 1 1 = some (.istore 5) := by decide +kernel
set_option maxRecDepth 100000 in
theorem f_1_3 : xft 1 3 = some (.iload 5) := by decide +kernel
set_option maxRecDepth 100000 in
theorem f_1_5 : xft 1 5 = some (.iload_n 2) := by decide +kernel
set_option maxRecDepth 100000 in
theorem f_1_6 : xft 1 6 = some (.iload 4) := by decide +kernel
set_option maxRecDepth 100000 in
theorem f_1_8 : xft 1 8 = some (.iadd) := by decide +kernel
set_option maxRecDepth 100000 in
theorem f_1_9 : xft 1 9 = some (.if_icmp .ge 40) := by decide +kernel
set_option maxRecDepth 100000 in
theorem f_1_12 : xft 1 12 = some (.iload_n 1) := by decide +kernel
set_option maxRecDepth 100000 in
theorem f_1_13 : xft 1 13 = some (.istore 6) := by decide +kernel
set_option maxRecDepth 100000 in
theorem f_1_15 : xft 1 15 = some (.iload 6) := by decide +kernel
set_option maxRecDepth 100000 in
theorem f_1_17 : xft 1 17 = some (.iload_n 1) := by decide +kernel
set_option maxRecDepth 100000 in
theorem f_1_18 : xft 1 18 = some (.iload_n 3) := by decide +kernel
set_option maxRecDepth 100000 in
theorem f_1_19 : xft 1 19 = some (.iadd) := by decide +kernel
set_option maxRecDepth 100000 in
theorem f_1_20 : xft 1 20 = some (.if_icmp .ge 23) := by decide +kernel
set_option maxRecDepth 100000 in
theorem f_1_23 : xft 1 23 = some (.aload_n 0) := by decide +kernel
set_option maxRecDepth 100000 in
theorem f_1_24 : xft 1 24 = some (.getfield 15) := by decide +kernel
set_option maxRecDepth 100000 in
theorem f_1_27 : xft 1 27 = some (.iload 5) := by decide +kernel
set_option maxRecDepth 100000 in
theorem f_1_29 : xft 1 29 = some (.bipush 12) := by decide +kernel
set_option maxRecDepth 100000 in
theorem f_1_31 : xft 1 31 = some (.imul) := by decide +kernel
set_option maxRecDepth 100000 in
theorem f_1_32 : xft 1 32 = some (.iload 6) := by decide +kernel
set_option maxRecDepth 100000 in
theorem f_1_34 : xft 1 34 = some (.iadd) := by decide +kernel
set_option maxRecDepth 100000 in
theorem f_1_35 : xft 1 35 = some (.iconst 1) := by decide +kernel
set_option maxRecDepth 100000 in
theorem f_1_36 : xft 1 36 = some (.bastore) := by decide +kernel
set_option maxRecDepth 100000 in
theorem f_1_37 : xft 1 37 = some (.iinc 6 1) := by decide +kernel
set_option maxRecDepth 100000 in
theorem f_1_40 : xft 1 40 = some (.goto (-25)) := by decide +kernel
set_option maxRecDepth 100000 in
theorem f_1_43 : xft 1 43 = some (.iinc 5 1) := by decide +kernel
set_option maxRecDepth 100000 in
theorem f_1_46 : xft 1 46 = some (.goto (-43)) := by decide +kernel
set_option maxRecDepth 100000 in
theorem f_1_49 : xft 1 49 = some (.return_) := by decide +kernel
set_option maxRecDepth 100000 in
theorem f_2_0 : xft 2 0 = some (.iconst 0) := by decide +kernel
set_option maxRecDepth 100000 in
theorem f_2_1 : xft 2 1 = some (.istore_n 1) := by decide +kernel
set_option maxRecDepth 100000 in
theorem f_2_2 : xft 2 2 = some (.aload_n 0) := by decide +kernel
set_option maxRecDepth 100000 in
theorem f_2_3 : xft 2 3 = some (.getfield 15) := by decide +kernel
set_option maxRecDepth 100000 in
theorem f_2_6 : xft 2 6 = some (.astore_n 2) := by decide +kernel
set_option maxRecDepth 100000 in
theorem f_2_7 : xft 2 7 = some (.aload_n 2) := by decide +kernel
set_option maxRecDepth 100000 in
theorem f_2_8 : xft 2 8 = some (.arraylength) := by decide +kernel
set_option maxRecDepth 100000 in
theorem f_2_9 : xft 2 9 = some (.istore_n 3) := by decide +kernel
set_option maxRecDepth 100000 in
theorem f_2_10 : xft 2 10 = some (.iconst 0) := by decide +kernel
set_option maxRecDepth 100000 in
theorem f_2_11 : xft 2 11 = some (.istore 4) := by decide +kernel
set_option maxRecDepth 100000 in
theorem f_2_13 : xft 2 13 = some (.iload 4) := by decide +kernel
set_option maxRecDepth 100000 in
theorem f_2_15 : xft 2 15 = some (.iload_n 3) := by decide +kernel
set_option maxRecDepth 100000 in
theorem f_2_16 : xft 2 16 = some (.if_icmp .ge 28) := by decide +kernel
set_option maxRecDepth 100000 in
theorem f_2_19 : xft 2 19 = some (.aload_n 2) := by decide +kernel
set_option maxRecDepth 100000 in
theorem f_2_20 : xft 2 20 = some (.iload 4) := by decide +kernel
set_option maxRecDepth 100000 in
theorem f_2_22 : xft 2 22 = some (.baload) := by decide +kernel
set_option maxRecDepth 100000 in
theorem f_2_23 : xft 2 23 = some (.istore 5) := by decide +kernel
set_option maxRecDepth 100000 in
theorem f_2_25 : xft 2 25 = some (.iload_n 1) := by decide +kernel
set_option maxRecDepth 100000 in
theorem f_2_26 : xft 2 26 = some (.iload 5) := by decide +kernel
set_option maxRecDepth 100000 in
theorem f_2_28 : xft 2 28 = some (.ifCond .eq 7) := by decide +kernel
set_option maxRecDepth 100000 in
theorem f_2_31 : xft 2 31 = some (.iconst 0) := by decide +kernel
set_option maxRecDepth 100000 in
theorem f_2_32 : xft 2 32 = some (.goto 4) := by decide +kernel
set_option maxRecDepth 100000 in
theorem f_2_35 : xft 2 35 = some (.iconst 1) := by decide +kernel
set_option maxRecDepth 100000 in
theorem f_2_36 : xft 2 36 = some (.iadd) := by decide +kernel
set_option maxRecDepth 100000 in
theorem f_2_37 : xft 2 37 = some (.istore_n 1) := by decide +kernel
set_option maxRecDepth 100000 in
theorem f_2_38 : xft 2 38 = some (.iinc 4 1) := by decide +kernel
set_option maxRecDepth 100000 in
theorem f_2_41 : xft 2 41 = some (.goto (-28)) := by decide +kernel
set_option maxRecDepth 100000 in
theorem f_2_44 : xft 2 44 = some (.iload_n 1) := by decide +kernel
set_option maxRecDepth 100000 in
theorem f_2_45 : xft 2 45 = some (.ireturn) := by decide +kernel
set_option maxRecDepth 100000 in
theorem f_3_0 : xft 3 0 = some (.iload_n 1) := by decide +kernel
set_option maxRecDepth 100000 in
theorem f_3_1 : xft 3 1 = some (.iload_n 2) := by decide +kernel
set_option maxRecDepth 100000 in
theorem f_3_2 : xft 3 2 = some (.invokestatic 19) := by decide +kernel
set_option maxRecDepth 100000 in
theorem f_3_5 : xft 3 5 = some (.ifCond .eq 12) := by decide +kernel
set_option maxRecDepth 100000 in
theorem f_3_8 : xft 3 8 = some (.aload_n 0) := by decide +kernel
set_option maxRecDepth 100000 in
theorem f_3_9 : xft 3 9 = some (.getfield 9) := by decide +kernel
set_option maxRecDepth 100000 in
theorem f_3_12 : xft 3 12 = some (.iconst 1) := by decide +kernel
set_option maxRecDepth 100000 in
theorem f_3_13 : xft 3 13 = some (.isub) := by decide +kernel
set_option maxRecDepth 100000 in
theorem f_3_14 : xft 3 14 = some (.goto 7) := by decide +kernel
set_option maxRecDepth 100000 in
theorem f_3_17 : xft 3 17 = some (.aload_n 0) := by decide +kernel
set_option maxRecDepth 100000 in
theorem f_3_18 : xft 3 18 = some (.getfield 9) := by decide +kernel
set_option maxRecDepth 100000 in
theorem f_3_21 : xft 3 21 = some (.ireturn) := by decide +kernel
set_option maxRecDepth 100000 in
theorem f_4_0 : xft 4 0 = some (.iload 5) := by decide +kernel
set_option maxRecDepth 100000 in
theorem f_4_2 : xft 4 2 = some (.ifCond .eq 12) := by decide +kernel
set_option maxRecDepth 100000 in
theorem f_4_5 : xft 4 5 = some (.iload_n 2) := by decide +kernel
set_option maxRecDepth 100000 in
theorem f_4_6 : xft 4 6 = some (.iload 4) := by decide +kernel
set_option maxRecDepth 100000 in
theorem f_4_8 : xft 4 8 = some (.invokestatic 19) := by decide +kernel
set_option maxRecDepth 100000 in
theorem f_4_11 : xft 4 11 = some (.ifCond .ne 19) := by decide +kernel
set_option maxRecDepth 100000 in
theorem f_4_14 : xft 4 14 = some (.aload_n 0) := by decide +kernel
set_option maxRecDepth 100000 in
theorem f_4_15 : xft 4 15 = some (.iload_n 1) := by decide +kernel
set_option maxRecDepth 100000 in
theorem f_4_16 : xft 4 16 = some (.iload_n 2) := by decide +kernel
set_option maxRecDepth 100000 in
theorem f_4_17 : xft 4 17 = some (.iload_n 3) := by decide +kernel
set_option maxRecDepth 100000 in
theorem f_4_18 : xft 4 18 = some (.iload 4) := by decide +kernel
set_option maxRecDepth 100000 in
theorem f_4_20 : xft 4 20 = some (.invokevirtual 23) := by decide +kernel
set_option maxRecDepth 100000 in
theorem f_4_23 : xft 4 23 = some (.ifCond .eq 7) := by decide +kernel
set_option maxRecDepth 100000 in
theorem f_4_26 : xft 4 26 = some (.iconst 1) := by decide +kernel
set_option maxRecDepth 100000 in
theorem f_4_27 : xft 4 27 = some (.goto 4) := by decide +kernel
set_option maxRecDepth 100000 in
theorem f_4_30 : xft 4 30 = some (.iconst 0) := by decide +kernel
set_option maxRecDepth 100000 in
theorem f_4_31 : xft 4 31 = some (.ireturn) := by decide +kernel
set_option maxRecDepth 100000 in
theorem f_5_0 : xft 5 0 = some (.iconst (-1)) := by decide +kernel
set_option maxRecDepth 100000 in
theorem f_5_1 : xft 5 1 = some (.istore 5) := by decide +kernel
set_option maxRecDepth 100000 in
theorem f_5_3 : xft 5 3 = some (.iconst 0) := by decide +kernel
set_option maxRecDepth 100000 in
theorem f_5_4 : xft 5 4 = some (.istore 6) := by decide +kernel
set_option maxRecDepth 100000 in
theorem f_5_6 : xft 5 6 = some (.iconst 0) := by decide +kernel
set_option maxRecDepth 100000 in
theorem f_5_7 : xft 5 7 = some (.istore 7) := by decide +kernel
set_option maxRecDepth 100000 in
theorem f_5_9 : xft 5 9 = some (.iload 7) := by decide +kernel
set_option maxRecDepth 100000 in
theorem f_5_11 : xft 5 11 = some (.iload_n 2) := by decide +kernel
set_option maxRecDepth 100000 in
theorem f_5_12 : xft 5 12 = some (.iadd) := by decide +kernel
set_option maxRecDepth 100000 in
theorem f_5_13 : xft 5 13 = some (.bipush 8) := by decide +kernel
set_option maxRecDepth 100000 in
theorem f_5_15 : xft 5 15 = some (.if_icmp .gt 90) := by decide +kernel
set_option maxRecDepth 100000 in
theorem f_5_18 : xft 5 18 = some (.iload 7) := by decide +kernel
set_option maxRecDepth 100000 in
theorem f_5_20 : xft 5 20 = some (.iload_n 1) := by decide +kernel
set_option maxRecDepth 100000 in
theorem f_5_21 : xft 5 21 = some (.iload_n 2) := by decide +kernel
set_option maxRecDepth 100000 in
theorem f_5_22 : xft 5 22 = some (.invokestatic 27) := by decide +kernel
set_option maxRecDepth 100000 in
theorem f_5_25 : xft 5 25 = some (.istore 8) := by decide +kernel
set_option maxRecDepth 100000 in
theorem f_5_27 : xft 5 27 = some (.iload 5) := by decide +kernel
set_option maxRecDepth 100000 in
theorem f_5_29 : xft 5 29 = some (.iconst (-1)) := by decide +kernel
set_option maxRecDepth 100000 in
theorem f_5_30 : xft 5 30 = some (.if_icmp .eq 10) := by decide +kernel
set_option maxRecDepth 100000 in
theorem f_5_33 : xft 5 33 = some (.iload 8) := by decide +kernel
set_option maxRecDepth 100000 in
theorem f_5_35 : xft 5 35 = some (.iload 6) := by decide +kernel
set_option maxRecDepth 100000 in
theorem f_5_37 : xft 5 37 = some (.if_icmp .ge 7) := by decide +kernel
set_option maxRecDepth 100000 in
theorem f_5_40 : xft 5 40 = some (.iconst 1) := by decide +kernel
set_option maxRecDepth 100000 in
theorem f_5_41 : xft 5 41 = some (.goto 4) := by decide +kernel
set_option maxRecDepth 100000 in
theorem f_5_44 : xft 5 44 = some (.iconst 0) := by decide +kernel
set_option maxRecDepth 100000 in
theorem f_5_45 : xft 5 45 = some (.istore 9) := by decide +kernel
set_option maxRecDepth 100000 in
theorem f_5_47 : xft 5 47 = some (.iload 9) := by decide +kernel
set_option maxRecDepth 100000 in
theorem f_5_49 : xft 5 49 = some (.ifCond .eq 27) := by decide +kernel
set_option maxRecDepth 100000 in
theorem f_5_52 : xft 5 52 = some (.aload_n 0) := by decide +kernel
set_option maxRecDepth 100000 in
theorem f_5_53 : xft 5 53 = some (.iload 7) := by decide +kernel
set_option maxRecDepth 100000 in
theorem f_5_55 : xft 5 55 = some (.iload_n 2) := by decide +kernel
set_option maxRecDepth 100000 in
theorem f_5_56 : xft 5 56 = some (.invokevirtual 31) := by decide +kernel
set_option maxRecDepth 100000 in
theorem f_5_59 : xft 5 59 = some (.iload 4) := by decide +kernel
set_option maxRecDepth 100000 in
theorem f_5_61 : xft 5 61 = some (.if_icmp .lt 15) := by decide +kernel
set_option maxRecDepth 100000 in
theorem f_5_64 : xft 5 64 = some (.aload_n 0) := by decide +kernel
set_option maxRecDepth 100000 in
theorem f_5_65 : xft 5 65 = some (.iload 7) := by decide +kernel
set_option maxRecDepth 100000 in
theorem f_5_67 : xft 5 67 = some (.iload_n 1) := by decide +kernel
set_option maxRecDepth 100000 in
theorem f_5_68 : xft 5 68 = some (.iload_n 2) := by decide +kernel
set_option maxRecDepth 100000 in
theorem f_5_69 : xft 5 69 = some (.iload_n 3) := by decide +kernel
set_option maxRecDepth 100000 in
theorem f_5_70 : xft 5 70 = some (.invokevirtual 35) := by decide +kernel
set_option maxRecDepth 100000 in
theorem f_5_73 : xft 5 73 = some (.goto 4) := by decide +kernel
set_option maxRecDepth 100000 in
theorem f_5_76 : xft 5 76 = some (.iconst (-1)) := by decide +kernel
set_option maxRecDepth 100000 in
theorem f_5_77 : xft 5 77 = some (.istore 10) := by decide +kernel
set_option maxRecDepth 100000 in
theorem f_5_79 : xft 5 79 = some (.iload 10) := by decide +kernel
set_option maxRecDepth 100000 in
theorem f_5_81 : xft 5 81 = some (.iconst (-1)) := by decide +kernel
set_option maxRecDepth 100000 in
theorem f_5_82 : xft 5 82 = some (.if_icmp .eq 17) := by decide +kernel
set_option maxRecDepth 100000 in
theorem f_5_85 : xft 5 85 = some (.bipush 12) := by decide +kernel
set_option maxRecDepth 100000 in
theorem f_5_87 : xft 5 87 = some (.iload 7) := by decide +kernel
set_option maxRecDepth 100000 in
theorem f_5_89 : xft 5 89 = some (.imul) := by decide +kernel
set_option maxRecDepth 100000 in
theorem f_5_90 : xft 5 90 = some (.iload 10) := by decide +kernel
set_option maxRecDepth 100000 in
theorem f_5_92 : xft 5 92 = some (.iadd) := by decide +kernel
set_option maxRecDepth 100000 in
theorem f_5_93 : xft 5 93 = some (.istore 5) := by decide +kernel
set_option maxRecDepth 100000 in
theorem f_5_95 : xft 5 95 = some (.iload 8) := by decide +kernel
set_option maxRecDepth 100000 in
theorem f_5_97 : xft 5 97 = some (.istore 6) := by decide +kernel
set_option maxRecDepth 100000 in
theorem f_5_99 : xft 5 99 = some (.iinc 7 1) := by decide +kernel
set_option maxRecDepth 100000 in
theorem f_5_102 : xft 5 102 = some (.goto (-93)) := by decide +kernel
set_option maxRecDepth 100000 in
theorem f_5_105 : xft 5 105 = some (.iload 5) := by decide +kernel
set_option maxRecDepth 100000 in
theorem f_5_107 : xft 5 107 = some (.ireturn) := by decide +kernel
set_option maxRecDepth 100000 in
theorem f_6_0 : xft 6 0 = some (.iconst 0) := by decide +kernel
set_option maxRecDepth 100000 in
theorem f_6_1 : xft 6 1 = some (.istore 5) := by decide +kernel
set_option maxRecDepth 100000 in
theorem f_6_3 : xft 6 3 = some (.iload 5) := by decide +kernel
set_option maxRecDepth 100000 in
theorem f_6_5 : xft 6 5 = some (.iload_n 2) := by decide +kernel
set_option maxRecDepth 100000 in
theorem f_6_6 : xft 6 6 = some (.iadd) := by decide +kernel
set_option maxRecDepth 100000 in
theorem f_6_7 : xft 6 7 = some (.bipush 12) := by decide +kernel
set_option maxRecDepth 100000 in
theorem f_6_9 : xft 6 9 = some (.if_icmp .gt 26) := by decide +kernel
set_option maxRecDepth 100000 in
theorem f_6_12 : xft 6 12 = some (.aload_n 0) := by decide +kernel
set_option maxRecDepth 100000 in
theorem f_6_13 : xft 6 13 = some (.iload 5) := by decide +kernel
set_option maxRecDepth 100000 in
theorem f_6_15 : xft 6 15 = some (.iload_n 1) := by decide +kernel
set_option maxRecDepth 100000 in
theorem f_6_16 : xft 6 16 = some (.iload_n 2) := by decide +kernel
set_option maxRecDepth 100000 in
theorem f_6_17 : xft 6 17 = some (.iload_n 3) := by decide +kernel
set_option maxRecDepth 100000 in
theorem f_6_18 : xft 6 18 = some (.iload 4) := by decide +kernel
set_option maxRecDepth 100000 in
theorem f_6_20 : xft 6 20 = some (.invokevirtual 39) := by decide +kernel
set_option maxRecDepth 100000 in
theorem f_6_23 : xft 6 23 = some (.ifCond .eq 6) := by decide +kernel
set_option maxRecDepth 100000 in
theorem f_6_26 : xft 6 26 = some (.iload 5) := by decide +kernel
set_option maxRecDepth 100000 in
theorem f_6_28 : xft 6 28 = some (.ireturn) := by decide +kernel
set_option maxRecDepth 100000 in
theorem f_6_29 : xft 6 29 = some (.iinc 5 1) := by decide +kernel
set_option maxRecDepth 100000 in
theorem f_6_32 : xft 6 32 = some (.goto (-29)) := by decide +kernel
set_option maxRecDepth 100000 in
theorem f_6_35 : xft 6 35 = some (.iconst (-1)) := by decide +kernel
set_option maxRecDepth 100000 in
theorem f_6_36 : xft 6 36 = some (.ireturn) := by decide +kernel
set_option maxRecDepth 100000 in
theorem f_7_0 : xft 7 0 = some (.iload_n 2) := by decide +kernel
set_option maxRecDepth 100000 in
theorem f_7_1 : xft 7 1 = some (.istore 5) := by decide +kernel
set_option maxRecDepth 100000 in
theorem f_7_3 : xft 7 3 = some (.iload 5) := by decide +kernel
set_option maxRecDepth 100000 in
theorem f_7_5 : xft 7 5 = some (.iload_n 2) := by decide +kernel
set_option maxRecDepth 100000 in
theorem f_7_6 : xft 7 6 = some (.iload 4) := by decide +kernel
set_option maxRecDepth 100000 in
theorem f_7_8 : xft 7 8 = some (.iadd) := by decide +kernel
set_option maxRecDepth 100000 in
theorem f_7_9 : xft 7 9 = some (.if_icmp .ge 44) := by decide +kernel
set_option maxRecDepth 100000 in
theorem f_7_12 : xft 7 12 = some (.iload_n 1) := by decide +kernel
set_option maxRecDepth 100000 in
theorem f_7_13 : xft 7 13 = some (.istore 6) := by decide +kernel
set_option maxRecDepth 100000 in
theorem f_7_15 : xft 7 15 = some (.iload 6) := by decide +kernel
set_option maxRecDepth 100000 in
theorem f_7_17 : xft 7 17 = some (.iload_n 1) := by decide +kernel
set_option maxRecDepth 100000 in
theorem f_7_18 : xft 7 18 = some (.iload_n 3) := by decide +kernel
set_option maxRecDepth 100000 in
theorem f_7_19 : xft 7 19 = some (.iadd) := by decide +kernel
set_option maxRecDepth 100000 in
theorem f_7_20 : xft 7 20 = some (.if_icmp .ge 27) := by decide +kernel
set_option maxRecDepth 100000 in
theorem f_7_23 : xft 7 23 = some (.aload_n 0) := by decide +kernel
set_option maxRecDepth 100000 in
theorem f_7_24 : xft 7 24 = some (.getfield 15) := by decide +kernel
set_option maxRecDepth 100000 in
theorem f_7_27 : xft 7 27 = some (.iload 5) := by decide +kernel
set_option maxRecDepth 100000 in
theorem f_7_29 : xft 7 29 = some (.bipush 12) := by decide +kernel
set_option maxRecDepth 100000 in
theorem f_7_31 : xft 7 31 = some (.imul) := by decide +kernel
set_option maxRecDepth 100000 in
theorem f_7_32 : xft 7 32 = some (.iload 6) := by decide +kernel
set_option maxRecDepth 100000 in
theorem f_7_34 : xft 7 34 = some (.iadd) := by decide +kernel
set_option maxRecDepth 100000 in
theorem f_7_35 : xft 7 35 = some (.baload) := by decide +kernel
set_option maxRecDepth 100000 in
theorem f_7_36 : xft 7 36 = some (.ifCond .eq 5) := by decide +kernel
set_option maxRecDepth 100000 in
theorem f_7_39 : xft 7 39 = some (.iconst 0) := by decide +kernel
set_option maxRecDepth 100000 in
theorem f_7_40 : xft 7 40 = some (.ireturn) := by decide +kernel
set_option maxRecDepth 100000 in
theorem f_7_41 : xft 7 41 = some (.iinc 6 1) := by decide +kernel
set_option maxRecDepth 100000 in
theorem f_7_44 : xft 7 44 = some (.goto (-29)) := by decide +kernel
set_option maxRecDepth 100000 in
theorem f_7_47 : xft 7 47 = some (.iinc 5 1) := by decide +kernel
set_option maxRecDepth 100000 in
theorem f_7_50 : xft 7 50 = some (.goto (-47)) := by decide +kernel
set_option maxRecDepth 100000 in
theorem f_7_53 : xft 7 53 = some (.iconst 1) := by decide +kernel
set_option maxRecDepth 100000 in
theorem f_7_54 : xft 7 54 = some (.ireturn) := by decide +kernel
set_option maxRecDepth 100000 in
theorem f_8_0 : xft 8 0 = some (.iload_n 0) := by decide +kernel
set_option maxRecDepth 100000 in
theorem f_8_1 : xft 8 1 = some (.iload_n 1) := by decide +kernel
set_option maxRecDepth 100000 in
theorem f_8_2 : xft 8 2 = some (.iadd) := by decide +kernel
set_option maxRecDepth 100000 in
theorem f_8_3 : xft 8 3 = some (.iconst 5) := by decide +kernel
set_option maxRecDepth 100000 in
theorem f_8_4 : xft 8 4 = some (.if_icmp .le 7) := by decide +kernel
set_option maxRecDepth 100000 in
theorem f_8_7 : xft 8 7 = some (.iconst 1) := by decide +kernel
set_option maxRecDepth 100000 in
theorem f_8_8 : xft 8 8 = some (.goto 4) := by decide +kernel
set_option maxRecDepth 100000 in
theorem f_8_11 : xft 8 11 = some (.iconst 0) := by decide +kernel
set_option maxRecDepth 100000 in
theorem f_8_12 : xft 8 12 = some (.ireturn) := by decide +kernel
set_option maxRecDepth 100000 in
theorem f_9_0 : xft 9 0 = some (.iconst 0) := by decide +kernel
set_option maxRecDepth 100000 in
theorem f_9_1 : xft 9 1 = some (.istore_n 3) := by decide +kernel
set_option maxRecDepth 100000 in
theorem f_9_2 : xft 9 2 = some (.iload_n 0) := by decide +kernel
set_option maxRecDepth 100000 in
theorem f_9_3 : xft 9 3 = some (.istore 4) := by decide +kernel
set_option maxRecDepth 100000 in
theorem f_9_5 : xft 9 5 = some (.iload 4) := by decide +kernel
set_option maxRecDepth 100000 in
theorem f_9_7 : xft 9 7 = some (.iload_n 0) := by decide +kernel
set_option maxRecDepth 100000 in
theorem f_9_8 : xft 9 8 = some (.iload_n 2) := by decide +kernel
set_option maxRecDepth 100000 in
theorem f_9_9 : xft 9 9 = some (.iadd) := by decide +kernel
set_option maxRecDepth 100000 in
theorem f_9_10 : xft 9 10 = some (.if_icmp .ge 39) := by decide +kernel
set_option maxRecDepth 100000 in
theorem f_9_13 : xft 9 13 = some (.iload 4) := by decide +kernel
set_option maxRecDepth 100000 in
theorem f_9_15 : xft 9 15 = some (.iconst 2) := by decide +kernel
set_option maxRecDepth 100000 in
theorem f_9_16 : xft 9 16 = some (.if_icmp .ge 7) := by decide +kernel
set_option maxRecDepth 100000 in
theorem f_9_19 : xft 9 19 = some (.iconst 3) := by decide +kernel
set_option maxRecDepth 100000 in
theorem f_9_20 : xft 9 20 = some (.goto 14) := by decide +kernel
set_option maxRecDepth 100000 in
theorem f_9_23 : xft 9 23 = some (.iload 4) := by decide +kernel
set_option maxRecDepth 100000 in
theorem f_9_25 : xft 9 25 = some (.iconst 5) := by decide +kernel
set_option maxRecDepth 100000 in
theorem f_9_26 : xft 9 26 = some (.if_icmp .ge 7) := by decide +kernel
set_option maxRecDepth 100000 in
theorem f_9_29 : xft 9 29 = some (.iconst 2) := by decide +kernel
set_option maxRecDepth 100000 in
theorem f_9_30 : xft 9 30 = some (.goto 4) := by decide +kernel
set_option maxRecDepth 100000 in
theorem f_9_33 : xft 9 33 = some (.iconst 1) := by decide +kernel
set_option maxRecDepth 100000 in
theorem f_9_34 : xft 9 34 = some (.istore 5) := by decide +kernel
set_option maxRecDepth 100000 in
theorem f_9_36 : xft 9 36 = some (.iload_n 3) := by decide +kernel
set_option maxRecDepth 100000 in
theorem f_9_37 : xft 9 37 = some (.iload_n 1) := by decide +kernel
set_option maxRecDepth 100000 in
theorem f_9_38 : xft 9 38 = some (.iload 5) := by decide +kernel
set_option maxRecDepth 100000 in
theorem f_9_40 : xft 9 40 = some (.imul) := by decide +kernel
set_option maxRecDepth 100000 in
theorem f_9_41 : xft 9 41 = some (.iadd) := by decide +kernel
set_option maxRecDepth 100000 in
theorem f_9_42 : xft 9 42 = some (.istore_n 3) := by decide +kernel
set_option maxRecDepth 100000 in
theorem f_9_43 : xft 9 43 = some (.iinc 4 1) := by decide +kernel
set_option maxRecDepth 100000 in
theorem f_9_46 : xft 9 46 = some (.goto (-41)) := by decide +kernel
set_option maxRecDepth 100000 in
theorem f_9_49 : xft 9 49 = some (.iload_n 3) := by decide +kernel
set_option maxRecDepth 100000 in
theorem f_9_50 : xft 9 50 = some (.ireturn) := by decide +kernel
/-! blocks, by program (gen2.py) -/
section BLK
variable {sc : xS} {d : Nat} {T : Nat → Nat × Nat} {z : Nat × Nat} {V : Nat → Nat → Int} {J : Nat → Nat → Int64} {R : Nat → Nat → Option Nat}
theorem eX0_init {x1 : Int} {a0 : Nat} : X sc (d + 1) 0 [.ref a0, xw x1] (T, z, xv V, J, R) = XR sc d 0 0 [some (.ref a0), some (xw x1)] [] (T, z, xv V, J, R) :=
  (X_eq ⟨jl_0, by rw [mn_0]; rfl, rfl, by rw [lm_0]; exact Nat.le_of_ble_eq_true rfl⟩).trans (by unfold xent; rw [lm_0]; rfl)
theorem bX0_init_0 {x1 : Int} {a0 : Nat} (g1 : 1 ≤ d) (g2 : T a0 = (1, 0)) (g3 : (va_up T z.1 (33, 96)) a0 = (1, 0)) : XR sc d 0 0 [some (.ref a0), some (xw x1)] [] (T, z, xv V, J, R) = some (.inl none, ((va_up T z.1 (33, 96)), (z.1 + 1, z.2 + 96), xv (va_up (xup2 V a0 0 x1) z.1 (fun _ => 0)), (va_up J z.1 (fun _ => 0)), (xup2 (va_up R z.1 (fun _ => none)) a0 1 (some z.1)))) :=
  (st_aload_n f_0_0 rfl).trans ((st_objinit f_0_1 r_0_3 t_0_3 ⟨g1, Nat.le_of_ble_eq_true rfl⟩).trans ((st_aload_n f_0_4 rfl).trans ((sw_iload_n f_0_5 rfl).trans ((sw_putI f_0_6 e_0_9 (Or.inl rfl) (Or.inr n_0) g2).trans ((st_aload_n f_0_9 rfl).trans ((sw_bipush f_0_10 c8_96).trans ((sw_newZ 96 f_0_12 ⟨rfl, by decide⟩).trans ((st_putR f_0_14 e_0_15 rfl (Or.inr n_0) g3).trans (st_return f_0_17 mr_0)))))))))
theorem eX0_spoil {x1 x2 x3 x4 : Int} {a0 : Nat} : X sc (d + 1) 1 [.ref a0, xw x1, xw x2, xw x3, xw x4] (T, z, xv V, J, R) = XR sc d 1 0 [some (.ref a0), some (xw x1), some (xw x2), some (xw x3), some (xw x4), none, none] [] (T, z, xv V, J, R) :=
  (X_eq ⟨jl_1, by rw [mn_1]; rfl, rfl, by rw [lm_1]; exact Nat.le_of_ble_eq_true rfl⟩).trans (by unfold xent; rw [lm_1]; rfl)
theorem bX0_spoil_0 {o0 o1 o3 o4 o5 o6 : Option Value} {x2 : Int} : XR sc d 1 0 [o0, o1, some (xw x2), o3, o4, o5, o6] [] (T, z, xv V, J, R) = XR sc d 1 3 [o0, o1, some (xw x2), o3, o4, some (xw x2), o6] [] (T, z, xv V, J, R) :=
  (sw_iload_n f_1_0 rfl).trans (sw_istore (L' := [o0, o1, some (xw x2), o3, o4, some (xw x2), o6]) f_1_1 (Nat.le_of_ble_eq_true rfl) rfl)
theorem bX0_spoil_3 {o0 o1 o3 o6 : Option Value} {x5 x2 x4 : Int} (g1 : -2147483648 ≤ x5 ∧ x5 ≤ 2147483647) (g2 : -2147483648 ≤ (x2 + x4) ∧ (x2 + x4) ≤ 2147483647) : XR sc d 1 3 [o0, o1, some (xw x2), o3, some (xw x4), some (xw x5), o6] [] (T, z, xv V, J, R) = if (x2 + x4) ≤ x5 then XR sc d 1 49 [o0, o1, some (xw x2), o3, some (xw x4), some (xw x5), o6] [] (T, z, xv V, J, R) else XR sc d 1 12 [o0, o1, some (xw x2), o3, some (xw x4), some (xw x5), o6] [] (T, z, xv V, J, R) :=
  (sw_iload f_1_3 rfl).trans ((sw_iload_n f_1_5 rfl).trans ((sw_iload f_1_6 rfl).trans ((sw_iadd f_1_8).trans (sw_icmp_ge (t := 49) f_1_9 ⟨by decide, rfl⟩ g1 g2))))
theorem bX0_spoil_12 {o0 o2 o3 o4 o5 o6 : Option Value} {x1 : Int} : XR sc d 1 12 [o0, some (xw x1), o2, o3, o4, o5, o6] [] (T, z, xv V, J, R) = XR sc d 1 15 [o0, some (xw x1), o2, o3, o4, o5, some (xw x1)] [] (T, z, xv V, J, R) :=
  (sw_iload_n f_1_12 rfl).trans (sw_istore (L' := [o0, some (xw x1), o2, o3, o4, o5, some (xw x1)]) f_1_13 (Nat.le_of_ble_eq_true rfl) rfl)
theorem bX0_spoil_15 {o0 o2 o4 o5 : Option Value} {x6 x1 x3 : Int} (g1 : -2147483648 ≤ x6 ∧ x6 ≤ 2147483647) (g2 : -2147483648 ≤ (x1 + x3) ∧ (x1 + x3) ≤ 2147483647) : XR sc d 1 15 [o0, some (xw x1), o2, some (xw x3), o4, o5, some (xw x6)] [] (T, z, xv V, J, R) = if (x1 + x3) ≤ x6 then XR sc d 1 43 [o0, some (xw x1), o2, some (xw x3), o4, o5, some (xw x6)] [] (T, z, xv V, J, R) else XR sc d 1 23 [o0, some (xw x1), o2, some (xw x3), o4, o5, some (xw x6)] [] (T, z, xv V, J, R) :=
  (sw_iload f_1_15 rfl).trans ((sw_iload_n f_1_17 rfl).trans ((sw_iload_n f_1_18 rfl).trans ((sw_iadd f_1_19).trans (sw_icmp_ge (t := 43) f_1_20 ⟨by decide, rfl⟩ g1 g2))))
theorem bX0_spoil_23 {o1 o2 o3 o4 : Option Value} {x5 x6 : Int} {a0 : Nat} (g1 : T a0 = (1, 0)) (g2 : R a0 1 = some ((R a0 1).getD 0)) (g3 : T ((R a0 1).getD 0) = (33, (T ((R a0 1).getD 0)).2)) (g4 : (0 : Int) ≤ ((x5 * 12) + x6) ∧ ((x5 * 12) + x6) < ((T ((R a0 1).getD 0)).2 : Int) ∧ (T ((R a0 1).getD 0)).2 ≤ 3584) : XR sc d 1 23 [some (.ref a0), o1, o2, o3, o4, some (xw x5), some (xw x6)] [] (T, z, xv V, J, R) = XR sc d 1 15 [some (.ref a0), o1, o2, o3, o4, some (xw x5), some (xw (x6 + 1))] [] (T, z, xv (xup2 V ((R a0 1).getD 0) ((x5 * 12) + x6).toNat 1), J, R) :=
  (st_aload_n f_1_23 rfl).trans ((st_getR f_1_24 e_1_15 (by decide) g1 g2).trans ((sw_iload f_1_27 rfl).trans ((sw_bipush f_1_29 c8_12).trans ((sw_imul f_1_31).trans ((sw_iload f_1_32 rfl).trans ((sw_iadd f_1_34).trans ((sw_iconst f_1_35).trans ((sw_bastore f_1_36 g3 g4 (by decide)).trans ((sw_iinc (L' := [some (.ref a0), o1, o2, o3, o4, some (xw x5), some (xw (x6 + 1))]) f_1_37 rfl (Nat.le_of_ble_eq_true rfl) rfl).trans (st_goto (t := 15) f_1_40 ⟨by decide, rfl⟩))))))))))
theorem bX0_spoil_43 {o0 o1 o2 o3 o4 o6 : Option Value} {x5 : Int} : XR sc d 1 43 [o0, o1, o2, o3, o4, some (xw x5), o6] [] (T, z, xv V, J, R) = XR sc d 1 3 [o0, o1, o2, o3, o4, some (xw (x5 + 1)), o6] [] (T, z, xv V, J, R) :=
  (sw_iinc (L' := [o0, o1, o2, o3, o4, some (xw (x5 + 1)), o6]) f_1_43 rfl (Nat.le_of_ble_eq_true rfl) rfl).trans (st_goto (t := 3) f_1_46 ⟨by decide, rfl⟩)
theorem bX0_spoil_49 {o0 o1 o2 o3 o4 o5 o6 : Option Value} : XR sc d 1 49 [o0, o1, o2, o3, o4, o5, o6] [] (T, z, xv V, J, R) = some (.inl none, (T, z, xv V, J, R)) :=
  st_return f_1_49 mr_1
theorem eX0_squaresLeft {a0 : Nat} : X sc (d + 1) 2 [.ref a0] (T, z, xv V, J, R) = XR sc d 2 0 [some (.ref a0), none, none, none, none, none] [] (T, z, xv V, J, R) :=
  (X_eq ⟨jl_2, by rw [mn_2]; rfl, rfl, by rw [lm_2]; exact Nat.le_of_ble_eq_true rfl⟩).trans (by unfold xent; rw [lm_2]; rfl)
theorem bX0_squaresLeft_0 {o1 o2 o3 o4 o5 : Option Value} {a0 : Nat} (g1 : T a0 = (1, 0)) (g2 : R a0 1 = some ((R a0 1).getD 0)) (g3 : T ((R a0 1).getD 0) = ((T ((R a0 1).getD 0)).1, (T ((R a0 1).getD 0)).2)) (g4 : (32 ≤ (T ((R a0 1).getD 0)).1 ∧ (T ((R a0 1).getD 0)).1 < 35) ∨ (40 ≤ (T ((R a0 1).getD 0)).1 ∧ (T ((R a0 1).getD 0)).1 < 44)) : XR sc d 2 0 [some (.ref a0), o1, o2, o3, o4, o5] [] (T, z, xv V, J, R) = XR sc d 2 13 [some (.ref a0), some (xw 0), some (.ref ((R a0 1).getD 0)), some (xw ((T ((R a0 1).getD 0)).2 : Int)), some (xw 0), o5] [] (T, z, xv V, J, R) :=
  (sw_iconst f_2_0).trans ((sw_istore_n (L' := [some (.ref a0), some (xw 0), o2, o3, o4, o5]) f_2_1 (Nat.le_of_ble_eq_true rfl) rfl).trans ((st_aload_n f_2_2 rfl).trans ((st_getR f_2_3 e_2_15 (by decide) g1 g2).trans ((st_astore_n (L' := [some (.ref a0), some (xw 0), some (.ref ((R a0 1).getD 0)), o3, o4, o5]) f_2_6 (Nat.le_of_ble_eq_true rfl) rfl).trans ((st_aload_n f_2_7 rfl).trans ((sw_alenI f_2_8 g3 g4).trans ((sw_istore_n (L' := [some (.ref a0), some (xw 0), some (.ref ((R a0 1).getD 0)), some (xw ((T ((R a0 1).getD 0)).2 : Int)), o4, o5]) f_2_9 (Nat.le_of_ble_eq_true rfl) rfl).trans ((sw_iconst f_2_10).trans (sw_istore (L' := [some (.ref a0), some (xw 0), some (.ref ((R a0 1).getD 0)), some (xw ((T ((R a0 1).getD 0)).2 : Int)), some (xw 0), o5]) f_2_11 (Nat.le_of_ble_eq_true rfl) rfl)))))))))
theorem bX0_squaresLeft_13 {o0 o1 o2 o5 : Option Value} {x4 x3 : Int} (g1 : -2147483648 ≤ x4 ∧ x4 ≤ 2147483647) (g2 : -2147483648 ≤ x3 ∧ x3 ≤ 2147483647) : XR sc d 2 13 [o0, o1, o2, some (xw x3), some (xw x4), o5] [] (T, z, xv V, J, R) = if x3 ≤ x4 then XR sc d 2 44 [o0, o1, o2, some (xw x3), some (xw x4), o5] [] (T, z, xv V, J, R) else XR sc d 2 19 [o0, o1, o2, some (xw x3), some (xw x4), o5] [] (T, z, xv V, J, R) :=
  (sw_iload f_2_13 rfl).trans ((sw_iload_n f_2_15 rfl).trans (sw_icmp_ge (t := 44) f_2_16 ⟨by decide, rfl⟩ g1 g2))
theorem bX0_squaresLeft_19 {o0 o3 o5 : Option Value} {x4 x1 : Int} {a2 : Nat} (g1 : T a2 = (33, (T a2).2)) (g2 : (0 : Int) ≤ x4 ∧ x4 < ((T a2).2 : Int) ∧ (T a2).2 ≤ 3584) (g3 : -2147483648 ≤ (V a2 x4.toNat) ∧ (V a2 x4.toNat) ≤ 2147483647) : XR sc d 2 19 [o0, some (xw x1), some (.ref a2), o3, some (xw x4), o5] [] (T, z, xv V, J, R) = if (V a2 x4.toNat) = 0 then XR sc d 2 35 [o0, some (xw x1), some (.ref a2), o3, some (xw x4), some (xw (V a2 x4.toNat))] [xw x1] (T, z, xv V, J, R) else XR sc d 2 31 [o0, some (xw x1), some (.ref a2), o3, some (xw x4), some (xw (V a2 x4.toNat))] [xw x1] (T, z, xv V, J, R) :=
  (st_aload_n f_2_19 rfl).trans ((sw_iload f_2_20 rfl).trans ((sw_baload f_2_22 g1 g2).trans ((sw_istore (L' := [o0, some (xw x1), some (.ref a2), o3, some (xw x4), some (xw (V a2 x4.toNat))]) f_2_23 (Nat.le_of_ble_eq_true rfl) rfl).trans ((sw_iload_n f_2_25 rfl).trans ((sw_iload f_2_26 rfl).trans (sw_if_eq (t := 35) f_2_28 ⟨by decide, rfl⟩ g3))))))
theorem bX0_squaresLeft_31 {o0 o1 o2 o3 o4 o5 : Option Value} {s0 : Value} : XR sc d 2 31 [o0, o1, o2, o3, o4, o5] [s0] (T, z, xv V, J, R) = XR sc d 2 36 [o0, o1, o2, o3, o4, o5] [xw 0, s0] (T, z, xv V, J, R) :=
  (sw_iconst f_2_31).trans (st_goto (t := 36) f_2_32 ⟨by decide, rfl⟩)
theorem bX0_squaresLeft_35 {o0 o1 o2 o3 o4 o5 : Option Value} {s0 : Value} : XR sc d 2 35 [o0, o1, o2, o3, o4, o5] [s0] (T, z, xv V, J, R) = XR sc d 2 36 [o0, o1, o2, o3, o4, o5] [xw 1, s0] (T, z, xv V, J, R) :=
  sw_iconst f_2_35
theorem bX0_squaresLeft_36 {o0 o1 o2 o3 o5 : Option Value} {y0 y1 x4 : Int} : XR sc d 2 36 [o0, o1, o2, o3, some (xw x4), o5] [xw y0, xw y1] (T, z, xv V, J, R) = XR sc d 2 13 [o0, some (xw (y1 + y0)), o2, o3, some (xw (x4 + 1)), o5] [] (T, z, xv V, J, R) :=
  (sw_iadd f_2_36).trans ((sw_istore_n (L' := [o0, some (xw (y1 + y0)), o2, o3, some (xw x4), o5]) f_2_37 (Nat.le_of_ble_eq_true rfl) rfl).trans ((sw_iinc (L' := [o0, some (xw (y1 + y0)), o2, o3, some (xw (x4 + 1)), o5]) f_2_38 rfl (Nat.le_of_ble_eq_true rfl) rfl).trans (st_goto (t := 13) f_2_41 ⟨by decide, rfl⟩)))
theorem bX0_squaresLeft_44 {o0 o2 o3 o4 o5 : Option Value} {x1 : Int} : XR sc d 2 44 [o0, some (xw x1), o2, o3, o4, o5] [] (T, z, xv V, J, R) = some (.inl (some (xw x1)), (T, z, xv V, J, R)) :=
  (sw_iload_n f_2_44 rfl).trans (sw_ireturn f_2_45 mr_2)
theorem eX0_thinnest {x1 x2 : Int} {a0 : Nat} : X sc (d + 1) 3 [.ref a0, xw x1, xw x2] (T, z, xv V, J, R) = XR sc d 3 0 [some (.ref a0), some (xw x1), some (xw x2)] [] (T, z, xv V, J, R) :=
  (X_eq ⟨jl_3, by rw [mn_3]; rfl, rfl, by rw [lm_3]; exact Nat.le_of_ble_eq_true rfl⟩).trans (by unfold xent; rw [lm_3]; rfl)
theorem bX0_thinnest_0 {o0 : Option Value} {x1 x2 : Int} : XR sc d 3 0 [o0, some (xw x1), some (xw x2)] [] (T, z, xv V, J, R) = xret 3 (XR sc d 3) 2 5 [o0, some (xw x1), some (xw x2)] [] (X sc d 8 [xw x1, xw x2] (T, z, xv V, J, R)) :=
  (sw_iload_n f_3_0 rfl).trans ((sw_iload_n f_3_1 rfl).trans (st_callS' f_3_2 h_3_19 mn_8 rfl rfl rfl rfl))
theorem bX0_thinnest_5 {o0 o1 o2 : Option Value} {y0 : Int} (g1 : -2147483648 ≤ y0 ∧ y0 ≤ 2147483647) : XR sc d 3 5 [o0, o1, o2] [xw y0] (T, z, xv V, J, R) = if y0 = 0 then XR sc d 3 17 [o0, o1, o2] [] (T, z, xv V, J, R) else XR sc d 3 8 [o0, o1, o2] [] (T, z, xv V, J, R) :=
  sw_if_eq (t := 17) f_3_5 ⟨by decide, rfl⟩ g1
theorem bX0_thinnest_8 {o1 o2 : Option Value} {a0 : Nat} (g1 : T a0 = (1, 0)) : XR sc d 3 8 [some (.ref a0), o1, o2] [] (T, z, xv V, J, R) = XR sc d 3 21 [some (.ref a0), o1, o2] [xw ((V a0 0) - 1)] (T, z, xv V, J, R) :=
  (st_aload_n f_3_8 rfl).trans ((sw_getI f_3_9 e_3_9 (by decide) g1).trans ((sw_iconst f_3_12).trans ((sw_isub f_3_13).trans (st_goto (t := 21) f_3_14 ⟨by decide, rfl⟩))))
theorem bX0_thinnest_17 {o1 o2 : Option Value} {a0 : Nat} (g1 : T a0 = (1, 0)) : XR sc d 3 17 [some (.ref a0), o1, o2] [] (T, z, xv V, J, R) = XR sc d 3 21 [some (.ref a0), o1, o2] [xw (V a0 0)] (T, z, xv V, J, R) :=
  (st_aload_n f_3_17 rfl).trans (sw_getI f_3_18 e_3_9 (by decide) g1)
theorem bX0_thinnest_21 {o0 o1 o2 : Option Value} {y0 : Int} : XR sc d 3 21 [o0, o1, o2] [xw y0] (T, z, xv V, J, R) = some (.inl (some (xw y0)), (T, z, xv V, J, R)) :=
  sw_ireturn f_3_21 mr_3
theorem eX0_canGive {x1 x2 x3 x4 x5 : Int} {a0 : Nat} : X sc (d + 1) 4 [.ref a0, xw x1, xw x2, xw x3, xw x4, xw x5] (T, z, xv V, J, R) = XR sc d 4 0 [some (.ref a0), some (xw x1), some (xw x2), some (xw x3), some (xw x4), some (xw x5)] [] (T, z, xv V, J, R) :=
  (X_eq ⟨jl_4, by rw [mn_4]; rfl, rfl, by rw [lm_4]; exact Nat.le_of_ble_eq_true rfl⟩).trans (by unfold xent; rw [lm_4]; rfl)
theorem bX0_canGive_0 {o0 o1 o2 o3 o4 : Option Value} {x5 : Int} (g1 : -2147483648 ≤ x5 ∧ x5 ≤ 2147483647) : XR sc d 4 0 [o0, o1, o2, o3, o4, some (xw x5)] [] (T, z, xv V, J, R) = if x5 = 0 then XR sc d 4 14 [o0, o1, o2, o3, o4, some (xw x5)] [] (T, z, xv V, J, R) else XR sc d 4 5 [o0, o1, o2, o3, o4, some (xw x5)] [] (T, z, xv V, J, R) :=
  (sw_iload f_4_0 rfl).trans (sw_if_eq (t := 14) f_4_2 ⟨by decide, rfl⟩ g1)
theorem bX0_canGive_5 {o0 o1 o3 o5 : Option Value} {x2 x4 : Int} : XR sc d 4 5 [o0, o1, some (xw x2), o3, some (xw x4), o5] [] (T, z, xv V, J, R) = xret 4 (XR sc d 4) 8 11 [o0, o1, some (xw x2), o3, some (xw x4), o5] [] (X sc d 8 [xw x2, xw x4] (T, z, xv V, J, R)) :=
  (sw_iload_n f_4_5 rfl).trans ((sw_iload f_4_6 rfl).trans (st_callS' f_4_8 h_4_19 mn_8 rfl rfl rfl rfl))
theorem bX0_canGive_11 {o0 o1 o2 o3 o4 o5 : Option Value} {y0 : Int} (g1 : -2147483648 ≤ y0 ∧ y0 ≤ 2147483647) : XR sc d 4 11 [o0, o1, o2, o3, o4, o5] [xw y0] (T, z, xv V, J, R) = if y0 = 0 then XR sc d 4 14 [o0, o1, o2, o3, o4, o5] [] (T, z, xv V, J, R) else XR sc d 4 30 [o0, o1, o2, o3, o4, o5] [] (T, z, xv V, J, R) :=
  sw_if_ne (t := 30) f_4_11 ⟨by decide, rfl⟩ g1
theorem bX0_canGive_14 {o5 : Option Value} {x1 x2 x3 x4 : Int} {a0 : Nat} (g1 : T a0 = (1, 0)) : XR sc d 4 14 [some (.ref a0), some (xw x1), some (xw x2), some (xw x3), some (xw x4), o5] [] (T, z, xv V, J, R) = xret 4 (XR sc d 4) 20 23 [some (.ref a0), some (xw x1), some (xw x2), some (xw x3), some (xw x4), o5] [] (X sc d 7 [.ref a0, xw x1, xw x2, xw x3, xw x4] (T, z, xv V, J, R)) :=
  (st_aload_n f_4_14 rfl).trans ((sw_iload_n f_4_15 rfl).trans ((sw_iload_n f_4_16 rfl).trans ((sw_iload_n f_4_17 rfl).trans ((sw_iload f_4_18 rfl).trans (st_callV' f_4_20 h_4_23 mn_7 rfl rfl rfl rfl mo_7 g1 rfl)))))
theorem bX0_canGive_23 {o0 o1 o2 o3 o4 o5 : Option Value} {y0 : Int} (g1 : -2147483648 ≤ y0 ∧ y0 ≤ 2147483647) : XR sc d 4 23 [o0, o1, o2, o3, o4, o5] [xw y0] (T, z, xv V, J, R) = if y0 = 0 then XR sc d 4 30 [o0, o1, o2, o3, o4, o5] [] (T, z, xv V, J, R) else XR sc d 4 26 [o0, o1, o2, o3, o4, o5] [] (T, z, xv V, J, R) :=
  sw_if_eq (t := 30) f_4_23 ⟨by decide, rfl⟩ g1
theorem bX0_canGive_26 {o0 o1 o2 o3 o4 o5 : Option Value} : XR sc d 4 26 [o0, o1, o2, o3, o4, o5] [] (T, z, xv V, J, R) = XR sc d 4 31 [o0, o1, o2, o3, o4, o5] [xw 1] (T, z, xv V, J, R) :=
  (sw_iconst f_4_26).trans (st_goto (t := 31) f_4_27 ⟨by decide, rfl⟩)
theorem bX0_canGive_30 {o0 o1 o2 o3 o4 o5 : Option Value} : XR sc d 4 30 [o0, o1, o2, o3, o4, o5] [] (T, z, xv V, J, R) = XR sc d 4 31 [o0, o1, o2, o3, o4, o5] [xw 0] (T, z, xv V, J, R) :=
  sw_iconst f_4_30
theorem bX0_canGive_31 {o0 o1 o2 o3 o4 o5 : Option Value} {y0 : Int} (g1 : y0 = 0 ∨ y0 = 1) : XR sc d 4 31 [o0, o1, o2, o3, o4, o5] [xw y0] (T, z, xv V, J, R) = some (.inl (some (xw y0)), (T, z, xv V, J, R)) :=
  sw_zreturn f_4_31 mr_4 g1
theorem eX0_leastWorth {x1 x2 x3 x4 : Int} {a0 : Nat} : X sc (d + 1) 5 [.ref a0, xw x1, xw x2, xw x3, xw x4] (T, z, xv V, J, R) = XR sc d 5 0 [some (.ref a0), some (xw x1), some (xw x2), some (xw x3), some (xw x4), none, none, none, none, none, none] [] (T, z, xv V, J, R) :=
  (X_eq ⟨jl_5, by rw [mn_5]; rfl, rfl, by rw [lm_5]; exact Nat.le_of_ble_eq_true rfl⟩).trans (by unfold xent; rw [lm_5]; rfl)
theorem bX0_leastWorth_0 {o0 o1 o2 o3 o4 o5 o6 o7 o8 o9 o10 : Option Value} : XR sc d 5 0 [o0, o1, o2, o3, o4, o5, o6, o7, o8, o9, o10] [] (T, z, xv V, J, R) = XR sc d 5 9 [o0, o1, o2, o3, o4, some (xw (-1)), some (xw 0), some (xw 0), o8, o9, o10] [] (T, z, xv V, J, R) :=
  (sw_iconst f_5_0).trans ((sw_istore (L' := [o0, o1, o2, o3, o4, some (xw (-1)), o6, o7, o8, o9, o10]) f_5_1 (Nat.le_of_ble_eq_true rfl) rfl).trans ((sw_iconst f_5_3).trans ((sw_istore (L' := [o0, o1, o2, o3, o4, some (xw (-1)), some (xw 0), o7, o8, o9, o10]) f_5_4 (Nat.le_of_ble_eq_true rfl) rfl).trans ((sw_iconst f_5_6).trans (sw_istore (L' := [o0, o1, o2, o3, o4, some (xw (-1)), some (xw 0), some (xw 0), o8, o9, o10]) f_5_7 (Nat.le_of_ble_eq_true rfl) rfl)))))
theorem bX0_leastWorth_9 {o0 o1 o3 o4 o5 o6 o8 o9 o10 : Option Value} {x7 x2 : Int} (g1 : -2147483648 ≤ (x7 + x2) ∧ (x7 + x2) ≤ 2147483647) : XR sc d 5 9 [o0, o1, some (xw x2), o3, o4, o5, o6, some (xw x7), o8, o9, o10] [] (T, z, xv V, J, R) = if 8 < (x7 + x2) then XR sc d 5 105 [o0, o1, some (xw x2), o3, o4, o5, o6, some (xw x7), o8, o9, o10] [] (T, z, xv V, J, R) else XR sc d 5 18 [o0, o1, some (xw x2), o3, o4, o5, o6, some (xw x7), o8, o9, o10] [] (T, z, xv V, J, R) :=
  (sw_iload f_5_9 rfl).trans ((sw_iload_n f_5_11 rfl).trans ((sw_iadd f_5_12).trans ((sw_bipush f_5_13 c8_8).trans (sw_icmp_gt (t := 105) f_5_15 ⟨by decide, rfl⟩ g1 ⟨by decide, by decide⟩))))
theorem bX0_leastWorth_18 {o0 o3 o4 o5 o6 o8 o9 o10 : Option Value} {x7 x1 x2 : Int} : XR sc d 5 18 [o0, some (xw x1), some (xw x2), o3, o4, o5, o6, some (xw x7), o8, o9, o10] [] (T, z, xv V, J, R) = xret 5 (XR sc d 5) 22 25 [o0, some (xw x1), some (xw x2), o3, o4, o5, o6, some (xw x7), o8, o9, o10] [] (X sc d 9 [xw x7, xw x1, xw x2] (T, z, xv V, J, R)) :=
  (sw_iload f_5_18 rfl).trans ((sw_iload_n f_5_20 rfl).trans ((sw_iload_n f_5_21 rfl).trans (st_callS' f_5_22 h_5_27 mn_9 rfl rfl rfl rfl)))
theorem bX0_leastWorth_25 {o0 o1 o2 o3 o4 o6 o7 o8 o9 o10 : Option Value} {y0 x5 : Int} (g1 : -2147483648 ≤ x5 ∧ x5 ≤ 2147483647) : XR sc d 5 25 [o0, o1, o2, o3, o4, some (xw x5), o6, o7, o8, o9, o10] [xw y0] (T, z, xv V, J, R) = if x5 = (-1) then XR sc d 5 40 [o0, o1, o2, o3, o4, some (xw x5), o6, o7, some (xw y0), o9, o10] [] (T, z, xv V, J, R) else XR sc d 5 33 [o0, o1, o2, o3, o4, some (xw x5), o6, o7, some (xw y0), o9, o10] [] (T, z, xv V, J, R) :=
  (sw_istore (L' := [o0, o1, o2, o3, o4, some (xw x5), o6, o7, some (xw y0), o9, o10]) f_5_25 (Nat.le_of_ble_eq_true rfl) rfl).trans ((sw_iload f_5_27 rfl).trans ((sw_iconst f_5_29).trans (sw_icmp_eq (t := 40) f_5_30 ⟨by decide, rfl⟩ g1 ⟨by decide, by decide⟩)))
theorem bX0_leastWorth_33 {o0 o1 o2 o3 o4 o5 o7 o9 o10 : Option Value} {x8 x6 : Int} (g1 : -2147483648 ≤ x8 ∧ x8 ≤ 2147483647) (g2 : -2147483648 ≤ x6 ∧ x6 ≤ 2147483647) : XR sc d 5 33 [o0, o1, o2, o3, o4, o5, some (xw x6), o7, some (xw x8), o9, o10] [] (T, z, xv V, J, R) = if x6 ≤ x8 then XR sc d 5 44 [o0, o1, o2, o3, o4, o5, some (xw x6), o7, some (xw x8), o9, o10] [] (T, z, xv V, J, R) else XR sc d 5 40 [o0, o1, o2, o3, o4, o5, some (xw x6), o7, some (xw x8), o9, o10] [] (T, z, xv V, J, R) :=
  (sw_iload f_5_33 rfl).trans ((sw_iload f_5_35 rfl).trans (sw_icmp_ge (t := 44) f_5_37 ⟨by decide, rfl⟩ g1 g2))
theorem bX0_leastWorth_40 {o0 o1 o2 o3 o4 o5 o6 o7 o8 o9 o10 : Option Value} : XR sc d 5 40 [o0, o1, o2, o3, o4, o5, o6, o7, o8, o9, o10] [] (T, z, xv V, J, R) = XR sc d 5 45 [o0, o1, o2, o3, o4, o5, o6, o7, o8, o9, o10] [xw 1] (T, z, xv V, J, R) :=
  (sw_iconst f_5_40).trans (st_goto (t := 45) f_5_41 ⟨by decide, rfl⟩)
theorem bX0_leastWorth_44 {o0 o1 o2 o3 o4 o5 o6 o7 o8 o9 o10 : Option Value} : XR sc d 5 44 [o0, o1, o2, o3, o4, o5, o6, o7, o8, o9, o10] [] (T, z, xv V, J, R) = XR sc d 5 45 [o0, o1, o2, o3, o4, o5, o6, o7, o8, o9, o10] [xw 0] (T, z, xv V, J, R) :=
  sw_iconst f_5_44
theorem bX0_leastWorth_45 {o0 o1 o2 o3 o4 o5 o6 o7 o8 o9 o10 : Option Value} {y0 : Int} (g1 : -2147483648 ≤ y0 ∧ y0 ≤ 2147483647) : XR sc d 5 45 [o0, o1, o2, o3, o4, o5, o6, o7, o8, o9, o10] [xw y0] (T, z, xv V, J, R) = if y0 = 0 then XR sc d 5 76 [o0, o1, o2, o3, o4, o5, o6, o7, o8, some (xw y0), o10] [] (T, z, xv V, J, R) else XR sc d 5 52 [o0, o1, o2, o3, o4, o5, o6, o7, o8, some (xw y0), o10] [] (T, z, xv V, J, R) :=
  (sw_istore (L' := [o0, o1, o2, o3, o4, o5, o6, o7, o8, some (xw y0), o10]) f_5_45 (Nat.le_of_ble_eq_true rfl) rfl).trans ((sw_iload f_5_47 rfl).trans (sw_if_eq (t := 76) f_5_49 ⟨by decide, rfl⟩ g1))
theorem bX0_leastWorth_52 {o1 o3 o4 o5 o6 o8 o9 o10 : Option Value} {x7 x2 : Int} {a0 : Nat} (g1 : T a0 = (1, 0)) : XR sc d 5 52 [some (.ref a0), o1, some (xw x2), o3, o4, o5, o6, some (xw x7), o8, o9, o10] [] (T, z, xv V, J, R) = xret 5 (XR sc d 5) 56 59 [some (.ref a0), o1, some (xw x2), o3, o4, o5, o6, some (xw x7), o8, o9, o10] [] (X sc d 3 [.ref a0, xw x7, xw x2] (T, z, xv V, J, R)) :=
  (st_aload_n f_5_52 rfl).trans ((sw_iload f_5_53 rfl).trans ((sw_iload_n f_5_55 rfl).trans (st_callV' f_5_56 h_5_31 mn_3 rfl rfl rfl rfl mo_3 g1 rfl)))
theorem bX0_leastWorth_59 {o0 o1 o2 o3 o5 o6 o7 o8 o9 o10 : Option Value} {x4 y0 : Int} (g1 : -2147483648 ≤ y0 ∧ y0 ≤ 2147483647) (g2 : -2147483648 ≤ x4 ∧ x4 ≤ 2147483647) : XR sc d 5 59 [o0, o1, o2, o3, some (xw x4), o5, o6, o7, o8, o9, o10] [xw y0] (T, z, xv V, J, R) = if y0 < x4 then XR sc d 5 76 [o0, o1, o2, o3, some (xw x4), o5, o6, o7, o8, o9, o10] [] (T, z, xv V, J, R) else XR sc d 5 64 [o0, o1, o2, o3, some (xw x4), o5, o6, o7, o8, o9, o10] [] (T, z, xv V, J, R) :=
  (sw_iload f_5_59 rfl).trans (sw_icmp_lt (t := 76) f_5_61 ⟨by decide, rfl⟩ g1 g2)
theorem bX0_leastWorth_64 {o4 o5 o6 o8 o9 o10 : Option Value} {x7 x1 x2 x3 : Int} {a0 : Nat} (g1 : T a0 = (1, 0)) : XR sc d 5 64 [some (.ref a0), some (xw x1), some (xw x2), some (xw x3), o4, o5, o6, some (xw x7), o8, o9, o10] [] (T, z, xv V, J, R) = xret 5 (XR sc d 5) 70 73 [some (.ref a0), some (xw x1), some (xw x2), some (xw x3), o4, o5, o6, some (xw x7), o8, o9, o10] [] (X sc d 6 [.ref a0, xw x7, xw x1, xw x2, xw x3] (T, z, xv V, J, R)) :=
  (st_aload_n f_5_64 rfl).trans ((sw_iload f_5_65 rfl).trans ((sw_iload_n f_5_67 rfl).trans ((sw_iload_n f_5_68 rfl).trans ((sw_iload_n f_5_69 rfl).trans (st_callV' f_5_70 h_5_35 mn_6 rfl rfl rfl rfl mo_6 g1 rfl)))))
theorem bX0_leastWorth_73 {o0 o1 o2 o3 o4 o5 o6 o7 o8 o9 o10 : Option Value} {s0 : Value} : XR sc d 5 73 [o0, o1, o2, o3, o4, o5, o6, o7, o8, o9, o10] [s0] (T, z, xv V, J, R) = XR sc d 5 77 [o0, o1, o2, o3, o4, o5, o6, o7, o8, o9, o10] [s0] (T, z, xv V, J, R) :=
  st_goto (t := 77) f_5_73 ⟨by decide, rfl⟩
theorem bX0_leastWorth_76 {o0 o1 o2 o3 o4 o5 o6 o7 o8 o9 o10 : Option Value} : XR sc d 5 76 [o0, o1, o2, o3, o4, o5, o6, o7, o8, o9, o10] [] (T, z, xv V, J, R) = XR sc d 5 77 [o0, o1, o2, o3, o4, o5, o6, o7, o8, o9, o10] [xw (-1)] (T, z, xv V, J, R) :=
  sw_iconst f_5_76
theorem bX0_leastWorth_77 {o0 o1 o2 o3 o4 o5 o6 o7 o8 o9 o10 : Option Value} {y0 : Int} (g1 : -2147483648 ≤ y0 ∧ y0 ≤ 2147483647) : XR sc d 5 77 [o0, o1, o2, o3, o4, o5, o6, o7, o8, o9, o10] [xw y0] (T, z, xv V, J, R) = if y0 = (-1) then XR sc d 5 99 [o0, o1, o2, o3, o4, o5, o6, o7, o8, o9, some (xw y0)] [] (T, z, xv V, J, R) else XR sc d 5 85 [o0, o1, o2, o3, o4, o5, o6, o7, o8, o9, some (xw y0)] [] (T, z, xv V, J, R) :=
  (sw_istore (L' := [o0, o1, o2, o3, o4, o5, o6, o7, o8, o9, some (xw y0)]) f_5_77 (Nat.le_of_ble_eq_true rfl) rfl).trans ((sw_iload f_5_79 rfl).trans ((sw_iconst f_5_81).trans (sw_icmp_eq (t := 99) f_5_82 ⟨by decide, rfl⟩ g1 ⟨by decide, by decide⟩)))
theorem bX0_leastWorth_85 {o0 o1 o2 o3 o4 o5 o6 o9 : Option Value} {x7 x10 x8 : Int} : XR sc d 5 85 [o0, o1, o2, o3, o4, o5, o6, some (xw x7), some (xw x8), o9, some (xw x10)] [] (T, z, xv V, J, R) = XR sc d 5 99 [o0, o1, o2, o3, o4, some (xw ((12 * x7) + x10)), some (xw x8), some (xw x7), some (xw x8), o9, some (xw x10)] [] (T, z, xv V, J, R) :=
  (sw_bipush f_5_85 c8_12).trans ((sw_iload f_5_87 rfl).trans ((sw_imul f_5_89).trans ((sw_iload f_5_90 rfl).trans ((sw_iadd f_5_92).trans ((sw_istore (L' := [o0, o1, o2, o3, o4, some (xw ((12 * x7) + x10)), o6, some (xw x7), some (xw x8), o9, some (xw x10)]) f_5_93 (Nat.le_of_ble_eq_true rfl) rfl).trans ((sw_iload f_5_95 rfl).trans (sw_istore (L' := [o0, o1, o2, o3, o4, some (xw ((12 * x7) + x10)), some (xw x8), some (xw x7), some (xw x8), o9, some (xw x10)]) f_5_97 (Nat.le_of_ble_eq_true rfl) rfl)))))))
theorem bX0_leastWorth_99 {o0 o1 o2 o3 o4 o5 o6 o8 o9 o10 : Option Value} {x7 : Int} : XR sc d 5 99 [o0, o1, o2, o3, o4, o5, o6, some (xw x7), o8, o9, o10] [] (T, z, xv V, J, R) = XR sc d 5 9 [o0, o1, o2, o3, o4, o5, o6, some (xw (x7 + 1)), o8, o9, o10] [] (T, z, xv V, J, R) :=
  (sw_iinc (L' := [o0, o1, o2, o3, o4, o5, o6, some (xw (x7 + 1)), o8, o9, o10]) f_5_99 rfl (Nat.le_of_ble_eq_true rfl) rfl).trans (st_goto (t := 9) f_5_102 ⟨by decide, rfl⟩)
theorem bX0_leastWorth_105 {o0 o1 o2 o3 o4 o6 o7 o8 o9 o10 : Option Value} {x5 : Int} : XR sc d 5 105 [o0, o1, o2, o3, o4, some (xw x5), o6, o7, o8, o9, o10] [] (T, z, xv V, J, R) = some (.inl (some (xw x5)), (T, z, xv V, J, R)) :=
  (sw_iload f_5_105 rfl).trans (sw_ireturn f_5_107 mr_5)
theorem eX0_firstColumn {x1 x2 x3 x4 : Int} {a0 : Nat} : X sc (d + 1) 6 [.ref a0, xw x1, xw x2, xw x3, xw x4] (T, z, xv V, J, R) = XR sc d 6 0 [some (.ref a0), some (xw x1), some (xw x2), some (xw x3), some (xw x4), none] [] (T, z, xv V, J, R) :=
  (X_eq ⟨jl_6, by rw [mn_6]; rfl, rfl, by rw [lm_6]; exact Nat.le_of_ble_eq_true rfl⟩).trans (by unfold xent; rw [lm_6]; rfl)
theorem bX0_firstColumn_0 {o0 o1 o2 o3 o4 o5 : Option Value} : XR sc d 6 0 [o0, o1, o2, o3, o4, o5] [] (T, z, xv V, J, R) = XR sc d 6 3 [o0, o1, o2, o3, o4, some (xw 0)] [] (T, z, xv V, J, R) :=
  (sw_iconst f_6_0).trans (sw_istore (L' := [o0, o1, o2, o3, o4, some (xw 0)]) f_6_1 (Nat.le_of_ble_eq_true rfl) rfl)
theorem bX0_firstColumn_3 {o0 o1 o3 o4 : Option Value} {x5 x2 : Int} (g1 : -2147483648 ≤ (x5 + x2) ∧ (x5 + x2) ≤ 2147483647) : XR sc d 6 3 [o0, o1, some (xw x2), o3, o4, some (xw x5)] [] (T, z, xv V, J, R) = if 12 < (x5 + x2) then XR sc d 6 35 [o0, o1, some (xw x2), o3, o4, some (xw x5)] [] (T, z, xv V, J, R) else XR sc d 6 12 [o0, o1, some (xw x2), o3, o4, some (xw x5)] [] (T, z, xv V, J, R) :=
  (sw_iload f_6_3 rfl).trans ((sw_iload_n f_6_5 rfl).trans ((sw_iadd f_6_6).trans ((sw_bipush f_6_7 c8_12).trans (sw_icmp_gt (t := 35) f_6_9 ⟨by decide, rfl⟩ g1 ⟨by decide, by decide⟩))))
theorem bX0_firstColumn_12 {x5 x1 x2 x3 x4 : Int} {a0 : Nat} (g1 : T a0 = (1, 0)) : XR sc d 6 12 [some (.ref a0), some (xw x1), some (xw x2), some (xw x3), some (xw x4), some (xw x5)] [] (T, z, xv V, J, R) = xret 6 (XR sc d 6) 20 23 [some (.ref a0), some (xw x1), some (xw x2), some (xw x3), some (xw x4), some (xw x5)] [] (X sc d 4 [.ref a0, xw x5, xw x1, xw x2, xw x3, xw x4] (T, z, xv V, J, R)) :=
  (st_aload_n f_6_12 rfl).trans ((sw_iload f_6_13 rfl).trans ((sw_iload_n f_6_15 rfl).trans ((sw_iload_n f_6_16 rfl).trans ((sw_iload_n f_6_17 rfl).trans ((sw_iload f_6_18 rfl).trans (st_callV' f_6_20 h_6_39 mn_4 rfl rfl rfl rfl mo_4 g1 rfl))))))
theorem bX0_firstColumn_23 {o0 o1 o2 o3 o4 o5 : Option Value} {y0 : Int} (g1 : -2147483648 ≤ y0 ∧ y0 ≤ 2147483647) : XR sc d 6 23 [o0, o1, o2, o3, o4, o5] [xw y0] (T, z, xv V, J, R) = if y0 = 0 then XR sc d 6 29 [o0, o1, o2, o3, o4, o5] [] (T, z, xv V, J, R) else XR sc d 6 26 [o0, o1, o2, o3, o4, o5] [] (T, z, xv V, J, R) :=
  sw_if_eq (t := 29) f_6_23 ⟨by decide, rfl⟩ g1
theorem bX0_firstColumn_26 {o0 o1 o2 o3 o4 : Option Value} {x5 : Int} : XR sc d 6 26 [o0, o1, o2, o3, o4, some (xw x5)] [] (T, z, xv V, J, R) = some (.inl (some (xw x5)), (T, z, xv V, J, R)) :=
  (sw_iload f_6_26 rfl).trans (sw_ireturn f_6_28 mr_6)
theorem bX0_firstColumn_29 {o0 o1 o2 o3 o4 : Option Value} {x5 : Int} : XR sc d 6 29 [o0, o1, o2, o3, o4, some (xw x5)] [] (T, z, xv V, J, R) = XR sc d 6 3 [o0, o1, o2, o3, o4, some (xw (x5 + 1))] [] (T, z, xv V, J, R) :=
  (sw_iinc (L' := [o0, o1, o2, o3, o4, some (xw (x5 + 1))]) f_6_29 rfl (Nat.le_of_ble_eq_true rfl) rfl).trans (st_goto (t := 3) f_6_32 ⟨by decide, rfl⟩)
theorem bX0_firstColumn_35 {o0 o1 o2 o3 o4 o5 : Option Value} : XR sc d 6 35 [o0, o1, o2, o3, o4, o5] [] (T, z, xv V, J, R) = some (.inl (some (xw (-1))), (T, z, xv V, J, R)) :=
  (sw_iconst f_6_35).trans (sw_ireturn f_6_36 mr_6)
theorem eX0_isWhole {x1 x2 x3 x4 : Int} {a0 : Nat} : X sc (d + 1) 7 [.ref a0, xw x1, xw x2, xw x3, xw x4] (T, z, xv V, J, R) = XR sc d 7 0 [some (.ref a0), some (xw x1), some (xw x2), some (xw x3), some (xw x4), none, none] [] (T, z, xv V, J, R) :=
  (X_eq ⟨jl_7, by rw [mn_7]; rfl, rfl, by rw [lm_7]; exact Nat.le_of_ble_eq_true rfl⟩).trans (by unfold xent; rw [lm_7]; rfl)
theorem bX0_isWhole_0 {o0 o1 o3 o4 o5 o6 : Option Value} {x2 : Int} : XR sc d 7 0 [o0, o1, some (xw x2), o3, o4, o5, o6] [] (T, z, xv V, J, R) = XR sc d 7 3 [o0, o1, some (xw x2), o3, o4, some (xw x2), o6] [] (T, z, xv V, J, R) :=
  (sw_iload_n f_7_0 rfl).trans (sw_istore (L' := [o0, o1, some (xw x2), o3, o4, some (xw x2), o6]) f_7_1 (Nat.le_of_ble_eq_true rfl) rfl)
theorem bX0_isWhole_3 {o0 o1 o3 o6 : Option Value} {x5 x2 x4 : Int} (g1 : -2147483648 ≤ x5 ∧ x5 ≤ 2147483647) (g2 : -2147483648 ≤ (x2 + x4) ∧ (x2 + x4) ≤ 2147483647) : XR sc d 7 3 [o0, o1, some (xw x2), o3, some (xw x4), some (xw x5), o6] [] (T, z, xv V, J, R) = if (x2 + x4) ≤ x5 then XR sc d 7 53 [o0, o1, some (xw x2), o3, some (xw x4), some (xw x5), o6] [] (T, z, xv V, J, R) else XR sc d 7 12 [o0, o1, some (xw x2), o3, some (xw x4), some (xw x5), o6] [] (T, z, xv V, J, R) :=
  (sw_iload f_7_3 rfl).trans ((sw_iload_n f_7_5 rfl).trans ((sw_iload f_7_6 rfl).trans ((sw_iadd f_7_8).trans (sw_icmp_ge (t := 53) f_7_9 ⟨by decide, rfl⟩ g1 g2))))
theorem bX0_isWhole_12 {o0 o2 o3 o4 o5 o6 : Option Value} {x1 : Int} : XR sc d 7 12 [o0, some (xw x1), o2, o3, o4, o5, o6] [] (T, z, xv V, J, R) = XR sc d 7 15 [o0, some (xw x1), o2, o3, o4, o5, some (xw x1)] [] (T, z, xv V, J, R) :=
  (sw_iload_n f_7_12 rfl).trans (sw_istore (L' := [o0, some (xw x1), o2, o3, o4, o5, some (xw x1)]) f_7_13 (Nat.le_of_ble_eq_true rfl) rfl)
theorem bX0_isWhole_15 {o0 o2 o4 o5 : Option Value} {x6 x1 x3 : Int} (g1 : -2147483648 ≤ x6 ∧ x6 ≤ 2147483647) (g2 : -2147483648 ≤ (x1 + x3) ∧ (x1 + x3) ≤ 2147483647) : XR sc d 7 15 [o0, some (xw x1), o2, some (xw x3), o4, o5, some (xw x6)] [] (T, z, xv V, J, R) = if (x1 + x3) ≤ x6 then XR sc d 7 47 [o0, some (xw x1), o2, some (xw x3), o4, o5, some (xw x6)] [] (T, z, xv V, J, R) else XR sc d 7 23 [o0, some (xw x1), o2, some (xw x3), o4, o5, some (xw x6)] [] (T, z, xv V, J, R) :=
  (sw_iload f_7_15 rfl).trans ((sw_iload_n f_7_17 rfl).trans ((sw_iload_n f_7_18 rfl).trans ((sw_iadd f_7_19).trans (sw_icmp_ge (t := 47) f_7_20 ⟨by decide, rfl⟩ g1 g2))))
theorem bX0_isWhole_23 {o1 o2 o3 o4 : Option Value} {x5 x6 : Int} {a0 : Nat} (g1 : T a0 = (1, 0)) (g2 : R a0 1 = some ((R a0 1).getD 0)) (g3 : T ((R a0 1).getD 0) = (33, (T ((R a0 1).getD 0)).2)) (g4 : (0 : Int) ≤ ((x5 * 12) + x6) ∧ ((x5 * 12) + x6) < ((T ((R a0 1).getD 0)).2 : Int) ∧ (T ((R a0 1).getD 0)).2 ≤ 3584) (g5 : -2147483648 ≤ (V ((R a0 1).getD 0) ((x5 * 12) + x6).toNat) ∧ (V ((R a0 1).getD 0) ((x5 * 12) + x6).toNat) ≤ 2147483647) : XR sc d 7 23 [some (.ref a0), o1, o2, o3, o4, some (xw x5), some (xw x6)] [] (T, z, xv V, J, R) = if (V ((R a0 1).getD 0) ((x5 * 12) + x6).toNat) = 0 then XR sc d 7 41 [some (.ref a0), o1, o2, o3, o4, some (xw x5), some (xw x6)] [] (T, z, xv V, J, R) else XR sc d 7 39 [some (.ref a0), o1, o2, o3, o4, some (xw x5), some (xw x6)] [] (T, z, xv V, J, R) :=
  (st_aload_n f_7_23 rfl).trans ((st_getR f_7_24 e_7_15 (by decide) g1 g2).trans ((sw_iload f_7_27 rfl).trans ((sw_bipush f_7_29 c8_12).trans ((sw_imul f_7_31).trans ((sw_iload f_7_32 rfl).trans ((sw_iadd f_7_34).trans ((sw_baload f_7_35 g3 g4).trans (sw_if_eq (t := 41) f_7_36 ⟨by decide, rfl⟩ g5))))))))
theorem bX0_isWhole_39 {o0 o1 o2 o3 o4 o5 o6 : Option Value} : XR sc d 7 39 [o0, o1, o2, o3, o4, o5, o6] [] (T, z, xv V, J, R) = some (.inl (some (xw 0)), (T, z, xv V, J, R)) :=
  (sw_iconst f_7_39).trans (sw_zreturn f_7_40 mr_7 (by decide))
theorem bX0_isWhole_41 {o0 o1 o2 o3 o4 o5 : Option Value} {x6 : Int} : XR sc d 7 41 [o0, o1, o2, o3, o4, o5, some (xw x6)] [] (T, z, xv V, J, R) = XR sc d 7 15 [o0, o1, o2, o3, o4, o5, some (xw (x6 + 1))] [] (T, z, xv V, J, R) :=
  (sw_iinc (L' := [o0, o1, o2, o3, o4, o5, some (xw (x6 + 1))]) f_7_41 rfl (Nat.le_of_ble_eq_true rfl) rfl).trans (st_goto (t := 15) f_7_44 ⟨by decide, rfl⟩)
theorem bX0_isWhole_47 {o0 o1 o2 o3 o4 o6 : Option Value} {x5 : Int} : XR sc d 7 47 [o0, o1, o2, o3, o4, some (xw x5), o6] [] (T, z, xv V, J, R) = XR sc d 7 3 [o0, o1, o2, o3, o4, some (xw (x5 + 1)), o6] [] (T, z, xv V, J, R) :=
  (sw_iinc (L' := [o0, o1, o2, o3, o4, some (xw (x5 + 1)), o6]) f_7_47 rfl (Nat.le_of_ble_eq_true rfl) rfl).trans (st_goto (t := 3) f_7_50 ⟨by decide, rfl⟩)
theorem bX0_isWhole_53 {o0 o1 o2 o3 o4 o5 o6 : Option Value} : XR sc d 7 53 [o0, o1, o2, o3, o4, o5, o6] [] (T, z, xv V, J, R) = some (.inl (some (xw 1)), (T, z, xv V, J, R)) :=
  (sw_iconst f_7_53).trans (sw_zreturn f_7_54 mr_7 (by decide))
theorem eX0_reachesBelly {x0 x1 : Int} : X sc (d + 1) 8 [xw x0, xw x1] (T, z, xv V, J, R) = XR sc d 8 0 [some (xw x0), some (xw x1)] [] (T, z, xv V, J, R) :=
  (X_eq ⟨jl_8, by rw [mn_8]; rfl, rfl, by rw [lm_8]; exact Nat.le_of_ble_eq_true rfl⟩).trans (by unfold xent; rw [lm_8]; rfl)
theorem bX0_reachesBelly_0 {x0 x1 : Int} (g1 : -2147483648 ≤ (x0 + x1) ∧ (x0 + x1) ≤ 2147483647) : XR sc d 8 0 [some (xw x0), some (xw x1)] [] (T, z, xv V, J, R) = if (x0 + x1) ≤ 5 then XR sc d 8 11 [some (xw x0), some (xw x1)] [] (T, z, xv V, J, R) else XR sc d 8 7 [some (xw x0), some (xw x1)] [] (T, z, xv V, J, R) :=
  (sw_iload_n f_8_0 rfl).trans ((sw_iload_n f_8_1 rfl).trans ((sw_iadd f_8_2).trans ((sw_iconst f_8_3).trans (sw_icmp_le (t := 11) f_8_4 ⟨by decide, rfl⟩ g1 ⟨by decide, by decide⟩))))
theorem bX0_reachesBelly_7 {o0 o1 : Option Value} : XR sc d 8 7 [o0, o1] [] (T, z, xv V, J, R) = XR sc d 8 12 [o0, o1] [xw 1] (T, z, xv V, J, R) :=
  (sw_iconst f_8_7).trans (st_goto (t := 12) f_8_8 ⟨by decide, rfl⟩)
theorem bX0_reachesBelly_11 {o0 o1 : Option Value} : XR sc d 8 11 [o0, o1] [] (T, z, xv V, J, R) = XR sc d 8 12 [o0, o1] [xw 0] (T, z, xv V, J, R) :=
  sw_iconst f_8_11
theorem bX0_reachesBelly_12 {o0 o1 : Option Value} {y0 : Int} (g1 : y0 = 0 ∨ y0 = 1) : XR sc d 8 12 [o0, o1] [xw y0] (T, z, xv V, J, R) = some (.inl (some (xw y0)), (T, z, xv V, J, R)) :=
  sw_zreturn f_8_12 mr_8 g1
theorem eX0_worth {x0 x1 x2 : Int} : X sc (d + 1) 9 [xw x0, xw x1, xw x2] (T, z, xv V, J, R) = XR sc d 9 0 [some (xw x0), some (xw x1), some (xw x2), none, none, none] [] (T, z, xv V, J, R) :=
  (X_eq ⟨jl_9, by rw [mn_9]; rfl, rfl, by rw [lm_9]; exact Nat.le_of_ble_eq_true rfl⟩).trans (by unfold xent; rw [lm_9]; rfl)
theorem bX0_worth_0 {o1 o2 o3 o4 o5 : Option Value} {x0 : Int} : XR sc d 9 0 [some (xw x0), o1, o2, o3, o4, o5] [] (T, z, xv V, J, R) = XR sc d 9 5 [some (xw x0), o1, o2, some (xw 0), some (xw x0), o5] [] (T, z, xv V, J, R) :=
  (sw_iconst f_9_0).trans ((sw_istore_n (L' := [some (xw x0), o1, o2, some (xw 0), o4, o5]) f_9_1 (Nat.le_of_ble_eq_true rfl) rfl).trans ((sw_iload_n f_9_2 rfl).trans (sw_istore (L' := [some (xw x0), o1, o2, some (xw 0), some (xw x0), o5]) f_9_3 (Nat.le_of_ble_eq_true rfl) rfl)))
theorem bX0_worth_5 {o1 o3 o5 : Option Value} {x4 x0 x2 : Int} (g1 : -2147483648 ≤ x4 ∧ x4 ≤ 2147483647) (g2 : -2147483648 ≤ (x0 + x2) ∧ (x0 + x2) ≤ 2147483647) : XR sc d 9 5 [some (xw x0), o1, some (xw x2), o3, some (xw x4), o5] [] (T, z, xv V, J, R) = if (x0 + x2) ≤ x4 then XR sc d 9 49 [some (xw x0), o1, some (xw x2), o3, some (xw x4), o5] [] (T, z, xv V, J, R) else XR sc d 9 13 [some (xw x0), o1, some (xw x2), o3, some (xw x4), o5] [] (T, z, xv V, J, R) :=
  (sw_iload f_9_5 rfl).trans ((sw_iload_n f_9_7 rfl).trans ((sw_iload_n f_9_8 rfl).trans ((sw_iadd f_9_9).trans (sw_icmp_ge (t := 49) f_9_10 ⟨by decide, rfl⟩ g1 g2))))
theorem bX0_worth_13 {o0 o1 o2 o3 o5 : Option Value} {x4 : Int} (g1 : -2147483648 ≤ x4 ∧ x4 ≤ 2147483647) : XR sc d 9 13 [o0, o1, o2, o3, some (xw x4), o5] [] (T, z, xv V, J, R) = if 2 ≤ x4 then XR sc d 9 23 [o0, o1, o2, o3, some (xw x4), o5] [] (T, z, xv V, J, R) else XR sc d 9 19 [o0, o1, o2, o3, some (xw x4), o5] [] (T, z, xv V, J, R) :=
  (sw_iload f_9_13 rfl).trans ((sw_iconst f_9_15).trans (sw_icmp_ge (t := 23) f_9_16 ⟨by decide, rfl⟩ g1 ⟨by decide, by decide⟩))
theorem bX0_worth_19 {o0 o1 o2 o3 o4 o5 : Option Value} : XR sc d 9 19 [o0, o1, o2, o3, o4, o5] [] (T, z, xv V, J, R) = XR sc d 9 34 [o0, o1, o2, o3, o4, o5] [xw 3] (T, z, xv V, J, R) :=
  (sw_iconst f_9_19).trans (st_goto (t := 34) f_9_20 ⟨by decide, rfl⟩)
theorem bX0_worth_23 {o0 o1 o2 o3 o5 : Option Value} {x4 : Int} (g1 : -2147483648 ≤ x4 ∧ x4 ≤ 2147483647) : XR sc d 9 23 [o0, o1, o2, o3, some (xw x4), o5] [] (T, z, xv V, J, R) = if 5 ≤ x4 then XR sc d 9 33 [o0, o1, o2, o3, some (xw x4), o5] [] (T, z, xv V, J, R) else XR sc d 9 29 [o0, o1, o2, o3, some (xw x4), o5] [] (T, z, xv V, J, R) :=
  (sw_iload f_9_23 rfl).trans ((sw_iconst f_9_25).trans (sw_icmp_ge (t := 33) f_9_26 ⟨by decide, rfl⟩ g1 ⟨by decide, by decide⟩))
theorem bX0_worth_29 {o0 o1 o2 o3 o4 o5 : Option Value} : XR sc d 9 29 [o0, o1, o2, o3, o4, o5] [] (T, z, xv V, J, R) = XR sc d 9 34 [o0, o1, o2, o3, o4, o5] [xw 2] (T, z, xv V, J, R) :=
  (sw_iconst f_9_29).trans (st_goto (t := 34) f_9_30 ⟨by decide, rfl⟩)
theorem bX0_worth_33 {o0 o1 o2 o3 o4 o5 : Option Value} : XR sc d 9 33 [o0, o1, o2, o3, o4, o5] [] (T, z, xv V, J, R) = XR sc d 9 34 [o0, o1, o2, o3, o4, o5] [xw 1] (T, z, xv V, J, R) :=
  sw_iconst f_9_33
theorem bX0_worth_34 {o0 o2 o5 : Option Value} {y0 x3 x1 x4 : Int} : XR sc d 9 34 [o0, some (xw x1), o2, some (xw x3), some (xw x4), o5] [xw y0] (T, z, xv V, J, R) = XR sc d 9 5 [o0, some (xw x1), o2, some (xw (x3 + (x1 * y0))), some (xw (x4 + 1)), some (xw y0)] [] (T, z, xv V, J, R) :=
  (sw_istore (L' := [o0, some (xw x1), o2, some (xw x3), some (xw x4), some (xw y0)]) f_9_34 (Nat.le_of_ble_eq_true rfl) rfl).trans ((sw_iload_n f_9_36 rfl).trans ((sw_iload_n f_9_37 rfl).trans ((sw_iload f_9_38 rfl).trans ((sw_imul f_9_40).trans ((sw_iadd f_9_41).trans ((sw_istore_n (L' := [o0, some (xw x1), o2, some (xw (x3 + (x1 * y0))), some (xw x4), some (xw y0)]) f_9_42 (Nat.le_of_ble_eq_true rfl) rfl).trans ((sw_iinc (L' := [o0, some (xw x1), o2, some (xw (x3 + (x1 * y0))), some (xw (x4 + 1)), some (xw y0)]) f_9_43 rfl (Nat.le_of_ble_eq_true rfl) rfl).trans (st_goto (t := 5) f_9_46 ⟨by decide, rfl⟩))))))))
theorem bX0_worth_49 {o0 o1 o2 o4 o5 : Option Value} {x3 : Int} : XR sc d 9 49 [o0, o1, o2, some (xw x3), o4, o5] [] (T, z, xv V, J, R) = some (.inl (some (xw x3)), (T, z, xv V, J, R)) :=
  (sw_iload_n f_9_49 rfl).trans (sw_ireturn f_9_50 mr_9)
end BLK
