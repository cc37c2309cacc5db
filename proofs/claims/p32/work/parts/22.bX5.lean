/-! instructions, by program (gen2.py) -/
set_option maxRecDepth 100000 in
theorem f_40_0 : xft 40 0 = some (.aload_n 0) := by decide +kernel
set_option maxRecDepth 100000 in
theorem f_40_1 : xft 40 1 = some (.invokespecial 3) := by decide +kernel
set_option maxRecDepth 100000 in
theorem f_40_4 : xft 40 4 = some (.aload_n 0) := by decide +kernel
set_option maxRecDepth 100000 in
theorem f_40_5 : xft 40 5 = some (.bipush 7) := by decide +kernel
set_option maxRecDepth 100000 in
theorem f_40_7 : xft 40 7 = some (.newarray .int) := by decide +kernel
set_option maxRecDepth 100000 in
theorem f_40_9 : xft 40 9 = some (.putfield 9) := by decide +kernel
set_option maxRecDepth 100000 in
theorem f_40_12 : xft 40 12 = some (.aload_n 0) := by decide +kernel
set_option maxRecDepth 100000 in
theorem f_40_13 : xft 40 13 = some (.bipush 7) := by decide +kernel
set_option maxRecDepth 100000 in
theorem f_40_15 : xft 40 15 = some (.newarray .int) := by decide +kernel
set_option maxRecDepth 100000 in
theorem f_40_17 : xft 40 17 = some (.putfield 15) := by decide +kernel
set_option maxRecDepth 100000 in
theorem f_40_20 : xft 40 20 = some (.return_) := by decide +kernel
set_option maxRecDepth 100000 in
theorem f_41_0 : xft 41 0 = some (.iconst 0) := by decide +kernel
set_option maxRecDepth 100000 in
theorem f_41_1 : xft 41 1 = some (.istore_n 3) := by decide +kernel
set_option maxRecDepth 100000 in
theorem f_41_2 : xft 41 2 = some (.iload_n 3) := by decide +kernel
set_option maxRecDepth 100000 in
theorem f_41_3 : xft 41 3 = some (.bipush 7) := by decide +kernel
set_option maxRecDepth 100000 in
theorem f_41_5 : xft 41 5 = some (.if_icmp .ge 35) := by decide +kernel
set_option maxRecDepth 100000 in
theorem f_41_8 : xft 41 8 = some (.aload_n 0) := by decide +kernel
set_option maxRecDepth 100000 in
theorem f_41_9 : xft 41 9 = some (.getfield 9) := by decide +kernel
set_option maxRecDepth 100000 in
theorem f_41_12 : xft 41 12 = some (.iload_n 3) := by decide +kernel
set_option maxRecDepth 100000 in
theorem f_41_13 : xft 41 13 = some (.aload_n 2) := by decide +kernel
set_option maxRecDepth 100000 in
theorem f_41_14 : xft 41 14 = some (.getfield 18) := by decide +kernel
set_option maxRecDepth 100000 in
theorem f_41_17 : xft 41 17 = some (.iload_n 3) := by decide +kernel
set_option maxRecDepth 100000 in
theorem f_41_18 : xft 41 18 = some (.iaload) := by decide +kernel
set_option maxRecDepth 100000 in
theorem f_41_19 : xft 41 19 = some (.aload_n 2) := by decide +kernel
set_option maxRecDepth 100000 in
theorem f_41_20 : xft 41 20 = some (.getfield 23) := by decide +kernel
set_option maxRecDepth 100000 in
theorem f_41_23 : xft 41 23 = some (.iload_n 3) := by decide +kernel
set_option maxRecDepth 100000 in
theorem f_41_24 : xft 41 24 = some (.iaload) := by decide +kernel
set_option maxRecDepth 100000 in
theorem f_41_25 : xft 41 25 = some (.isub) := by decide +kernel
set_option maxRecDepth 100000 in
theorem f_41_26 : xft 41 26 = some (.aload_n 1) := by decide +kernel
set_option maxRecDepth 100000 in
theorem f_41_27 : xft 41 27 = some (.getfield 26) := by decide +kernel
set_option maxRecDepth 100000 in
theorem f_41_30 : xft 41 30 = some (.iload_n 3) := by decide +kernel
set_option maxRecDepth 100000 in
theorem f_41_31 : xft 41 31 = some (.iaload) := by decide +kernel
set_option maxRecDepth 100000 in
theorem f_41_32 : xft 41 32 = some (.isub) := by decide +kernel
set_option maxRecDepth 100000 in
theorem f_41_33 : xft 41 33 = some (.iastore) := by decide +kernel
set_option maxRecDepth 100000 in
theorem f_41_34 : xft 41 34 = some (.iinc 3 1) := by decide +kernel
set_option maxRecDepth 100000 in
theorem f_41_37 : xft 41 37 = some (.goto (-35)) := by decide +kernel
set_option maxRecDepth 100000 in
theorem f_41_40 : xft 41 40 = some (.return_) := by decide +kernel
set_option maxRecDepth 100000 in
theorem f_42_0 : xft 42 0 = some (.iconst 4) := by decide +kernel
set_option maxRecDepth 100000 in
theorem f_42_1 : xft 42 1 = some (.iconst 0) := by decide +kernel
set_option maxRecDepth 100000 in
theorem f_42_2 : xft 42 2 = some (.iload_n 2) := by decide +kernel
set_option maxRecDepth 100000 in
theorem f_42_3 : xft 42 3 = some (.aload_n 0) := by decide +kernel
set_option maxRecDepth 100000 in
theorem f_42_4 : xft 42 4 = some (.getfield 9) := by decide +kernel
set_option maxRecDepth 100000 in
theorem f_42_7 : xft 42 7 = some (.iload_n 1) := by decide +kernel
set_option maxRecDepth 100000 in
theorem f_42_8 : xft 42 8 = some (.iaload) := by decide +kernel
set_option maxRecDepth 100000 in
theorem f_42_9 : xft 42 9 = some (.isub) := by decide +kernel
set_option maxRecDepth 100000 in
theorem f_42_10 : xft 42 10 = some (.invokestatic 29) := by decide +kernel
set_option maxRecDepth 100000 in
theorem f_42_13 : xft 42 13 = some (.imul) := by decide +kernel
set_option maxRecDepth 100000 in
theorem f_42_14 : xft 42 14 = some (.ireturn) := by decide +kernel
set_option maxRecDepth 100000 in
theorem f_43_0 : xft 43 0 = some (.aload_n 0) := by decide +kernel
set_option maxRecDepth 100000 in
theorem f_43_1 : xft 43 1 = some (.getfield 9) := by decide +kernel
set_option maxRecDepth 100000 in
theorem f_43_4 : xft 43 4 = some (.iconst 0) := by decide +kernel
set_option maxRecDepth 100000 in
theorem f_43_5 : xft 43 5 = some (.iaload) := by decide +kernel
set_option maxRecDepth 100000 in
theorem f_43_6 : xft 43 6 = some (.istore_n 2) := by decide +kernel
set_option maxRecDepth 100000 in
theorem f_43_7 : xft 43 7 = some (.aload_n 0) := by decide +kernel
set_option maxRecDepth 100000 in
theorem f_43_8 : xft 43 8 = some (.getfield 9) := by decide +kernel
set_option maxRecDepth 100000 in
theorem f_43_11 : xft 43 11 = some (.astore_n 3) := by decide +kernel
set_option maxRecDepth 100000 in
theorem f_43_12 : xft 43 12 = some (.aload_n 3) := by decide +kernel
set_option maxRecDepth 100000 in
theorem f_43_13 : xft 43 13 = some (.arraylength) := by decide +kernel
set_option maxRecDepth 100000 in
theorem f_43_14 : xft 43 14 = some (.istore 4) := by decide +kernel
set_option maxRecDepth 100000 in
theorem f_43_16 : xft 43 16 = some (.iconst 0) := by decide +kernel
set_option maxRecDepth 100000 in
theorem f_43_17 : xft 43 17 = some (.istore 5) := by decide +kernel
set_option maxRecDepth 100000 in
theorem f_43_19 : xft 43 19 = some (.iload 5) := by decide +kernel
set_option maxRecDepth 100000 in
theorem f_43_21 : xft 43 21 = some (.iload 4) := by decide +kernel
set_option maxRecDepth 100000 in
theorem f_43_23 : xft 43 23 = some (.if_icmp .ge 22) := by decide +kernel
set_option maxRecDepth 100000 in
theorem f_43_26 : xft 43 26 = some (.aload_n 3) := by decide +kernel
set_option maxRecDepth 100000 in
theorem f_43_27 : xft 43 27 = some (.iload 5) := by decide +kernel
set_option maxRecDepth 100000 in
theorem f_43_29 : xft 43 29 = some (.iaload) := by decide +kernel
set_option maxRecDepth 100000 in
theorem f_43_30 : xft 43 30 = some (.istore 6) := by decide +kernel
set_option maxRecDepth 100000 in
theorem f_43_32 : xft 43 32 = some (.iload_n 2) := by decide +kernel
set_option maxRecDepth 100000 in
theorem f_43_33 : xft 43 33 = some (.iload 6) := by decide +kernel
set_option maxRecDepth 100000 in
theorem f_43_35 : xft 43 35 = some (.invokestatic 35) := by decide +kernel
set_option maxRecDepth 100000 in
theorem f_43_38 : xft 43 38 = some (.istore_n 2) := by decide +kernel
set_option maxRecDepth 100000 in
theorem f_43_39 : xft 43 39 = some (.iinc 5 1) := by decide +kernel
set_option maxRecDepth 100000 in
theorem f_43_42 : xft 43 42 = some (.goto (-23)) := by decide +kernel
set_option maxRecDepth 100000 in
theorem f_43_45 : xft 43 45 = some (.iload_n 2) := by decide +kernel
set_option maxRecDepth 100000 in
theorem f_43_46 : xft 43 46 = some (.istore_n 3) := by decide +kernel
set_option maxRecDepth 100000 in
theorem f_43_47 : xft 43 47 = some (.iload_n 2) := by decide +kernel
set_option maxRecDepth 100000 in
theorem f_43_48 : xft 43 48 = some (.iload_n 1) := by decide +kernel
set_option maxRecDepth 100000 in
theorem f_43_49 : xft 43 49 = some (.iconst 4) := by decide +kernel
set_option maxRecDepth 100000 in
theorem f_43_50 : xft 43 50 = some (.iadd) := by decide +kernel
set_option maxRecDepth 100000 in
theorem f_43_51 : xft 43 51 = some (.iconst 1) := by decide +kernel
set_option maxRecDepth 100000 in
theorem f_43_52 : xft 43 52 = some (.isub) := by decide +kernel
set_option maxRecDepth 100000 in
theorem f_43_53 : xft 43 53 = some (.iconst 4) := by decide +kernel
set_option maxRecDepth 100000 in
theorem f_43_54 : xft 43 54 = some (.idiv) := by decide +kernel
set_option maxRecDepth 100000 in
theorem f_43_55 : xft 43 55 = some (.iadd) := by decide +kernel
set_option maxRecDepth 100000 in
theorem f_43_56 : xft 43 56 = some (.istore 4) := by decide +kernel
set_option maxRecDepth 100000 in
theorem f_43_58 : xft 43 58 = some (.iconst 0) := by decide +kernel
set_option maxRecDepth 100000 in
theorem f_43_59 : xft 43 59 = some (.istore 5) := by decide +kernel
set_option maxRecDepth 100000 in
theorem f_43_61 : xft 43 61 = some (.iload 5) := by decide +kernel
set_option maxRecDepth 100000 in
theorem f_43_63 : xft 43 63 = some (.bipush 40) := by decide +kernel
set_option maxRecDepth 100000 in
theorem f_43_65 : xft 43 65 = some (.if_icmp .ge 47) := by decide +kernel
set_option maxRecDepth 100000 in
theorem f_43_68 : xft 43 68 = some (.iload 4) := by decide +kernel
set_option maxRecDepth 100000 in
theorem f_43_70 : xft 43 70 = some (.iload_n 3) := by decide +kernel
set_option maxRecDepth 100000 in
theorem f_43_71 : xft 43 71 = some (.isub) := by decide +kernel
set_option maxRecDepth 100000 in
theorem f_43_72 : xft 43 72 = some (.iconst 1) := by decide +kernel
set_option maxRecDepth 100000 in
theorem f_43_73 : xft 43 73 = some (.if_icmp .le 39) := by decide +kernel
set_option maxRecDepth 100000 in
theorem f_43_76 : xft 43 76 = some (.iload_n 3) := by decide +kernel
set_option maxRecDepth 100000 in
theorem f_43_77 : xft 43 77 = some (.iload 4) := by decide +kernel
set_option maxRecDepth 100000 in
theorem f_43_79 : xft 43 79 = some (.iload_n 3) := by decide +kernel
set_option maxRecDepth 100000 in
theorem f_43_80 : xft 43 80 = some (.isub) := by decide +kernel
set_option maxRecDepth 100000 in
theorem f_43_81 : xft 43 81 = some (.iconst 2) := by decide +kernel
set_option maxRecDepth 100000 in
theorem f_43_82 : xft 43 82 = some (.idiv) := by decide +kernel
set_option maxRecDepth 100000 in
theorem f_43_83 : xft 43 83 = some (.iadd) := by decide +kernel
set_option maxRecDepth 100000 in
theorem f_43_84 : xft 43 84 = some (.istore 6) := by decide +kernel
set_option maxRecDepth 100000 in
theorem f_43_86 : xft 43 86 = some (.aload_n 0) := by decide +kernel
set_option maxRecDepth 100000 in
theorem f_43_87 : xft 43 87 = some (.iload 6) := by decide +kernel
set_option maxRecDepth 100000 in
theorem f_43_89 : xft 43 89 = some (.invokevirtual 38) := by decide +kernel
set_option maxRecDepth 100000 in
theorem f_43_92 : xft 43 92 = some (.iload_n 1) := by decide +kernel
set_option maxRecDepth 100000 in
theorem f_43_93 : xft 43 93 = some (.if_icmp .lt 10) := by decide +kernel
set_option maxRecDepth 100000 in
theorem f_43_96 : xft 43 96 = some (.iload 6) := by decide +kernel
set_option maxRecDepth 100000 in
theorem f_43_98 : xft 43 98 = some (.istore 4) := by decide +kernel
set_option maxRecDepth 100000 in
theorem f_43_100 : xft 43 100 = some (.goto 6) := by decide +kernel
set_option maxRecDepth 100000 in
theorem f_43_103 : xft 43 103 = some (.iload 6) := by decide +kernel
set_option maxRecDepth 100000 in
theorem f_43_105 : xft 43 105 = some (.istore_n 3) := by decide +kernel
set_option maxRecDepth 100000 in
theorem f_43_106 : xft 43 106 = some (.iinc 5 1) := by decide +kernel
set_option maxRecDepth 100000 in
theorem f_43_109 : xft 43 109 = some (.goto (-48)) := by decide +kernel
set_option maxRecDepth 100000 in
theorem f_43_112 : xft 43 112 = some (.iload 4) := by decide +kernel
set_option maxRecDepth 100000 in
theorem f_43_114 : xft 43 114 = some (.ireturn) := by decide +kernel
set_option maxRecDepth 100000 in
theorem f_44_0 : xft 44 0 = some (.aload_n 0) := by decide +kernel
set_option maxRecDepth 100000 in
theorem f_44_1 : xft 44 1 = some (.invokevirtual 42) := by decide +kernel
set_option maxRecDepth 100000 in
theorem f_44_4 : xft 44 4 = some (.iconst 0) := by decide +kernel
set_option maxRecDepth 100000 in
theorem f_44_5 : xft 44 5 = some (.istore_n 2) := by decide +kernel
set_option maxRecDepth 100000 in
theorem f_44_6 : xft 44 6 = some (.iconst 0) := by decide +kernel
set_option maxRecDepth 100000 in
theorem f_44_7 : xft 44 7 = some (.istore_n 3) := by decide +kernel
set_option maxRecDepth 100000 in
theorem f_44_8 : xft 44 8 = some (.iconst 1) := by decide +kernel
set_option maxRecDepth 100000 in
theorem f_44_9 : xft 44 9 = some (.istore 4) := by decide +kernel
set_option maxRecDepth 100000 in
theorem f_44_11 : xft 44 11 = some (.iload 4) := by decide +kernel
set_option maxRecDepth 100000 in
theorem f_44_13 : xft 44 13 = some (.bipush 7) := by decide +kernel
set_option maxRecDepth 100000 in
theorem f_44_15 : xft 44 15 = some (.if_icmp .gt 63) := by decide +kernel
set_option maxRecDepth 100000 in
theorem f_44_18 : xft 44 18 = some (.iload_n 2) := by decide +kernel
set_option maxRecDepth 100000 in
theorem f_44_19 : xft 44 19 = some (.aload_n 0) := by decide +kernel
set_option maxRecDepth 100000 in
theorem f_44_20 : xft 44 20 = some (.getfield 15) := by decide +kernel
set_option maxRecDepth 100000 in
theorem f_44_23 : xft 44 23 = some (.iload 4) := by decide +kernel
set_option maxRecDepth 100000 in
theorem f_44_25 : xft 44 25 = some (.iconst 1) := by decide +kernel
set_option maxRecDepth 100000 in
theorem f_44_26 : xft 44 26 = some (.isub) := by decide +kernel
set_option maxRecDepth 100000 in
theorem f_44_27 : xft 44 27 = some (.iaload) := by decide +kernel
set_option maxRecDepth 100000 in
theorem f_44_28 : xft 44 28 = some (.iadd) := by decide +kernel
set_option maxRecDepth 100000 in
theorem f_44_29 : xft 44 29 = some (.istore_n 2) := by decide +kernel
set_option maxRecDepth 100000 in
theorem f_44_30 : xft 44 30 = some (.iconst 4) := by decide +kernel
set_option maxRecDepth 100000 in
theorem f_44_31 : xft 44 31 = some (.iload 4) := by decide +kernel
set_option maxRecDepth 100000 in
theorem f_44_33 : xft 44 33 = some (.imul) := by decide +kernel
set_option maxRecDepth 100000 in
theorem f_44_34 : xft 44 34 = some (.istore 5) := by decide +kernel
set_option maxRecDepth 100000 in
theorem f_44_36 : xft 44 36 = some (.iload_n 1) := by decide +kernel
set_option maxRecDepth 100000 in
theorem f_44_37 : xft 44 37 = some (.iconst 4) := by decide +kernel
set_option maxRecDepth 100000 in
theorem f_44_38 : xft 44 38 = some (.iload_n 2) := by decide +kernel
set_option maxRecDepth 100000 in
theorem f_44_39 : xft 44 39 = some (.imul) := by decide +kernel
set_option maxRecDepth 100000 in
theorem f_44_40 : xft 44 40 = some (.iadd) := by decide +kernel
set_option maxRecDepth 100000 in
theorem f_44_41 : xft 44 41 = some (.iload 5) := by decide +kernel
set_option maxRecDepth 100000 in
theorem f_44_43 : xft 44 43 = some (.iadd) := by decide +kernel
set_option maxRecDepth 100000 in
theorem f_44_44 : xft 44 44 = some (.iconst 1) := by decide +kernel
set_option maxRecDepth 100000 in
theorem f_44_45 : xft 44 45 = some (.isub) := by decide +kernel
set_option maxRecDepth 100000 in
theorem f_44_46 : xft 44 46 = some (.iload 5) := by decide +kernel
set_option maxRecDepth 100000 in
theorem f_44_48 : xft 44 48 = some (.invokestatic 45) := by decide +kernel
set_option maxRecDepth 100000 in
theorem f_44_51 : xft 44 51 = some (.istore_n 3) := by decide +kernel
set_option maxRecDepth 100000 in
theorem f_44_52 : xft 44 52 = some (.iload 4) := by decide +kernel
set_option maxRecDepth 100000 in
theorem f_44_54 : xft 44 54 = some (.bipush 7) := by decide +kernel
set_option maxRecDepth 100000 in
theorem f_44_56 : xft 44 56 = some (.if_icmp .ge 16) := by decide +kernel
set_option maxRecDepth 100000 in
theorem f_44_59 : xft 44 59 = some (.iload_n 3) := by decide +kernel
set_option maxRecDepth 100000 in
theorem f_44_60 : xft 44 60 = some (.aload_n 0) := by decide +kernel
set_option maxRecDepth 100000 in
theorem f_44_61 : xft 44 61 = some (.getfield 15) := by decide +kernel
set_option maxRecDepth 100000 in
theorem f_44_64 : xft 44 64 = some (.iload 4) := by decide +kernel
set_option maxRecDepth 100000 in
theorem f_44_66 : xft 44 66 = some (.iaload) := by decide +kernel
set_option maxRecDepth 100000 in
theorem f_44_67 : xft 44 67 = some (.if_icmp .gt 5) := by decide +kernel
set_option maxRecDepth 100000 in
theorem f_44_70 : xft 44 70 = some (.iload_n 3) := by decide +kernel
set_option maxRecDepth 100000 in
theorem f_44_71 : xft 44 71 = some (.ireturn) := by decide +kernel
set_option maxRecDepth 100000 in
theorem f_44_72 : xft 44 72 = some (.iinc 4 1) := by decide +kernel
set_option maxRecDepth 100000 in
theorem f_44_75 : xft 44 75 = some (.goto (-64)) := by decide +kernel
set_option maxRecDepth 100000 in
theorem f_44_78 : xft 44 78 = some (.iload_n 3) := by decide +kernel
set_option maxRecDepth 100000 in
theorem f_44_79 : xft 44 79 = some (.ireturn) := by decide +kernel
set_option maxRecDepth 100000 in
theorem f_45_0 : xft 45 0 = some (.iconst 0) := by decide +kernel
set_option maxRecDepth 100000 in
theorem f_45_1 : xft 45 1 = some (.istore_n 2) := by decide +kernel
set_option maxRecDepth 100000 in
theorem f_45_2 : xft 45 2 = some (.iconst 1) := by decide +kernel
set_option maxRecDepth 100000 in
theorem f_45_3 : xft 45 3 = some (.istore_n 3) := by decide +kernel
set_option maxRecDepth 100000 in
theorem f_45_4 : xft 45 4 = some (.iload_n 3) := by decide +kernel
set_option maxRecDepth 100000 in
theorem f_45_5 : xft 45 5 = some (.bipush 6) := by decide +kernel
set_option maxRecDepth 100000 in
theorem f_45_7 : xft 45 7 = some (.if_icmp .ge 47) := by decide +kernel
set_option maxRecDepth 100000 in
theorem f_45_10 : xft 45 10 = some (.aload_n 0) := by decide +kernel
set_option maxRecDepth 100000 in
theorem f_45_11 : xft 45 11 = some (.iload_n 3) := by decide +kernel
set_option maxRecDepth 100000 in
theorem f_45_12 : xft 45 12 = some (.iload_n 1) := by decide +kernel
set_option maxRecDepth 100000 in
theorem f_45_13 : xft 45 13 = some (.invokevirtual 48) := by decide +kernel
set_option maxRecDepth 100000 in
theorem f_45_16 : xft 45 16 = some (.ifCond .ne 32) := by decide +kernel
set_option maxRecDepth 100000 in
theorem f_45_19 : xft 45 19 = some (.aload_n 0) := by decide +kernel
set_option maxRecDepth 100000 in
theorem f_45_20 : xft 45 20 = some (.iconst 0) := by decide +kernel
set_option maxRecDepth 100000 in
theorem f_45_21 : xft 45 21 = some (.iload_n 3) := by decide +kernel
set_option maxRecDepth 100000 in
theorem f_45_22 : xft 45 22 = some (.iload_n 1) := by decide +kernel
set_option maxRecDepth 100000 in
theorem f_45_23 : xft 45 23 = some (.invokevirtual 51) := by decide +kernel
set_option maxRecDepth 100000 in
theorem f_45_26 : xft 45 26 = some (.ifCond .eq 22) := by decide +kernel
set_option maxRecDepth 100000 in
theorem f_45_29 : xft 45 29 = some (.aload_n 0) := by decide +kernel
set_option maxRecDepth 100000 in
theorem f_45_30 : xft 45 30 = some (.iload_n 3) := by decide +kernel
set_option maxRecDepth 100000 in
theorem f_45_31 : xft 45 31 = some (.iconst 1) := by decide +kernel
set_option maxRecDepth 100000 in
theorem f_45_32 : xft 45 32 = some (.iadd) := by decide +kernel
set_option maxRecDepth 100000 in
theorem f_45_33 : xft 45 33 = some (.bipush 7) := by decide +kernel
set_option maxRecDepth 100000 in
theorem f_45_35 : xft 45 35 = some (.iload_n 1) := by decide +kernel
set_option maxRecDepth 100000 in
theorem f_45_36 : xft 45 36 = some (.invokevirtual 51) := by decide +kernel
set_option maxRecDepth 100000 in
theorem f_45_39 : xft 45 39 = some (.ifCond .eq 9) := by decide +kernel
set_option maxRecDepth 100000 in
theorem f_45_42 : xft 45 42 = some (.iload_n 2) := by decide +kernel
set_option maxRecDepth 100000 in
theorem f_45_43 : xft 45 43 = some (.iconst 1) := by decide +kernel
set_option maxRecDepth 100000 in
theorem f_45_44 : xft 45 44 = some (.iload_n 3) := by decide +kernel
set_option maxRecDepth 100000 in
theorem f_45_45 : xft 45 45 = some (.ishl) := by decide +kernel
set_option maxRecDepth 100000 in
theorem f_45_46 : xft 45 46 = some (.ior) := by decide +kernel
set_option maxRecDepth 100000 in
theorem f_45_47 : xft 45 47 = some (.istore_n 2) := by decide +kernel
set_option maxRecDepth 100000 in
theorem f_45_48 : xft 45 48 = some (.iinc 3 1) := by decide +kernel
set_option maxRecDepth 100000 in
theorem f_45_51 : xft 45 51 = some (.goto (-47)) := by decide +kernel
set_option maxRecDepth 100000 in
theorem f_45_54 : xft 45 54 = some (.iload_n 2) := by decide +kernel
set_option maxRecDepth 100000 in
theorem f_45_55 : xft 45 55 = some (.ireturn) := by decide +kernel
set_option maxRecDepth 100000 in
theorem f_46_0 : xft 46 0 = some (.iload_n 1) := by decide +kernel
set_option maxRecDepth 100000 in
theorem f_46_1 : xft 46 1 = some (.istore 4) := by decide +kernel
set_option maxRecDepth 100000 in
theorem f_46_3 : xft 46 3 = some (.iload 4) := by decide +kernel
set_option maxRecDepth 100000 in
theorem f_46_5 : xft 46 5 = some (.iload_n 2) := by decide +kernel
set_option maxRecDepth 100000 in
theorem f_46_6 : xft 46 6 = some (.if_icmp .ge 21) := by decide +kernel
set_option maxRecDepth 100000 in
theorem f_46_9 : xft 46 9 = some (.aload_n 0) := by decide +kernel
set_option maxRecDepth 100000 in
theorem f_46_10 : xft 46 10 = some (.iload 4) := by decide +kernel
set_option maxRecDepth 100000 in
theorem f_46_12 : xft 46 12 = some (.iload_n 3) := by decide +kernel
set_option maxRecDepth 100000 in
theorem f_46_13 : xft 46 13 = some (.invokevirtual 48) := by decide +kernel
set_option maxRecDepth 100000 in
theorem f_46_16 : xft 46 16 = some (.ifCond .le 5) := by decide +kernel
set_option maxRecDepth 100000 in
theorem f_46_19 : xft 46 19 = some (.iconst 1) := by decide +kernel
set_option maxRecDepth 100000 in
theorem f_46_20 : xft 46 20 = some (.ireturn) := by decide +kernel
set_option maxRecDepth 100000 in
theorem f_46_21 : xft 46 21 = some (.iinc 4 1) := by decide +kernel
set_option maxRecDepth 100000 in
theorem f_46_24 : xft 46 24 = some (.goto (-21)) := by decide +kernel
set_option maxRecDepth 100000 in
theorem f_46_27 : xft 46 27 = some (.iconst 0) := by decide +kernel
set_option maxRecDepth 100000 in
theorem f_46_28 : xft 46 28 = some (.ireturn) := by decide +kernel
set_option maxRecDepth 100000 in
theorem f_47_0 : xft 47 0 = some (.iconst 0) := by decide +kernel
set_option maxRecDepth 100000 in
theorem f_47_1 : xft 47 1 = some (.istore_n 2) := by decide +kernel
set_option maxRecDepth 100000 in
theorem f_47_2 : xft 47 2 = some (.iconst 0) := by decide +kernel
set_option maxRecDepth 100000 in
theorem f_47_3 : xft 47 3 = some (.istore_n 3) := by decide +kernel
set_option maxRecDepth 100000 in
theorem f_47_4 : xft 47 4 = some (.iload_n 3) := by decide +kernel
set_option maxRecDepth 100000 in
theorem f_47_5 : xft 47 5 = some (.bipush 7) := by decide +kernel
set_option maxRecDepth 100000 in
theorem f_47_7 : xft 47 7 = some (.if_icmp .ge 18) := by decide +kernel
set_option maxRecDepth 100000 in
theorem f_47_10 : xft 47 10 = some (.iload_n 2) := by decide +kernel
set_option maxRecDepth 100000 in
theorem f_47_11 : xft 47 11 = some (.aload_n 0) := by decide +kernel
set_option maxRecDepth 100000 in
theorem f_47_12 : xft 47 12 = some (.iload_n 3) := by decide +kernel
set_option maxRecDepth 100000 in
theorem f_47_13 : xft 47 13 = some (.iload_n 1) := by decide +kernel
set_option maxRecDepth 100000 in
theorem f_47_14 : xft 47 14 = some (.invokevirtual 48) := by decide +kernel
set_option maxRecDepth 100000 in
theorem f_47_17 : xft 47 17 = some (.iadd) := by decide +kernel
set_option maxRecDepth 100000 in
theorem f_47_18 : xft 47 18 = some (.istore_n 2) := by decide +kernel
set_option maxRecDepth 100000 in
theorem f_47_19 : xft 47 19 = some (.iinc 3 1) := by decide +kernel
set_option maxRecDepth 100000 in
theorem f_47_22 : xft 47 22 = some (.goto (-18)) := by decide +kernel
set_option maxRecDepth 100000 in
theorem f_47_25 : xft 47 25 = some (.iload_n 2) := by decide +kernel
set_option maxRecDepth 100000 in
theorem f_47_26 : xft 47 26 = some (.ireturn) := by decide +kernel
set_option maxRecDepth 100000 in
theorem f_48_0 : xft 48 0 = some (.iconst 0) := by decide +kernel
set_option maxRecDepth 100000 in
theorem f_48_1 : xft 48 1 = some (.istore_n 1) := by decide +kernel
set_option maxRecDepth 100000 in
theorem f_48_2 : xft 48 2 = some (.iload_n 1) := by decide +kernel
set_option maxRecDepth 100000 in
theorem f_48_3 : xft 48 3 = some (.bipush 7) := by decide +kernel
set_option maxRecDepth 100000 in
theorem f_48_5 : xft 48 5 = some (.if_icmp .ge 61) := by decide +kernel
set_option maxRecDepth 100000 in
theorem f_48_8 : xft 48 8 = some (.aload_n 0) := by decide +kernel
set_option maxRecDepth 100000 in
theorem f_48_9 : xft 48 9 = some (.getfield 9) := by decide +kernel
set_option maxRecDepth 100000 in
theorem f_48_12 : xft 48 12 = some (.iload_n 1) := by decide +kernel
set_option maxRecDepth 100000 in
theorem f_48_13 : xft 48 13 = some (.iaload) := by decide +kernel
set_option maxRecDepth 100000 in
theorem f_48_14 : xft 48 14 = some (.istore_n 2) := by decide +kernel
set_option maxRecDepth 100000 in
theorem f_48_15 : xft 48 15 = some (.iload_n 1) := by decide +kernel
set_option maxRecDepth 100000 in
theorem f_48_16 : xft 48 16 = some (.istore_n 3) := by decide +kernel
set_option maxRecDepth 100000 in
theorem f_48_17 : xft 48 17 = some (.iload_n 3) := by decide +kernel
set_option maxRecDepth 100000 in
theorem f_48_18 : xft 48 18 = some (.ifCond .le 35) := by decide +kernel
set_option maxRecDepth 100000 in
theorem f_48_21 : xft 48 21 = some (.aload_n 0) := by decide +kernel
set_option maxRecDepth 100000 in
theorem f_48_22 : xft 48 22 = some (.getfield 15) := by decide +kernel
set_option maxRecDepth 100000 in
theorem f_48_25 : xft 48 25 = some (.iload_n 3) := by decide +kernel
set_option maxRecDepth 100000 in
theorem f_48_26 : xft 48 26 = some (.iconst 1) := by decide +kernel
set_option maxRecDepth 100000 in
theorem f_48_27 : xft 48 27 = some (.isub) := by decide +kernel
set_option maxRecDepth 100000 in
theorem f_48_28 : xft 48 28 = some (.iaload) := by decide +kernel
set_option maxRecDepth 100000 in
theorem f_48_29 : xft 48 29 = some (.iload_n 2) := by decide +kernel
set_option maxRecDepth 100000 in
theorem f_48_30 : xft 48 30 = some (.if_icmp .le 23) := by decide +kernel
set_option maxRecDepth 100000 in
theorem f_48_33 : xft 48 33 = some (.aload_n 0) := by decide +kernel
set_option maxRecDepth 100000 in
theorem f_48_34 : xft 48 34 = some (.getfield 15) := by decide +kernel
set_option maxRecDepth 100000 in
theorem f_48_37 : xft 48 37 = some (.iload_n 3) := by decide +kernel
set_option maxRecDepth 100000 in
theorem f_48_38 : xft 48 38 = some (.aload_n 0) := by decide +kernel
set_option maxRecDepth 100000 in
theorem f_48_39 : xft 48 39 = some (.getfield 15) := by decide +kernel
set_option maxRecDepth 100000 in
theorem f_48_42 : xft 48 42 = some (.iload_n 3) := by decide +kernel
set_option maxRecDepth 100000 in
theorem f_48_43 : xft 48 43 = some (.iconst 1) := by decide +kernel
set_option maxRecDepth 100000 in
theorem f_48_44 : xft 48 44 = some (.isub) := by decide +kernel
set_option maxRecDepth 100000 in
theorem f_48_45 : xft 48 45 = some (.iaload) := by decide +kernel
set_option maxRecDepth 100000 in
theorem f_48_46 : xft 48 46 = some (.iastore) := by decide +kernel
set_option maxRecDepth 100000 in
theorem f_48_47 : xft 48 47 = some (.iinc 3 (-1)) := by decide +kernel
set_option maxRecDepth 100000 in
theorem f_48_50 : xft 48 50 = some (.goto (-33)) := by decide +kernel
set_option maxRecDepth 100000 in
theorem f_48_53 : xft 48 53 = some (.aload_n 0) := by decide +kernel
set_option maxRecDepth 100000 in
theorem f_48_54 : xft 48 54 = some (.getfield 15) := by decide +kernel
set_option maxRecDepth 100000 in
theorem f_48_57 : xft 48 57 = some (.iload_n 3) := by decide +kernel
set_option maxRecDepth 100000 in
theorem f_48_58 : xft 48 58 = some (.iload_n 2) := by decide +kernel
set_option maxRecDepth 100000 in
theorem f_48_59 : xft 48 59 = some (.iastore) := by decide +kernel
set_option maxRecDepth 100000 in
theorem f_48_60 : xft 48 60 = some (.iinc 1 1) := by decide +kernel
set_option maxRecDepth 100000 in
theorem f_48_63 : xft 48 63 = some (.goto (-61)) := by decide +kernel
set_option maxRecDepth 100000 in
theorem f_48_66 : xft 48 66 = some (.return_) := by decide +kernel
/-! blocks, by program (gen2.py) -/
section BLK
variable {sc : xS} {d : Nat} {T : Nat → Nat × Nat} {z : Nat × Nat} {V : Nat → Nat → Int} {J : Nat → Nat → Int64} {R : Nat → Nat → Option Nat}
theorem eX5_init {a0 : Nat} : X sc (d + 1) 40 [.ref a0] (T, z, xv V, J, R) = XR sc d 40 0 [some (.ref a0)] [] (T, z, xv V, J, R) :=
  (X_eq ⟨jl_40, by rw [mn_40]; rfl, rfl, by rw [lm_40]; exact Nat.le_of_ble_eq_true rfl⟩).trans (by unfold xent; rw [lm_40]; rfl)
theorem bX5_init_0 {a0 : Nat} (g1 : 1 ≤ d) (g2 : (va_up T z.1 (32, 7)) a0 = (6, 0)) (g3 : (va_up (va_up T z.1 (32, 7)) (z.1 + 1) (32, 7)) a0 = (6, 0)) : XR sc d 40 0 [some (.ref a0)] [] (T, z, xv V, J, R) = some (.inl none, ((va_up (va_up T z.1 (32, 7)) (z.1 + 1) (32, 7)), (z.1 + 2, z.2 + 7 + 7), xv (va_up (va_up V z.1 (fun _ => 0)) (z.1 + 1) (fun _ => 0)), (va_up (va_up J z.1 (fun _ => 0)) (z.1 + 1) (fun _ => 0)), (xup2 (va_up (xup2 (va_up R z.1 (fun _ => none)) a0 0 (some z.1)) (z.1 + 1) (fun _ => none)) a0 1 (some (z.1 + 1))))) :=
  (st_aload_n f_40_0 rfl).trans ((st_objinit f_40_1 r_40_3 t_40_3 ⟨g1, Nat.le_of_ble_eq_true rfl⟩).trans ((st_aload_n f_40_4 rfl).trans ((sw_bipush f_40_5 c8_7).trans ((sw_newI 7 f_40_7 ⟨rfl, by decide⟩).trans ((st_putR f_40_9 e_40_9 rfl (Or.inr n_40) g2).trans ((st_aload_n f_40_12 rfl).trans ((sw_bipush f_40_13 c8_7).trans ((sw_newI 7 f_40_15 ⟨rfl, by decide⟩).trans ((st_putR f_40_17 e_40_15 rfl (Or.inr n_40) g3).trans (st_return f_40_20 mr_40))))))))))
theorem eX5_measure {a0 a1 a2 : Nat} : X sc (d + 1) 41 [.ref a0, .ref a1, .ref a2] (T, z, xv V, J, R) = XR sc d 41 0 [some (.ref a0), some (.ref a1), some (.ref a2), none] [] (T, z, xv V, J, R) :=
  (X_eq ⟨jl_41, by rw [mn_41]; rfl, rfl, by rw [lm_41]; exact Nat.le_of_ble_eq_true rfl⟩).trans (by unfold xent; rw [lm_41]; rfl)
theorem bX5_measure_0 {o0 o1 o2 o3 : Option Value} : XR sc d 41 0 [o0, o1, o2, o3] [] (T, z, xv V, J, R) = XR sc d 41 2 [o0, o1, o2, some (xw 0)] [] (T, z, xv V, J, R) :=
  (sw_iconst f_41_0).trans (sw_istore_n (L' := [o0, o1, o2, some (xw 0)]) f_41_1 (Nat.le_of_ble_eq_true rfl) rfl)
theorem bX5_measure_2 {o0 o1 o2 : Option Value} {x3 : Int} (g1 : -2147483648 ≤ x3 ∧ x3 ≤ 2147483647) : XR sc d 41 2 [o0, o1, o2, some (xw x3)] [] (T, z, xv V, J, R) = if 7 ≤ x3 then XR sc d 41 40 [o0, o1, o2, some (xw x3)] [] (T, z, xv V, J, R) else XR sc d 41 8 [o0, o1, o2, some (xw x3)] [] (T, z, xv V, J, R) :=
  (sw_iload_n f_41_2 rfl).trans ((sw_bipush f_41_3 c8_7).trans (sw_icmp_ge (t := 40) f_41_5 ⟨by decide, rfl⟩ g1 ⟨by decide, by decide⟩))
theorem bX5_measure_8 {x3 : Int} {a0 a2 a1 : Nat} (g1 : T a0 = (6, 0)) (g2 : R a0 0 = some ((R a0 0).getD 0)) (g3 : T a2 = (4, 0)) (g4 : R a2 0 = some ((R a2 0).getD 0)) (g5 : T ((R a2 0).getD 0) = (32, (T ((R a2 0).getD 0)).2)) (g6 : (0 : Int) ≤ x3 ∧ x3 < ((T ((R a2 0).getD 0)).2 : Int) ∧ (T ((R a2 0).getD 0)).2 ≤ 3584) (g7 : R a2 1 = some ((R a2 1).getD 0)) (g8 : T ((R a2 1).getD 0) = (32, (T ((R a2 1).getD 0)).2)) (g9 : (0 : Int) ≤ x3 ∧ x3 < ((T ((R a2 1).getD 0)).2 : Int) ∧ (T ((R a2 1).getD 0)).2 ≤ 3584) (g10 : T a1 = (3, 0)) (g11 : R a1 0 = some ((R a1 0).getD 0)) (g12 : T ((R a1 0).getD 0) = (32, (T ((R a1 0).getD 0)).2)) (g13 : (0 : Int) ≤ x3 ∧ x3 < ((T ((R a1 0).getD 0)).2 : Int) ∧ (T ((R a1 0).getD 0)).2 ≤ 3584) (g14 : T ((R a0 0).getD 0) = (32, (T ((R a0 0).getD 0)).2)) (g15 : (0 : Int) ≤ x3 ∧ x3 < ((T ((R a0 0).getD 0)).2 : Int) ∧ (T ((R a0 0).getD 0)).2 ≤ 3584) : XR sc d 41 8 [some (.ref a0), some (.ref a1), some (.ref a2), some (xw x3)] [] (T, z, xv V, J, R) = XR sc d 41 2 [some (.ref a0), some (.ref a1), some (.ref a2), some (xw (x3 + 1))] [] (T, z, xv (xup2 V ((R a0 0).getD 0) x3.toNat (((V ((R a2 0).getD 0) x3.toNat) - (V ((R a2 1).getD 0) x3.toNat)) - (V ((R a1 0).getD 0) x3.toNat))), J, R) :=
  (st_aload_n f_41_8 rfl).trans ((st_getR f_41_9 e_41_9 (by decide) g1 g2).trans ((sw_iload_n f_41_12 rfl).trans ((st_aload_n f_41_13 rfl).trans ((st_getR f_41_14 e_41_18 (by decide) g3 g4).trans ((sw_iload_n f_41_17 rfl).trans ((sw_iaload f_41_18 g5 g6).trans ((st_aload_n f_41_19 rfl).trans ((st_getR f_41_20 e_41_23 (by decide) g3 g7).trans ((sw_iload_n f_41_23 rfl).trans ((sw_iaload f_41_24 g8 g9).trans ((sw_isub f_41_25).trans ((st_aload_n f_41_26 rfl).trans ((st_getR f_41_27 e_41_26 (by decide) g10 g11).trans ((sw_iload_n f_41_30 rfl).trans ((sw_iaload f_41_31 g12 g13).trans ((sw_isub f_41_32).trans ((sw_iastore f_41_33 g14 g15).trans ((sw_iinc (L' := [some (.ref a0), some (.ref a1), some (.ref a2), some (xw (x3 + 1))]) f_41_34 rfl (Nat.le_of_ble_eq_true rfl) rfl).trans (st_goto (t := 2) f_41_37 ⟨by decide, rfl⟩)))))))))))))))))))
theorem bX5_measure_40 {o0 o1 o2 o3 : Option Value} : XR sc d 41 40 [o0, o1, o2, o3] [] (T, z, xv V, J, R) = some (.inl none, (T, z, xv V, J, R)) :=
  st_return f_41_40 mr_41
theorem eX5_pressureAt {x1 x2 : Int} {a0 : Nat} : X sc (d + 1) 42 [.ref a0, xw x1, xw x2] (T, z, xv V, J, R) = XR sc d 42 0 [some (.ref a0), some (xw x1), some (xw x2)] [] (T, z, xv V, J, R) :=
  (X_eq ⟨jl_42, by rw [mn_42]; rfl, rfl, by rw [lm_42]; exact Nat.le_of_ble_eq_true rfl⟩).trans (by unfold xent; rw [lm_42]; rfl)
theorem bX5_pressureAt_0 {x2 x1 : Int} {a0 : Nat} (g1 : T a0 = (6, 0)) (g2 : R a0 0 = some ((R a0 0).getD 0)) (g3 : T ((R a0 0).getD 0) = (32, (T ((R a0 0).getD 0)).2)) (g4 : (0 : Int) ≤ x1 ∧ x1 < ((T ((R a0 0).getD 0)).2 : Int) ∧ (T ((R a0 0).getD 0)).2 ≤ 3584) : XR sc d 42 0 [some (.ref a0), some (xw x1), some (xw x2)] [] (T, z, xv V, J, R) = xret 42 (XR sc d 42) 10 13 [some (.ref a0), some (xw x1), some (xw x2)] [xw 4] (X sc d 158 [xw 0, xw (x2 - (V ((R a0 0).getD 0) x1.toNat))] (T, z, xv V, J, R)) :=
  (sw_iconst f_42_0).trans ((sw_iconst f_42_1).trans ((sw_iload_n f_42_2 rfl).trans ((st_aload_n f_42_3 rfl).trans ((st_getR f_42_4 e_42_9 (by decide) g1 g2).trans ((sw_iload_n f_42_7 rfl).trans ((sw_iaload f_42_8 g3 g4).trans ((sw_isub f_42_9).trans (st_callS' f_42_10 h_42_29 mn_158 rfl rfl rfl rfl))))))))
theorem bX5_pressureAt_13 {o0 o1 o2 : Option Value} {y0 y1 : Int} : XR sc d 42 13 [o0, o1, o2] [xw y0, xw y1] (T, z, xv V, J, R) = some (.inl (some (xw (y1 * y0))), (T, z, xv V, J, R)) :=
  (sw_imul f_42_13).trans (sw_ireturn f_42_14 mr_42)
theorem eX5_depthBySearch {x1 : Int} {a0 : Nat} : X sc (d + 1) 43 [.ref a0, xw x1] (T, z, xv V, J, R) = XR sc d 43 0 [some (.ref a0), some (xw x1), none, none, none, none, none] [] (T, z, xv V, J, R) :=
  (X_eq ⟨jl_43, by rw [mn_43]; rfl, rfl, by rw [lm_43]; exact Nat.le_of_ble_eq_true rfl⟩).trans (by unfold xent; rw [lm_43]; rfl)
theorem bX5_depthBySearch_0 {o1 o2 o3 o4 o5 o6 : Option Value} {a0 : Nat} (g1 : T a0 = (6, 0)) (g2 : R a0 0 = some ((R a0 0).getD 0)) (g3 : T ((R a0 0).getD 0) = (32, (T ((R a0 0).getD 0)).2)) (g4 : (0 : Int) ≤ 0 ∧ 0 < ((T ((R a0 0).getD 0)).2 : Int) ∧ (T ((R a0 0).getD 0)).2 ≤ 3584) (g5 : T ((R a0 0).getD 0) = ((T ((R a0 0).getD 0)).1, (T ((R a0 0).getD 0)).2)) (g6 : (32 ≤ (T ((R a0 0).getD 0)).1 ∧ (T ((R a0 0).getD 0)).1 < 35) ∨ (40 ≤ (T ((R a0 0).getD 0)).1 ∧ (T ((R a0 0).getD 0)).1 < 44)) : XR sc d 43 0 [some (.ref a0), o1, o2, o3, o4, o5, o6] [] (T, z, xv V, J, R) = XR sc d 43 19 [some (.ref a0), o1, some (xw (V ((R a0 0).getD 0) 0)), some (.ref ((R a0 0).getD 0)), some (xw ((T ((R a0 0).getD 0)).2 : Int)), some (xw 0), o6] [] (T, z, xv V, J, R) :=
  (st_aload_n f_43_0 rfl).trans ((st_getR f_43_1 e_43_9 (by decide) g1 g2).trans ((sw_iconst f_43_4).trans ((sw_iaload f_43_5 g3 g4).trans ((sw_istore_n (L' := [some (.ref a0), o1, some (xw (V ((R a0 0).getD 0) 0)), o3, o4, o5, o6]) f_43_6 (Nat.le_of_ble_eq_true rfl) rfl).trans ((st_aload_n f_43_7 rfl).trans ((st_getR f_43_8 e_43_9 (by decide) g1 g2).trans ((st_astore_n (L' := [some (.ref a0), o1, some (xw (V ((R a0 0).getD 0) 0)), some (.ref ((R a0 0).getD 0)), o4, o5, o6]) f_43_11 (Nat.le_of_ble_eq_true rfl) rfl).trans ((st_aload_n f_43_12 rfl).trans ((sw_alenI f_43_13 g5 g6).trans ((sw_istore (L' := [some (.ref a0), o1, some (xw (V ((R a0 0).getD 0) 0)), some (.ref ((R a0 0).getD 0)), some (xw ((T ((R a0 0).getD 0)).2 : Int)), o5, o6]) f_43_14 (Nat.le_of_ble_eq_true rfl) rfl).trans ((sw_iconst f_43_16).trans (sw_istore (L' := [some (.ref a0), o1, some (xw (V ((R a0 0).getD 0) 0)), some (.ref ((R a0 0).getD 0)), some (xw ((T ((R a0 0).getD 0)).2 : Int)), some (xw 0), o6]) f_43_17 (Nat.le_of_ble_eq_true rfl) rfl))))))))))))
theorem bX5_depthBySearch_19 {o0 o1 o2 o3 o6 : Option Value} {x5 x4 : Int} (g1 : -2147483648 ≤ x5 ∧ x5 ≤ 2147483647) (g2 : -2147483648 ≤ x4 ∧ x4 ≤ 2147483647) : XR sc d 43 19 [o0, o1, o2, o3, some (xw x4), some (xw x5), o6] [] (T, z, xv V, J, R) = if x4 ≤ x5 then XR sc d 43 45 [o0, o1, o2, o3, some (xw x4), some (xw x5), o6] [] (T, z, xv V, J, R) else XR sc d 43 26 [o0, o1, o2, o3, some (xw x4), some (xw x5), o6] [] (T, z, xv V, J, R) :=
  (sw_iload f_43_19 rfl).trans ((sw_iload f_43_21 rfl).trans (sw_icmp_ge (t := 45) f_43_23 ⟨by decide, rfl⟩ g1 g2))
theorem bX5_depthBySearch_26 {o0 o1 o4 o6 : Option Value} {x5 x2 : Int} {a3 : Nat} (g1 : T a3 = (32, (T a3).2)) (g2 : (0 : Int) ≤ x5 ∧ x5 < ((T a3).2 : Int) ∧ (T a3).2 ≤ 3584) : XR sc d 43 26 [o0, o1, some (xw x2), some (.ref a3), o4, some (xw x5), o6] [] (T, z, xv V, J, R) = xret 43 (XR sc d 43) 35 38 [o0, o1, some (xw x2), some (.ref a3), o4, some (xw x5), some (xw (V a3 x5.toNat))] [] (X sc d 159 [xw x2, xw (V a3 x5.toNat)] (T, z, xv V, J, R)) :=
  (st_aload_n f_43_26 rfl).trans ((sw_iload f_43_27 rfl).trans ((sw_iaload f_43_29 g1 g2).trans ((sw_istore (L' := [o0, o1, some (xw x2), some (.ref a3), o4, some (xw x5), some (xw (V a3 x5.toNat))]) f_43_30 (Nat.le_of_ble_eq_true rfl) rfl).trans ((sw_iload_n f_43_32 rfl).trans ((sw_iload f_43_33 rfl).trans (st_callS' f_43_35 h_43_35 mn_159 rfl rfl rfl rfl))))))
theorem bX5_depthBySearch_38 {o0 o1 o2 o3 o4 o6 : Option Value} {y0 x5 : Int} : XR sc d 43 38 [o0, o1, o2, o3, o4, some (xw x5), o6] [xw y0] (T, z, xv V, J, R) = XR sc d 43 19 [o0, o1, some (xw y0), o3, o4, some (xw (x5 + 1)), o6] [] (T, z, xv V, J, R) :=
  (sw_istore_n (L' := [o0, o1, some (xw y0), o3, o4, some (xw x5), o6]) f_43_38 (Nat.le_of_ble_eq_true rfl) rfl).trans ((sw_iinc (L' := [o0, o1, some (xw y0), o3, o4, some (xw (x5 + 1)), o6]) f_43_39 rfl (Nat.le_of_ble_eq_true rfl) rfl).trans (st_goto (t := 19) f_43_42 ⟨by decide, rfl⟩))
theorem bX5_depthBySearch_45 {o0 o3 o4 o5 o6 : Option Value} {x2 x1 : Int} (g1 : 0 ≤ ((x1 + 4) - 1) ∧ ((x1 + 4) - 1) ≤ 2147483647) : XR sc d 43 45 [o0, some (xw x1), some (xw x2), o3, o4, o5, o6] [] (T, z, xv V, J, R) = XR sc d 43 61 [o0, some (xw x1), some (xw x2), some (xw x2), some (xw (x2 + (((x1 + 4) - 1) / 4))), some (xw 0), o6] [] (T, z, xv V, J, R) :=
  (sw_iload_n f_43_45 rfl).trans ((sw_istore_n (L' := [o0, some (xw x1), some (xw x2), some (xw x2), o4, o5, o6]) f_43_46 (Nat.le_of_ble_eq_true rfl) rfl).trans ((sw_iload_n f_43_47 rfl).trans ((sw_iload_n f_43_48 rfl).trans ((sw_iconst f_43_49).trans ((sw_iadd f_43_50).trans ((sw_iconst f_43_51).trans ((sw_isub f_43_52).trans ((sw_iconst f_43_53).trans ((sw_idiv f_43_54 ⟨by decide, by decide, g1⟩).trans ((sw_iadd f_43_55).trans ((sw_istore (L' := [o0, some (xw x1), some (xw x2), some (xw x2), some (xw (x2 + (((x1 + 4) - 1) / 4))), o5, o6]) f_43_56 (Nat.le_of_ble_eq_true rfl) rfl).trans ((sw_iconst f_43_58).trans (sw_istore (L' := [o0, some (xw x1), some (xw x2), some (xw x2), some (xw (x2 + (((x1 + 4) - 1) / 4))), some (xw 0), o6]) f_43_59 (Nat.le_of_ble_eq_true rfl) rfl)))))))))))))
theorem bX5_depthBySearch_61 {o0 o1 o2 o3 o4 o6 : Option Value} {x5 : Int} (g1 : -2147483648 ≤ x5 ∧ x5 ≤ 2147483647) : XR sc d 43 61 [o0, o1, o2, o3, o4, some (xw x5), o6] [] (T, z, xv V, J, R) = if 40 ≤ x5 then XR sc d 43 112 [o0, o1, o2, o3, o4, some (xw x5), o6] [] (T, z, xv V, J, R) else XR sc d 43 68 [o0, o1, o2, o3, o4, some (xw x5), o6] [] (T, z, xv V, J, R) :=
  (sw_iload f_43_61 rfl).trans ((sw_bipush f_43_63 c8_40).trans (sw_icmp_ge (t := 112) f_43_65 ⟨by decide, rfl⟩ g1 ⟨by decide, by decide⟩))
theorem bX5_depthBySearch_68 {o0 o1 o2 o5 o6 : Option Value} {x4 x3 : Int} (g1 : -2147483648 ≤ (x4 - x3) ∧ (x4 - x3) ≤ 2147483647) : XR sc d 43 68 [o0, o1, o2, some (xw x3), some (xw x4), o5, o6] [] (T, z, xv V, J, R) = if (x4 - x3) ≤ 1 then XR sc d 43 112 [o0, o1, o2, some (xw x3), some (xw x4), o5, o6] [] (T, z, xv V, J, R) else XR sc d 43 76 [o0, o1, o2, some (xw x3), some (xw x4), o5, o6] [] (T, z, xv V, J, R) :=
  (sw_iload f_43_68 rfl).trans ((sw_iload_n f_43_70 rfl).trans ((sw_isub f_43_71).trans ((sw_iconst f_43_72).trans (sw_icmp_le (t := 112) f_43_73 ⟨by decide, rfl⟩ g1 ⟨by decide, by decide⟩))))
theorem bX5_depthBySearch_76 {o1 o2 o5 o6 : Option Value} {x3 x4 : Int} {a0 : Nat} (g1 : 0 ≤ (x4 - x3) ∧ (x4 - x3) ≤ 2147483647) (g2 : T a0 = (6, 0)) : XR sc d 43 76 [some (.ref a0), o1, o2, some (xw x3), some (xw x4), o5, o6] [] (T, z, xv V, J, R) = xret 43 (XR sc d 43) 89 92 [some (.ref a0), o1, o2, some (xw x3), some (xw x4), o5, some (xw (x3 + ((x4 - x3) / 2)))] [] (X sc d 47 [.ref a0, xw (x3 + ((x4 - x3) / 2))] (T, z, xv V, J, R)) :=
  (sw_iload_n f_43_76 rfl).trans ((sw_iload f_43_77 rfl).trans ((sw_iload_n f_43_79 rfl).trans ((sw_isub f_43_80).trans ((sw_iconst f_43_81).trans ((sw_idiv f_43_82 ⟨by decide, by decide, g1⟩).trans ((sw_iadd f_43_83).trans ((sw_istore (L' := [some (.ref a0), o1, o2, some (xw x3), some (xw x4), o5, some (xw (x3 + ((x4 - x3) / 2)))]) f_43_84 (Nat.le_of_ble_eq_true rfl) rfl).trans ((st_aload_n f_43_86 rfl).trans ((sw_iload f_43_87 rfl).trans (st_callV' f_43_89 h_43_38 mn_47 rfl rfl rfl rfl mo_47 g2 rfl))))))))))
theorem bX5_depthBySearch_92 {o0 o2 o3 o4 o5 o6 : Option Value} {x1 y0 : Int} (g1 : -2147483648 ≤ y0 ∧ y0 ≤ 2147483647) (g2 : -2147483648 ≤ x1 ∧ x1 ≤ 2147483647) : XR sc d 43 92 [o0, some (xw x1), o2, o3, o4, o5, o6] [xw y0] (T, z, xv V, J, R) = if y0 < x1 then XR sc d 43 103 [o0, some (xw x1), o2, o3, o4, o5, o6] [] (T, z, xv V, J, R) else XR sc d 43 96 [o0, some (xw x1), o2, o3, o4, o5, o6] [] (T, z, xv V, J, R) :=
  (sw_iload_n f_43_92 rfl).trans (sw_icmp_lt (t := 103) f_43_93 ⟨by decide, rfl⟩ g1 g2)
theorem bX5_depthBySearch_96 {o0 o1 o2 o3 o4 o5 : Option Value} {x6 : Int} : XR sc d 43 96 [o0, o1, o2, o3, o4, o5, some (xw x6)] [] (T, z, xv V, J, R) = XR sc d 43 106 [o0, o1, o2, o3, some (xw x6), o5, some (xw x6)] [] (T, z, xv V, J, R) :=
  (sw_iload f_43_96 rfl).trans ((sw_istore (L' := [o0, o1, o2, o3, some (xw x6), o5, some (xw x6)]) f_43_98 (Nat.le_of_ble_eq_true rfl) rfl).trans (st_goto (t := 106) f_43_100 ⟨by decide, rfl⟩))
theorem bX5_depthBySearch_103 {o0 o1 o2 o3 o4 o5 : Option Value} {x6 : Int} : XR sc d 43 103 [o0, o1, o2, o3, o4, o5, some (xw x6)] [] (T, z, xv V, J, R) = XR sc d 43 106 [o0, o1, o2, some (xw x6), o4, o5, some (xw x6)] [] (T, z, xv V, J, R) :=
  (sw_iload f_43_103 rfl).trans (sw_istore_n (L' := [o0, o1, o2, some (xw x6), o4, o5, some (xw x6)]) f_43_105 (Nat.le_of_ble_eq_true rfl) rfl)
theorem bX5_depthBySearch_106 {o0 o1 o2 o3 o4 o6 : Option Value} {x5 : Int} : XR sc d 43 106 [o0, o1, o2, o3, o4, some (xw x5), o6] [] (T, z, xv V, J, R) = XR sc d 43 61 [o0, o1, o2, o3, o4, some (xw (x5 + 1)), o6] [] (T, z, xv V, J, R) :=
  (sw_iinc (L' := [o0, o1, o2, o3, o4, some (xw (x5 + 1)), o6]) f_43_106 rfl (Nat.le_of_ble_eq_true rfl) rfl).trans (st_goto (t := 61) f_43_109 ⟨by decide, rfl⟩)
theorem bX5_depthBySearch_112 {o0 o1 o2 o3 o5 o6 : Option Value} {x4 : Int} : XR sc d 43 112 [o0, o1, o2, o3, some (xw x4), o5, o6] [] (T, z, xv V, J, R) = some (.inl (some (xw x4)), (T, z, xv V, J, R)) :=
  (sw_iload f_43_112 rfl).trans (sw_ireturn f_43_114 mr_43)
theorem eX5_depthByGaps {x1 : Int} {a0 : Nat} : X sc (d + 1) 44 [.ref a0, xw x1] (T, z, xv V, J, R) = XR sc d 44 0 [some (.ref a0), some (xw x1), none, none, none, none] [] (T, z, xv V, J, R) :=
  (X_eq ⟨jl_44, by rw [mn_44]; rfl, rfl, by rw [lm_44]; exact Nat.le_of_ble_eq_true rfl⟩).trans (by unfold xent; rw [lm_44]; rfl)
theorem bX5_depthByGaps_0 {o1 o2 o3 o4 o5 : Option Value} {a0 : Nat} (g1 : T a0 = (6, 0)) : XR sc d 44 0 [some (.ref a0), o1, o2, o3, o4, o5] [] (T, z, xv V, J, R) = xret 44 (XR sc d 44) 1 4 [some (.ref a0), o1, o2, o3, o4, o5] [] (X sc d 48 [.ref a0] (T, z, xv V, J, R)) :=
  (st_aload_n f_44_0 rfl).trans (st_callV' f_44_1 h_44_42 mn_48 rfl rfl rfl rfl mo_48 g1 rfl)
theorem bX5_depthByGaps_4 {o0 o1 o2 o3 o4 o5 : Option Value} : XR sc d 44 4 [o0, o1, o2, o3, o4, o5] [] (T, z, xv V, J, R) = XR sc d 44 11 [o0, o1, some (xw 0), some (xw 0), some (xw 1), o5] [] (T, z, xv V, J, R) :=
  (sw_iconst f_44_4).trans ((sw_istore_n (L' := [o0, o1, some (xw 0), o3, o4, o5]) f_44_5 (Nat.le_of_ble_eq_true rfl) rfl).trans ((sw_iconst f_44_6).trans ((sw_istore_n (L' := [o0, o1, some (xw 0), some (xw 0), o4, o5]) f_44_7 (Nat.le_of_ble_eq_true rfl) rfl).trans ((sw_iconst f_44_8).trans (sw_istore (L' := [o0, o1, some (xw 0), some (xw 0), some (xw 1), o5]) f_44_9 (Nat.le_of_ble_eq_true rfl) rfl)))))
theorem bX5_depthByGaps_11 {o0 o1 o2 o3 o5 : Option Value} {x4 : Int} (g1 : -2147483648 ≤ x4 ∧ x4 ≤ 2147483647) : XR sc d 44 11 [o0, o1, o2, o3, some (xw x4), o5] [] (T, z, xv V, J, R) = if 7 < x4 then XR sc d 44 78 [o0, o1, o2, o3, some (xw x4), o5] [] (T, z, xv V, J, R) else XR sc d 44 18 [o0, o1, o2, o3, some (xw x4), o5] [] (T, z, xv V, J, R) :=
  (sw_iload f_44_11 rfl).trans ((sw_bipush f_44_13 c8_7).trans (sw_icmp_gt (t := 78) f_44_15 ⟨by decide, rfl⟩ g1 ⟨by decide, by decide⟩))
theorem bX5_depthByGaps_18 {o3 o5 : Option Value} {x2 x4 x1 : Int} {a0 : Nat} (g1 : T a0 = (6, 0)) (g2 : R a0 1 = some ((R a0 1).getD 0)) (g3 : T ((R a0 1).getD 0) = (32, (T ((R a0 1).getD 0)).2)) (g4 : (0 : Int) ≤ (x4 - 1) ∧ (x4 - 1) < ((T ((R a0 1).getD 0)).2 : Int) ∧ (T ((R a0 1).getD 0)).2 ≤ 3584) : XR sc d 44 18 [some (.ref a0), some (xw x1), some (xw x2), o3, some (xw x4), o5] [] (T, z, xv V, J, R) = xret 44 (XR sc d 44) 48 51 [some (.ref a0), some (xw x1), some (xw (x2 + (V ((R a0 1).getD 0) (x4 - 1).toNat))), o3, some (xw x4), some (xw (4 * x4))] [] (X sc d 157 [xw (((x1 + (4 * (x2 + (V ((R a0 1).getD 0) (x4 - 1).toNat)))) + (4 * x4)) - 1), xw (4 * x4)] (T, z, xv V, J, R)) :=
  (sw_iload_n f_44_18 rfl).trans ((st_aload_n f_44_19 rfl).trans ((st_getR f_44_20 e_44_15 (by decide) g1 g2).trans ((sw_iload f_44_23 rfl).trans ((sw_iconst f_44_25).trans ((sw_isub f_44_26).trans ((sw_iaload f_44_27 g3 g4).trans ((sw_iadd f_44_28).trans ((sw_istore_n (L' := [some (.ref a0), some (xw x1), some (xw (x2 + (V ((R a0 1).getD 0) (x4 - 1).toNat))), o3, some (xw x4), o5]) f_44_29 (Nat.le_of_ble_eq_true rfl) rfl).trans ((sw_iconst f_44_30).trans ((sw_iload f_44_31 rfl).trans ((sw_imul f_44_33).trans ((sw_istore (L' := [some (.ref a0), some (xw x1), some (xw (x2 + (V ((R a0 1).getD 0) (x4 - 1).toNat))), o3, some (xw x4), some (xw (4 * x4))]) f_44_34 (Nat.le_of_ble_eq_true rfl) rfl).trans ((sw_iload_n f_44_36 rfl).trans ((sw_iconst f_44_37).trans ((sw_iload_n f_44_38 rfl).trans ((sw_imul f_44_39).trans ((sw_iadd f_44_40).trans ((sw_iload f_44_41 rfl).trans ((sw_iadd f_44_43).trans ((sw_iconst f_44_44).trans ((sw_isub f_44_45).trans ((sw_iload f_44_46 rfl).trans (st_callS' f_44_48 h_44_45 mn_157 rfl rfl rfl rfl)))))))))))))))))))))))
theorem bX5_depthByGaps_51 {o0 o1 o2 o3 o5 : Option Value} {y0 x4 : Int} (g1 : -2147483648 ≤ x4 ∧ x4 ≤ 2147483647) : XR sc d 44 51 [o0, o1, o2, o3, some (xw x4), o5] [xw y0] (T, z, xv V, J, R) = if 7 ≤ x4 then XR sc d 44 72 [o0, o1, o2, some (xw y0), some (xw x4), o5] [] (T, z, xv V, J, R) else XR sc d 44 59 [o0, o1, o2, some (xw y0), some (xw x4), o5] [] (T, z, xv V, J, R) :=
  (sw_istore_n (L' := [o0, o1, o2, some (xw y0), some (xw x4), o5]) f_44_51 (Nat.le_of_ble_eq_true rfl) rfl).trans ((sw_iload f_44_52 rfl).trans ((sw_bipush f_44_54 c8_7).trans (sw_icmp_ge (t := 72) f_44_56 ⟨by decide, rfl⟩ g1 ⟨by decide, by decide⟩)))
theorem bX5_depthByGaps_59 {o1 o2 o5 : Option Value} {x3 x4 : Int} {a0 : Nat} (g1 : T a0 = (6, 0)) (g2 : R a0 1 = some ((R a0 1).getD 0)) (g3 : T ((R a0 1).getD 0) = (32, (T ((R a0 1).getD 0)).2)) (g4 : (0 : Int) ≤ x4 ∧ x4 < ((T ((R a0 1).getD 0)).2 : Int) ∧ (T ((R a0 1).getD 0)).2 ≤ 3584) (g5 : -2147483648 ≤ x3 ∧ x3 ≤ 2147483647) (g6 : -2147483648 ≤ (V ((R a0 1).getD 0) x4.toNat) ∧ (V ((R a0 1).getD 0) x4.toNat) ≤ 2147483647) : XR sc d 44 59 [some (.ref a0), o1, o2, some (xw x3), some (xw x4), o5] [] (T, z, xv V, J, R) = if (V ((R a0 1).getD 0) x4.toNat) < x3 then XR sc d 44 72 [some (.ref a0), o1, o2, some (xw x3), some (xw x4), o5] [] (T, z, xv V, J, R) else XR sc d 44 70 [some (.ref a0), o1, o2, some (xw x3), some (xw x4), o5] [] (T, z, xv V, J, R) :=
  (sw_iload_n f_44_59 rfl).trans ((st_aload_n f_44_60 rfl).trans ((st_getR f_44_61 e_44_15 (by decide) g1 g2).trans ((sw_iload f_44_64 rfl).trans ((sw_iaload f_44_66 g3 g4).trans (sw_icmp_gt (t := 72) f_44_67 ⟨by decide, rfl⟩ g5 g6)))))
theorem bX5_depthByGaps_70 {o0 o1 o2 o4 o5 : Option Value} {x3 : Int} : XR sc d 44 70 [o0, o1, o2, some (xw x3), o4, o5] [] (T, z, xv V, J, R) = some (.inl (some (xw x3)), (T, z, xv V, J, R)) :=
  (sw_iload_n f_44_70 rfl).trans (sw_ireturn f_44_71 mr_44)
theorem bX5_depthByGaps_72 {o0 o1 o2 o3 o5 : Option Value} {x4 : Int} : XR sc d 44 72 [o0, o1, o2, o3, some (xw x4), o5] [] (T, z, xv V, J, R) = XR sc d 44 11 [o0, o1, o2, o3, some (xw (x4 + 1)), o5] [] (T, z, xv V, J, R) :=
  (sw_iinc (L' := [o0, o1, o2, o3, some (xw (x4 + 1)), o5]) f_44_72 rfl (Nat.le_of_ble_eq_true rfl) rfl).trans (st_goto (t := 11) f_44_75 ⟨by decide, rfl⟩)
theorem bX5_depthByGaps_78 {o0 o1 o2 o4 o5 : Option Value} {x3 : Int} : XR sc d 44 78 [o0, o1, o2, some (xw x3), o4, o5] [] (T, z, xv V, J, R) = some (.inl (some (xw x3)), (T, z, xv V, J, R)) :=
  (sw_iload_n f_44_78 rfl).trans (sw_ireturn f_44_79 mr_44)
theorem eX5_bridgeBits {x1 : Int} {a0 : Nat} : X sc (d + 1) 45 [.ref a0, xw x1] (T, z, xv V, J, R) = XR sc d 45 0 [some (.ref a0), some (xw x1), none, none] [] (T, z, xv V, J, R) :=
  (X_eq ⟨jl_45, by rw [mn_45]; rfl, rfl, by rw [lm_45]; exact Nat.le_of_ble_eq_true rfl⟩).trans (by unfold xent; rw [lm_45]; rfl)
theorem bX5_bridgeBits_0 {o0 o1 o2 o3 : Option Value} : XR sc d 45 0 [o0, o1, o2, o3] [] (T, z, xv V, J, R) = XR sc d 45 4 [o0, o1, some (xw 0), some (xw 1)] [] (T, z, xv V, J, R) :=
  (sw_iconst f_45_0).trans ((sw_istore_n (L' := [o0, o1, some (xw 0), o3]) f_45_1 (Nat.le_of_ble_eq_true rfl) rfl).trans ((sw_iconst f_45_2).trans (sw_istore_n (L' := [o0, o1, some (xw 0), some (xw 1)]) f_45_3 (Nat.le_of_ble_eq_true rfl) rfl)))
theorem bX5_bridgeBits_4 {o0 o1 o2 : Option Value} {x3 : Int} (g1 : -2147483648 ≤ x3 ∧ x3 ≤ 2147483647) : XR sc d 45 4 [o0, o1, o2, some (xw x3)] [] (T, z, xv V, J, R) = if 6 ≤ x3 then XR sc d 45 54 [o0, o1, o2, some (xw x3)] [] (T, z, xv V, J, R) else XR sc d 45 10 [o0, o1, o2, some (xw x3)] [] (T, z, xv V, J, R) :=
  (sw_iload_n f_45_4 rfl).trans ((sw_bipush f_45_5 c8_6).trans (sw_icmp_ge (t := 54) f_45_7 ⟨by decide, rfl⟩ g1 ⟨by decide, by decide⟩))
theorem bX5_bridgeBits_10 {o2 : Option Value} {x3 x1 : Int} {a0 : Nat} (g1 : T a0 = (6, 0)) : XR sc d 45 10 [some (.ref a0), some (xw x1), o2, some (xw x3)] [] (T, z, xv V, J, R) = xret 45 (XR sc d 45) 13 16 [some (.ref a0), some (xw x1), o2, some (xw x3)] [] (X sc d 42 [.ref a0, xw x3, xw x1] (T, z, xv V, J, R)) :=
  (st_aload_n f_45_10 rfl).trans ((sw_iload_n f_45_11 rfl).trans ((sw_iload_n f_45_12 rfl).trans (st_callV' f_45_13 h_45_48 mn_42 rfl rfl rfl rfl mo_42 g1 rfl)))
theorem bX5_bridgeBits_16 {o0 o1 o2 o3 : Option Value} {y0 : Int} (g1 : -2147483648 ≤ y0 ∧ y0 ≤ 2147483647) : XR sc d 45 16 [o0, o1, o2, o3] [xw y0] (T, z, xv V, J, R) = if y0 = 0 then XR sc d 45 19 [o0, o1, o2, o3] [] (T, z, xv V, J, R) else XR sc d 45 48 [o0, o1, o2, o3] [] (T, z, xv V, J, R) :=
  sw_if_ne (t := 48) f_45_16 ⟨by decide, rfl⟩ g1
theorem bX5_bridgeBits_19 {o2 : Option Value} {x3 x1 : Int} {a0 : Nat} (g1 : T a0 = (6, 0)) : XR sc d 45 19 [some (.ref a0), some (xw x1), o2, some (xw x3)] [] (T, z, xv V, J, R) = xret 45 (XR sc d 45) 23 26 [some (.ref a0), some (xw x1), o2, some (xw x3)] [] (X sc d 46 [.ref a0, xw 0, xw x3, xw x1] (T, z, xv V, J, R)) :=
  (st_aload_n f_45_19 rfl).trans ((sw_iconst f_45_20).trans ((sw_iload_n f_45_21 rfl).trans ((sw_iload_n f_45_22 rfl).trans (st_callV' f_45_23 h_45_51 mn_46 rfl rfl rfl rfl mo_46 g1 rfl))))
theorem bX5_bridgeBits_26 {o0 o1 o2 o3 : Option Value} {y0 : Int} (g1 : -2147483648 ≤ y0 ∧ y0 ≤ 2147483647) : XR sc d 45 26 [o0, o1, o2, o3] [xw y0] (T, z, xv V, J, R) = if y0 = 0 then XR sc d 45 48 [o0, o1, o2, o3] [] (T, z, xv V, J, R) else XR sc d 45 29 [o0, o1, o2, o3] [] (T, z, xv V, J, R) :=
  sw_if_eq (t := 48) f_45_26 ⟨by decide, rfl⟩ g1
theorem bX5_bridgeBits_29 {o2 : Option Value} {x3 x1 : Int} {a0 : Nat} (g1 : T a0 = (6, 0)) : XR sc d 45 29 [some (.ref a0), some (xw x1), o2, some (xw x3)] [] (T, z, xv V, J, R) = xret 45 (XR sc d 45) 36 39 [some (.ref a0), some (xw x1), o2, some (xw x3)] [] (X sc d 46 [.ref a0, xw (x3 + 1), xw 7, xw x1] (T, z, xv V, J, R)) :=
  (st_aload_n f_45_29 rfl).trans ((sw_iload_n f_45_30 rfl).trans ((sw_iconst f_45_31).trans ((sw_iadd f_45_32).trans ((sw_bipush f_45_33 c8_7).trans ((sw_iload_n f_45_35 rfl).trans (st_callV' f_45_36 h_45_51 mn_46 rfl rfl rfl rfl mo_46 g1 rfl))))))
theorem bX5_bridgeBits_39 {o0 o1 o2 o3 : Option Value} {y0 : Int} (g1 : -2147483648 ≤ y0 ∧ y0 ≤ 2147483647) : XR sc d 45 39 [o0, o1, o2, o3] [xw y0] (T, z, xv V, J, R) = if y0 = 0 then XR sc d 45 48 [o0, o1, o2, o3] [] (T, z, xv V, J, R) else XR sc d 45 42 [o0, o1, o2, o3] [] (T, z, xv V, J, R) :=
  sw_if_eq (t := 48) f_45_39 ⟨by decide, rfl⟩ g1
theorem bX5_bridgeBits_42 {o0 o1 : Option Value} {x2 x3 : Int} : XR sc d 45 42 [o0, o1, some (xw x2), some (xw x3)] [] (T, z, xv V, J, R) = XR sc d 45 48 [o0, o1, some (xw (iOr x2 (iShl 1 x3))), some (xw x3)] [] (T, z, xv V, J, R) :=
  (sw_iload_n f_45_42 rfl).trans ((sw_iconst f_45_43).trans ((sw_iload_n f_45_44 rfl).trans ((sw_ishl f_45_45).trans ((sw_ior f_45_46).trans (sw_istore_n (L' := [o0, o1, some (xw (iOr x2 (iShl 1 x3))), some (xw x3)]) f_45_47 (Nat.le_of_ble_eq_true rfl) rfl)))))
theorem bX5_bridgeBits_48 {o0 o1 o2 : Option Value} {x3 : Int} : XR sc d 45 48 [o0, o1, o2, some (xw x3)] [] (T, z, xv V, J, R) = XR sc d 45 4 [o0, o1, o2, some (xw (x3 + 1))] [] (T, z, xv V, J, R) :=
  (sw_iinc (L' := [o0, o1, o2, some (xw (x3 + 1))]) f_45_48 rfl (Nat.le_of_ble_eq_true rfl) rfl).trans (st_goto (t := 4) f_45_51 ⟨by decide, rfl⟩)
theorem bX5_bridgeBits_54 {o0 o1 o3 : Option Value} {x2 : Int} : XR sc d 45 54 [o0, o1, some (xw x2), o3] [] (T, z, xv V, J, R) = some (.inl (some (xw x2)), (T, z, xv V, J, R)) :=
  (sw_iload_n f_45_54 rfl).trans (sw_ireturn f_45_55 mr_45)
theorem eX5_isPressed {x1 x2 x3 : Int} {a0 : Nat} : X sc (d + 1) 46 [.ref a0, xw x1, xw x2, xw x3] (T, z, xv V, J, R) = XR sc d 46 0 [some (.ref a0), some (xw x1), some (xw x2), some (xw x3), none] [] (T, z, xv V, J, R) :=
  (X_eq ⟨jl_46, by rw [mn_46]; rfl, rfl, by rw [lm_46]; exact Nat.le_of_ble_eq_true rfl⟩).trans (by unfold xent; rw [lm_46]; rfl)
theorem bX5_isPressed_0 {o0 o2 o3 o4 : Option Value} {x1 : Int} : XR sc d 46 0 [o0, some (xw x1), o2, o3, o4] [] (T, z, xv V, J, R) = XR sc d 46 3 [o0, some (xw x1), o2, o3, some (xw x1)] [] (T, z, xv V, J, R) :=
  (sw_iload_n f_46_0 rfl).trans (sw_istore (L' := [o0, some (xw x1), o2, o3, some (xw x1)]) f_46_1 (Nat.le_of_ble_eq_true rfl) rfl)
theorem bX5_isPressed_3 {o0 o1 o3 : Option Value} {x4 x2 : Int} (g1 : -2147483648 ≤ x4 ∧ x4 ≤ 2147483647) (g2 : -2147483648 ≤ x2 ∧ x2 ≤ 2147483647) : XR sc d 46 3 [o0, o1, some (xw x2), o3, some (xw x4)] [] (T, z, xv V, J, R) = if x2 ≤ x4 then XR sc d 46 27 [o0, o1, some (xw x2), o3, some (xw x4)] [] (T, z, xv V, J, R) else XR sc d 46 9 [o0, o1, some (xw x2), o3, some (xw x4)] [] (T, z, xv V, J, R) :=
  (sw_iload f_46_3 rfl).trans ((sw_iload_n f_46_5 rfl).trans (sw_icmp_ge (t := 27) f_46_6 ⟨by decide, rfl⟩ g1 g2))
theorem bX5_isPressed_9 {o1 o2 : Option Value} {x4 x3 : Int} {a0 : Nat} (g1 : T a0 = (6, 0)) : XR sc d 46 9 [some (.ref a0), o1, o2, some (xw x3), some (xw x4)] [] (T, z, xv V, J, R) = xret 46 (XR sc d 46) 13 16 [some (.ref a0), o1, o2, some (xw x3), some (xw x4)] [] (X sc d 42 [.ref a0, xw x4, xw x3] (T, z, xv V, J, R)) :=
  (st_aload_n f_46_9 rfl).trans ((sw_iload f_46_10 rfl).trans ((sw_iload_n f_46_12 rfl).trans (st_callV' f_46_13 h_46_48 mn_42 rfl rfl rfl rfl mo_42 g1 rfl)))
theorem bX5_isPressed_16 {o0 o1 o2 o3 o4 : Option Value} {y0 : Int} (g1 : -2147483648 ≤ y0 ∧ y0 ≤ 2147483647) : XR sc d 46 16 [o0, o1, o2, o3, o4] [xw y0] (T, z, xv V, J, R) = if y0 ≤ 0 then XR sc d 46 21 [o0, o1, o2, o3, o4] [] (T, z, xv V, J, R) else XR sc d 46 19 [o0, o1, o2, o3, o4] [] (T, z, xv V, J, R) :=
  sw_if_le (t := 21) f_46_16 ⟨by decide, rfl⟩ g1
theorem bX5_isPressed_19 {o0 o1 o2 o3 o4 : Option Value} : XR sc d 46 19 [o0, o1, o2, o3, o4] [] (T, z, xv V, J, R) = some (.inl (some (xw 1)), (T, z, xv V, J, R)) :=
  (sw_iconst f_46_19).trans (sw_zreturn f_46_20 mr_46 (by decide))
theorem bX5_isPressed_21 {o0 o1 o2 o3 : Option Value} {x4 : Int} : XR sc d 46 21 [o0, o1, o2, o3, some (xw x4)] [] (T, z, xv V, J, R) = XR sc d 46 3 [o0, o1, o2, o3, some (xw (x4 + 1))] [] (T, z, xv V, J, R) :=
  (sw_iinc (L' := [o0, o1, o2, o3, some (xw (x4 + 1))]) f_46_21 rfl (Nat.le_of_ble_eq_true rfl) rfl).trans (st_goto (t := 3) f_46_24 ⟨by decide, rfl⟩)
theorem bX5_isPressed_27 {o0 o1 o2 o3 o4 : Option Value} : XR sc d 46 27 [o0, o1, o2, o3, o4] [] (T, z, xv V, J, R) = some (.inl (some (xw 0)), (T, z, xv V, J, R)) :=
  (sw_iconst f_46_27).trans (sw_zreturn f_46_28 mr_46 (by decide))
theorem eX5_together {x1 : Int} {a0 : Nat} : X sc (d + 1) 47 [.ref a0, xw x1] (T, z, xv V, J, R) = XR sc d 47 0 [some (.ref a0), some (xw x1), none, none] [] (T, z, xv V, J, R) :=
  (X_eq ⟨jl_47, by rw [mn_47]; rfl, rfl, by rw [lm_47]; exact Nat.le_of_ble_eq_true rfl⟩).trans (by unfold xent; rw [lm_47]; rfl)
theorem bX5_together_0 {o0 o1 o2 o3 : Option Value} : XR sc d 47 0 [o0, o1, o2, o3] [] (T, z, xv V, J, R) = XR sc d 47 4 [o0, o1, some (xw 0), some (xw 0)] [] (T, z, xv V, J, R) :=
  (sw_iconst f_47_0).trans ((sw_istore_n (L' := [o0, o1, some (xw 0), o3]) f_47_1 (Nat.le_of_ble_eq_true rfl) rfl).trans ((sw_iconst f_47_2).trans (sw_istore_n (L' := [o0, o1, some (xw 0), some (xw 0)]) f_47_3 (Nat.le_of_ble_eq_true rfl) rfl)))
theorem bX5_together_4 {o0 o1 o2 : Option Value} {x3 : Int} (g1 : -2147483648 ≤ x3 ∧ x3 ≤ 2147483647) : XR sc d 47 4 [o0, o1, o2, some (xw x3)] [] (T, z, xv V, J, R) = if 7 ≤ x3 then XR sc d 47 25 [o0, o1, o2, some (xw x3)] [] (T, z, xv V, J, R) else XR sc d 47 10 [o0, o1, o2, some (xw x3)] [] (T, z, xv V, J, R) :=
  (sw_iload_n f_47_4 rfl).trans ((sw_bipush f_47_5 c8_7).trans (sw_icmp_ge (t := 25) f_47_7 ⟨by decide, rfl⟩ g1 ⟨by decide, by decide⟩))
theorem bX5_together_10 {x2 x3 x1 : Int} {a0 : Nat} (g1 : T a0 = (6, 0)) : XR sc d 47 10 [some (.ref a0), some (xw x1), some (xw x2), some (xw x3)] [] (T, z, xv V, J, R) = xret 47 (XR sc d 47) 14 17 [some (.ref a0), some (xw x1), some (xw x2), some (xw x3)] [xw x2] (X sc d 42 [.ref a0, xw x3, xw x1] (T, z, xv V, J, R)) :=
  (sw_iload_n f_47_10 rfl).trans ((st_aload_n f_47_11 rfl).trans ((sw_iload_n f_47_12 rfl).trans ((sw_iload_n f_47_13 rfl).trans (st_callV' f_47_14 h_47_48 mn_42 rfl rfl rfl rfl mo_42 g1 rfl))))
theorem bX5_together_17 {o0 o1 o2 : Option Value} {y0 y1 x3 : Int} : XR sc d 47 17 [o0, o1, o2, some (xw x3)] [xw y0, xw y1] (T, z, xv V, J, R) = XR sc d 47 4 [o0, o1, some (xw (y1 + y0)), some (xw (x3 + 1))] [] (T, z, xv V, J, R) :=
  (sw_iadd f_47_17).trans ((sw_istore_n (L' := [o0, o1, some (xw (y1 + y0)), some (xw x3)]) f_47_18 (Nat.le_of_ble_eq_true rfl) rfl).trans ((sw_iinc (L' := [o0, o1, some (xw (y1 + y0)), some (xw (x3 + 1))]) f_47_19 rfl (Nat.le_of_ble_eq_true rfl) rfl).trans (st_goto (t := 4) f_47_22 ⟨by decide, rfl⟩)))
theorem bX5_together_25 {o0 o1 o3 : Option Value} {x2 : Int} : XR sc d 47 25 [o0, o1, some (xw x2), o3] [] (T, z, xv V, J, R) = some (.inl (some (xw x2)), (T, z, xv V, J, R)) :=
  (sw_iload_n f_47_25 rfl).trans (sw_ireturn f_47_26 mr_47)
theorem eX5_sortGaps {a0 : Nat} : X sc (d + 1) 48 [.ref a0] (T, z, xv V, J, R) = XR sc d 48 0 [some (.ref a0), none, none, none] [] (T, z, xv V, J, R) :=
  (X_eq ⟨jl_48, by rw [mn_48]; rfl, rfl, by rw [lm_48]; exact Nat.le_of_ble_eq_true rfl⟩).trans (by unfold xent; rw [lm_48]; rfl)
theorem bX5_sortGaps_0 {o0 o1 o2 o3 : Option Value} : XR sc d 48 0 [o0, o1, o2, o3] [] (T, z, xv V, J, R) = XR sc d 48 2 [o0, some (xw 0), o2, o3] [] (T, z, xv V, J, R) :=
  (sw_iconst f_48_0).trans (sw_istore_n (L' := [o0, some (xw 0), o2, o3]) f_48_1 (Nat.le_of_ble_eq_true rfl) rfl)
theorem bX5_sortGaps_2 {o0 o2 o3 : Option Value} {x1 : Int} (g1 : -2147483648 ≤ x1 ∧ x1 ≤ 2147483647) : XR sc d 48 2 [o0, some (xw x1), o2, o3] [] (T, z, xv V, J, R) = if 7 ≤ x1 then XR sc d 48 66 [o0, some (xw x1), o2, o3] [] (T, z, xv V, J, R) else XR sc d 48 8 [o0, some (xw x1), o2, o3] [] (T, z, xv V, J, R) :=
  (sw_iload_n f_48_2 rfl).trans ((sw_bipush f_48_3 c8_7).trans (sw_icmp_ge (t := 66) f_48_5 ⟨by decide, rfl⟩ g1 ⟨by decide, by decide⟩))
theorem bX5_sortGaps_8 {o2 o3 : Option Value} {x1 : Int} {a0 : Nat} (g1 : T a0 = (6, 0)) (g2 : R a0 0 = some ((R a0 0).getD 0)) (g3 : T ((R a0 0).getD 0) = (32, (T ((R a0 0).getD 0)).2)) (g4 : (0 : Int) ≤ x1 ∧ x1 < ((T ((R a0 0).getD 0)).2 : Int) ∧ (T ((R a0 0).getD 0)).2 ≤ 3584) : XR sc d 48 8 [some (.ref a0), some (xw x1), o2, o3] [] (T, z, xv V, J, R) = XR sc d 48 17 [some (.ref a0), some (xw x1), some (xw (V ((R a0 0).getD 0) x1.toNat)), some (xw x1)] [] (T, z, xv V, J, R) :=
  (st_aload_n f_48_8 rfl).trans ((st_getR f_48_9 e_48_9 (by decide) g1 g2).trans ((sw_iload_n f_48_12 rfl).trans ((sw_iaload f_48_13 g3 g4).trans ((sw_istore_n (L' := [some (.ref a0), some (xw x1), some (xw (V ((R a0 0).getD 0) x1.toNat)), o3]) f_48_14 (Nat.le_of_ble_eq_true rfl) rfl).trans ((sw_iload_n f_48_15 rfl).trans (sw_istore_n (L' := [some (.ref a0), some (xw x1), some (xw (V ((R a0 0).getD 0) x1.toNat)), some (xw x1)]) f_48_16 (Nat.le_of_ble_eq_true rfl) rfl))))))
theorem bX5_sortGaps_17 {o0 o1 o2 : Option Value} {x3 : Int} (g1 : -2147483648 ≤ x3 ∧ x3 ≤ 2147483647) : XR sc d 48 17 [o0, o1, o2, some (xw x3)] [] (T, z, xv V, J, R) = if x3 ≤ 0 then XR sc d 48 53 [o0, o1, o2, some (xw x3)] [] (T, z, xv V, J, R) else XR sc d 48 21 [o0, o1, o2, some (xw x3)] [] (T, z, xv V, J, R) :=
  (sw_iload_n f_48_17 rfl).trans (sw_if_le (t := 53) f_48_18 ⟨by decide, rfl⟩ g1)
theorem bX5_sortGaps_21 {o1 : Option Value} {x3 x2 : Int} {a0 : Nat} (g1 : T a0 = (6, 0)) (g2 : R a0 1 = some ((R a0 1).getD 0)) (g3 : T ((R a0 1).getD 0) = (32, (T ((R a0 1).getD 0)).2)) (g4 : (0 : Int) ≤ (x3 - 1) ∧ (x3 - 1) < ((T ((R a0 1).getD 0)).2 : Int) ∧ (T ((R a0 1).getD 0)).2 ≤ 3584) (g5 : -2147483648 ≤ (V ((R a0 1).getD 0) (x3 - 1).toNat) ∧ (V ((R a0 1).getD 0) (x3 - 1).toNat) ≤ 2147483647) (g6 : -2147483648 ≤ x2 ∧ x2 ≤ 2147483647) : XR sc d 48 21 [some (.ref a0), o1, some (xw x2), some (xw x3)] [] (T, z, xv V, J, R) = if (V ((R a0 1).getD 0) (x3 - 1).toNat) ≤ x2 then XR sc d 48 53 [some (.ref a0), o1, some (xw x2), some (xw x3)] [] (T, z, xv V, J, R) else XR sc d 48 33 [some (.ref a0), o1, some (xw x2), some (xw x3)] [] (T, z, xv V, J, R) :=
  (st_aload_n f_48_21 rfl).trans ((st_getR f_48_22 e_48_15 (by decide) g1 g2).trans ((sw_iload_n f_48_25 rfl).trans ((sw_iconst f_48_26).trans ((sw_isub f_48_27).trans ((sw_iaload f_48_28 g3 g4).trans ((sw_iload_n f_48_29 rfl).trans (sw_icmp_le (t := 53) f_48_30 ⟨by decide, rfl⟩ g5 g6)))))))
theorem bX5_sortGaps_33 {o1 o2 : Option Value} {x3 : Int} {a0 : Nat} (g1 : T a0 = (6, 0)) (g2 : R a0 1 = some ((R a0 1).getD 0)) (g3 : T ((R a0 1).getD 0) = (32, (T ((R a0 1).getD 0)).2)) (g4 : (0 : Int) ≤ (x3 - 1) ∧ (x3 - 1) < ((T ((R a0 1).getD 0)).2 : Int) ∧ (T ((R a0 1).getD 0)).2 ≤ 3584) (g5 : (0 : Int) ≤ x3 ∧ x3 < ((T ((R a0 1).getD 0)).2 : Int) ∧ (T ((R a0 1).getD 0)).2 ≤ 3584) : XR sc d 48 33 [some (.ref a0), o1, o2, some (xw x3)] [] (T, z, xv V, J, R) = XR sc d 48 17 [some (.ref a0), o1, o2, some (xw (x3 + (-1)))] [] (T, z, xv (xup2 V ((R a0 1).getD 0) x3.toNat (V ((R a0 1).getD 0) (x3 - 1).toNat)), J, R) :=
  (st_aload_n f_48_33 rfl).trans ((st_getR f_48_34 e_48_15 (by decide) g1 g2).trans ((sw_iload_n f_48_37 rfl).trans ((st_aload_n f_48_38 rfl).trans ((st_getR f_48_39 e_48_15 (by decide) g1 g2).trans ((sw_iload_n f_48_42 rfl).trans ((sw_iconst f_48_43).trans ((sw_isub f_48_44).trans ((sw_iaload f_48_45 g3 g4).trans ((sw_iastore f_48_46 g3 g5).trans ((sw_iinc (L' := [some (.ref a0), o1, o2, some (xw (x3 + (-1)))]) f_48_47 rfl (Nat.le_of_ble_eq_true rfl) rfl).trans (st_goto (t := 17) f_48_50 ⟨by decide, rfl⟩)))))))))))
theorem bX5_sortGaps_53 {x3 x2 x1 : Int} {a0 : Nat} (g1 : T a0 = (6, 0)) (g2 : R a0 1 = some ((R a0 1).getD 0)) (g3 : T ((R a0 1).getD 0) = (32, (T ((R a0 1).getD 0)).2)) (g4 : (0 : Int) ≤ x3 ∧ x3 < ((T ((R a0 1).getD 0)).2 : Int) ∧ (T ((R a0 1).getD 0)).2 ≤ 3584) : XR sc d 48 53 [some (.ref a0), some (xw x1), some (xw x2), some (xw x3)] [] (T, z, xv V, J, R) = XR sc d 48 2 [some (.ref a0), some (xw (x1 + 1)), some (xw x2), some (xw x3)] [] (T, z, xv (xup2 V ((R a0 1).getD 0) x3.toNat x2), J, R) :=
  (st_aload_n f_48_53 rfl).trans ((st_getR f_48_54 e_48_15 (by decide) g1 g2).trans ((sw_iload_n f_48_57 rfl).trans ((sw_iload_n f_48_58 rfl).trans ((sw_iastore f_48_59 g3 g4).trans ((sw_iinc (L' := [some (.ref a0), some (xw (x1 + 1)), some (xw x2), some (xw x3)]) f_48_60 rfl (Nat.le_of_ble_eq_true rfl) rfl).trans (st_goto (t := 2) f_48_63 ⟨by decide, rfl⟩))))))
theorem bX5_sortGaps_66 {o0 o1 o2 o3 : Option Value} : XR sc d 48 66 [o0, o1, o2, o3] [] (T, z, xv V, J, R) = some (.inl none, (T, z, xv V, J, R)) :=
  st_return f_48_66 mr_48
end BLK
