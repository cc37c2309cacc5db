/-! instructions, by program (gen2.py) -/
set_option maxRecDepth 100000 in
theorem f_49_0 : xft 49 0 = some (.aload_n 0) := by decide +kernel
set_option maxRecDepth 100000 in
theorem f_49_1 : xft 49 1 = some (.invokespecial 1) := by decide +kernel
set_option maxRecDepth 100000 in
theorem f_49_4 : xft 49 4 = some (.aload_n 0) := by decide +kernel
set_option maxRecDepth 100000 in
theorem f_49_5 : xft 49 5 = some (.bipush 8) := by decide +kernel
set_option maxRecDepth 100000 in
theorem f_49_7 : xft 49 7 = some (.anewarray 9) := by decide +kernel
set_option maxRecDepth 100000 in
theorem f_49_10 : xft 49 10 = some (.putfield 11) := by decide +kernel
set_option maxRecDepth 100000 in
theorem f_49_13 : xft 49 13 = some (.aload_n 0) := by decide +kernel
set_option maxRecDepth 100000 in
theorem f_49_14 : xft 49 14 = some (.bipush 40) := by decide +kernel
set_option maxRecDepth 100000 in
theorem f_49_16 : xft 49 16 = some (.anewarray 15) := by decide +kernel
set_option maxRecDepth 100000 in
theorem f_49_19 : xft 49 19 = some (.putfield 17) := by decide +kernel
set_option maxRecDepth 100000 in
theorem f_49_22 : xft 49 22 = some (.aload_n 0) := by decide +kernel
set_option maxRecDepth 100000 in
theorem f_49_23 : xft 49 23 = some (.new 21) := by decide +kernel
set_option maxRecDepth 100000 in
theorem f_49_26 : xft 49 26 = some (.dup) := by decide +kernel
set_option maxRecDepth 100000 in
theorem f_49_27 : xft 49 27 = some (.invokespecial 23) := by decide +kernel
set_option maxRecDepth 100000 in
theorem f_49_30 : xft 49 30 = some (.putfield 24) := by decide +kernel
set_option maxRecDepth 100000 in
theorem f_49_33 : xft 49 33 = some (.aload_n 0) := by decide +kernel
set_option maxRecDepth 100000 in
theorem f_49_34 : xft 49 34 = some (.bipush 6) := by decide +kernel
set_option maxRecDepth 100000 in
theorem f_49_36 : xft 49 36 = some (.anewarray 28) := by decide +kernel
set_option maxRecDepth 100000 in
theorem f_49_39 : xft 49 39 = some (.putfield 30) := by decide +kernel
set_option maxRecDepth 100000 in
theorem f_49_42 : xft 49 42 = some (.iconst 0) := by decide +kernel
set_option maxRecDepth 100000 in
theorem f_49_43 : xft 49 43 = some (.istore_n 1) := by decide +kernel
set_option maxRecDepth 100000 in
theorem f_49_44 : xft 49 44 = some (.iload_n 1) := by decide +kernel
set_option maxRecDepth 100000 in
theorem f_49_45 : xft 49 45 = some (.bipush 6) := by decide +kernel
set_option maxRecDepth 100000 in
theorem f_49_47 : xft 49 47 = some (.if_icmp .ge 22) := by decide +kernel
set_option maxRecDepth 100000 in
theorem f_49_50 : xft 49 50 = some (.aload_n 0) := by decide +kernel
set_option maxRecDepth 100000 in
theorem f_49_51 : xft 49 51 = some (.getfield 30) := by decide +kernel
set_option maxRecDepth 100000 in
theorem f_49_54 : xft 49 54 = some (.iload_n 1) := by decide +kernel
set_option maxRecDepth 100000 in
theorem f_49_55 : xft 49 55 = some (.new 28) := by decide +kernel
set_option maxRecDepth 100000 in
theorem f_49_58 : xft 49 58 = some (.dup) := by decide +kernel
set_option maxRecDepth 100000 in
theorem f_49_59 : xft 49 59 = some (.invokespecial 34) := by decide +kernel
set_option maxRecDepth 100000 in
theorem f_49_62 : xft 49 62 = some (.aastore) := by decide +kernel
set_option maxRecDepth 100000 in
theorem f_49_63 : xft 49 63 = some (.iinc 1 1) := by decide +kernel
set_option maxRecDepth 100000 in
theorem f_49_66 : xft 49 66 = some (.goto (-22)) := by decide +kernel
set_option maxRecDepth 100000 in
theorem f_49_69 : xft 49 69 = some (.aload_n 0) := by decide +kernel
set_option maxRecDepth 100000 in
theorem f_49_70 : xft 49 70 = some (.bipush 6) := by decide +kernel
set_option maxRecDepth 100000 in
theorem f_49_72 : xft 49 72 = some (.anewarray 35) := by decide +kernel
set_option maxRecDepth 100000 in
theorem f_49_75 : xft 49 75 = some (.putfield 37) := by decide +kernel
set_option maxRecDepth 100000 in
theorem f_49_78 : xft 49 78 = some (.iconst 0) := by decide +kernel
set_option maxRecDepth 100000 in
theorem f_49_79 : xft 49 79 = some (.istore_n 1) := by decide +kernel
set_option maxRecDepth 100000 in
theorem f_49_80 : xft 49 80 = some (.iload_n 1) := by decide +kernel
set_option maxRecDepth 100000 in
theorem f_49_81 : xft 49 81 = some (.bipush 6) := by decide +kernel
set_option maxRecDepth 100000 in
theorem f_49_83 : xft 49 83 = some (.if_icmp .ge 22) := by decide +kernel
set_option maxRecDepth 100000 in
theorem f_49_86 : xft 49 86 = some (.aload_n 0) := by decide +kernel
set_option maxRecDepth 100000 in
theorem f_49_87 : xft 49 87 = some (.getfield 37) := by decide +kernel
set_option maxRecDepth 100000 in
theorem f_49_90 : xft 49 90 = some (.iload_n 1) := by decide +kernel
set_option maxRecDepth 100000 in
theorem f_49_91 : xft 49 91 = some (.new 35) := by decide +kernel
set_option maxRecDepth 100000 in
theorem f_49_94 : xft 49 94 = some (.dup) := by decide +kernel
set_option maxRecDepth 100000 in
theorem f_49_95 : xft 49 95 = some (.invokespecial 41) := by decide +kernel
set_option maxRecDepth 100000 in
theorem f_49_98 : xft 49 98 = some (.aastore) := by decide +kernel
set_option maxRecDepth 100000 in
theorem f_49_99 : xft 49 99 = some (.iinc 1 1) := by decide +kernel
set_option maxRecDepth 100000 in
theorem f_49_102 : xft 49 102 = some (.goto (-22)) := by decide +kernel
set_option maxRecDepth 100000 in
theorem f_49_105 : xft 49 105 = some (.aload_n 0) := by decide +kernel
set_option maxRecDepth 100000 in
theorem f_49_106 : xft 49 106 = some (.new 42) := by decide +kernel
set_option maxRecDepth 100000 in
theorem f_49_109 : xft 49 109 = some (.dup) := by decide +kernel
set_option maxRecDepth 100000 in
theorem f_49_110 : xft 49 110 = some (.invokespecial 44) := by decide +kernel
set_option maxRecDepth 100000 in
theorem f_49_113 : xft 49 113 = some (.putfield 45) := by decide +kernel
set_option maxRecDepth 100000 in
theorem f_49_116 : xft 49 116 = some (.return_) := by decide +kernel
set_option maxRecDepth 100000 in
theorem f_50_0 : xft 50 0 = some (.iload_n 1) := by decide +kernel
set_option maxRecDepth 100000 in
theorem f_50_1 : xft 50 1 = some (.iconst 2) := by decide +kernel
set_option maxRecDepth 100000 in
theorem f_50_2 : xft 50 2 = some (.bipush 9) := by decide +kernel
set_option maxRecDepth 100000 in
theorem f_50_4 : xft 50 4 = some (.invokestatic 49) := by decide +kernel
set_option maxRecDepth 100000 in
theorem f_50_7 : xft 50 7 = some (.aload_n 0) := by decide +kernel
set_option maxRecDepth 100000 in
theorem f_50_8 : xft 50 8 = some (.getfield 53) := by decide +kernel
set_option maxRecDepth 100000 in
theorem f_50_11 : xft 50 11 = some (.bipush 8) := by decide +kernel
set_option maxRecDepth 100000 in
theorem f_50_13 : xft 50 13 = some (.if_icmp .lt 13) := by decide +kernel
set_option maxRecDepth 100000 in
theorem f_50_16 : xft 50 16 = some (.new 57) := by decide +kernel
set_option maxRecDepth 100000 in
theorem f_50_19 : xft 50 19 = some (.dup) := by decide +kernel
set_option maxRecDepth 100000 in
theorem f_50_20 : xft 50 20 = some (.ldc 59) := by decide +kernel
set_option maxRecDepth 100000 in
theorem f_50_22 : xft 50 22 = some (.invokespecial 61) := by decide +kernel
set_option maxRecDepth 100000 in
theorem f_50_25 : xft 50 25 = some (.athrow) := by decide +kernel
set_option maxRecDepth 100000 in
theorem f_50_26 : xft 50 26 = some (.aload_n 0) := by decide +kernel
set_option maxRecDepth 100000 in
theorem f_50_27 : xft 50 27 = some (.getfield 53) := by decide +kernel
set_option maxRecDepth 100000 in
theorem f_50_30 : xft 50 30 = some (.istore_n 2) := by decide +kernel
set_option maxRecDepth 100000 in
theorem f_50_31 : xft 50 31 = some (.aload_n 0) := by decide +kernel
set_option maxRecDepth 100000 in
theorem f_50_32 : xft 50 32 = some (.getfield 11) := by decide +kernel
set_option maxRecDepth 100000 in
theorem f_50_35 : xft 50 35 = some (.iload_n 2) := by decide +kernel
set_option maxRecDepth 100000 in
theorem f_50_36 : xft 50 36 = some (.new 9) := by decide +kernel
set_option maxRecDepth 100000 in
theorem f_50_39 : xft 50 39 = some (.dup) := by decide +kernel
set_option maxRecDepth 100000 in
theorem f_50_40 : xft 50 40 = some (.iload_n 1) := by decide +kernel
set_option maxRecDepth 100000 in
theorem f_50_41 : xft 50 41 = some (.invokespecial 64) := by decide +kernel
set_option maxRecDepth 100000 in
theorem f_50_44 : xft 50 44 = some (.aastore) := by decide +kernel
set_option maxRecDepth 100000 in
theorem f_50_45 : xft 50 45 = some (.aload_n 0) := by decide +kernel
set_option maxRecDepth 100000 in
theorem f_50_46 : xft 50 46 = some (.dup) := by decide +kernel
set_option maxRecDepth 100000 in
theorem f_50_47 : xft 50 47 = some (.getfield 53) := by decide +kernel
set_option maxRecDepth 100000 in
theorem f_50_50 : xft 50 50 = some (.iconst 1) := by decide +kernel
set_option maxRecDepth 100000 in
theorem f_50_51 : xft 50 51 = some (.iadd) := by decide +kernel
set_option maxRecDepth 100000 in
theorem f_50_52 : xft 50 52 = some (.putfield 53) := by decide +kernel
set_option maxRecDepth 100000 in
theorem f_50_55 : xft 50 55 = some (.iload_n 2) := by decide +kernel
set_option maxRecDepth 100000 in
theorem f_50_56 : xft 50 56 = some (.ireturn) := by decide +kernel
set_option maxRecDepth 100000 in
theorem f_51_0 : xft 51 0 = some (.aload_n 0) := by decide +kernel
set_option maxRecDepth 100000 in
theorem f_51_1 : xft 51 1 = some (.iload_n 1) := by decide +kernel
set_option maxRecDepth 100000 in
theorem f_51_2 : xft 51 2 = some (.invokevirtual 67) := by decide +kernel
set_option maxRecDepth 100000 in
theorem f_51_5 : xft 51 5 = some (.astore 4) := by decide +kernel
set_option maxRecDepth 100000 in
theorem f_51_7 : xft 51 7 = some (.iload_n 2) := by decide +kernel
set_option maxRecDepth 100000 in
theorem f_51_8 : xft 51 8 = some (.bipush 12) := by decide +kernel
set_option maxRecDepth 100000 in
theorem f_51_10 : xft 51 10 = some (.invokestatic 71) := by decide +kernel
set_option maxRecDepth 100000 in
theorem f_51_13 : xft 51 13 = some (.iload_n 3) := by decide +kernel
set_option maxRecDepth 100000 in
theorem f_51_14 : xft 51 14 = some (.bipush 8) := by decide +kernel
set_option maxRecDepth 100000 in
theorem f_51_16 : xft 51 16 = some (.invokestatic 71) := by decide +kernel
set_option maxRecDepth 100000 in
theorem f_51_19 : xft 51 19 = some (.aload 4) := by decide +kernel
set_option maxRecDepth 100000 in
theorem f_51_21 : xft 51 21 = some (.iload_n 2) := by decide +kernel
set_option maxRecDepth 100000 in
theorem f_51_22 : xft 51 22 = some (.iload_n 3) := by decide +kernel
set_option maxRecDepth 100000 in
theorem f_51_23 : xft 51 23 = some (.iconst 1) := by decide +kernel
set_option maxRecDepth 100000 in
theorem f_51_24 : xft 51 24 = some (.iconst 1) := by decide +kernel
set_option maxRecDepth 100000 in
theorem f_51_25 : xft 51 25 = some (.invokevirtual 75) := by decide +kernel
set_option maxRecDepth 100000 in
theorem f_51_28 : xft 51 28 = some (.aload 4) := by decide +kernel
set_option maxRecDepth 100000 in
theorem f_51_30 : xft 51 30 = some (.invokevirtual 79) := by decide +kernel
set_option maxRecDepth 100000 in
theorem f_51_33 : xft 51 33 = some (.ireturn) := by decide +kernel
set_option maxRecDepth 100000 in
theorem f_52_0 : xft 52 0 = some (.aload_n 0) := by decide +kernel
set_option maxRecDepth 100000 in
theorem f_52_1 : xft 52 1 = some (.iload_n 1) := by decide +kernel
set_option maxRecDepth 100000 in
theorem f_52_2 : xft 52 2 = some (.invokevirtual 67) := by decide +kernel
set_option maxRecDepth 100000 in
theorem f_52_5 : xft 52 5 = some (.astore 7) := by decide +kernel
set_option maxRecDepth 100000 in
theorem f_52_7 : xft 52 7 = some (.iload_n 2) := by decide +kernel
set_option maxRecDepth 100000 in
theorem f_52_8 : xft 52 8 = some (.bipush 12) := by decide +kernel
set_option maxRecDepth 100000 in
theorem f_52_10 : xft 52 10 = some (.invokestatic 71) := by decide +kernel
set_option maxRecDepth 100000 in
theorem f_52_13 : xft 52 13 = some (.iload_n 3) := by decide +kernel
set_option maxRecDepth 100000 in
theorem f_52_14 : xft 52 14 = some (.bipush 8) := by decide +kernel
set_option maxRecDepth 100000 in
theorem f_52_16 : xft 52 16 = some (.invokestatic 71) := by decide +kernel
set_option maxRecDepth 100000 in
theorem f_52_19 : xft 52 19 = some (.iload 4) := by decide +kernel
set_option maxRecDepth 100000 in
theorem f_52_21 : xft 52 21 = some (.iconst 1) := by decide +kernel
set_option maxRecDepth 100000 in
theorem f_52_22 : xft 52 22 = some (.bipush 12) := by decide +kernel
set_option maxRecDepth 100000 in
theorem f_52_24 : xft 52 24 = some (.iload_n 2) := by decide +kernel
set_option maxRecDepth 100000 in
theorem f_52_25 : xft 52 25 = some (.isub) := by decide +kernel
set_option maxRecDepth 100000 in
theorem f_52_26 : xft 52 26 = some (.invokestatic 49) := by decide +kernel
set_option maxRecDepth 100000 in
theorem f_52_29 : xft 52 29 = some (.iload 5) := by decide +kernel
set_option maxRecDepth 100000 in
theorem f_52_31 : xft 52 31 = some (.iconst 1) := by decide +kernel
set_option maxRecDepth 100000 in
theorem f_52_32 : xft 52 32 = some (.bipush 8) := by decide +kernel
set_option maxRecDepth 100000 in
theorem f_52_34 : xft 52 34 = some (.iload_n 3) := by decide +kernel
set_option maxRecDepth 100000 in
theorem f_52_35 : xft 52 35 = some (.isub) := by decide +kernel
set_option maxRecDepth 100000 in
theorem f_52_36 : xft 52 36 = some (.invokestatic 49) := by decide +kernel
set_option maxRecDepth 100000 in
theorem f_52_39 : xft 52 39 = some (.aload 7) := by decide +kernel
set_option maxRecDepth 100000 in
theorem f_52_41 : xft 52 41 = some (.iload_n 2) := by decide +kernel
set_option maxRecDepth 100000 in
theorem f_52_42 : xft 52 42 = some (.iload_n 3) := by decide +kernel
set_option maxRecDepth 100000 in
theorem f_52_43 : xft 52 43 = some (.iload 4) := by decide +kernel
set_option maxRecDepth 100000 in
theorem f_52_45 : xft 52 45 = some (.iload 5) := by decide +kernel
set_option maxRecDepth 100000 in
theorem f_52_47 : xft 52 47 = some (.iload 6) := by decide +kernel
set_option maxRecDepth 100000 in
theorem f_52_49 : xft 52 49 = some (.invokevirtual 83) := by decide +kernel
set_option maxRecDepth 100000 in
theorem f_52_52 : xft 52 52 = some (.ifCond .ne 13) := by decide +kernel
set_option maxRecDepth 100000 in
theorem f_52_55 : xft 52 55 = some (.new 57) := by decide +kernel
set_option maxRecDepth 100000 in
theorem f_52_58 : xft 52 58 = some (.dup) := by decide +kernel
set_option maxRecDepth 100000 in
theorem f_52_59 : xft 52 59 = some (.ldc 87) := by decide +kernel
set_option maxRecDepth 100000 in
theorem f_52_61 : xft 52 61 = some (.invokespecial 61) := by decide +kernel
set_option maxRecDepth 100000 in
theorem f_52_64 : xft 52 64 = some (.athrow) := by decide +kernel
set_option maxRecDepth 100000 in
theorem f_52_65 : xft 52 65 = some (.aload_n 0) := by decide +kernel
set_option maxRecDepth 100000 in
theorem f_52_66 : xft 52 66 = some (.getfield 89) := by decide +kernel
set_option maxRecDepth 100000 in
theorem f_52_69 : xft 52 69 = some (.bipush 40) := by decide +kernel
set_option maxRecDepth 100000 in
theorem f_52_71 : xft 52 71 = some (.if_icmp .lt 13) := by decide +kernel
set_option maxRecDepth 100000 in
theorem f_52_74 : xft 52 74 = some (.new 57) := by decide +kernel
set_option maxRecDepth 100000 in
theorem f_52_77 : xft 52 77 = some (.dup) := by decide +kernel
set_option maxRecDepth 100000 in
theorem f_52_78 : xft 52 78 = some (.ldc 92) := by decide +kernel
set_option maxRecDepth 100000 in
theorem f_52_80 : xft 52 80 = some (.invokespecial 61) := by decide +kernel
set_option maxRecDepth 100000 in
theorem f_52_83 : xft 52 83 = some (.athrow) := by decide +kernel
set_option maxRecDepth 100000 in
theorem f_52_84 : xft 52 84 = some (.aload_n 0) := by decide +kernel
set_option maxRecDepth 100000 in
theorem f_52_85 : xft 52 85 = some (.getfield 89) := by decide +kernel
set_option maxRecDepth 100000 in
theorem f_52_88 : xft 52 88 = some (.istore 8) := by decide +kernel
set_option maxRecDepth 100000 in
theorem f_52_90 : xft 52 90 = some (.aload_n 0) := by decide +kernel
set_option maxRecDepth 100000 in
theorem f_52_91 : xft 52 91 = some (.getfield 17) := by decide +kernel
set_option maxRecDepth 100000 in
theorem f_52_94 : xft 52 94 = some (.iload 8) := by decide +kernel
set_option maxRecDepth 100000 in
theorem f_52_96 : xft 52 96 = some (.new 15) := by decide +kernel
set_option maxRecDepth 100000 in
theorem f_52_99 : xft 52 99 = some (.dup) := by decide +kernel
set_option maxRecDepth 100000 in
theorem f_52_100 : xft 52 100 = some (.iload 4) := by decide +kernel
set_option maxRecDepth 100000 in
theorem f_52_102 : xft 52 102 = some (.iload 5) := by decide +kernel
set_option maxRecDepth 100000 in
theorem f_52_104 : xft 52 104 = some (.iload_n 3) := by decide +kernel
set_option maxRecDepth 100000 in
theorem f_52_105 : xft 52 105 = some (.aload 7) := by decide +kernel
set_option maxRecDepth 100000 in
theorem f_52_107 : xft 52 107 = some (.iload_n 3) := by decide +kernel
set_option maxRecDepth 100000 in
theorem f_52_108 : xft 52 108 = some (.iload 5) := by decide +kernel
set_option maxRecDepth 100000 in
theorem f_52_110 : xft 52 110 = some (.invokevirtual 94) := by decide +kernel
set_option maxRecDepth 100000 in
theorem f_52_113 : xft 52 113 = some (.iload 6) := by decide +kernel
set_option maxRecDepth 100000 in
theorem f_52_115 : xft 52 115 = some (.invokespecial 98) := by decide +kernel
set_option maxRecDepth 100000 in
theorem f_52_118 : xft 52 118 = some (.aastore) := by decide +kernel
set_option maxRecDepth 100000 in
theorem f_52_119 : xft 52 119 = some (.aload_n 0) := by decide +kernel
set_option maxRecDepth 100000 in
theorem f_52_120 : xft 52 120 = some (.dup) := by decide +kernel
set_option maxRecDepth 100000 in
theorem f_52_121 : xft 52 121 = some (.getfield 89) := by decide +kernel
set_option maxRecDepth 100000 in
theorem f_52_124 : xft 52 124 = some (.iconst 1) := by decide +kernel
set_option maxRecDepth 100000 in
theorem f_52_125 : xft 52 125 = some (.iadd) := by decide +kernel
set_option maxRecDepth 100000 in
theorem f_52_126 : xft 52 126 = some (.putfield 89) := by decide +kernel
set_option maxRecDepth 100000 in
theorem f_52_129 : xft 52 129 = some (.aload 7) := by decide +kernel
set_option maxRecDepth 100000 in
theorem f_52_131 : xft 52 131 = some (.iload_n 2) := by decide +kernel
set_option maxRecDepth 100000 in
theorem f_52_132 : xft 52 132 = some (.iload_n 3) := by decide +kernel
set_option maxRecDepth 100000 in
theorem f_52_133 : xft 52 133 = some (.iload 4) := by decide +kernel
set_option maxRecDepth 100000 in
theorem f_52_135 : xft 52 135 = some (.iload 5) := by decide +kernel
set_option maxRecDepth 100000 in
theorem f_52_137 : xft 52 137 = some (.invokevirtual 75) := by decide +kernel
set_option maxRecDepth 100000 in
theorem f_52_140 : xft 52 140 = some (.iload 8) := by decide +kernel
set_option maxRecDepth 100000 in
theorem f_52_142 : xft 52 142 = some (.ireturn) := by decide +kernel
set_option maxRecDepth 100000 in
theorem f_53_0 : xft 53 0 = some (.aload_n 0) := by decide +kernel
set_option maxRecDepth 100000 in
theorem f_53_1 : xft 53 1 = some (.iload_n 1) := by decide +kernel
set_option maxRecDepth 100000 in
theorem f_53_2 : xft 53 2 = some (.invokevirtual 67) := by decide +kernel
set_option maxRecDepth 100000 in
theorem f_53_5 : xft 53 5 = some (.astore 6) := by decide +kernel
set_option maxRecDepth 100000 in
theorem f_53_7 : xft 53 7 = some (.iload_n 2) := by decide +kernel
set_option maxRecDepth 100000 in
theorem f_53_8 : xft 53 8 = some (.iconst 1) := by decide +kernel
set_option maxRecDepth 100000 in
theorem f_53_9 : xft 53 9 = some (.bipush 12) := by decide +kernel
set_option maxRecDepth 100000 in
theorem f_53_11 : xft 53 11 = some (.invokestatic 49) := by decide +kernel
set_option maxRecDepth 100000 in
theorem f_53_14 : xft 53 14 = some (.iload_n 3) := by decide +kernel
set_option maxRecDepth 100000 in
theorem f_53_15 : xft 53 15 = some (.iconst 1) := by decide +kernel
set_option maxRecDepth 100000 in
theorem f_53_16 : xft 53 16 = some (.bipush 8) := by decide +kernel
set_option maxRecDepth 100000 in
theorem f_53_18 : xft 53 18 = some (.invokestatic 49) := by decide +kernel
set_option maxRecDepth 100000 in
theorem f_53_21 : xft 53 21 = some (.iload 5) := by decide +kernel
set_option maxRecDepth 100000 in
theorem f_53_23 : xft 53 23 = some (.iconst 1) := by decide +kernel
set_option maxRecDepth 100000 in
theorem f_53_24 : xft 53 24 = some (.bipush 9) := by decide +kernel
set_option maxRecDepth 100000 in
theorem f_53_26 : xft 53 26 = some (.invokestatic 49) := by decide +kernel
set_option maxRecDepth 100000 in
theorem f_53_29 : xft 53 29 = some (.aload 6) := by decide +kernel
set_option maxRecDepth 100000 in
theorem f_53_31 : xft 53 31 = some (.iload_n 2) := by decide +kernel
set_option maxRecDepth 100000 in
theorem f_53_32 : xft 53 32 = some (.iload_n 3) := by decide +kernel
set_option maxRecDepth 100000 in
theorem f_53_33 : xft 53 33 = some (.iload 4) := by decide +kernel
set_option maxRecDepth 100000 in
theorem f_53_35 : xft 53 35 = some (.iload 5) := by decide +kernel
set_option maxRecDepth 100000 in
theorem f_53_37 : xft 53 37 = some (.invokevirtual 101) := by decide +kernel
set_option maxRecDepth 100000 in
theorem f_53_40 : xft 53 40 = some (.ireturn) := by decide +kernel
set_option maxRecDepth 100000 in
theorem f_54_0 : xft 54 0 = some (.aload_n 0) := by decide +kernel
set_option maxRecDepth 100000 in
theorem f_54_1 : xft 54 1 = some (.iload_n 1) := by decide +kernel
set_option maxRecDepth 100000 in
theorem f_54_2 : xft 54 2 = some (.invokevirtual 105) := by decide +kernel
set_option maxRecDepth 100000 in
theorem f_54_5 : xft 54 5 = some (.astore_n 3) := by decide +kernel
set_option maxRecDepth 100000 in
theorem f_54_6 : xft 54 6 = some (.iload_n 2) := by decide +kernel
set_option maxRecDepth 100000 in
theorem f_54_7 : xft 54 7 = some (.iconst 1) := by decide +kernel
set_option maxRecDepth 100000 in
theorem f_54_8 : xft 54 8 = some (.aload_n 3) := by decide +kernel
set_option maxRecDepth 100000 in
theorem f_54_9 : xft 54 9 = some (.getfield 109) := by decide +kernel
set_option maxRecDepth 100000 in
theorem f_54_12 : xft 54 12 = some (.iconst 1) := by decide +kernel
set_option maxRecDepth 100000 in
theorem f_54_13 : xft 54 13 = some (.isub) := by decide +kernel
set_option maxRecDepth 100000 in
theorem f_54_14 : xft 54 14 = some (.invokestatic 49) := by decide +kernel
set_option maxRecDepth 100000 in
theorem f_54_17 : xft 54 17 = some (.aload_n 3) := by decide +kernel
set_option maxRecDepth 100000 in
theorem f_54_18 : xft 54 18 = some (.getfield 112) := by decide +kernel
set_option maxRecDepth 100000 in
theorem f_54_21 : xft 54 21 = some (.ifCond .le 13) := by decide +kernel
set_option maxRecDepth 100000 in
theorem f_54_24 : xft 54 24 = some (.new 57) := by decide +kernel
set_option maxRecDepth 100000 in
theorem f_54_27 : xft 54 27 = some (.dup) := by decide +kernel
set_option maxRecDepth 100000 in
theorem f_54_28 : xft 54 28 = some (.ldc 115) := by decide +kernel
set_option maxRecDepth 100000 in
theorem f_54_30 : xft 54 30 = some (.invokespecial 61) := by decide +kernel
set_option maxRecDepth 100000 in
theorem f_54_33 : xft 54 33 = some (.athrow) := by decide +kernel
set_option maxRecDepth 100000 in
theorem f_54_34 : xft 54 34 = some (.aload_n 3) := by decide +kernel
set_option maxRecDepth 100000 in
theorem f_54_35 : xft 54 35 = some (.getfield 109) := by decide +kernel
set_option maxRecDepth 100000 in
theorem f_54_38 : xft 54 38 = some (.istore 4) := by decide +kernel
set_option maxRecDepth 100000 in
theorem f_54_40 : xft 54 40 = some (.aload_n 3) := by decide +kernel
set_option maxRecDepth 100000 in
theorem f_54_41 : xft 54 41 = some (.iload_n 2) := by decide +kernel
set_option maxRecDepth 100000 in
theorem f_54_42 : xft 54 42 = some (.putfield 109) := by decide +kernel
set_option maxRecDepth 100000 in
theorem f_54_45 : xft 54 45 = some (.iload 4) := by decide +kernel
set_option maxRecDepth 100000 in
theorem f_54_47 : xft 54 47 = some (.ireturn) := by decide +kernel
set_option maxRecDepth 100000 in
theorem f_55_0 : xft 55 0 = some (.aload_n 0) := by decide +kernel
set_option maxRecDepth 100000 in
theorem f_55_1 : xft 55 1 = some (.iload_n 1) := by decide +kernel
set_option maxRecDepth 100000 in
theorem f_55_2 : xft 55 2 = some (.invokevirtual 105) := by decide +kernel
set_option maxRecDepth 100000 in
theorem f_55_5 : xft 55 5 = some (.astore_n 3) := by decide +kernel
set_option maxRecDepth 100000 in
theorem f_55_6 : xft 55 6 = some (.iload_n 2) := by decide +kernel
set_option maxRecDepth 100000 in
theorem f_55_7 : xft 55 7 = some (.iconst 3) := by decide +kernel
set_option maxRecDepth 100000 in
theorem f_55_8 : xft 55 8 = some (.iconst 4) := by decide +kernel
set_option maxRecDepth 100000 in
theorem f_55_9 : xft 55 9 = some (.aload_n 3) := by decide +kernel
set_option maxRecDepth 100000 in
theorem f_55_10 : xft 55 10 = some (.getfield 117) := by decide +kernel
set_option maxRecDepth 100000 in
theorem f_55_13 : xft 55 13 = some (.imul) := by decide +kernel
set_option maxRecDepth 100000 in
theorem f_55_14 : xft 55 14 = some (.iconst 3) := by decide +kernel
set_option maxRecDepth 100000 in
theorem f_55_15 : xft 55 15 = some (.isub) := by decide +kernel
set_option maxRecDepth 100000 in
theorem f_55_16 : xft 55 16 = some (.invokestatic 49) := by decide +kernel
set_option maxRecDepth 100000 in
theorem f_55_19 : xft 55 19 = some (.aload_n 3) := by decide +kernel
set_option maxRecDepth 100000 in
theorem f_55_20 : xft 55 20 = some (.iload_n 2) := by decide +kernel
set_option maxRecDepth 100000 in
theorem f_55_21 : xft 55 21 = some (.invokevirtual 120) := by decide +kernel
set_option maxRecDepth 100000 in
theorem f_55_24 : xft 55 24 = some (.ifCond .eq 13) := by decide +kernel
set_option maxRecDepth 100000 in
theorem f_55_27 : xft 55 27 = some (.new 57) := by decide +kernel
set_option maxRecDepth 100000 in
theorem f_55_30 : xft 55 30 = some (.dup) := by decide +kernel
set_option maxRecDepth 100000 in
theorem f_55_31 : xft 55 31 = some (.ldc 124) := by decide +kernel
set_option maxRecDepth 100000 in
theorem f_55_33 : xft 55 33 = some (.invokespecial 61) := by decide +kernel
set_option maxRecDepth 100000 in
theorem f_55_36 : xft 55 36 = some (.athrow) := by decide +kernel
set_option maxRecDepth 100000 in
theorem f_55_37 : xft 55 37 = some (.aload_n 3) := by decide +kernel
set_option maxRecDepth 100000 in
theorem f_55_38 : xft 55 38 = some (.getfield 112) := by decide +kernel
set_option maxRecDepth 100000 in
theorem f_55_41 : xft 55 41 = some (.ifCond .gt 17) := by decide +kernel
set_option maxRecDepth 100000 in
theorem f_55_44 : xft 55 44 = some (.aload_n 3) := by decide +kernel
set_option maxRecDepth 100000 in
theorem f_55_45 : xft 55 45 = some (.invokevirtual 126) := by decide +kernel
set_option maxRecDepth 100000 in
theorem f_55_48 : xft 55 48 = some (.ifCond .ne 10) := by decide +kernel
set_option maxRecDepth 100000 in
theorem f_55_51 : xft 55 51 = some (.aload_n 3) := by decide +kernel
set_option maxRecDepth 100000 in
theorem f_55_52 : xft 55 52 = some (.getfield 130) := by decide +kernel
set_option maxRecDepth 100000 in
theorem f_55_55 : xft 55 55 = some (.ifCond .eq 13) := by decide +kernel
set_option maxRecDepth 100000 in
theorem f_55_58 : xft 55 58 = some (.new 57) := by decide +kernel
set_option maxRecDepth 100000 in
theorem f_55_61 : xft 55 61 = some (.dup) := by decide +kernel
set_option maxRecDepth 100000 in
theorem f_55_62 : xft 55 62 = some (.ldc 134) := by decide +kernel
set_option maxRecDepth 100000 in
theorem f_55_64 : xft 55 64 = some (.invokespecial 61) := by decide +kernel
set_option maxRecDepth 100000 in
theorem f_55_67 : xft 55 67 = some (.athrow) := by decide +kernel
set_option maxRecDepth 100000 in
theorem f_55_68 : xft 55 68 = some (.aload_n 3) := by decide +kernel
set_option maxRecDepth 100000 in
theorem f_55_69 : xft 55 69 = some (.iload_n 2) := by decide +kernel
set_option maxRecDepth 100000 in
theorem f_55_70 : xft 55 70 = some (.invokevirtual 136) := by decide +kernel
set_option maxRecDepth 100000 in
theorem f_55_73 : xft 55 73 = some (.ireturn) := by decide +kernel
set_option maxRecDepth 100000 in
theorem f_56_0 : xft 56 0 = some (.aload_n 0) := by decide +kernel
set_option maxRecDepth 100000 in
theorem f_56_1 : xft 56 1 = some (.iload_n 1) := by decide +kernel
set_option maxRecDepth 100000 in
theorem f_56_2 : xft 56 2 = some (.invokevirtual 105) := by decide +kernel
set_option maxRecDepth 100000 in
theorem f_56_5 : xft 56 5 = some (.astore_n 3) := by decide +kernel
set_option maxRecDepth 100000 in
theorem f_56_6 : xft 56 6 = some (.aload_n 0) := by decide +kernel
set_option maxRecDepth 100000 in
theorem f_56_7 : xft 56 7 = some (.iload_n 2) := by decide +kernel
set_option maxRecDepth 100000 in
theorem f_56_8 : xft 56 8 = some (.invokevirtual 105) := by decide +kernel
set_option maxRecDepth 100000 in
theorem f_56_11 : xft 56 11 = some (.astore 4) := by decide +kernel
set_option maxRecDepth 100000 in
theorem f_56_13 : xft 56 13 = some (.aload_n 3) := by decide +kernel
set_option maxRecDepth 100000 in
theorem f_56_14 : xft 56 14 = some (.getfield 140) := by decide +kernel
set_option maxRecDepth 100000 in
theorem f_56_17 : xft 56 17 = some (.aload 4) := by decide +kernel
set_option maxRecDepth 100000 in
theorem f_56_19 : xft 56 19 = some (.getfield 140) := by decide +kernel
set_option maxRecDepth 100000 in
theorem f_56_22 : xft 56 22 = some (.if_icmp .ne 55) := by decide +kernel
set_option maxRecDepth 100000 in
theorem f_56_25 : xft 56 25 = some (.aload_n 3) := by decide +kernel
set_option maxRecDepth 100000 in
theorem f_56_26 : xft 56 26 = some (.getfield 117) := by decide +kernel
set_option maxRecDepth 100000 in
theorem f_56_29 : xft 56 29 = some (.aload 4) := by decide +kernel
set_option maxRecDepth 100000 in
theorem f_56_31 : xft 56 31 = some (.getfield 117) := by decide +kernel
set_option maxRecDepth 100000 in
theorem f_56_34 : xft 56 34 = some (.if_icmp .ne 43) := by decide +kernel
set_option maxRecDepth 100000 in
theorem f_56_37 : xft 56 37 = some (.aload_n 3) := by decide +kernel
set_option maxRecDepth 100000 in
theorem f_56_38 : xft 56 38 = some (.getfield 143) := by decide +kernel
set_option maxRecDepth 100000 in
theorem f_56_41 : xft 56 41 = some (.aload 4) := by decide +kernel
set_option maxRecDepth 100000 in
theorem f_56_43 : xft 56 43 = some (.getfield 143) := by decide +kernel
set_option maxRecDepth 100000 in
theorem f_56_46 : xft 56 46 = some (.if_icmp .ne 31) := by decide +kernel
set_option maxRecDepth 100000 in
theorem f_56_49 : xft 56 49 = some (.aload_n 3) := by decide +kernel
set_option maxRecDepth 100000 in
theorem f_56_50 : xft 56 50 = some (.getfield 109) := by decide +kernel
set_option maxRecDepth 100000 in
theorem f_56_53 : xft 56 53 = some (.aload 4) := by decide +kernel
set_option maxRecDepth 100000 in
theorem f_56_55 : xft 56 55 = some (.getfield 109) := by decide +kernel
set_option maxRecDepth 100000 in
theorem f_56_58 : xft 56 58 = some (.if_icmp .ne 19) := by decide +kernel
set_option maxRecDepth 100000 in
theorem f_56_61 : xft 56 61 = some (.aload_n 3) := by decide +kernel
set_option maxRecDepth 100000 in
theorem f_56_62 : xft 56 62 = some (.getfield 146) := by decide +kernel
set_option maxRecDepth 100000 in
theorem f_56_65 : xft 56 65 = some (.aload 4) := by decide +kernel
set_option maxRecDepth 100000 in
theorem f_56_67 : xft 56 67 = some (.getfield 146) := by decide +kernel
set_option maxRecDepth 100000 in
theorem f_56_70 : xft 56 70 = some (.if_icmp .ne 7) := by decide +kernel
set_option maxRecDepth 100000 in
theorem f_56_73 : xft 56 73 = some (.iconst 1) := by decide +kernel
set_option maxRecDepth 100000 in
theorem f_56_74 : xft 56 74 = some (.goto 4) := by decide +kernel
set_option maxRecDepth 100000 in
theorem f_56_77 : xft 56 77 = some (.iconst 0) := by decide +kernel
set_option maxRecDepth 100000 in
theorem f_56_78 : xft 56 78 = some (.ireturn) := by decide +kernel
set_option maxRecDepth 100000 in
theorem f_57_0 : xft 57 0 = some (.aload_n 0) := by decide +kernel
set_option maxRecDepth 100000 in
theorem f_57_1 : xft 57 1 = some (.iload_n 1) := by decide +kernel
set_option maxRecDepth 100000 in
theorem f_57_2 : xft 57 2 = some (.invokevirtual 105) := by decide +kernel
set_option maxRecDepth 100000 in
theorem f_57_5 : xft 57 5 = some (.astore_n 3) := by decide +kernel
set_option maxRecDepth 100000 in
theorem f_57_6 : xft 57 6 = some (.iload_n 2) := by decide +kernel
set_option maxRecDepth 100000 in
theorem f_57_7 : xft 57 7 = some (.iconst 0) := by decide +kernel
set_option maxRecDepth 100000 in
theorem f_57_8 : xft 57 8 = some (.bipush 10) := by decide +kernel
set_option maxRecDepth 100000 in
theorem f_57_10 : xft 57 10 = some (.invokestatic 49) := by decide +kernel
set_option maxRecDepth 100000 in
theorem f_57_13 : xft 57 13 = some (.iload_n 2) := by decide +kernel
set_option maxRecDepth 100000 in
theorem f_57_14 : xft 57 14 = some (.tableswitch 104 0 9 #[54, 59, 64, 69, 74, 79, 84, 89, 94, 99]) := by decide +kernel
set_option maxRecDepth 100000 in
theorem f_57_68 : xft 57 68 = some (.aload_n 3) := by decide +kernel
set_option maxRecDepth 100000 in
theorem f_57_69 : xft 57 69 = some (.getfield 117) := by decide +kernel
set_option maxRecDepth 100000 in
theorem f_57_72 : xft 57 72 = some (.ireturn) := by decide +kernel
set_option maxRecDepth 100000 in
theorem f_57_73 : xft 57 73 = some (.aload_n 3) := by decide +kernel
set_option maxRecDepth 100000 in
theorem f_57_74 : xft 57 74 = some (.getfield 143) := by decide +kernel
set_option maxRecDepth 100000 in
theorem f_57_77 : xft 57 77 = some (.ireturn) := by decide +kernel
set_option maxRecDepth 100000 in
theorem f_57_78 : xft 57 78 = some (.aload_n 3) := by decide +kernel
set_option maxRecDepth 100000 in
theorem f_57_79 : xft 57 79 = some (.getfield 109) := by decide +kernel
set_option maxRecDepth 100000 in
theorem f_57_82 : xft 57 82 = some (.ireturn) := by decide +kernel
set_option maxRecDepth 100000 in
theorem f_57_83 : xft 57 83 = some (.aload_n 3) := by decide +kernel
set_option maxRecDepth 100000 in
theorem f_57_84 : xft 57 84 = some (.getfield 146) := by decide +kernel
set_option maxRecDepth 100000 in
theorem f_57_87 : xft 57 87 = some (.ireturn) := by decide +kernel
set_option maxRecDepth 100000 in
theorem f_57_88 : xft 57 88 = some (.aload_n 3) := by decide +kernel
set_option maxRecDepth 100000 in
theorem f_57_89 : xft 57 89 = some (.getfield 149) := by decide +kernel
set_option maxRecDepth 100000 in
theorem f_57_92 : xft 57 92 = some (.ireturn) := by decide +kernel
set_option maxRecDepth 100000 in
theorem f_57_93 : xft 57 93 = some (.aload_n 3) := by decide +kernel
set_option maxRecDepth 100000 in
theorem f_57_94 : xft 57 94 = some (.getfield 152) := by decide +kernel
set_option maxRecDepth 100000 in
theorem f_57_97 : xft 57 97 = some (.ireturn) := by decide +kernel
set_option maxRecDepth 100000 in
theorem f_57_98 : xft 57 98 = some (.aload_n 3) := by decide +kernel
set_option maxRecDepth 100000 in
theorem f_57_99 : xft 57 99 = some (.invokevirtual 155) := by decide +kernel
set_option maxRecDepth 100000 in
theorem f_57_102 : xft 57 102 = some (.ireturn) := by decide +kernel
set_option maxRecDepth 100000 in
theorem f_57_103 : xft 57 103 = some (.aload_n 3) := by decide +kernel
set_option maxRecDepth 100000 in
theorem f_57_104 : xft 57 104 = some (.getfield 158) := by decide +kernel
set_option maxRecDepth 100000 in
theorem f_57_107 : xft 57 107 = some (.ireturn) := by decide +kernel
set_option maxRecDepth 100000 in
theorem f_57_108 : xft 57 108 = some (.aload_n 3) := by decide +kernel
set_option maxRecDepth 100000 in
theorem f_57_109 : xft 57 109 = some (.getfield 161) := by decide +kernel
set_option maxRecDepth 100000 in
theorem f_57_112 : xft 57 112 = some (.ireturn) := by decide +kernel
set_option maxRecDepth 100000 in
theorem f_57_113 : xft 57 113 = some (.aload_n 3) := by decide +kernel
set_option maxRecDepth 100000 in
theorem f_57_114 : xft 57 114 = some (.getfield 164) := by decide +kernel
set_option maxRecDepth 100000 in
theorem f_57_117 : xft 57 117 = some (.ireturn) := by decide +kernel
set_option maxRecDepth 100000 in
theorem f_57_118 : xft 57 118 = some (.aload_n 3) := by decide +kernel
set_option maxRecDepth 100000 in
theorem f_57_119 : xft 57 119 = some (.getfield 130) := by decide +kernel
set_option maxRecDepth 100000 in
theorem f_57_122 : xft 57 122 = some (.ifCond .eq 7) := by decide +kernel
set_option maxRecDepth 100000 in
theorem f_57_125 : xft 57 125 = some (.iconst 1) := by decide +kernel
set_option maxRecDepth 100000 in
theorem f_57_126 : xft 57 126 = some (.goto 4) := by decide +kernel
set_option maxRecDepth 100000 in
theorem f_57_129 : xft 57 129 = some (.iconst 0) := by decide +kernel
set_option maxRecDepth 100000 in
theorem f_57_130 : xft 57 130 = some (.ireturn) := by decide +kernel
set_option maxRecDepth 100000 in
theorem f_58_0 : xft 58 0 = some (.aload_n 0) := by decide +kernel
set_option maxRecDepth 100000 in
theorem f_58_1 : xft 58 1 = some (.iload_n 1) := by decide +kernel
set_option maxRecDepth 100000 in
theorem f_58_2 : xft 58 2 = some (.invokevirtual 105) := by decide +kernel
set_option maxRecDepth 100000 in
theorem f_58_5 : xft 58 5 = some (.astore 5) := by decide +kernel
set_option maxRecDepth 100000 in
theorem f_58_7 : xft 58 7 = some (.iload_n 2) := by decide +kernel
set_option maxRecDepth 100000 in
theorem f_58_8 : xft 58 8 = some (.bipush 8) := by decide +kernel
set_option maxRecDepth 100000 in
theorem f_58_10 : xft 58 10 = some (.invokestatic 71) := by decide +kernel
set_option maxRecDepth 100000 in
theorem f_58_13 : xft 58 13 = some (.iload_n 3) := by decide +kernel
set_option maxRecDepth 100000 in
theorem f_58_14 : xft 58 14 = some (.bipush 8) := by decide +kernel
set_option maxRecDepth 100000 in
theorem f_58_16 : xft 58 16 = some (.invokestatic 71) := by decide +kernel
set_option maxRecDepth 100000 in
theorem f_58_19 : xft 58 19 = some (.iload 4) := by decide +kernel
set_option maxRecDepth 100000 in
theorem f_58_21 : xft 58 21 = some (.aload 5) := by decide +kernel
set_option maxRecDepth 100000 in
theorem f_58_23 : xft 58 23 = some (.getfield 149) := by decide +kernel
set_option maxRecDepth 100000 in
theorem f_58_26 : xft 58 26 = some (.invokestatic 71) := by decide +kernel
set_option maxRecDepth 100000 in
theorem f_58_29 : xft 58 29 = some (.iload_n 2) := by decide +kernel
set_option maxRecDepth 100000 in
theorem f_58_30 : xft 58 30 = some (.iload_n 3) := by decide +kernel
set_option maxRecDepth 100000 in
theorem f_58_31 : xft 58 31 = some (.invokestatic 167) := by decide +kernel
set_option maxRecDepth 100000 in
theorem f_58_34 : xft 58 34 = some (.aload 5) := by decide +kernel
set_option maxRecDepth 100000 in
theorem f_58_36 : xft 58 36 = some (.getfield 140) := by decide +kernel
set_option maxRecDepth 100000 in
theorem f_58_39 : xft 58 39 = some (.ifCond .eq 19) := by decide +kernel
set_option maxRecDepth 100000 in
theorem f_58_42 : xft 58 42 = some (.aload 5) := by decide +kernel
set_option maxRecDepth 100000 in
theorem f_58_44 : xft 58 44 = some (.invokevirtual 126) := by decide +kernel
set_option maxRecDepth 100000 in
theorem f_58_47 : xft 58 47 = some (.ifCond .ne 11) := by decide +kernel
set_option maxRecDepth 100000 in
theorem f_58_50 : xft 58 50 = some (.aload 5) := by decide +kernel
set_option maxRecDepth 100000 in
theorem f_58_52 : xft 58 52 = some (.getfield 130) := by decide +kernel
set_option maxRecDepth 100000 in
theorem f_58_55 : xft 58 55 = some (.ifCond .eq 13) := by decide +kernel
set_option maxRecDepth 100000 in
theorem f_58_58 : xft 58 58 = some (.new 57) := by decide +kernel
set_option maxRecDepth 100000 in
theorem f_58_61 : xft 58 61 = some (.dup) := by decide +kernel
set_option maxRecDepth 100000 in
theorem f_58_62 : xft 58 62 = some (.ldc 170) := by decide +kernel
set_option maxRecDepth 100000 in
theorem f_58_64 : xft 58 64 = some (.invokespecial 61) := by decide +kernel
set_option maxRecDepth 100000 in
theorem f_58_67 : xft 58 67 = some (.athrow) := by decide +kernel
set_option maxRecDepth 100000 in
theorem f_58_68 : xft 58 68 = some (.aload 5) := by decide +kernel
set_option maxRecDepth 100000 in
theorem f_58_70 : xft 58 70 = some (.iload_n 2) := by decide +kernel
set_option maxRecDepth 100000 in
theorem f_58_71 : xft 58 71 = some (.iload_n 3) := by decide +kernel
set_option maxRecDepth 100000 in
theorem f_58_72 : xft 58 72 = some (.invokestatic 172) := by decide +kernel
set_option maxRecDepth 100000 in
theorem f_58_75 : xft 58 75 = some (.putfield 158) := by decide +kernel
set_option maxRecDepth 100000 in
theorem f_58_78 : xft 58 78 = some (.aload 5) := by decide +kernel
set_option maxRecDepth 100000 in
theorem f_58_80 : xft 58 80 = some (.iload_n 2) := by decide +kernel
set_option maxRecDepth 100000 in
theorem f_58_81 : xft 58 81 = some (.iload_n 3) := by decide +kernel
set_option maxRecDepth 100000 in
theorem f_58_82 : xft 58 82 = some (.invokestatic 177) := by decide +kernel
set_option maxRecDepth 100000 in
theorem f_58_85 : xft 58 85 = some (.putfield 161) := by decide +kernel
set_option maxRecDepth 100000 in
theorem f_58_88 : xft 58 88 = some (.aload 5) := by decide +kernel
set_option maxRecDepth 100000 in
theorem f_58_90 : xft 58 90 = some (.aload 5) := by decide +kernel
set_option maxRecDepth 100000 in
theorem f_58_92 : xft 58 92 = some (.iload 4) := by decide +kernel
set_option maxRecDepth 100000 in
theorem f_58_94 : xft 58 94 = some (.invokevirtual 180) := by decide +kernel
set_option maxRecDepth 100000 in
theorem f_58_97 : xft 58 97 = some (.putfield 164) := by decide +kernel
set_option maxRecDepth 100000 in
theorem f_58_100 : xft 58 100 = some (.aload 5) := by decide +kernel
set_option maxRecDepth 100000 in
theorem f_58_102 : xft 58 102 = some (.getfield 164) := by decide +kernel
set_option maxRecDepth 100000 in
theorem f_58_105 : xft 58 105 = some (.ireturn) := by decide +kernel
set_option maxRecDepth 100000 in
theorem f_59_0 : xft 59 0 = some (.aload_n 0) := by decide +kernel
set_option maxRecDepth 100000 in
theorem f_59_1 : xft 59 1 = some (.iload_n 1) := by decide +kernel
set_option maxRecDepth 100000 in
theorem f_59_2 : xft 59 2 = some (.invokevirtual 105) := by decide +kernel
set_option maxRecDepth 100000 in
theorem f_59_5 : xft 59 5 = some (.astore_n 2) := by decide +kernel
set_option maxRecDepth 100000 in
theorem f_59_6 : xft 59 6 = some (.aload_n 2) := by decide +kernel
set_option maxRecDepth 100000 in
theorem f_59_7 : xft 59 7 = some (.invokevirtual 126) := by decide +kernel
set_option maxRecDepth 100000 in
theorem f_59_10 : xft 59 10 = some (.ifCond .ne 13) := by decide +kernel
set_option maxRecDepth 100000 in
theorem f_59_13 : xft 59 13 = some (.new 57) := by decide +kernel
set_option maxRecDepth 100000 in
theorem f_59_16 : xft 59 16 = some (.dup) := by decide +kernel
set_option maxRecDepth 100000 in
theorem f_59_17 : xft 59 17 = some (.ldc 183) := by decide +kernel
set_option maxRecDepth 100000 in
theorem f_59_19 : xft 59 19 = some (.invokespecial 61) := by decide +kernel
set_option maxRecDepth 100000 in
theorem f_59_22 : xft 59 22 = some (.athrow) := by decide +kernel
set_option maxRecDepth 100000 in
theorem f_59_23 : xft 59 23 = some (.aload_n 2) := by decide +kernel
set_option maxRecDepth 100000 in
theorem f_59_24 : xft 59 24 = some (.getfield 164) := by decide +kernel
set_option maxRecDepth 100000 in
theorem f_59_27 : xft 59 27 = some (.istore_n 3) := by decide +kernel
set_option maxRecDepth 100000 in
theorem f_59_28 : xft 59 28 = some (.aload_n 2) := by decide +kernel
set_option maxRecDepth 100000 in
theorem f_59_29 : xft 59 29 = some (.invokevirtual 185) := by decide +kernel
set_option maxRecDepth 100000 in
theorem f_59_32 : xft 59 32 = some (.iload_n 3) := by decide +kernel
set_option maxRecDepth 100000 in
theorem f_59_33 : xft 59 33 = some (.ireturn) := by decide +kernel
set_option maxRecDepth 100000 in
theorem f_60_0 : xft 60 0 = some (.aload_n 0) := by decide +kernel
set_option maxRecDepth 100000 in
theorem f_60_1 : xft 60 1 = some (.iload_n 1) := by decide +kernel
set_option maxRecDepth 100000 in
theorem f_60_2 : xft 60 2 = some (.invokevirtual 105) := by decide +kernel
set_option maxRecDepth 100000 in
theorem f_60_5 : xft 60 5 = some (.astore 5) := by decide +kernel
set_option maxRecDepth 100000 in
theorem f_60_7 : xft 60 7 = some (.iload_n 2) := by decide +kernel
set_option maxRecDepth 100000 in
theorem f_60_8 : xft 60 8 = some (.iload_n 3) := by decide +kernel
set_option maxRecDepth 100000 in
theorem f_60_9 : xft 60 9 = some (.invokestatic 188) := by decide +kernel
set_option maxRecDepth 100000 in
theorem f_60_12 : xft 60 12 = some (.iload 4) := by decide +kernel
set_option maxRecDepth 100000 in
theorem f_60_14 : xft 60 14 = some (.iconst 1) := by decide +kernel
set_option maxRecDepth 100000 in
theorem f_60_15 : xft 60 15 = some (.sipush 9999) := by decide +kernel
set_option maxRecDepth 100000 in
theorem f_60_18 : xft 60 18 = some (.invokestatic 49) := by decide +kernel
set_option maxRecDepth 100000 in
theorem f_60_21 : xft 60 21 = some (.aload_n 0) := by decide +kernel
set_option maxRecDepth 100000 in
theorem f_60_22 : xft 60 22 = some (.getfield 24) := by decide +kernel
set_option maxRecDepth 100000 in
theorem f_60_25 : xft 60 25 = some (.aload_n 0) := by decide +kernel
set_option maxRecDepth 100000 in
theorem f_60_26 : xft 60 26 = some (.getfield 17) := by decide +kernel
set_option maxRecDepth 100000 in
theorem f_60_29 : xft 60 29 = some (.iload_n 2) := by decide +kernel
set_option maxRecDepth 100000 in
theorem f_60_30 : xft 60 30 = some (.iload_n 3) := by decide +kernel
set_option maxRecDepth 100000 in
theorem f_60_31 : xft 60 31 = some (.invokevirtual 191) := by decide +kernel
set_option maxRecDepth 100000 in
theorem f_60_34 : xft 60 34 = some (.aload_n 0) := by decide +kernel
set_option maxRecDepth 100000 in
theorem f_60_35 : xft 60 35 = some (.getfield 24) := by decide +kernel
set_option maxRecDepth 100000 in
theorem f_60_38 : xft 60 38 = some (.aload 5) := by decide +kernel
set_option maxRecDepth 100000 in
theorem f_60_40 : xft 60 40 = some (.iload 4) := by decide +kernel
set_option maxRecDepth 100000 in
theorem f_60_42 : xft 60 42 = some (.invokevirtual 195) := by decide +kernel
set_option maxRecDepth 100000 in
theorem f_60_45 : xft 60 45 = some (.ireturn) := by decide +kernel
set_option maxRecDepth 100000 in
theorem f_61_0 : xft 61 0 = some (.iload_n 1) := by decide +kernel
set_option maxRecDepth 100000 in
theorem f_61_1 : xft 61 1 = some (.bipush 8) := by decide +kernel
set_option maxRecDepth 100000 in
theorem f_61_3 : xft 61 3 = some (.invokestatic 71) := by decide +kernel
set_option maxRecDepth 100000 in
theorem f_61_6 : xft 61 6 = some (.iload_n 2) := by decide +kernel
set_option maxRecDepth 100000 in
theorem f_61_7 : xft 61 7 = some (.bipush 8) := by decide +kernel
set_option maxRecDepth 100000 in
theorem f_61_9 : xft 61 9 = some (.invokestatic 71) := by decide +kernel
set_option maxRecDepth 100000 in
theorem f_61_12 : xft 61 12 = some (.iload_n 3) := by decide +kernel
set_option maxRecDepth 100000 in
theorem f_61_13 : xft 61 13 = some (.ifCond .ge 13) := by decide +kernel
set_option maxRecDepth 100000 in
theorem f_61_16 : xft 61 16 = some (.new 199) := by decide +kernel
set_option maxRecDepth 100000 in
theorem f_61_19 : xft 61 19 = some (.dup) := by decide +kernel
set_option maxRecDepth 100000 in
theorem f_61_20 : xft 61 20 = some (.ldc 201) := by decide +kernel
set_option maxRecDepth 100000 in
theorem f_61_22 : xft 61 22 = some (.invokespecial 203) := by decide +kernel
set_option maxRecDepth 100000 in
theorem f_61_25 : xft 61 25 = some (.athrow) := by decide +kernel
set_option maxRecDepth 100000 in
theorem f_61_26 : xft 61 26 = some (.iload_n 1) := by decide +kernel
set_option maxRecDepth 100000 in
theorem f_61_27 : xft 61 27 = some (.iload_n 2) := by decide +kernel
set_option maxRecDepth 100000 in
theorem f_61_28 : xft 61 28 = some (.invokestatic 167) := by decide +kernel
set_option maxRecDepth 100000 in
theorem f_61_31 : xft 61 31 = some (.aload_n 0) := by decide +kernel
set_option maxRecDepth 100000 in
theorem f_61_32 : xft 61 32 = some (.getfield 24) := by decide +kernel
set_option maxRecDepth 100000 in
theorem f_61_35 : xft 61 35 = some (.aload_n 0) := by decide +kernel
set_option maxRecDepth 100000 in
theorem f_61_36 : xft 61 36 = some (.getfield 17) := by decide +kernel
set_option maxRecDepth 100000 in
theorem f_61_39 : xft 61 39 = some (.iload_n 1) := by decide +kernel
set_option maxRecDepth 100000 in
theorem f_61_40 : xft 61 40 = some (.iload_n 2) := by decide +kernel
set_option maxRecDepth 100000 in
theorem f_61_41 : xft 61 41 = some (.invokevirtual 191) := by decide +kernel
set_option maxRecDepth 100000 in
theorem f_61_44 : xft 61 44 = some (.aload_n 0) := by decide +kernel
set_option maxRecDepth 100000 in
theorem f_61_45 : xft 61 45 = some (.getfield 24) := by decide +kernel
set_option maxRecDepth 100000 in
theorem f_61_48 : xft 61 48 = some (.iload_n 3) := by decide +kernel
set_option maxRecDepth 100000 in
theorem f_61_49 : xft 61 49 = some (.invokevirtual 204) := by decide +kernel
set_option maxRecDepth 100000 in
theorem f_61_52 : xft 61 52 = some (.ireturn) := by decide +kernel
set_option maxRecDepth 100000 in
theorem f_62_0 : xft 62 0 = some (.iload_n 1) := by decide +kernel
set_option maxRecDepth 100000 in
theorem f_62_1 : xft 62 1 = some (.iload_n 2) := by decide +kernel
set_option maxRecDepth 100000 in
theorem f_62_2 : xft 62 2 = some (.invokestatic 188) := by decide +kernel
set_option maxRecDepth 100000 in
theorem f_62_5 : xft 62 5 = some (.iload_n 3) := by decide +kernel
set_option maxRecDepth 100000 in
theorem f_62_6 : xft 62 6 = some (.iconst 1) := by decide +kernel
set_option maxRecDepth 100000 in
theorem f_62_7 : xft 62 7 = some (.sipush 9999) := by decide +kernel
set_option maxRecDepth 100000 in
theorem f_62_10 : xft 62 10 = some (.invokestatic 49) := by decide +kernel
set_option maxRecDepth 100000 in
theorem f_62_13 : xft 62 13 = some (.aload_n 0) := by decide +kernel
set_option maxRecDepth 100000 in
theorem f_62_14 : xft 62 14 = some (.getfield 24) := by decide +kernel
set_option maxRecDepth 100000 in
theorem f_62_17 : xft 62 17 = some (.aload_n 0) := by decide +kernel
set_option maxRecDepth 100000 in
theorem f_62_18 : xft 62 18 = some (.getfield 17) := by decide +kernel
set_option maxRecDepth 100000 in
theorem f_62_21 : xft 62 21 = some (.iload_n 1) := by decide +kernel
set_option maxRecDepth 100000 in
theorem f_62_22 : xft 62 22 = some (.iload_n 2) := by decide +kernel
set_option maxRecDepth 100000 in
theorem f_62_23 : xft 62 23 = some (.invokevirtual 191) := by decide +kernel
set_option maxRecDepth 100000 in
theorem f_62_26 : xft 62 26 = some (.aload_n 0) := by decide +kernel
set_option maxRecDepth 100000 in
theorem f_62_27 : xft 62 27 = some (.getfield 24) := by decide +kernel
set_option maxRecDepth 100000 in
theorem f_62_30 : xft 62 30 = some (.invokevirtual 207) := by decide +kernel
set_option maxRecDepth 100000 in
theorem f_62_33 : xft 62 33 = some (.ifCond .ne 13) := by decide +kernel
set_option maxRecDepth 100000 in
theorem f_62_36 : xft 62 36 = some (.new 57) := by decide +kernel
set_option maxRecDepth 100000 in
theorem f_62_39 : xft 62 39 = some (.dup) := by decide +kernel
set_option maxRecDepth 100000 in
theorem f_62_40 : xft 62 40 = some (.ldc 210) := by decide +kernel
set_option maxRecDepth 100000 in
theorem f_62_42 : xft 62 42 = some (.invokespecial 61) := by decide +kernel
set_option maxRecDepth 100000 in
theorem f_62_45 : xft 62 45 = some (.athrow) := by decide +kernel
set_option maxRecDepth 100000 in
theorem f_62_46 : xft 62 46 = some (.aload_n 0) := by decide +kernel
set_option maxRecDepth 100000 in
theorem f_62_47 : xft 62 47 = some (.iload_n 1) := by decide +kernel
set_option maxRecDepth 100000 in
theorem f_62_48 : xft 62 48 = some (.iload_n 2) := by decide +kernel
set_option maxRecDepth 100000 in
theorem f_62_49 : xft 62 49 = some (.iload_n 3) := by decide +kernel
set_option maxRecDepth 100000 in
theorem f_62_50 : xft 62 50 = some (.invokevirtual 212) := by decide +kernel
set_option maxRecDepth 100000 in
theorem f_62_53 : xft 62 53 = some (.istore 4) := by decide +kernel
set_option maxRecDepth 100000 in
theorem f_62_55 : xft 62 55 = some (.aload_n 0) := by decide +kernel
set_option maxRecDepth 100000 in
theorem f_62_56 : xft 62 56 = some (.iload_n 3) := by decide +kernel
set_option maxRecDepth 100000 in
theorem f_62_57 : xft 62 57 = some (.invokevirtual 216) := by decide +kernel
set_option maxRecDepth 100000 in
theorem f_62_60 : xft 62 60 = some (.iload 4) := by decide +kernel
set_option maxRecDepth 100000 in
theorem f_62_62 : xft 62 62 = some (.ireturn) := by decide +kernel
set_option maxRecDepth 100000 in
theorem f_63_0 : xft 63 0 = some (.iload_n 1) := by decide +kernel
set_option maxRecDepth 100000 in
theorem f_63_1 : xft 63 1 = some (.iload_n 2) := by decide +kernel
set_option maxRecDepth 100000 in
theorem f_63_2 : xft 63 2 = some (.invokestatic 188) := by decide +kernel
set_option maxRecDepth 100000 in
theorem f_63_5 : xft 63 5 = some (.aload_n 0) := by decide +kernel
set_option maxRecDepth 100000 in
theorem f_63_6 : xft 63 6 = some (.getfield 24) := by decide +kernel
set_option maxRecDepth 100000 in
theorem f_63_9 : xft 63 9 = some (.aload_n 0) := by decide +kernel
set_option maxRecDepth 100000 in
theorem f_63_10 : xft 63 10 = some (.getfield 17) := by decide +kernel
set_option maxRecDepth 100000 in
theorem f_63_13 : xft 63 13 = some (.iload_n 1) := by decide +kernel
set_option maxRecDepth 100000 in
theorem f_63_14 : xft 63 14 = some (.iload_n 2) := by decide +kernel
set_option maxRecDepth 100000 in
theorem f_63_15 : xft 63 15 = some (.invokevirtual 191) := by decide +kernel
set_option maxRecDepth 100000 in
theorem f_63_18 : xft 63 18 = some (.aload_n 0) := by decide +kernel
set_option maxRecDepth 100000 in
theorem f_63_19 : xft 63 19 = some (.getfield 24) := by decide +kernel
set_option maxRecDepth 100000 in
theorem f_63_22 : xft 63 22 = some (.invokevirtual 207) := by decide +kernel
set_option maxRecDepth 100000 in
theorem f_63_25 : xft 63 25 = some (.ifCond .ne 5) := by decide +kernel
set_option maxRecDepth 100000 in
theorem f_63_28 : xft 63 28 = some (.iconst (-1)) := by decide +kernel
set_option maxRecDepth 100000 in
theorem f_63_29 : xft 63 29 = some (.ireturn) := by decide +kernel
set_option maxRecDepth 100000 in
theorem f_63_30 : xft 63 30 = some (.sipush 9999) := by decide +kernel
set_option maxRecDepth 100000 in
theorem f_63_33 : xft 63 33 = some (.istore_n 3) := by decide +kernel
set_option maxRecDepth 100000 in
theorem f_63_34 : xft 63 34 = some (.iconst 0) := by decide +kernel
set_option maxRecDepth 100000 in
theorem f_63_35 : xft 63 35 = some (.istore 4) := by decide +kernel
set_option maxRecDepth 100000 in
theorem f_63_37 : xft 63 37 = some (.iload 4) := by decide +kernel
set_option maxRecDepth 100000 in
theorem f_63_39 : xft 63 39 = some (.aload_n 0) := by decide +kernel
set_option maxRecDepth 100000 in
theorem f_63_40 : xft 63 40 = some (.getfield 89) := by decide +kernel
set_option maxRecDepth 100000 in
theorem f_63_43 : xft 63 43 = some (.if_icmp .ge 49) := by decide +kernel
set_option maxRecDepth 100000 in
theorem f_63_46 : xft 63 46 = some (.aload_n 0) := by decide +kernel
set_option maxRecDepth 100000 in
theorem f_63_47 : xft 63 47 = some (.getfield 17) := by decide +kernel
set_option maxRecDepth 100000 in
theorem f_63_50 : xft 63 50 = some (.iload 4) := by decide +kernel
set_option maxRecDepth 100000 in
theorem f_63_52 : xft 63 52 = some (.aaload) := by decide +kernel
set_option maxRecDepth 100000 in
theorem f_63_53 : xft 63 53 = some (.astore 5) := by decide +kernel
set_option maxRecDepth 100000 in
theorem f_63_55 : xft 63 55 = some (.aload 5) := by decide +kernel
set_option maxRecDepth 100000 in
theorem f_63_57 : xft 63 57 = some (.ifnull 29) := by decide +kernel
set_option maxRecDepth 100000 in
theorem f_63_60 : xft 63 60 = some (.aload_n 0) := by decide +kernel
set_option maxRecDepth 100000 in
theorem f_63_61 : xft 63 61 = some (.getfield 24) := by decide +kernel
set_option maxRecDepth 100000 in
theorem f_63_64 : xft 63 64 = some (.aload 5) := by decide +kernel
set_option maxRecDepth 100000 in
theorem f_63_66 : xft 63 66 = some (.invokevirtual 219) := by decide +kernel
set_option maxRecDepth 100000 in
theorem f_63_69 : xft 63 69 = some (.ifCond .eq 17) := by decide +kernel
set_option maxRecDepth 100000 in
theorem f_63_72 : xft 63 72 = some (.iload_n 3) := by decide +kernel
set_option maxRecDepth 100000 in
theorem f_63_73 : xft 63 73 = some (.aload_n 0) := by decide +kernel
set_option maxRecDepth 100000 in
theorem f_63_74 : xft 63 74 = some (.getfield 24) := by decide +kernel
set_option maxRecDepth 100000 in
theorem f_63_77 : xft 63 77 = some (.aload 5) := by decide +kernel
set_option maxRecDepth 100000 in
theorem f_63_79 : xft 63 79 = some (.invokevirtual 223) := by decide +kernel
set_option maxRecDepth 100000 in
theorem f_63_82 : xft 63 82 = some (.invokestatic 172) := by decide +kernel
set_option maxRecDepth 100000 in
theorem f_63_85 : xft 63 85 = some (.istore_n 3) := by decide +kernel
set_option maxRecDepth 100000 in
theorem f_63_86 : xft 63 86 = some (.iinc 4 1) := by decide +kernel
set_option maxRecDepth 100000 in
theorem f_63_89 : xft 63 89 = some (.goto (-52)) := by decide +kernel
set_option maxRecDepth 100000 in
theorem f_63_92 : xft 63 92 = some (.iload_n 3) := by decide +kernel
set_option maxRecDepth 100000 in
theorem f_63_93 : xft 63 93 = some (.ireturn) := by decide +kernel
set_option maxRecDepth 100000 in
theorem f_64_0 : xft 64 0 = some (.aload_n 0) := by decide +kernel
set_option maxRecDepth 100000 in
theorem f_64_1 : xft 64 1 = some (.iload_n 1) := by decide +kernel
set_option maxRecDepth 100000 in
theorem f_64_2 : xft 64 2 = some (.invokevirtual 105) := by decide +kernel
set_option maxRecDepth 100000 in
theorem f_64_5 : xft 64 5 = some (.astore_n 2) := by decide +kernel
set_option maxRecDepth 100000 in
theorem f_64_6 : xft 64 6 = some (.aload_n 2) := by decide +kernel
set_option maxRecDepth 100000 in
theorem f_64_7 : xft 64 7 = some (.aload_n 2) := by decide +kernel
set_option maxRecDepth 100000 in
theorem f_64_8 : xft 64 8 = some (.getfield 152) := by decide +kernel
set_option maxRecDepth 100000 in
theorem f_64_11 : xft 64 11 = some (.iconst 2) := by decide +kernel
set_option maxRecDepth 100000 in
theorem f_64_12 : xft 64 12 = some (.idiv) := by decide +kernel
set_option maxRecDepth 100000 in
theorem f_64_13 : xft 64 13 = some (.putfield 152) := by decide +kernel
set_option maxRecDepth 100000 in
theorem f_64_16 : xft 64 16 = some (.aload_n 2) := by decide +kernel
set_option maxRecDepth 100000 in
theorem f_64_17 : xft 64 17 = some (.getfield 152) := by decide +kernel
set_option maxRecDepth 100000 in
theorem f_64_20 : xft 64 20 = some (.ireturn) := by decide +kernel
set_option maxRecDepth 100000 in
theorem f_65_0 : xft 65 0 = some (.aload_n 0) := by decide +kernel
set_option maxRecDepth 100000 in
theorem f_65_1 : xft 65 1 = some (.iload_n 1) := by decide +kernel
set_option maxRecDepth 100000 in
theorem f_65_2 : xft 65 2 = some (.invokevirtual 105) := by decide +kernel
set_option maxRecDepth 100000 in
theorem f_65_5 : xft 65 5 = some (.astore 5) := by decide +kernel
set_option maxRecDepth 100000 in
theorem f_65_7 : xft 65 7 = some (.aload_n 0) := by decide +kernel
set_option maxRecDepth 100000 in
theorem f_65_8 : xft 65 8 = some (.iload_n 2) := by decide +kernel
set_option maxRecDepth 100000 in
theorem f_65_9 : xft 65 9 = some (.invokevirtual 105) := by decide +kernel
set_option maxRecDepth 100000 in
theorem f_65_12 : xft 65 12 = some (.astore 6) := by decide +kernel
set_option maxRecDepth 100000 in
theorem f_65_14 : xft 65 14 = some (.iload_n 1) := by decide +kernel
set_option maxRecDepth 100000 in
theorem f_65_15 : xft 65 15 = some (.iload_n 2) := by decide +kernel
set_option maxRecDepth 100000 in
theorem f_65_16 : xft 65 16 = some (.invokestatic 167) := by decide +kernel
set_option maxRecDepth 100000 in
theorem f_65_19 : xft 65 19 = some (.iload_n 3) := by decide +kernel
set_option maxRecDepth 100000 in
theorem f_65_20 : xft 65 20 = some (.iconst 1) := by decide +kernel
set_option maxRecDepth 100000 in
theorem f_65_21 : xft 65 21 = some (.bipush 12) := by decide +kernel
set_option maxRecDepth 100000 in
theorem f_65_23 : xft 65 23 = some (.invokestatic 49) := by decide +kernel
set_option maxRecDepth 100000 in
theorem f_65_26 : xft 65 26 = some (.iload 4) := by decide +kernel
set_option maxRecDepth 100000 in
theorem f_65_28 : xft 65 28 = some (.iconst 1) := by decide +kernel
set_option maxRecDepth 100000 in
theorem f_65_29 : xft 65 29 = some (.bipush 50) := by decide +kernel
set_option maxRecDepth 100000 in
theorem f_65_31 : xft 65 31 = some (.invokestatic 49) := by decide +kernel
set_option maxRecDepth 100000 in
theorem f_65_34 : xft 65 34 = some (.aload 5) := by decide +kernel
set_option maxRecDepth 100000 in
theorem f_65_36 : xft 65 36 = some (.invokevirtual 227) := by decide +kernel
set_option maxRecDepth 100000 in
theorem f_65_39 : xft 65 39 = some (.ifCond .eq 11) := by decide +kernel
set_option maxRecDepth 100000 in
theorem f_65_42 : xft 65 42 = some (.aload 6) := by decide +kernel
set_option maxRecDepth 100000 in
theorem f_65_44 : xft 65 44 = some (.invokevirtual 227) := by decide +kernel
set_option maxRecDepth 100000 in
theorem f_65_47 : xft 65 47 = some (.ifCond .ne 13) := by decide +kernel
set_option maxRecDepth 100000 in
theorem f_65_50 : xft 65 50 = some (.new 57) := by decide +kernel
set_option maxRecDepth 100000 in
theorem f_65_53 : xft 65 53 = some (.dup) := by decide +kernel
set_option maxRecDepth 100000 in
theorem f_65_54 : xft 65 54 = some (.ldc 230) := by decide +kernel
set_option maxRecDepth 100000 in
theorem f_65_56 : xft 65 56 = some (.invokespecial 61) := by decide +kernel
set_option maxRecDepth 100000 in
theorem f_65_59 : xft 65 59 = some (.athrow) := by decide +kernel
set_option maxRecDepth 100000 in
theorem f_65_60 : xft 65 60 = some (.aload 5) := by decide +kernel
set_option maxRecDepth 100000 in
theorem f_65_62 : xft 65 62 = some (.dup) := by decide +kernel
set_option maxRecDepth 100000 in
theorem f_65_63 : xft 65 63 = some (.getfield 112) := by decide +kernel
set_option maxRecDepth 100000 in
theorem f_65_66 : xft 65 66 = some (.iconst 1) := by decide +kernel
set_option maxRecDepth 100000 in
theorem f_65_67 : xft 65 67 = some (.iadd) := by decide +kernel
set_option maxRecDepth 100000 in
theorem f_65_68 : xft 65 68 = some (.putfield 112) := by decide +kernel
set_option maxRecDepth 100000 in
theorem f_65_71 : xft 65 71 = some (.aload 6) := by decide +kernel
set_option maxRecDepth 100000 in
theorem f_65_73 : xft 65 73 = some (.dup) := by decide +kernel
set_option maxRecDepth 100000 in
theorem f_65_74 : xft 65 74 = some (.getfield 112) := by decide +kernel
set_option maxRecDepth 100000 in
theorem f_65_77 : xft 65 77 = some (.iconst 1) := by decide +kernel
set_option maxRecDepth 100000 in
theorem f_65_78 : xft 65 78 = some (.iadd) := by decide +kernel
set_option maxRecDepth 100000 in
theorem f_65_79 : xft 65 79 = some (.putfield 112) := by decide +kernel
set_option maxRecDepth 100000 in
theorem f_65_82 : xft 65 82 = some (.aload 5) := by decide +kernel
set_option maxRecDepth 100000 in
theorem f_65_84 : xft 65 84 = some (.getfield 117) := by decide +kernel
set_option maxRecDepth 100000 in
theorem f_65_87 : xft 65 87 = some (.aload 6) := by decide +kernel
set_option maxRecDepth 100000 in
theorem f_65_89 : xft 65 89 = some (.getfield 117) := by decide +kernel
set_option maxRecDepth 100000 in
theorem f_65_92 : xft 65 92 = some (.invokestatic 172) := by decide +kernel
set_option maxRecDepth 100000 in
theorem f_65_95 : xft 65 95 = some (.istore 7) := by decide +kernel
set_option maxRecDepth 100000 in
theorem f_65_97 : xft 65 97 = some (.aload 5) := by decide +kernel
set_option maxRecDepth 100000 in
theorem f_65_99 : xft 65 99 = some (.getfield 109) := by decide +kernel
set_option maxRecDepth 100000 in
theorem f_65_102 : xft 65 102 = some (.aload 6) := by decide +kernel
set_option maxRecDepth 100000 in
theorem f_65_104 : xft 65 104 = some (.getfield 109) := by decide +kernel
set_option maxRecDepth 100000 in
theorem f_65_107 : xft 65 107 = some (.invokestatic 172) := by decide +kernel
set_option maxRecDepth 100000 in
theorem f_65_110 : xft 65 110 = some (.istore 8) := by decide +kernel
set_option maxRecDepth 100000 in
theorem f_65_112 : xft 65 112 = some (.iload_n 3) := by decide +kernel
set_option maxRecDepth 100000 in
theorem f_65_113 : xft 65 113 = some (.iload 7) := by decide +kernel
set_option maxRecDepth 100000 in
theorem f_65_115 : xft 65 115 = some (.imul) := by decide +kernel
set_option maxRecDepth 100000 in
theorem f_65_116 : xft 65 116 = some (.iload 4) := by decide +kernel
set_option maxRecDepth 100000 in
theorem f_65_118 : xft 65 118 = some (.imul) := by decide +kernel
set_option maxRecDepth 100000 in
theorem f_65_119 : xft 65 119 = some (.istore 9) := by decide +kernel
set_option maxRecDepth 100000 in
theorem f_65_121 : xft 65 121 = some (.iload 8) := by decide +kernel
set_option maxRecDepth 100000 in
theorem f_65_123 : xft 65 123 = some (.bipush 20) := by decide +kernel
set_option maxRecDepth 100000 in
theorem f_65_125 : xft 65 125 = some (.iload_n 3) := by decide +kernel
set_option maxRecDepth 100000 in
theorem f_65_126 : xft 65 126 = some (.isub) := by decide +kernel
set_option maxRecDepth 100000 in
theorem f_65_127 : xft 65 127 = some (.imul) := by decide +kernel
set_option maxRecDepth 100000 in
theorem f_65_128 : xft 65 128 = some (.iload 7) := by decide +kernel
set_option maxRecDepth 100000 in
theorem f_65_130 : xft 65 130 = some (.imul) := by decide +kernel
set_option maxRecDepth 100000 in
theorem f_65_131 : xft 65 131 = some (.istore 10) := by decide +kernel
set_option maxRecDepth 100000 in
theorem f_65_133 : xft 65 133 = some (.iload 9) := by decide +kernel
set_option maxRecDepth 100000 in
theorem f_65_135 : xft 65 135 = some (.iload 10) := by decide +kernel
set_option maxRecDepth 100000 in
theorem f_65_137 : xft 65 137 = some (.invokestatic 172) := by decide +kernel
set_option maxRecDepth 100000 in
theorem f_65_140 : xft 65 140 = some (.ireturn) := by decide +kernel
set_option maxRecDepth 100000 in
theorem f_66_0 : xft 66 0 = some (.aload_n 0) := by decide +kernel
set_option maxRecDepth 100000 in
theorem f_66_1 : xft 66 1 = some (.iload_n 1) := by decide +kernel
set_option maxRecDepth 100000 in
theorem f_66_2 : xft 66 2 = some (.invokevirtual 232) := by decide +kernel
set_option maxRecDepth 100000 in
theorem f_66_5 : xft 66 5 = some (.astore 4) := by decide +kernel
set_option maxRecDepth 100000 in
theorem f_66_7 : xft 66 7 = some (.iload_n 2) := by decide +kernel
set_option maxRecDepth 100000 in
theorem f_66_8 : xft 66 8 = some (.bipush 7) := by decide +kernel
set_option maxRecDepth 100000 in
theorem f_66_10 : xft 66 10 = some (.invokestatic 71) := by decide +kernel
set_option maxRecDepth 100000 in
theorem f_66_13 : xft 66 13 = some (.iload_n 3) := by decide +kernel
set_option maxRecDepth 100000 in
theorem f_66_14 : xft 66 14 = some (.bipush (-50)) := by decide +kernel
set_option maxRecDepth 100000 in
theorem f_66_16 : xft 66 16 = some (.bipush 50) := by decide +kernel
set_option maxRecDepth 100000 in
theorem f_66_18 : xft 66 18 = some (.invokestatic 49) := by decide +kernel
set_option maxRecDepth 100000 in
theorem f_66_21 : xft 66 21 = some (.aload 4) := by decide +kernel
set_option maxRecDepth 100000 in
theorem f_66_23 : xft 66 23 = some (.getfield 236) := by decide +kernel
set_option maxRecDepth 100000 in
theorem f_66_26 : xft 66 26 = some (.iload_n 2) := by decide +kernel
set_option maxRecDepth 100000 in
theorem f_66_27 : xft 66 27 = some (.iaload) := by decide +kernel
set_option maxRecDepth 100000 in
theorem f_66_28 : xft 66 28 = some (.istore 5) := by decide +kernel
set_option maxRecDepth 100000 in
theorem f_66_30 : xft 66 30 = some (.aload 4) := by decide +kernel
set_option maxRecDepth 100000 in
theorem f_66_32 : xft 66 32 = some (.getfield 236) := by decide +kernel
set_option maxRecDepth 100000 in
theorem f_66_35 : xft 66 35 = some (.iload_n 2) := by decide +kernel
set_option maxRecDepth 100000 in
theorem f_66_36 : xft 66 36 = some (.iload_n 3) := by decide +kernel
set_option maxRecDepth 100000 in
theorem f_66_37 : xft 66 37 = some (.iastore) := by decide +kernel
set_option maxRecDepth 100000 in
theorem f_66_38 : xft 66 38 = some (.iload 5) := by decide +kernel
set_option maxRecDepth 100000 in
theorem f_66_40 : xft 66 40 = some (.ireturn) := by decide +kernel
set_option maxRecDepth 100000 in
theorem f_67_0 : xft 67 0 = some (.aload_n 0) := by decide +kernel
set_option maxRecDepth 100000 in
theorem f_67_1 : xft 67 1 = some (.iload_n 1) := by decide +kernel
set_option maxRecDepth 100000 in
theorem f_67_2 : xft 67 2 = some (.invokevirtual 240) := by decide +kernel
set_option maxRecDepth 100000 in
theorem f_67_5 : xft 67 5 = some (.astore 4) := by decide +kernel
set_option maxRecDepth 100000 in
theorem f_67_7 : xft 67 7 = some (.iload_n 2) := by decide +kernel
set_option maxRecDepth 100000 in
theorem f_67_8 : xft 67 8 = some (.bipush 7) := by decide +kernel
set_option maxRecDepth 100000 in
theorem f_67_10 : xft 67 10 = some (.invokestatic 71) := by decide +kernel
set_option maxRecDepth 100000 in
theorem f_67_13 : xft 67 13 = some (.iload_n 3) := by decide +kernel
set_option maxRecDepth 100000 in
theorem f_67_14 : xft 67 14 = some (.bipush (-50)) := by decide +kernel
set_option maxRecDepth 100000 in
theorem f_67_16 : xft 67 16 = some (.bipush 50) := by decide +kernel
set_option maxRecDepth 100000 in
theorem f_67_18 : xft 67 18 = some (.invokestatic 49) := by decide +kernel
set_option maxRecDepth 100000 in
theorem f_67_21 : xft 67 21 = some (.aload 4) := by decide +kernel
set_option maxRecDepth 100000 in
theorem f_67_23 : xft 67 23 = some (.getfield 244) := by decide +kernel
set_option maxRecDepth 100000 in
theorem f_67_26 : xft 67 26 = some (.iload_n 2) := by decide +kernel
set_option maxRecDepth 100000 in
theorem f_67_27 : xft 67 27 = some (.iaload) := by decide +kernel
set_option maxRecDepth 100000 in
theorem f_67_28 : xft 67 28 = some (.istore 5) := by decide +kernel
set_option maxRecDepth 100000 in
theorem f_67_30 : xft 67 30 = some (.aload 4) := by decide +kernel
set_option maxRecDepth 100000 in
theorem f_67_32 : xft 67 32 = some (.getfield 244) := by decide +kernel
set_option maxRecDepth 100000 in
theorem f_67_35 : xft 67 35 = some (.iload_n 2) := by decide +kernel
set_option maxRecDepth 100000 in
theorem f_67_36 : xft 67 36 = some (.iload_n 3) := by decide +kernel
set_option maxRecDepth 100000 in
theorem f_67_37 : xft 67 37 = some (.iastore) := by decide +kernel
set_option maxRecDepth 100000 in
theorem f_67_38 : xft 67 38 = some (.iload 5) := by decide +kernel
set_option maxRecDepth 100000 in
theorem f_67_40 : xft 67 40 = some (.ireturn) := by decide +kernel
set_option maxRecDepth 100000 in
theorem f_68_0 : xft 68 0 = some (.aload_n 0) := by decide +kernel
set_option maxRecDepth 100000 in
theorem f_68_1 : xft 68 1 = some (.iload_n 1) := by decide +kernel
set_option maxRecDepth 100000 in
theorem f_68_2 : xft 68 2 = some (.invokevirtual 240) := by decide +kernel
set_option maxRecDepth 100000 in
theorem f_68_5 : xft 68 5 = some (.astore 4) := by decide +kernel
set_option maxRecDepth 100000 in
theorem f_68_7 : xft 68 7 = some (.iload_n 2) := by decide +kernel
set_option maxRecDepth 100000 in
theorem f_68_8 : xft 68 8 = some (.bipush 7) := by decide +kernel
set_option maxRecDepth 100000 in
theorem f_68_10 : xft 68 10 = some (.invokestatic 71) := by decide +kernel
set_option maxRecDepth 100000 in
theorem f_68_13 : xft 68 13 = some (.iload_n 3) := by decide +kernel
set_option maxRecDepth 100000 in
theorem f_68_14 : xft 68 14 = some (.iconst 0) := by decide +kernel
set_option maxRecDepth 100000 in
theorem f_68_15 : xft 68 15 = some (.bipush 20) := by decide +kernel
set_option maxRecDepth 100000 in
theorem f_68_17 : xft 68 17 = some (.invokestatic 49) := by decide +kernel
set_option maxRecDepth 100000 in
theorem f_68_20 : xft 68 20 = some (.aload 4) := by decide +kernel
set_option maxRecDepth 100000 in
theorem f_68_22 : xft 68 22 = some (.getfield 245) := by decide +kernel
set_option maxRecDepth 100000 in
theorem f_68_25 : xft 68 25 = some (.iload_n 2) := by decide +kernel
set_option maxRecDepth 100000 in
theorem f_68_26 : xft 68 26 = some (.iaload) := by decide +kernel
set_option maxRecDepth 100000 in
theorem f_68_27 : xft 68 27 = some (.istore 5) := by decide +kernel
set_option maxRecDepth 100000 in
theorem f_68_29 : xft 68 29 = some (.aload 4) := by decide +kernel
set_option maxRecDepth 100000 in
theorem f_68_31 : xft 68 31 = some (.getfield 245) := by decide +kernel
set_option maxRecDepth 100000 in
theorem f_68_34 : xft 68 34 = some (.iload_n 2) := by decide +kernel
set_option maxRecDepth 100000 in
theorem f_68_35 : xft 68 35 = some (.iload_n 3) := by decide +kernel
set_option maxRecDepth 100000 in
theorem f_68_36 : xft 68 36 = some (.iastore) := by decide +kernel
set_option maxRecDepth 100000 in
theorem f_68_37 : xft 68 37 = some (.iload 5) := by decide +kernel
set_option maxRecDepth 100000 in
theorem f_68_39 : xft 68 39 = some (.ireturn) := by decide +kernel
set_option maxRecDepth 100000 in
theorem f_69_0 : xft 69 0 = some (.aload_n 0) := by decide +kernel
set_option maxRecDepth 100000 in
theorem f_69_1 : xft 69 1 = some (.iload_n 1) := by decide +kernel
set_option maxRecDepth 100000 in
theorem f_69_2 : xft 69 2 = some (.iload_n 2) := by decide +kernel
set_option maxRecDepth 100000 in
theorem f_69_3 : xft 69 3 = some (.iload_n 3) := by decide +kernel
set_option maxRecDepth 100000 in
theorem f_69_4 : xft 69 4 = some (.invokevirtual 248) := by decide +kernel
set_option maxRecDepth 100000 in
theorem f_69_7 : xft 69 7 = some (.aload_n 0) := by decide +kernel
set_option maxRecDepth 100000 in
theorem f_69_8 : xft 69 8 = some (.getfield 45) := by decide +kernel
set_option maxRecDepth 100000 in
theorem f_69_11 : xft 69 11 = some (.iload_n 3) := by decide +kernel
set_option maxRecDepth 100000 in
theorem f_69_12 : xft 69 12 = some (.invokevirtual 251) := by decide +kernel
set_option maxRecDepth 100000 in
theorem f_69_15 : xft 69 15 = some (.ireturn) := by decide +kernel
set_option maxRecDepth 100000 in
theorem f_70_0 : xft 70 0 = some (.aload_n 0) := by decide +kernel
set_option maxRecDepth 100000 in
theorem f_70_1 : xft 70 1 = some (.iload_n 1) := by decide +kernel
set_option maxRecDepth 100000 in
theorem f_70_2 : xft 70 2 = some (.iload_n 2) := by decide +kernel
set_option maxRecDepth 100000 in
theorem f_70_3 : xft 70 3 = some (.iload_n 3) := by decide +kernel
set_option maxRecDepth 100000 in
theorem f_70_4 : xft 70 4 = some (.invokevirtual 248) := by decide +kernel
set_option maxRecDepth 100000 in
theorem f_70_7 : xft 70 7 = some (.aload_n 0) := by decide +kernel
set_option maxRecDepth 100000 in
theorem f_70_8 : xft 70 8 = some (.getfield 45) := by decide +kernel
set_option maxRecDepth 100000 in
theorem f_70_11 : xft 70 11 = some (.iload_n 3) := by decide +kernel
set_option maxRecDepth 100000 in
theorem f_70_12 : xft 70 12 = some (.invokevirtual 254) := by decide +kernel
set_option maxRecDepth 100000 in
theorem f_70_15 : xft 70 15 = some (.ireturn) := by decide +kernel
set_option maxRecDepth 100000 in
theorem f_71_0 : xft 71 0 = some (.iload 4) := by decide +kernel
set_option maxRecDepth 100000 in
theorem f_71_2 : xft 71 2 = some (.bipush 7) := by decide +kernel
set_option maxRecDepth 100000 in
theorem f_71_4 : xft 71 4 = some (.invokestatic 71) := by decide +kernel
set_option maxRecDepth 100000 in
theorem f_71_7 : xft 71 7 = some (.aload_n 0) := by decide +kernel
set_option maxRecDepth 100000 in
theorem f_71_8 : xft 71 8 = some (.iload_n 1) := by decide +kernel
set_option maxRecDepth 100000 in
theorem f_71_9 : xft 71 9 = some (.iload_n 2) := by decide +kernel
set_option maxRecDepth 100000 in
theorem f_71_10 : xft 71 10 = some (.iload_n 3) := by decide +kernel
set_option maxRecDepth 100000 in
theorem f_71_11 : xft 71 11 = some (.invokevirtual 248) := by decide +kernel
set_option maxRecDepth 100000 in
theorem f_71_14 : xft 71 14 = some (.aload_n 0) := by decide +kernel
set_option maxRecDepth 100000 in
theorem f_71_15 : xft 71 15 = some (.getfield 45) := by decide +kernel
set_option maxRecDepth 100000 in
theorem f_71_18 : xft 71 18 = some (.iload 4) := by decide +kernel
set_option maxRecDepth 100000 in
theorem f_71_20 : xft 71 20 = some (.aload_n 0) := by decide +kernel
set_option maxRecDepth 100000 in
theorem f_71_21 : xft 71 21 = some (.getfield 45) := by decide +kernel
set_option maxRecDepth 100000 in
theorem f_71_24 : xft 71 24 = some (.iload_n 3) := by decide +kernel
set_option maxRecDepth 100000 in
theorem f_71_25 : xft 71 25 = some (.invokevirtual 251) := by decide +kernel
set_option maxRecDepth 100000 in
theorem f_71_28 : xft 71 28 = some (.invokevirtual 257) := by decide +kernel
set_option maxRecDepth 100000 in
theorem f_71_31 : xft 71 31 = some (.ireturn) := by decide +kernel
set_option maxRecDepth 100000 in
theorem f_72_0 : xft 72 0 = some (.aload_n 0) := by decide +kernel
set_option maxRecDepth 100000 in
theorem f_72_1 : xft 72 1 = some (.iload_n 1) := by decide +kernel
set_option maxRecDepth 100000 in
theorem f_72_2 : xft 72 2 = some (.iload_n 2) := by decide +kernel
set_option maxRecDepth 100000 in
theorem f_72_3 : xft 72 3 = some (.iload_n 3) := by decide +kernel
set_option maxRecDepth 100000 in
theorem f_72_4 : xft 72 4 = some (.invokevirtual 248) := by decide +kernel
set_option maxRecDepth 100000 in
theorem f_72_7 : xft 72 7 = some (.aload_n 0) := by decide +kernel
set_option maxRecDepth 100000 in
theorem f_72_8 : xft 72 8 = some (.getfield 45) := by decide +kernel
set_option maxRecDepth 100000 in
theorem f_72_11 : xft 72 11 = some (.aload_n 0) := by decide +kernel
set_option maxRecDepth 100000 in
theorem f_72_12 : xft 72 12 = some (.getfield 45) := by decide +kernel
set_option maxRecDepth 100000 in
theorem f_72_15 : xft 72 15 = some (.iload_n 3) := by decide +kernel
set_option maxRecDepth 100000 in
theorem f_72_16 : xft 72 16 = some (.invokevirtual 251) := by decide +kernel
set_option maxRecDepth 100000 in
theorem f_72_19 : xft 72 19 = some (.invokevirtual 260) := by decide +kernel
set_option maxRecDepth 100000 in
theorem f_72_22 : xft 72 22 = some (.ireturn) := by decide +kernel
set_option maxRecDepth 100000 in
theorem f_73_0 : xft 73 0 = some (.aload_n 0) := by decide +kernel
set_option maxRecDepth 100000 in
theorem f_73_1 : xft 73 1 = some (.iload_n 1) := by decide +kernel
set_option maxRecDepth 100000 in
theorem f_73_2 : xft 73 2 = some (.invokevirtual 232) := by decide +kernel
set_option maxRecDepth 100000 in
theorem f_73_5 : xft 73 5 = some (.astore 7) := by decide +kernel
set_option maxRecDepth 100000 in
theorem f_73_7 : xft 73 7 = some (.aload_n 0) := by decide +kernel
set_option maxRecDepth 100000 in
theorem f_73_8 : xft 73 8 = some (.iload_n 2) := by decide +kernel
set_option maxRecDepth 100000 in
theorem f_73_9 : xft 73 9 = some (.invokevirtual 240) := by decide +kernel
set_option maxRecDepth 100000 in
theorem f_73_12 : xft 73 12 = some (.astore 8) := by decide +kernel
set_option maxRecDepth 100000 in
theorem f_73_14 : xft 73 14 = some (.iload_n 3) := by decide +kernel
set_option maxRecDepth 100000 in
theorem f_73_15 : xft 73 15 = some (.iconst 4) := by decide +kernel
set_option maxRecDepth 100000 in
theorem f_73_16 : xft 73 16 = some (.invokestatic 71) := by decide +kernel
set_option maxRecDepth 100000 in
theorem f_73_19 : xft 73 19 = some (.iload 4) := by decide +kernel
set_option maxRecDepth 100000 in
theorem f_73_21 : xft 73 21 = some (.iconst 1) := by decide +kernel
set_option maxRecDepth 100000 in
theorem f_73_22 : xft 73 22 = some (.sipush 1000) := by decide +kernel
set_option maxRecDepth 100000 in
theorem f_73_25 : xft 73 25 = some (.invokestatic 49) := by decide +kernel
set_option maxRecDepth 100000 in
theorem f_73_28 : xft 73 28 = some (.iload 5) := by decide +kernel
set_option maxRecDepth 100000 in
theorem f_73_30 : xft 73 30 = some (.iconst 1) := by decide +kernel
set_option maxRecDepth 100000 in
theorem f_73_31 : xft 73 31 = some (.iconst 3) := by decide +kernel
set_option maxRecDepth 100000 in
theorem f_73_32 : xft 73 32 = some (.invokestatic 49) := by decide +kernel
set_option maxRecDepth 100000 in
theorem f_73_35 : xft 73 35 = some (.iload 6) := by decide +kernel
set_option maxRecDepth 100000 in
theorem f_73_37 : xft 73 37 = some (.iconst 1) := by decide +kernel
set_option maxRecDepth 100000 in
theorem f_73_38 : xft 73 38 = some (.bipush 10) := by decide +kernel
set_option maxRecDepth 100000 in
theorem f_73_40 : xft 73 40 = some (.invokestatic 49) := by decide +kernel
set_option maxRecDepth 100000 in
theorem f_73_43 : xft 73 43 = some (.aload 7) := by decide +kernel
set_option maxRecDepth 100000 in
theorem f_73_45 : xft 73 45 = some (.invokevirtual 263) := by decide +kernel
set_option maxRecDepth 100000 in
theorem f_73_48 : xft 73 48 = some (.ifCond .eq 14) := by decide +kernel
set_option maxRecDepth 100000 in
theorem f_73_51 : xft 73 51 = some (.new 57) := by decide +kernel
set_option maxRecDepth 100000 in
theorem f_73_54 : xft 73 54 = some (.dup) := by decide +kernel
set_option maxRecDepth 100000 in
theorem f_73_55 : xft 73 55 = some (.ldc_w 266) := by decide +kernel
set_option maxRecDepth 100000 in
theorem f_73_58 : xft 73 58 = some (.invokespecial 61) := by decide +kernel
set_option maxRecDepth 100000 in
theorem f_73_61 : xft 73 61 = some (.athrow) := by decide +kernel
set_option maxRecDepth 100000 in
theorem f_73_62 : xft 73 62 = some (.aload_n 0) := by decide +kernel
set_option maxRecDepth 100000 in
theorem f_73_63 : xft 73 63 = some (.getfield 268) := by decide +kernel
set_option maxRecDepth 100000 in
theorem f_73_66 : xft 73 66 = some (.bipush 60) := by decide +kernel
set_option maxRecDepth 100000 in
theorem f_73_68 : xft 73 68 = some (.if_icmp .lt 14) := by decide +kernel
set_option maxRecDepth 100000 in
theorem f_73_71 : xft 73 71 = some (.new 57) := by decide +kernel
set_option maxRecDepth 100000 in
theorem f_73_74 : xft 73 74 = some (.dup) := by decide +kernel
set_option maxRecDepth 100000 in
theorem f_73_75 : xft 73 75 = some (.ldc_w 271) := by decide +kernel
set_option maxRecDepth 100000 in
theorem f_73_78 : xft 73 78 = some (.invokespecial 61) := by decide +kernel
set_option maxRecDepth 100000 in
theorem f_73_81 : xft 73 81 = some (.athrow) := by decide +kernel
set_option maxRecDepth 100000 in
theorem f_73_82 : xft 73 82 = some (.aload_n 0) := by decide +kernel
set_option maxRecDepth 100000 in
theorem f_73_83 : xft 73 83 = some (.dup) := by decide +kernel
set_option maxRecDepth 100000 in
theorem f_73_84 : xft 73 84 = some (.getfield 268) := by decide +kernel
set_option maxRecDepth 100000 in
theorem f_73_87 : xft 73 87 = some (.iconst 1) := by decide +kernel
set_option maxRecDepth 100000 in
theorem f_73_88 : xft 73 88 = some (.iadd) := by decide +kernel
set_option maxRecDepth 100000 in
theorem f_73_89 : xft 73 89 = some (.putfield 268) := by decide +kernel
set_option maxRecDepth 100000 in
theorem f_73_92 : xft 73 92 = some (.aload_n 0) := by decide +kernel
set_option maxRecDepth 100000 in
theorem f_73_93 : xft 73 93 = some (.getfield 45) := by decide +kernel
set_option maxRecDepth 100000 in
theorem f_73_96 : xft 73 96 = some (.aload 7) := by decide +kernel
set_option maxRecDepth 100000 in
theorem f_73_98 : xft 73 98 = some (.aload 8) := by decide +kernel
set_option maxRecDepth 100000 in
theorem f_73_100 : xft 73 100 = some (.invokevirtual 273) := by decide +kernel
set_option maxRecDepth 100000 in
theorem f_73_103 : xft 73 103 = some (.aload_n 0) := by decide +kernel
set_option maxRecDepth 100000 in
theorem f_73_104 : xft 73 104 = some (.getfield 45) := by decide +kernel
set_option maxRecDepth 100000 in
theorem f_73_107 : xft 73 107 = some (.iload 4) := by decide +kernel
set_option maxRecDepth 100000 in
theorem f_73_109 : xft 73 109 = some (.iload 5) := by decide +kernel
set_option maxRecDepth 100000 in
theorem f_73_111 : xft 73 111 = some (.imul) := by decide +kernel
set_option maxRecDepth 100000 in
theorem f_73_112 : xft 73 112 = some (.invokevirtual 251) := by decide +kernel
set_option maxRecDepth 100000 in
theorem f_73_115 : xft 73 115 = some (.istore 9) := by decide +kernel
set_option maxRecDepth 100000 in
theorem f_73_117 : xft 73 117 = some (.iconst 0) := by decide +kernel
set_option maxRecDepth 100000 in
theorem f_73_118 : xft 73 118 = some (.istore 10) := by decide +kernel
set_option maxRecDepth 100000 in
theorem f_73_120 : xft 73 120 = some (.iconst 0) := by decide +kernel
set_option maxRecDepth 100000 in
theorem f_73_121 : xft 73 121 = some (.istore 11) := by decide +kernel
set_option maxRecDepth 100000 in
theorem f_73_123 : xft 73 123 = some (.iload 11) := by decide +kernel
set_option maxRecDepth 100000 in
theorem f_73_125 : xft 73 125 = some (.bipush 7) := by decide +kernel
set_option maxRecDepth 100000 in
theorem f_73_127 : xft 73 127 = some (.if_icmp .ge 71) := by decide +kernel
set_option maxRecDepth 100000 in
theorem f_73_130 : xft 73 130 = some (.aload_n 0) := by decide +kernel
set_option maxRecDepth 100000 in
theorem f_73_131 : xft 73 131 = some (.getfield 45) := by decide +kernel
set_option maxRecDepth 100000 in
theorem f_73_134 : xft 73 134 = some (.iload 11) := by decide +kernel
set_option maxRecDepth 100000 in
theorem f_73_136 : xft 73 136 = some (.iload 9) := by decide +kernel
set_option maxRecDepth 100000 in
theorem f_73_138 : xft 73 138 = some (.invokevirtual 257) := by decide +kernel
set_option maxRecDepth 100000 in
theorem f_73_141 : xft 73 141 = some (.istore 12) := by decide +kernel
set_option maxRecDepth 100000 in
theorem f_73_143 : xft 73 143 = some (.iconst 0) := by decide +kernel
set_option maxRecDepth 100000 in
theorem f_73_144 : xft 73 144 = some (.iload 12) := by decide +kernel
set_option maxRecDepth 100000 in
theorem f_73_146 : xft 73 146 = some (.bipush 40) := by decide +kernel
set_option maxRecDepth 100000 in
theorem f_73_148 : xft 73 148 = some (.isub) := by decide +kernel
set_option maxRecDepth 100000 in
theorem f_73_149 : xft 73 149 = some (.invokestatic 177) := by decide +kernel
set_option maxRecDepth 100000 in
theorem f_73_152 : xft 73 152 = some (.iload 6) := by decide +kernel
set_option maxRecDepth 100000 in
theorem f_73_154 : xft 73 154 = some (.imul) := by decide +kernel
set_option maxRecDepth 100000 in
theorem f_73_155 : xft 73 155 = some (.istore 13) := by decide +kernel
set_option maxRecDepth 100000 in
theorem f_73_157 : xft 73 157 = some (.iload 13) := by decide +kernel
set_option maxRecDepth 100000 in
theorem f_73_159 : xft 73 159 = some (.ifCond .le 19) := by decide +kernel
set_option maxRecDepth 100000 in
theorem f_73_162 : xft 73 162 = some (.aload 7) := by decide +kernel
set_option maxRecDepth 100000 in
theorem f_73_164 : xft 73 164 = some (.iload 11) := by decide +kernel
set_option maxRecDepth 100000 in
theorem f_73_166 : xft 73 166 = some (.iload 13) := by decide +kernel
set_option maxRecDepth 100000 in
theorem f_73_168 : xft 73 168 = some (.iload_n 2) := by decide +kernel
set_option maxRecDepth 100000 in
theorem f_73_169 : xft 73 169 = some (.iload_n 3) := by decide +kernel
set_option maxRecDepth 100000 in
theorem f_73_170 : xft 73 170 = some (.iload 5) := by decide +kernel
set_option maxRecDepth 100000 in
theorem f_73_172 : xft 73 172 = some (.invokevirtual 277) := by decide +kernel
set_option maxRecDepth 100000 in
theorem f_73_175 : xft 73 175 = some (.iinc 10 1) := by decide +kernel
set_option maxRecDepth 100000 in
theorem f_73_178 : xft 73 178 = some (.iload 12) := by decide +kernel
set_option maxRecDepth 100000 in
theorem f_73_180 : xft 73 180 = some (.bipush 20) := by decide +kernel
set_option maxRecDepth 100000 in
theorem f_73_182 : xft 73 182 = some (.if_icmp .le 10) := by decide +kernel
set_option maxRecDepth 100000 in
theorem f_73_185 : xft 73 185 = some (.aload 8) := by decide +kernel
set_option maxRecDepth 100000 in
theorem f_73_187 : xft 73 187 = some (.iload 11) := by decide +kernel
set_option maxRecDepth 100000 in
theorem f_73_189 : xft 73 189 = some (.invokevirtual 281) := by decide +kernel
set_option maxRecDepth 100000 in
theorem f_73_192 : xft 73 192 = some (.iinc 11 1) := by decide +kernel
set_option maxRecDepth 100000 in
theorem f_73_195 : xft 73 195 = some (.goto (-72)) := by decide +kernel
set_option maxRecDepth 100000 in
theorem f_73_198 : xft 73 198 = some (.iload 10) := by decide +kernel
set_option maxRecDepth 100000 in
theorem f_73_200 : xft 73 200 = some (.ireturn) := by decide +kernel
set_option maxRecDepth 100000 in
theorem f_74_0 : xft 74 0 = some (.iload_n 1) := by decide +kernel
set_option maxRecDepth 100000 in
theorem f_74_1 : xft 74 1 = some (.iconst 1) := by decide +kernel
set_option maxRecDepth 100000 in
theorem f_74_2 : xft 74 2 = some (.bipush 100) := by decide +kernel
set_option maxRecDepth 100000 in
theorem f_74_4 : xft 74 4 = some (.invokestatic 49) := by decide +kernel
set_option maxRecDepth 100000 in
theorem f_74_7 : xft 74 7 = some (.iconst 0) := by decide +kernel
set_option maxRecDepth 100000 in
theorem f_74_8 : xft 74 8 = some (.istore_n 2) := by decide +kernel
set_option maxRecDepth 100000 in
theorem f_74_9 : xft 74 9 = some (.aload_n 0) := by decide +kernel
set_option maxRecDepth 100000 in
theorem f_74_10 : xft 74 10 = some (.getfield 30) := by decide +kernel
set_option maxRecDepth 100000 in
theorem f_74_13 : xft 74 13 = some (.astore_n 3) := by decide +kernel
set_option maxRecDepth 100000 in
theorem f_74_14 : xft 74 14 = some (.aload_n 3) := by decide +kernel
set_option maxRecDepth 100000 in
theorem f_74_15 : xft 74 15 = some (.arraylength) := by decide +kernel
set_option maxRecDepth 100000 in
theorem f_74_16 : xft 74 16 = some (.istore 4) := by decide +kernel
set_option maxRecDepth 100000 in
theorem f_74_18 : xft 74 18 = some (.iconst 0) := by decide +kernel
set_option maxRecDepth 100000 in
theorem f_74_19 : xft 74 19 = some (.istore 5) := by decide +kernel
set_option maxRecDepth 100000 in
theorem f_74_21 : xft 74 21 = some (.iload 5) := by decide +kernel
set_option maxRecDepth 100000 in
theorem f_74_23 : xft 74 23 = some (.iload 4) := by decide +kernel
set_option maxRecDepth 100000 in
theorem f_74_25 : xft 74 25 = some (.if_icmp .ge 45) := by decide +kernel
set_option maxRecDepth 100000 in
theorem f_74_28 : xft 74 28 = some (.aload_n 3) := by decide +kernel
set_option maxRecDepth 100000 in
theorem f_74_29 : xft 74 29 = some (.iload 5) := by decide +kernel
set_option maxRecDepth 100000 in
theorem f_74_31 : xft 74 31 = some (.aaload) := by decide +kernel
set_option maxRecDepth 100000 in
theorem f_74_32 : xft 74 32 = some (.astore 6) := by decide +kernel
set_option maxRecDepth 100000 in
theorem f_74_34 : xft 74 34 = some (.aload 6) := by decide +kernel
set_option maxRecDepth 100000 in
theorem f_74_36 : xft 74 36 = some (.ifnull 28) := by decide +kernel
set_option maxRecDepth 100000 in
theorem f_74_39 : xft 74 39 = some (.aload 6) := by decide +kernel
set_option maxRecDepth 100000 in
theorem f_74_41 : xft 74 41 = some (.iload_n 1) := by decide +kernel
set_option maxRecDepth 100000 in
theorem f_74_42 : xft 74 42 = some (.bipush 10) := by decide +kernel
set_option maxRecDepth 100000 in
theorem f_74_44 : xft 74 44 = some (.imul) := by decide +kernel
set_option maxRecDepth 100000 in
theorem f_74_45 : xft 74 45 = some (.invokevirtual 284) := by decide +kernel
set_option maxRecDepth 100000 in
theorem f_74_48 : xft 74 48 = some (.iload_n 2) := by decide +kernel
set_option maxRecDepth 100000 in
theorem f_74_49 : xft 74 49 = some (.aload 6) := by decide +kernel
set_option maxRecDepth 100000 in
theorem f_74_51 : xft 74 51 = some (.invokevirtual 263) := by decide +kernel
set_option maxRecDepth 100000 in
theorem f_74_54 : xft 74 54 = some (.ifCond .eq 7) := by decide +kernel
set_option maxRecDepth 100000 in
theorem f_74_57 : xft 74 57 = some (.iconst 1) := by decide +kernel
set_option maxRecDepth 100000 in
theorem f_74_58 : xft 74 58 = some (.goto 4) := by decide +kernel
set_option maxRecDepth 100000 in
theorem f_74_61 : xft 74 61 = some (.iconst 0) := by decide +kernel
set_option maxRecDepth 100000 in
theorem f_74_62 : xft 74 62 = some (.iadd) := by decide +kernel
set_option maxRecDepth 100000 in
theorem f_74_63 : xft 74 63 = some (.istore_n 2) := by decide +kernel
set_option maxRecDepth 100000 in
theorem f_74_64 : xft 74 64 = some (.iinc 5 1) := by decide +kernel
set_option maxRecDepth 100000 in
theorem f_74_67 : xft 74 67 = some (.goto (-46)) := by decide +kernel
set_option maxRecDepth 100000 in
theorem f_74_70 : xft 74 70 = some (.iload_n 2) := by decide +kernel
set_option maxRecDepth 100000 in
theorem f_74_71 : xft 74 71 = some (.ireturn) := by decide +kernel
set_option maxRecDepth 100000 in
theorem f_75_0 : xft 75 0 = some (.aload_n 0) := by decide +kernel
set_option maxRecDepth 100000 in
theorem f_75_1 : xft 75 1 = some (.iload_n 1) := by decide +kernel
set_option maxRecDepth 100000 in
theorem f_75_2 : xft 75 2 = some (.invokevirtual 232) := by decide +kernel
set_option maxRecDepth 100000 in
theorem f_75_5 : xft 75 5 = some (.astore 4) := by decide +kernel
set_option maxRecDepth 100000 in
theorem f_75_7 : xft 75 7 = some (.iload_n 2) := by decide +kernel
set_option maxRecDepth 100000 in
theorem f_75_8 : xft 75 8 = some (.bipush 7) := by decide +kernel
set_option maxRecDepth 100000 in
theorem f_75_10 : xft 75 10 = some (.invokestatic 71) := by decide +kernel
set_option maxRecDepth 100000 in
theorem f_75_13 : xft 75 13 = some (.iload_n 3) := by decide +kernel
set_option maxRecDepth 100000 in
theorem f_75_14 : xft 75 14 = some (.iconst 0) := by decide +kernel
set_option maxRecDepth 100000 in
theorem f_75_15 : xft 75 15 = some (.iconst 2) := by decide +kernel
set_option maxRecDepth 100000 in
theorem f_75_16 : xft 75 16 = some (.invokestatic 49) := by decide +kernel
set_option maxRecDepth 100000 in
theorem f_75_19 : xft 75 19 = some (.iload_n 3) := by decide +kernel
set_option maxRecDepth 100000 in
theorem f_75_20 : xft 75 20 = some (.ifCond .ne 11) := by decide +kernel
set_option maxRecDepth 100000 in
theorem f_75_23 : xft 75 23 = some (.aload 4) := by decide +kernel
set_option maxRecDepth 100000 in
theorem f_75_25 : xft 75 25 = some (.getfield 287) := by decide +kernel
set_option maxRecDepth 100000 in
theorem f_75_28 : xft 75 28 = some (.iload_n 2) := by decide +kernel
set_option maxRecDepth 100000 in
theorem f_75_29 : xft 75 29 = some (.iaload) := by decide +kernel
set_option maxRecDepth 100000 in
theorem f_75_30 : xft 75 30 = some (.ireturn) := by decide +kernel
set_option maxRecDepth 100000 in
theorem f_75_31 : xft 75 31 = some (.iload_n 3) := by decide +kernel
set_option maxRecDepth 100000 in
theorem f_75_32 : xft 75 32 = some (.iconst 1) := by decide +kernel
set_option maxRecDepth 100000 in
theorem f_75_33 : xft 75 33 = some (.if_icmp .ne 11) := by decide +kernel
set_option maxRecDepth 100000 in
theorem f_75_36 : xft 75 36 = some (.aload 4) := by decide +kernel
set_option maxRecDepth 100000 in
theorem f_75_38 : xft 75 38 = some (.getfield 236) := by decide +kernel
set_option maxRecDepth 100000 in
theorem f_75_41 : xft 75 41 = some (.iload_n 2) := by decide +kernel
set_option maxRecDepth 100000 in
theorem f_75_42 : xft 75 42 = some (.iaload) := by decide +kernel
set_option maxRecDepth 100000 in
theorem f_75_43 : xft 75 43 = some (.ireturn) := by decide +kernel
set_option maxRecDepth 100000 in
theorem f_75_44 : xft 75 44 = some (.aload 4) := by decide +kernel
set_option maxRecDepth 100000 in
theorem f_75_46 : xft 75 46 = some (.invokevirtual 263) := by decide +kernel
set_option maxRecDepth 100000 in
theorem f_75_49 : xft 75 49 = some (.ifCond .eq 7) := by decide +kernel
set_option maxRecDepth 100000 in
theorem f_75_52 : xft 75 52 = some (.iconst 1) := by decide +kernel
set_option maxRecDepth 100000 in
theorem f_75_53 : xft 75 53 = some (.goto 4) := by decide +kernel
set_option maxRecDepth 100000 in
theorem f_75_56 : xft 75 56 = some (.iconst 0) := by decide +kernel
set_option maxRecDepth 100000 in
theorem f_75_57 : xft 75 57 = some (.ireturn) := by decide +kernel
set_option maxRecDepth 100000 in
theorem f_76_0 : xft 76 0 = some (.aload_n 0) := by decide +kernel
set_option maxRecDepth 100000 in
theorem f_76_1 : xft 76 1 = some (.iload_n 1) := by decide +kernel
set_option maxRecDepth 100000 in
theorem f_76_2 : xft 76 2 = some (.invokevirtual 232) := by decide +kernel
set_option maxRecDepth 100000 in
theorem f_76_5 : xft 76 5 = some (.astore 5) := by decide +kernel
set_option maxRecDepth 100000 in
theorem f_76_7 : xft 76 7 = some (.iload_n 2) := by decide +kernel
set_option maxRecDepth 100000 in
theorem f_76_8 : xft 76 8 = some (.bipush 7) := by decide +kernel
set_option maxRecDepth 100000 in
theorem f_76_10 : xft 76 10 = some (.invokestatic 71) := by decide +kernel
set_option maxRecDepth 100000 in
theorem f_76_13 : xft 76 13 = some (.iload_n 3) := by decide +kernel
set_option maxRecDepth 100000 in
theorem f_76_14 : xft 76 14 = some (.iconst 0) := by decide +kernel
set_option maxRecDepth 100000 in
theorem f_76_15 : xft 76 15 = some (.iconst 2) := by decide +kernel
set_option maxRecDepth 100000 in
theorem f_76_16 : xft 76 16 = some (.invokestatic 49) := by decide +kernel
set_option maxRecDepth 100000 in
theorem f_76_19 : xft 76 19 = some (.aload 5) := by decide +kernel
set_option maxRecDepth 100000 in
theorem f_76_21 : xft 76 21 = some (.iload_n 2) := by decide +kernel
set_option maxRecDepth 100000 in
theorem f_76_22 : xft 76 22 = some (.iload_n 3) := by decide +kernel
set_option maxRecDepth 100000 in
theorem f_76_23 : xft 76 23 = some (.iload 4) := by decide +kernel
set_option maxRecDepth 100000 in
theorem f_76_25 : xft 76 25 = some (.invokevirtual 290) := by decide +kernel
set_option maxRecDepth 100000 in
theorem f_76_28 : xft 76 28 = some (.ireturn) := by decide +kernel
set_option maxRecDepth 100000 in
theorem f_77_0 : xft 77 0 = some (.aload_n 0) := by decide +kernel
set_option maxRecDepth 100000 in
theorem f_77_1 : xft 77 1 = some (.iload_n 1) := by decide +kernel
set_option maxRecDepth 100000 in
theorem f_77_2 : xft 77 2 = some (.invokevirtual 232) := by decide +kernel
set_option maxRecDepth 100000 in
theorem f_77_5 : xft 77 5 = some (.astore 4) := by decide +kernel
set_option maxRecDepth 100000 in
theorem f_77_7 : xft 77 7 = some (.iload_n 2) := by decide +kernel
set_option maxRecDepth 100000 in
theorem f_77_8 : xft 77 8 = some (.bipush 7) := by decide +kernel
set_option maxRecDepth 100000 in
theorem f_77_10 : xft 77 10 = some (.invokestatic 71) := by decide +kernel
set_option maxRecDepth 100000 in
theorem f_77_13 : xft 77 13 = some (.iload_n 3) := by decide +kernel
set_option maxRecDepth 100000 in
theorem f_77_14 : xft 77 14 = some (.iconst 0) := by decide +kernel
set_option maxRecDepth 100000 in
theorem f_77_15 : xft 77 15 = some (.iconst 2) := by decide +kernel
set_option maxRecDepth 100000 in
theorem f_77_16 : xft 77 16 = some (.invokestatic 49) := by decide +kernel
set_option maxRecDepth 100000 in
theorem f_77_19 : xft 77 19 = some (.iconst 0) := by decide +kernel
set_option maxRecDepth 100000 in
theorem f_77_20 : xft 77 20 = some (.istore 5) := by decide +kernel
set_option maxRecDepth 100000 in
theorem f_77_22 : xft 77 22 = some (.iconst (-1)) := by decide +kernel
set_option maxRecDepth 100000 in
theorem f_77_23 : xft 77 23 = some (.istore 6) := by decide +kernel
set_option maxRecDepth 100000 in
theorem f_77_25 : xft 77 25 = some (.iconst 0) := by decide +kernel
set_option maxRecDepth 100000 in
theorem f_77_26 : xft 77 26 = some (.istore 7) := by decide +kernel
set_option maxRecDepth 100000 in
theorem f_77_28 : xft 77 28 = some (.iload 7) := by decide +kernel
set_option maxRecDepth 100000 in
theorem f_77_30 : xft 77 30 = some (.bipush 6) := by decide +kernel
set_option maxRecDepth 100000 in
theorem f_77_32 : xft 77 32 = some (.if_icmp .ge 35) := by decide +kernel
set_option maxRecDepth 100000 in
theorem f_77_35 : xft 77 35 = some (.aload 4) := by decide +kernel
set_option maxRecDepth 100000 in
theorem f_77_37 : xft 77 37 = some (.iload_n 2) := by decide +kernel
set_option maxRecDepth 100000 in
theorem f_77_38 : xft 77 38 = some (.iload_n 3) := by decide +kernel
set_option maxRecDepth 100000 in
theorem f_77_39 : xft 77 39 = some (.iload 7) := by decide +kernel
set_option maxRecDepth 100000 in
theorem f_77_41 : xft 77 41 = some (.invokevirtual 290) := by decide +kernel
set_option maxRecDepth 100000 in
theorem f_77_44 : xft 77 44 = some (.istore 8) := by decide +kernel
set_option maxRecDepth 100000 in
theorem f_77_46 : xft 77 46 = some (.iload 8) := by decide +kernel
set_option maxRecDepth 100000 in
theorem f_77_48 : xft 77 48 = some (.iload 5) := by decide +kernel
set_option maxRecDepth 100000 in
theorem f_77_50 : xft 77 50 = some (.if_icmp .le 11) := by decide +kernel
set_option maxRecDepth 100000 in
theorem f_77_53 : xft 77 53 = some (.iload 8) := by decide +kernel
set_option maxRecDepth 100000 in
theorem f_77_55 : xft 77 55 = some (.istore 5) := by decide +kernel
set_option maxRecDepth 100000 in
theorem f_77_57 : xft 77 57 = some (.iload 7) := by decide +kernel
set_option maxRecDepth 100000 in
theorem f_77_59 : xft 77 59 = some (.istore 6) := by decide +kernel
set_option maxRecDepth 100000 in
theorem f_77_61 : xft 77 61 = some (.iinc 7 1) := by decide +kernel
set_option maxRecDepth 100000 in
theorem f_77_64 : xft 77 64 = some (.goto (-36)) := by decide +kernel
set_option maxRecDepth 100000 in
theorem f_77_67 : xft 77 67 = some (.iload 6) := by decide +kernel
set_option maxRecDepth 100000 in
theorem f_77_69 : xft 77 69 = some (.ireturn) := by decide +kernel
set_option maxRecDepth 100000 in
theorem f_78_0 : xft 78 0 = some (.aload_n 0) := by decide +kernel
set_option maxRecDepth 100000 in
theorem f_78_1 : xft 78 1 = some (.getfield 268) := by decide +kernel
set_option maxRecDepth 100000 in
theorem f_78_4 : xft 78 4 = some (.ireturn) := by decide +kernel
set_option maxRecDepth 100000 in
theorem f_79_0 : xft 79 0 = some (.iconst 0) := by decide +kernel
set_option maxRecDepth 100000 in
theorem f_79_1 : xft 79 1 = some (.istore 4) := by decide +kernel
set_option maxRecDepth 100000 in
theorem f_79_3 : xft 79 3 = some (.iconst 0) := by decide +kernel
set_option maxRecDepth 100000 in
theorem f_79_4 : xft 79 4 = some (.istore 5) := by decide +kernel
set_option maxRecDepth 100000 in
theorem f_79_6 : xft 79 6 = some (.iload 5) := by decide +kernel
set_option maxRecDepth 100000 in
theorem f_79_8 : xft 79 8 = some (.bipush 40) := by decide +kernel
set_option maxRecDepth 100000 in
theorem f_79_10 : xft 79 10 = some (.if_icmp .ge 45) := by decide +kernel
set_option maxRecDepth 100000 in
theorem f_79_13 : xft 79 13 = some (.aload_n 0) := by decide +kernel
set_option maxRecDepth 100000 in
theorem f_79_14 : xft 79 14 = some (.iload_n 3) := by decide +kernel
set_option maxRecDepth 100000 in
theorem f_79_15 : xft 79 15 = some (.invokevirtual 293) := by decide +kernel
set_option maxRecDepth 100000 in
theorem f_79_18 : xft 79 18 = some (.astore 6) := by decide +kernel
set_option maxRecDepth 100000 in
theorem f_79_20 : xft 79 20 = some (.aload 6) := by decide +kernel
set_option maxRecDepth 100000 in
theorem f_79_22 : xft 79 22 = some (.ifnonnull 6) := by decide +kernel
set_option maxRecDepth 100000 in
theorem f_79_25 : xft 79 25 = some (.iload 4) := by decide +kernel
set_option maxRecDepth 100000 in
theorem f_79_27 : xft 79 27 = some (.ireturn) := by decide +kernel
set_option maxRecDepth 100000 in
theorem f_79_28 : xft 79 28 = some (.aload 6) := by decide +kernel
set_option maxRecDepth 100000 in
theorem f_79_30 : xft 79 30 = some (.invokevirtual 296) := by decide +kernel
set_option maxRecDepth 100000 in
theorem f_79_33 : xft 79 33 = some (.iinc 4 1) := by decide +kernel
set_option maxRecDepth 100000 in
theorem f_79_36 : xft 79 36 = some (.aload_n 0) := by decide +kernel
set_option maxRecDepth 100000 in
theorem f_79_37 : xft 79 37 = some (.getfield 24) := by decide +kernel
set_option maxRecDepth 100000 in
theorem f_79_40 : xft 79 40 = some (.aload_n 0) := by decide +kernel
set_option maxRecDepth 100000 in
theorem f_79_41 : xft 79 41 = some (.getfield 17) := by decide +kernel
set_option maxRecDepth 100000 in
theorem f_79_44 : xft 79 44 = some (.iload_n 1) := by decide +kernel
set_option maxRecDepth 100000 in
theorem f_79_45 : xft 79 45 = some (.iload_n 2) := by decide +kernel
set_option maxRecDepth 100000 in
theorem f_79_46 : xft 79 46 = some (.invokevirtual 191) := by decide +kernel
set_option maxRecDepth 100000 in
theorem f_79_49 : xft 79 49 = some (.iinc 5 1) := by decide +kernel
set_option maxRecDepth 100000 in
theorem f_79_52 : xft 79 52 = some (.goto (-46)) := by decide +kernel
set_option maxRecDepth 100000 in
theorem f_79_55 : xft 79 55 = some (.iload 4) := by decide +kernel
set_option maxRecDepth 100000 in
theorem f_79_57 : xft 79 57 = some (.ireturn) := by decide +kernel
set_option maxRecDepth 100000 in
theorem f_80_0 : xft 80 0 = some (.iconst 0) := by decide +kernel
set_option maxRecDepth 100000 in
theorem f_80_1 : xft 80 1 = some (.istore_n 2) := by decide +kernel
set_option maxRecDepth 100000 in
theorem f_80_2 : xft 80 2 = some (.iload_n 2) := by decide +kernel
set_option maxRecDepth 100000 in
theorem f_80_3 : xft 80 3 = some (.aload_n 0) := by decide +kernel
set_option maxRecDepth 100000 in
theorem f_80_4 : xft 80 4 = some (.getfield 89) := by decide +kernel
set_option maxRecDepth 100000 in
theorem f_80_7 : xft 80 7 = some (.if_icmp .ge 38) := by decide +kernel
set_option maxRecDepth 100000 in
theorem f_80_10 : xft 80 10 = some (.aload_n 0) := by decide +kernel
set_option maxRecDepth 100000 in
theorem f_80_11 : xft 80 11 = some (.getfield 17) := by decide +kernel
set_option maxRecDepth 100000 in
theorem f_80_14 : xft 80 14 = some (.iload_n 2) := by decide +kernel
set_option maxRecDepth 100000 in
theorem f_80_15 : xft 80 15 = some (.aaload) := by decide +kernel
set_option maxRecDepth 100000 in
theorem f_80_16 : xft 80 16 = some (.astore_n 3) := by decide +kernel
set_option maxRecDepth 100000 in
theorem f_80_17 : xft 80 17 = some (.aload_n 3) := by decide +kernel
set_option maxRecDepth 100000 in
theorem f_80_18 : xft 80 18 = some (.ifnull 21) := by decide +kernel
set_option maxRecDepth 100000 in
theorem f_80_21 : xft 80 21 = some (.aload_n 0) := by decide +kernel
set_option maxRecDepth 100000 in
theorem f_80_22 : xft 80 22 = some (.getfield 24) := by decide +kernel
set_option maxRecDepth 100000 in
theorem f_80_25 : xft 80 25 = some (.aload_n 3) := by decide +kernel
set_option maxRecDepth 100000 in
theorem f_80_26 : xft 80 26 = some (.iload_n 1) := by decide +kernel
set_option maxRecDepth 100000 in
theorem f_80_27 : xft 80 27 = some (.invokevirtual 195) := by decide +kernel
set_option maxRecDepth 100000 in
theorem f_80_30 : xft 80 30 = some (.aload_n 3) := by decide +kernel
set_option maxRecDepth 100000 in
theorem f_80_31 : xft 80 31 = some (.invokevirtual 155) := by decide +kernel
set_option maxRecDepth 100000 in
theorem f_80_34 : xft 80 34 = some (.if_icmp .le 5) := by decide +kernel
set_option maxRecDepth 100000 in
theorem f_80_37 : xft 80 37 = some (.aload_n 3) := by decide +kernel
set_option maxRecDepth 100000 in
theorem f_80_38 : xft 80 38 = some (.areturn) := by decide +kernel
set_option maxRecDepth 100000 in
theorem f_80_39 : xft 80 39 = some (.iinc 2 1) := by decide +kernel
set_option maxRecDepth 100000 in
theorem f_80_42 : xft 80 42 = some (.goto (-40)) := by decide +kernel
set_option maxRecDepth 100000 in
theorem f_80_45 : xft 80 45 = some (.aconst_null) := by decide +kernel
set_option maxRecDepth 100000 in
theorem f_80_46 : xft 80 46 = some (.areturn) := by decide +kernel
set_option maxRecDepth 100000 in
theorem f_81_0 : xft 81 0 = some (.iconst 0) := by decide +kernel
set_option maxRecDepth 100000 in
theorem f_81_1 : xft 81 1 = some (.istore_n 2) := by decide +kernel
set_option maxRecDepth 100000 in
theorem f_81_2 : xft 81 2 = some (.iload_n 2) := by decide +kernel
set_option maxRecDepth 100000 in
theorem f_81_3 : xft 81 3 = some (.aload_n 0) := by decide +kernel
set_option maxRecDepth 100000 in
theorem f_81_4 : xft 81 4 = some (.getfield 89) := by decide +kernel
set_option maxRecDepth 100000 in
theorem f_81_7 : xft 81 7 = some (.if_icmp .ge 41) := by decide +kernel
set_option maxRecDepth 100000 in
theorem f_81_10 : xft 81 10 = some (.aload_n 0) := by decide +kernel
set_option maxRecDepth 100000 in
theorem f_81_11 : xft 81 11 = some (.getfield 17) := by decide +kernel
set_option maxRecDepth 100000 in
theorem f_81_14 : xft 81 14 = some (.iload_n 2) := by decide +kernel
set_option maxRecDepth 100000 in
theorem f_81_15 : xft 81 15 = some (.aaload) := by decide +kernel
set_option maxRecDepth 100000 in
theorem f_81_16 : xft 81 16 = some (.astore_n 3) := by decide +kernel
set_option maxRecDepth 100000 in
theorem f_81_17 : xft 81 17 = some (.aload_n 3) := by decide +kernel
set_option maxRecDepth 100000 in
theorem f_81_18 : xft 81 18 = some (.ifnull 24) := by decide +kernel
set_option maxRecDepth 100000 in
theorem f_81_21 : xft 81 21 = some (.aload_n 3) := by decide +kernel
set_option maxRecDepth 100000 in
theorem f_81_22 : xft 81 22 = some (.dup) := by decide +kernel
set_option maxRecDepth 100000 in
theorem f_81_23 : xft 81 23 = some (.getfield 152) := by decide +kernel
set_option maxRecDepth 100000 in
theorem f_81_26 : xft 81 26 = some (.aload_n 0) := by decide +kernel
set_option maxRecDepth 100000 in
theorem f_81_27 : xft 81 27 = some (.getfield 24) := by decide +kernel
set_option maxRecDepth 100000 in
theorem f_81_30 : xft 81 30 = some (.aload_n 3) := by decide +kernel
set_option maxRecDepth 100000 in
theorem f_81_31 : xft 81 31 = some (.iload_n 1) := by decide +kernel
set_option maxRecDepth 100000 in
theorem f_81_32 : xft 81 32 = some (.invokevirtual 195) := by decide +kernel
set_option maxRecDepth 100000 in
theorem f_81_35 : xft 81 35 = some (.bipush 10) := by decide +kernel
set_option maxRecDepth 100000 in
theorem f_81_37 : xft 81 37 = some (.idiv) := by decide +kernel
set_option maxRecDepth 100000 in
theorem f_81_38 : xft 81 38 = some (.iadd) := by decide +kernel
set_option maxRecDepth 100000 in
theorem f_81_39 : xft 81 39 = some (.putfield 152) := by decide +kernel
set_option maxRecDepth 100000 in
theorem f_81_42 : xft 81 42 = some (.iinc 2 1) := by decide +kernel
set_option maxRecDepth 100000 in
theorem f_81_45 : xft 81 45 = some (.goto (-43)) := by decide +kernel
set_option maxRecDepth 100000 in
theorem f_81_48 : xft 81 48 = some (.return_) := by decide +kernel
set_option maxRecDepth 100000 in
theorem f_82_0 : xft 82 0 = some (.aload_n 0) := by decide +kernel
set_option maxRecDepth 100000 in
theorem f_82_1 : xft 82 1 = some (.iload_n 1) := by decide +kernel
set_option maxRecDepth 100000 in
theorem f_82_2 : xft 82 2 = some (.invokevirtual 232) := by decide +kernel
set_option maxRecDepth 100000 in
theorem f_82_5 : xft 82 5 = some (.astore 4) := by decide +kernel
set_option maxRecDepth 100000 in
theorem f_82_7 : xft 82 7 = some (.aload_n 0) := by decide +kernel
set_option maxRecDepth 100000 in
theorem f_82_8 : xft 82 8 = some (.iload_n 2) := by decide +kernel
set_option maxRecDepth 100000 in
theorem f_82_9 : xft 82 9 = some (.invokevirtual 240) := by decide +kernel
set_option maxRecDepth 100000 in
theorem f_82_12 : xft 82 12 = some (.astore 5) := by decide +kernel
set_option maxRecDepth 100000 in
theorem f_82_14 : xft 82 14 = some (.iload_n 3) := by decide +kernel
set_option maxRecDepth 100000 in
theorem f_82_15 : xft 82 15 = some (.iconst 1) := by decide +kernel
set_option maxRecDepth 100000 in
theorem f_82_16 : xft 82 16 = some (.sipush 3000) := by decide +kernel
set_option maxRecDepth 100000 in
theorem f_82_19 : xft 82 19 = some (.invokestatic 49) := by decide +kernel
set_option maxRecDepth 100000 in
theorem f_82_22 : xft 82 22 = some (.aload_n 0) := by decide +kernel
set_option maxRecDepth 100000 in
theorem f_82_23 : xft 82 23 = some (.getfield 45) := by decide +kernel
set_option maxRecDepth 100000 in
theorem f_82_26 : xft 82 26 = some (.aload 4) := by decide +kernel
set_option maxRecDepth 100000 in
theorem f_82_28 : xft 82 28 = some (.aload 5) := by decide +kernel
set_option maxRecDepth 100000 in
theorem f_82_30 : xft 82 30 = some (.invokevirtual 273) := by decide +kernel
set_option maxRecDepth 100000 in
theorem f_82_33 : xft 82 33 = some (.return_) := by decide +kernel
set_option maxRecDepth 100000 in
theorem f_83_0 : xft 83 0 = some (.iload_n 1) := by decide +kernel
set_option maxRecDepth 100000 in
theorem f_83_1 : xft 83 1 = some (.ifCond .lt 21) := by decide +kernel
set_option maxRecDepth 100000 in
theorem f_83_4 : xft 83 4 = some (.iload_n 1) := by decide +kernel
set_option maxRecDepth 100000 in
theorem f_83_5 : xft 83 5 = some (.aload_n 0) := by decide +kernel
set_option maxRecDepth 100000 in
theorem f_83_6 : xft 83 6 = some (.getfield 11) := by decide +kernel
set_option maxRecDepth 100000 in
theorem f_83_9 : xft 83 9 = some (.arraylength) := by decide +kernel
set_option maxRecDepth 100000 in
theorem f_83_10 : xft 83 10 = some (.if_icmp .ge 12) := by decide +kernel
set_option maxRecDepth 100000 in
theorem f_83_13 : xft 83 13 = some (.aload_n 0) := by decide +kernel
set_option maxRecDepth 100000 in
theorem f_83_14 : xft 83 14 = some (.getfield 11) := by decide +kernel
set_option maxRecDepth 100000 in
theorem f_83_17 : xft 83 17 = some (.iload_n 1) := by decide +kernel
set_option maxRecDepth 100000 in
theorem f_83_18 : xft 83 18 = some (.aaload) := by decide +kernel
set_option maxRecDepth 100000 in
theorem f_83_19 : xft 83 19 = some (.goto 4) := by decide +kernel
set_option maxRecDepth 100000 in
theorem f_83_22 : xft 83 22 = some (.aconst_null) := by decide +kernel
set_option maxRecDepth 100000 in
theorem f_83_23 : xft 83 23 = some (.astore_n 2) := by decide +kernel
set_option maxRecDepth 100000 in
theorem f_83_24 : xft 83 24 = some (.aload_n 2) := by decide +kernel
set_option maxRecDepth 100000 in
theorem f_83_25 : xft 83 25 = some (.ifnonnull 14) := by decide +kernel
set_option maxRecDepth 100000 in
theorem f_83_28 : xft 83 28 = some (.new 199) := by decide +kernel
set_option maxRecDepth 100000 in
theorem f_83_31 : xft 83 31 = some (.dup) := by decide +kernel
set_option maxRecDepth 100000 in
theorem f_83_32 : xft 83 32 = some (.ldc_w 299) := by decide +kernel
set_option maxRecDepth 100000 in
theorem f_83_35 : xft 83 35 = some (.invokespecial 203) := by decide +kernel
set_option maxRecDepth 100000 in
theorem f_83_38 : xft 83 38 = some (.athrow) := by decide +kernel
set_option maxRecDepth 100000 in
theorem f_83_39 : xft 83 39 = some (.aload_n 2) := by decide +kernel
set_option maxRecDepth 100000 in
theorem f_83_40 : xft 83 40 = some (.areturn) := by decide +kernel
set_option maxRecDepth 100000 in
theorem f_84_0 : xft 84 0 = some (.iload_n 1) := by decide +kernel
set_option maxRecDepth 100000 in
theorem f_84_1 : xft 84 1 = some (.ifCond .lt 21) := by decide +kernel
set_option maxRecDepth 100000 in
theorem f_84_4 : xft 84 4 = some (.iload_n 1) := by decide +kernel
set_option maxRecDepth 100000 in
theorem f_84_5 : xft 84 5 = some (.aload_n 0) := by decide +kernel
set_option maxRecDepth 100000 in
theorem f_84_6 : xft 84 6 = some (.getfield 17) := by decide +kernel
set_option maxRecDepth 100000 in
theorem f_84_9 : xft 84 9 = some (.arraylength) := by decide +kernel
set_option maxRecDepth 100000 in
theorem f_84_10 : xft 84 10 = some (.if_icmp .ge 12) := by decide +kernel
set_option maxRecDepth 100000 in
theorem f_84_13 : xft 84 13 = some (.aload_n 0) := by decide +kernel
set_option maxRecDepth 100000 in
theorem f_84_14 : xft 84 14 = some (.getfield 17) := by decide +kernel
set_option maxRecDepth 100000 in
theorem f_84_17 : xft 84 17 = some (.iload_n 1) := by decide +kernel
set_option maxRecDepth 100000 in
theorem f_84_18 : xft 84 18 = some (.aaload) := by decide +kernel
set_option maxRecDepth 100000 in
theorem f_84_19 : xft 84 19 = some (.goto 4) := by decide +kernel
set_option maxRecDepth 100000 in
theorem f_84_22 : xft 84 22 = some (.aconst_null) := by decide +kernel
set_option maxRecDepth 100000 in
theorem f_84_23 : xft 84 23 = some (.astore_n 2) := by decide +kernel
set_option maxRecDepth 100000 in
theorem f_84_24 : xft 84 24 = some (.aload_n 2) := by decide +kernel
set_option maxRecDepth 100000 in
theorem f_84_25 : xft 84 25 = some (.ifnonnull 14) := by decide +kernel
set_option maxRecDepth 100000 in
theorem f_84_28 : xft 84 28 = some (.new 199) := by decide +kernel
set_option maxRecDepth 100000 in
theorem f_84_31 : xft 84 31 = some (.dup) := by decide +kernel
set_option maxRecDepth 100000 in
theorem f_84_32 : xft 84 32 = some (.ldc_w 301) := by decide +kernel
set_option maxRecDepth 100000 in
theorem f_84_35 : xft 84 35 = some (.invokespecial 203) := by decide +kernel
set_option maxRecDepth 100000 in
theorem f_84_38 : xft 84 38 = some (.athrow) := by decide +kernel
set_option maxRecDepth 100000 in
theorem f_84_39 : xft 84 39 = some (.aload_n 2) := by decide +kernel
set_option maxRecDepth 100000 in
theorem f_84_40 : xft 84 40 = some (.areturn) := by decide +kernel
set_option maxRecDepth 100000 in
theorem f_85_0 : xft 85 0 = some (.iload_n 1) := by decide +kernel
set_option maxRecDepth 100000 in
theorem f_85_1 : xft 85 1 = some (.ifCond .lt 21) := by decide +kernel
set_option maxRecDepth 100000 in
theorem f_85_4 : xft 85 4 = some (.iload_n 1) := by decide +kernel
set_option maxRecDepth 100000 in
theorem f_85_5 : xft 85 5 = some (.aload_n 0) := by decide +kernel
set_option maxRecDepth 100000 in
theorem f_85_6 : xft 85 6 = some (.getfield 30) := by decide +kernel
set_option maxRecDepth 100000 in
theorem f_85_9 : xft 85 9 = some (.arraylength) := by decide +kernel
set_option maxRecDepth 100000 in
theorem f_85_10 : xft 85 10 = some (.if_icmp .ge 12) := by decide +kernel
set_option maxRecDepth 100000 in
theorem f_85_13 : xft 85 13 = some (.aload_n 0) := by decide +kernel
set_option maxRecDepth 100000 in
theorem f_85_14 : xft 85 14 = some (.getfield 30) := by decide +kernel
set_option maxRecDepth 100000 in
theorem f_85_17 : xft 85 17 = some (.iload_n 1) := by decide +kernel
set_option maxRecDepth 100000 in
theorem f_85_18 : xft 85 18 = some (.aaload) := by decide +kernel
set_option maxRecDepth 100000 in
theorem f_85_19 : xft 85 19 = some (.goto 4) := by decide +kernel
set_option maxRecDepth 100000 in
theorem f_85_22 : xft 85 22 = some (.aconst_null) := by decide +kernel
set_option maxRecDepth 100000 in
theorem f_85_23 : xft 85 23 = some (.astore_n 2) := by decide +kernel
set_option maxRecDepth 100000 in
theorem f_85_24 : xft 85 24 = some (.aload_n 2) := by decide +kernel
set_option maxRecDepth 100000 in
theorem f_85_25 : xft 85 25 = some (.ifnonnull 14) := by decide +kernel
set_option maxRecDepth 100000 in
theorem f_85_28 : xft 85 28 = some (.new 199) := by decide +kernel
set_option maxRecDepth 100000 in
theorem f_85_31 : xft 85 31 = some (.dup) := by decide +kernel
set_option maxRecDepth 100000 in
theorem f_85_32 : xft 85 32 = some (.ldc_w 303) := by decide +kernel
set_option maxRecDepth 100000 in
theorem f_85_35 : xft 85 35 = some (.invokespecial 203) := by decide +kernel
set_option maxRecDepth 100000 in
theorem f_85_38 : xft 85 38 = some (.athrow) := by decide +kernel
set_option maxRecDepth 100000 in
theorem f_85_39 : xft 85 39 = some (.aload_n 2) := by decide +kernel
set_option maxRecDepth 100000 in
theorem f_85_40 : xft 85 40 = some (.areturn) := by decide +kernel
set_option maxRecDepth 100000 in
theorem f_86_0 : xft 86 0 = some (.iload_n 1) := by decide +kernel
set_option maxRecDepth 100000 in
theorem f_86_1 : xft 86 1 = some (.ifCond .lt 21) := by decide +kernel
set_option maxRecDepth 100000 in
theorem f_86_4 : xft 86 4 = some (.iload_n 1) := by decide +kernel
set_option maxRecDepth 100000 in
theorem f_86_5 : xft 86 5 = some (.aload_n 0) := by decide +kernel
set_option maxRecDepth 100000 in
theorem f_86_6 : xft 86 6 = some (.getfield 37) := by decide +kernel
set_option maxRecDepth 100000 in
theorem f_86_9 : xft 86 9 = some (.arraylength) := by decide +kernel
set_option maxRecDepth 100000 in
theorem f_86_10 : xft 86 10 = some (.if_icmp .ge 12) := by decide +kernel
set_option maxRecDepth 100000 in
theorem f_86_13 : xft 86 13 = some (.aload_n 0) := by decide +kernel
set_option maxRecDepth 100000 in
theorem f_86_14 : xft 86 14 = some (.getfield 37) := by decide +kernel
set_option maxRecDepth 100000 in
theorem f_86_17 : xft 86 17 = some (.iload_n 1) := by decide +kernel
set_option maxRecDepth 100000 in
theorem f_86_18 : xft 86 18 = some (.aaload) := by decide +kernel
set_option maxRecDepth 100000 in
theorem f_86_19 : xft 86 19 = some (.goto 4) := by decide +kernel
set_option maxRecDepth 100000 in
theorem f_86_22 : xft 86 22 = some (.aconst_null) := by decide +kernel
set_option maxRecDepth 100000 in
theorem f_86_23 : xft 86 23 = some (.astore_n 2) := by decide +kernel
set_option maxRecDepth 100000 in
theorem f_86_24 : xft 86 24 = some (.aload_n 2) := by decide +kernel
set_option maxRecDepth 100000 in
theorem f_86_25 : xft 86 25 = some (.ifnonnull 14) := by decide +kernel
set_option maxRecDepth 100000 in
theorem f_86_28 : xft 86 28 = some (.new 199) := by decide +kernel
set_option maxRecDepth 100000 in
theorem f_86_31 : xft 86 31 = some (.dup) := by decide +kernel
set_option maxRecDepth 100000 in
theorem f_86_32 : xft 86 32 = some (.ldc_w 305) := by decide +kernel
set_option maxRecDepth 100000 in
theorem f_86_35 : xft 86 35 = some (.invokespecial 203) := by decide +kernel
set_option maxRecDepth 100000 in
theorem f_86_38 : xft 86 38 = some (.athrow) := by decide +kernel
set_option maxRecDepth 100000 in
theorem f_86_39 : xft 86 39 = some (.aload_n 2) := by decide +kernel
set_option maxRecDepth 100000 in
theorem f_86_40 : xft 86 40 = some (.areturn) := by decide +kernel
set_option maxRecDepth 100000 in
theorem f_87_0 : xft 87 0 = some (.iload_n 0) := by decide +kernel
set_option maxRecDepth 100000 in
theorem f_87_1 : xft 87 1 = some (.ifCond .lt 8) := by decide +kernel
set_option maxRecDepth 100000 in
theorem f_87_4 : xft 87 4 = some (.iload_n 0) := by decide +kernel
set_option maxRecDepth 100000 in
theorem f_87_5 : xft 87 5 = some (.iload_n 1) := by decide +kernel
set_option maxRecDepth 100000 in
theorem f_87_6 : xft 87 6 = some (.if_icmp .lt 14) := by decide +kernel
set_option maxRecDepth 100000 in
theorem f_87_9 : xft 87 9 = some (.new 199) := by decide +kernel
set_option maxRecDepth 100000 in
theorem f_87_12 : xft 87 12 = some (.dup) := by decide +kernel
set_option maxRecDepth 100000 in
theorem f_87_13 : xft 87 13 = some (.ldc_w 307) := by decide +kernel
set_option maxRecDepth 100000 in
theorem f_87_16 : xft 87 16 = some (.invokespecial 203) := by decide +kernel
set_option maxRecDepth 100000 in
theorem f_87_19 : xft 87 19 = some (.athrow) := by decide +kernel
set_option maxRecDepth 100000 in
theorem f_87_20 : xft 87 20 = some (.return_) := by decide +kernel
set_option maxRecDepth 100000 in
theorem f_88_0 : xft 88 0 = some (.iload_n 0) := by decide +kernel
set_option maxRecDepth 100000 in
theorem f_88_1 : xft 88 1 = some (.iload_n 1) := by decide +kernel
set_option maxRecDepth 100000 in
theorem f_88_2 : xft 88 2 = some (.if_icmp .lt 8) := by decide +kernel
set_option maxRecDepth 100000 in
theorem f_88_5 : xft 88 5 = some (.iload_n 0) := by decide +kernel
set_option maxRecDepth 100000 in
theorem f_88_6 : xft 88 6 = some (.iload_n 2) := by decide +kernel
set_option maxRecDepth 100000 in
theorem f_88_7 : xft 88 7 = some (.if_icmp .le 14) := by decide +kernel
set_option maxRecDepth 100000 in
theorem f_88_10 : xft 88 10 = some (.new 309) := by decide +kernel
set_option maxRecDepth 100000 in
theorem f_88_13 : xft 88 13 = some (.dup) := by decide +kernel
set_option maxRecDepth 100000 in
theorem f_88_14 : xft 88 14 = some (.ldc_w 311) := by decide +kernel
set_option maxRecDepth 100000 in
theorem f_88_17 : xft 88 17 = some (.invokespecial 313) := by decide +kernel
set_option maxRecDepth 100000 in
theorem f_88_20 : xft 88 20 = some (.athrow) := by decide +kernel
set_option maxRecDepth 100000 in
theorem f_88_21 : xft 88 21 = some (.return_) := by decide +kernel
set_option maxRecDepth 100000 in
theorem f_89_0 : xft 89 0 = some (.iload_n 0) := by decide +kernel
set_option maxRecDepth 100000 in
theorem f_89_1 : xft 89 1 = some (.iload_n 1) := by decide +kernel
set_option maxRecDepth 100000 in
theorem f_89_2 : xft 89 2 = some (.if_icmp .ne 14) := by decide +kernel
set_option maxRecDepth 100000 in
theorem f_89_5 : xft 89 5 = some (.new 309) := by decide +kernel
set_option maxRecDepth 100000 in
theorem f_89_8 : xft 89 8 = some (.dup) := by decide +kernel
set_option maxRecDepth 100000 in
theorem f_89_9 : xft 89 9 = some (.ldc_w 314) := by decide +kernel
set_option maxRecDepth 100000 in
theorem f_89_12 : xft 89 12 = some (.invokespecial 313) := by decide +kernel
set_option maxRecDepth 100000 in
theorem f_89_15 : xft 89 15 = some (.athrow) := by decide +kernel
set_option maxRecDepth 100000 in
theorem f_89_16 : xft 89 16 = some (.return_) := by decide +kernel
set_option maxRecDepth 100000 in
theorem f_90_0 : xft 90 0 = some (.iload_n 0) := by decide +kernel
set_option maxRecDepth 100000 in
theorem f_90_1 : xft 90 1 = some (.bipush 8) := by decide +kernel
set_option maxRecDepth 100000 in
theorem f_90_3 : xft 90 3 = some (.invokestatic 71) := by decide +kernel
set_option maxRecDepth 100000 in
theorem f_90_6 : xft 90 6 = some (.iload_n 1) := by decide +kernel
set_option maxRecDepth 100000 in
theorem f_90_7 : xft 90 7 = some (.bipush 8) := by decide +kernel
set_option maxRecDepth 100000 in
theorem f_90_9 : xft 90 9 = some (.invokestatic 71) := by decide +kernel
set_option maxRecDepth 100000 in
theorem f_90_12 : xft 90 12 = some (.iload_n 0) := by decide +kernel
set_option maxRecDepth 100000 in
theorem f_90_13 : xft 90 13 = some (.iload_n 1) := by decide +kernel
set_option maxRecDepth 100000 in
theorem f_90_14 : xft 90 14 = some (.invokestatic 167) := by decide +kernel
set_option maxRecDepth 100000 in
theorem f_90_17 : xft 90 17 = some (.return_) := by decide +kernel
/-! blocks, by program (gen2.py) -/
section BLK
variable {sc : xS} {d : Nat} {T : Nat → Nat × Nat} {z : Nat × Nat} {V : Nat → Nat → Int} {J : Nat → Nat → Int64} {R : Nat → Nat → Option Nat}
theorem eX6_init {a0 : Nat} : X sc (d + 1) 49 [.ref a0] (T, z, xv V, J, R) = XR sc d 49 0 [some (.ref a0), none] [] (T, z, xv V, J, R) :=
  (X_eq ⟨jl_49, by rw [mn_49]; rfl, rfl, by rw [lm_49]; exact Nat.le_of_ble_eq_true rfl⟩).trans (by unfold xent; rw [lm_49]; rfl)
theorem bX6_init_0 {o1 : Option Value} {a0 : Nat} (g1 : 1 ≤ d) (g2 : (va_up T z.1 (40, 8)) a0 = (7, 0)) (g3 : (va_up (va_up T z.1 (40, 8)) (z.1 + 1) (41, 40)) a0 = (7, 0)) (g4 : (va_up (va_up (va_up T z.1 (40, 8)) (z.1 + 1) (41, 40)) (z.1 + 2) (5, 0)) (z.1 + 2) = (5, 0)) : XR sc d 49 0 [some (.ref a0), o1] [] (T, z, xv V, J, R) = xret 49 (XR sc d 49) 27 30 [some (.ref a0), o1] [.ref (z.1 + 2), .ref a0] (X sc d 24 [.ref (z.1 + 2)] ((va_up (va_up (va_up T z.1 (40, 8)) (z.1 + 1) (41, 40)) (z.1 + 2) (5, 0)), (z.1 + 3, z.2 + 8 + 40 + 6), xv (va_up (va_up (va_up V z.1 (fun _ => 0)) (z.1 + 1) (fun _ => 0)) (z.1 + 2) (fun _ => 0)), (va_up (va_up (va_up J z.1 (fun _ => 0)) (z.1 + 1) (fun _ => 0)) (z.1 + 2) (fun _ => 0)), (va_up (xup2 (va_up (xup2 (va_up R z.1 (fun _ => none)) a0 0 (some z.1)) (z.1 + 1) (fun _ => none)) a0 2 (some (z.1 + 1))) (z.1 + 2) (fun _ => none)))) :=
  (st_aload_n f_49_0 rfl).trans ((st_objinit f_49_1 r_49_1 t_49_1 ⟨g1, Nat.le_of_ble_eq_true rfl⟩).trans ((st_aload_n f_49_4 rfl).trans ((sw_bipush f_49_5 c8_8).trans ((sw_newA 8 f_49_7 q_49_9 (by decide) ⟨rfl, by decide⟩).trans ((st_putR f_49_10 e_49_11 rfl (Or.inr n_49) g2).trans ((st_aload_n f_49_13 rfl).trans ((sw_bipush f_49_14 c8_40).trans ((sw_newA 40 f_49_16 q_49_15 (by decide) ⟨rfl, by decide⟩).trans ((st_putR f_49_19 e_49_17 rfl (Or.inr n_49) g3).trans ((st_aload_n f_49_22 rfl).trans ((sw_new f_49_23 q_49_21 (by decide)).trans ((st_dup f_49_26 rfl).trans (st_callI' f_49_27 h_49_23 mn_24 rfl rfl rfl rfl mo_24 g4 rfl)))))))))))))
theorem bX6_init_30 {o1 : Option Value} {b0 b1 a0 : Nat} (g1 : T b1 = (7, 0)) (g2 : (va_up T z.1 (42, 6)) a0 = (7, 0)) : XR sc d 49 30 [some (.ref a0), o1] [.ref b0, .ref b1] (T, z, xv V, J, R) = XR sc d 49 44 [some (.ref a0), some (xw 0)] [] ((va_up T z.1 (42, 6)), (z.1 + 1, z.2 + 6), xv (va_up V z.1 (fun _ => 0)), (va_up J z.1 (fun _ => 0)), (xup2 (va_up (xup2 R b1 4 (some b0)) z.1 (fun _ => none)) a0 5 (some z.1))) :=
  (st_putR f_49_30 e_49_24 rfl (Or.inr n_49) g1).trans ((st_aload_n f_49_33 rfl).trans ((sw_bipush f_49_34 c8_6).trans ((sw_newA 6 f_49_36 q_49_28 (by decide) ⟨rfl, by decide⟩).trans ((st_putR f_49_39 e_49_30 rfl (Or.inr n_49) g2).trans ((sw_iconst f_49_42).trans (sw_istore_n (L' := [some (.ref a0), some (xw 0)]) f_49_43 (Nat.le_of_ble_eq_true rfl) rfl))))))
theorem bX6_init_44 {o0 : Option Value} {x1 : Int} (g1 : -2147483648 ≤ x1 ∧ x1 ≤ 2147483647) : XR sc d 49 44 [o0, some (xw x1)] [] (T, z, xv V, J, R) = if 6 ≤ x1 then XR sc d 49 69 [o0, some (xw x1)] [] (T, z, xv V, J, R) else XR sc d 49 50 [o0, some (xw x1)] [] (T, z, xv V, J, R) :=
  (sw_iload_n f_49_44 rfl).trans ((sw_bipush f_49_45 c8_6).trans (sw_icmp_ge (t := 69) f_49_47 ⟨by decide, rfl⟩ g1 ⟨by decide, by decide⟩))
theorem bX6_init_50 {x1 : Int} {a0 : Nat} (g1 : T a0 = (7, 0)) (g2 : R a0 5 = some ((R a0 5).getD 0)) (g3 : (va_up T z.1 (3, 0)) z.1 = (3, 0)) : XR sc d 49 50 [some (.ref a0), some (xw x1)] [] (T, z, xv V, J, R) = xret 49 (XR sc d 49) 59 62 [some (.ref a0), some (xw x1)] [.ref z.1, xw x1, .ref ((R a0 5).getD 0)] (X sc d 10 [.ref z.1] ((va_up T z.1 (3, 0)), (z.1 + 1, z.2 + 3), xv (va_up V z.1 (fun _ => 0)), (va_up J z.1 (fun _ => 0)), (va_up R z.1 (fun _ => none)))) :=
  (st_aload_n f_49_50 rfl).trans ((st_getR f_49_51 e_49_30 (by decide) g1 g2).trans ((sw_iload_n f_49_54 rfl).trans ((sw_new f_49_55 q_49_28 (by decide)).trans ((st_dup f_49_58 rfl).trans (st_callI' f_49_59 h_49_34 mn_10 rfl rfl rfl rfl mo_10 g3 rfl)))))
theorem bX6_init_62 {o0 : Option Value} {y1 x1 : Int} {b0 b2 : Nat} (g1 : T b2 = (42, (T b2).2)) (g2 : (0 : Int) ≤ y1 ∧ y1 < ((T b2).2 : Int) ∧ (T b2).2 ≤ 3584) (g3 : b0 < z.1) (g4 : T b0 = (3, 0)) : XR sc d 49 62 [o0, some (xw x1)] [.ref b0, xw y1, .ref b2] (T, z, xv V, J, R) = XR sc d 49 44 [o0, some (xw (x1 + 1))] [] (T, z, xv V, J, (xup2 R b2 y1.toNat (some b0))) :=
  (sw_aastore (c := 2) f_49_62 g1 (by decide) g2 g3 g4).trans ((sw_iinc (L' := [o0, some (xw (x1 + 1))]) f_49_63 rfl (Nat.le_of_ble_eq_true rfl) rfl).trans (st_goto (t := 44) f_49_66 ⟨by decide, rfl⟩))
theorem bX6_init_69 {o1 : Option Value} {a0 : Nat} (g1 : (va_up T z.1 (43, 6)) a0 = (7, 0)) : XR sc d 49 69 [some (.ref a0), o1] [] (T, z, xv V, J, R) = XR sc d 49 80 [some (.ref a0), some (xw 0)] [] ((va_up T z.1 (43, 6)), (z.1 + 1, z.2 + 6), xv (va_up V z.1 (fun _ => 0)), (va_up J z.1 (fun _ => 0)), (xup2 (va_up R z.1 (fun _ => none)) a0 6 (some z.1))) :=
  (st_aload_n f_49_69 rfl).trans ((sw_bipush f_49_70 c8_6).trans ((sw_newA 6 f_49_72 q_49_35 (by decide) ⟨rfl, by decide⟩).trans ((st_putR f_49_75 e_49_37 rfl (Or.inr n_49) g1).trans ((sw_iconst f_49_78).trans (sw_istore_n (L' := [some (.ref a0), some (xw 0)]) f_49_79 (Nat.le_of_ble_eq_true rfl) rfl)))))
theorem bX6_init_80 {o0 : Option Value} {x1 : Int} (g1 : -2147483648 ≤ x1 ∧ x1 ≤ 2147483647) : XR sc d 49 80 [o0, some (xw x1)] [] (T, z, xv V, J, R) = if 6 ≤ x1 then XR sc d 49 105 [o0, some (xw x1)] [] (T, z, xv V, J, R) else XR sc d 49 86 [o0, some (xw x1)] [] (T, z, xv V, J, R) :=
  (sw_iload_n f_49_80 rfl).trans ((sw_bipush f_49_81 c8_6).trans (sw_icmp_ge (t := 105) f_49_83 ⟨by decide, rfl⟩ g1 ⟨by decide, by decide⟩))
theorem bX6_init_86 {x1 : Int} {a0 : Nat} (g1 : T a0 = (7, 0)) (g2 : R a0 6 = some ((R a0 6).getD 0)) (g3 : (va_up T z.1 (4, 0)) z.1 = (4, 0)) : XR sc d 49 86 [some (.ref a0), some (xw x1)] [] (T, z, xv V, J, R) = xret 49 (XR sc d 49) 95 98 [some (.ref a0), some (xw x1)] [.ref z.1, xw x1, .ref ((R a0 6).getD 0)] (X sc d 39 [.ref z.1] ((va_up T z.1 (4, 0)), (z.1 + 1, z.2 + 2), xv (va_up V z.1 (fun _ => 0)), (va_up J z.1 (fun _ => 0)), (va_up R z.1 (fun _ => none)))) :=
  (st_aload_n f_49_86 rfl).trans ((st_getR f_49_87 e_49_37 (by decide) g1 g2).trans ((sw_iload_n f_49_90 rfl).trans ((sw_new f_49_91 q_49_35 (by decide)).trans ((st_dup f_49_94 rfl).trans (st_callI' f_49_95 h_49_41 mn_39 rfl rfl rfl rfl mo_39 g3 rfl)))))
theorem bX6_init_98 {o0 : Option Value} {y1 x1 : Int} {b0 b2 : Nat} (g1 : T b2 = (43, (T b2).2)) (g2 : (0 : Int) ≤ y1 ∧ y1 < ((T b2).2 : Int) ∧ (T b2).2 ≤ 3584) (g3 : b0 < z.1) (g4 : T b0 = (4, 0)) : XR sc d 49 98 [o0, some (xw x1)] [.ref b0, xw y1, .ref b2] (T, z, xv V, J, R) = XR sc d 49 80 [o0, some (xw (x1 + 1))] [] (T, z, xv V, J, (xup2 R b2 y1.toNat (some b0))) :=
  (sw_aastore (c := 3) f_49_98 g1 (by decide) g2 g3 g4).trans ((sw_iinc (L' := [o0, some (xw (x1 + 1))]) f_49_99 rfl (Nat.le_of_ble_eq_true rfl) rfl).trans (st_goto (t := 80) f_49_102 ⟨by decide, rfl⟩))
theorem bX6_init_105 {o1 : Option Value} {a0 : Nat} (g1 : (va_up T z.1 (6, 0)) z.1 = (6, 0)) : XR sc d 49 105 [some (.ref a0), o1] [] (T, z, xv V, J, R) = xret 49 (XR sc d 49) 110 113 [some (.ref a0), o1] [.ref z.1, .ref a0] (X sc d 40 [.ref z.1] ((va_up T z.1 (6, 0)), (z.1 + 1, z.2 + 2), xv (va_up V z.1 (fun _ => 0)), (va_up J z.1 (fun _ => 0)), (va_up R z.1 (fun _ => none)))) :=
  (st_aload_n f_49_105 rfl).trans ((sw_new f_49_106 q_49_42 (by decide)).trans ((st_dup f_49_109 rfl).trans (st_callI' f_49_110 h_49_44 mn_40 rfl rfl rfl rfl mo_40 g1 rfl)))
theorem bX6_init_113 {o0 o1 : Option Value} {b0 b1 : Nat} (g1 : T b1 = (7, 0)) : XR sc d 49 113 [o0, o1] [.ref b0, .ref b1] (T, z, xv V, J, R) = some (.inl none, (T, z, xv V, J, (xup2 R b1 7 (some b0)))) :=
  (st_putR f_49_113 e_49_45 rfl (Or.inr n_49) g1).trans (st_return f_49_116 mr_49)
theorem eX6_hide {x1 : Int} {a0 : Nat} : X sc (d + 1) 50 [.ref a0, xw x1] (T, z, xv V, J, R) = XR sc d 50 0 [some (.ref a0), some (xw x1), none] [] (T, z, xv V, J, R) :=
  (X_eq ⟨jl_50, by rw [mn_50]; rfl, rfl, by rw [lm_50]; exact Nat.le_of_ble_eq_true rfl⟩).trans (by unfold xent; rw [lm_50]; rfl)
theorem bX6_hide_0 {o0 o2 : Option Value} {x1 : Int} : XR sc d 50 0 [o0, some (xw x1), o2] [] (T, z, xv V, J, R) = xret 50 (XR sc d 50) 4 7 [o0, some (xw x1), o2] [] (X sc d 88 [xw x1, xw 2, xw 9] (T, z, xv V, J, R)) :=
  (sw_iload_n f_50_0 rfl).trans ((sw_iconst f_50_1).trans ((sw_bipush f_50_2 c8_9).trans (st_callS' f_50_4 h_50_49 mn_88 rfl rfl rfl rfl)))
theorem bX6_hide_7 {o1 o2 : Option Value} {a0 : Nat} (g1 : T a0 = (7, 0)) (g2 : -2147483648 ≤ (V a0 1) ∧ (V a0 1) ≤ 2147483647) : XR sc d 50 7 [some (.ref a0), o1, o2] [] (T, z, xv V, J, R) = if (V a0 1) < 8 then XR sc d 50 26 [some (.ref a0), o1, o2] [] (T, z, xv V, J, R) else XR sc d 50 16 [some (.ref a0), o1, o2] [] (T, z, xv V, J, R) :=
  (st_aload_n f_50_7 rfl).trans ((sw_getI f_50_8 e_50_53 (by decide) g1).trans ((sw_bipush f_50_11 c8_8).trans (sw_icmp_lt (t := 26) f_50_13 ⟨by decide, rfl⟩ g2 ⟨by decide, by decide⟩)))
theorem bX6_hide_16 {o0 o1 o2 : Option Value} (g1 : 6 ≤ d) : XR sc d 50 16 [o0, o1, o2] [] (T, z, xv V, J, R) = some (.inr 9, (va_up T z.1 (10, 0), (z.1 + 1, z.2 + 6), xv (va_up V z.1 (fun _ => 0)), va_up J z.1 (fun _ => 0), va_up R z.1 (fun _ => none))) :=
  sw_throw f_50_16 q_50_57 (by decide) (xthr_L (idx := 0) g1 (Nat.le_of_ble_eq_true rfl) w_50 f_50_19 f_50_20 u_50_59 f_50_22 f_50_25 v_50_61)
theorem bX6_hide_26 {o2 : Option Value} {x1 : Int} {a0 : Nat} (g1 : T a0 = (7, 0)) (g2 : R a0 0 = some ((R a0 0).getD 0)) (g3 : (va_up T z.1 (1, 0)) z.1 = (1, 0)) : XR sc d 50 26 [some (.ref a0), some (xw x1), o2] [] (T, z, xv V, J, R) = xret 50 (XR sc d 50) 41 44 [some (.ref a0), some (xw x1), some (xw (V a0 1))] [.ref z.1, xw (V a0 1), .ref ((R a0 0).getD 0)] (X sc d 0 [.ref z.1, xw x1] ((va_up T z.1 (1, 0)), (z.1 + 1, z.2 + 2), xv (va_up V z.1 (fun _ => 0)), (va_up J z.1 (fun _ => 0)), (va_up R z.1 (fun _ => none)))) :=
  (st_aload_n f_50_26 rfl).trans ((sw_getI f_50_27 e_50_53 (by decide) g1).trans ((sw_istore_n (L' := [some (.ref a0), some (xw x1), some (xw (V a0 1))]) f_50_30 (Nat.le_of_ble_eq_true rfl) rfl).trans ((st_aload_n f_50_31 rfl).trans ((st_getR f_50_32 e_50_11 (by decide) g1 g2).trans ((sw_iload_n f_50_35 rfl).trans ((sw_new f_50_36 q_50_9 (by decide)).trans ((st_dup f_50_39 rfl).trans ((sw_iload_n f_50_40 rfl).trans (st_callI' f_50_41 h_50_64 mn_0 rfl rfl rfl rfl mo_0 g3 rfl)))))))))
theorem bX6_hide_44 {o1 : Option Value} {y1 x2 : Int} {b0 b2 a0 : Nat} (g1 : T b2 = (40, (T b2).2)) (g2 : (0 : Int) ≤ y1 ∧ y1 < ((T b2).2 : Int) ∧ (T b2).2 ≤ 3584) (g3 : b0 < z.1) (g4 : T b0 = (1, 0)) (g5 : T a0 = (7, 0)) : XR sc d 50 44 [some (.ref a0), o1, some (xw x2)] [.ref b0, xw y1, .ref b2] (T, z, xv V, J, R) = some (.inl (some (xw x2)), (T, z, xv (xup2 V a0 1 ((V a0 1) + 1)), J, (xup2 R b2 y1.toNat (some b0)))) :=
  (sw_aastore (c := 0) f_50_44 g1 (by decide) g2 g3 g4).trans ((st_aload_n f_50_45 rfl).trans ((st_dup f_50_46 rfl).trans ((sw_getI f_50_47 e_50_53 (by decide) g5).trans ((sw_iconst f_50_50).trans ((sw_iadd f_50_51).trans ((sw_putI f_50_52 e_50_53 (Or.inl rfl) (Or.inl rfl) g5).trans ((sw_iload_n f_50_55 rfl).trans (sw_ireturn f_50_56 mr_50))))))))
theorem eX6_fault {x1 x2 x3 : Int} {a0 : Nat} : X sc (d + 1) 51 [.ref a0, xw x1, xw x2, xw x3] (T, z, xv V, J, R) = XR sc d 51 0 [some (.ref a0), some (xw x1), some (xw x2), some (xw x3), none] [] (T, z, xv V, J, R) :=
  (X_eq ⟨jl_51, by rw [mn_51]; rfl, rfl, by rw [lm_51]; exact Nat.le_of_ble_eq_true rfl⟩).trans (by unfold xent; rw [lm_51]; rfl)
theorem bX6_fault_0 {o2 o3 o4 : Option Value} {x1 : Int} {a0 : Nat} (g1 : T a0 = (7, 0)) : XR sc d 51 0 [some (.ref a0), some (xw x1), o2, o3, o4] [] (T, z, xv V, J, R) = xret 51 (XR sc d 51) 2 5 [some (.ref a0), some (xw x1), o2, o3, o4] [] (X sc d 83 [.ref a0, xw x1] (T, z, xv V, J, R)) :=
  (st_aload_n f_51_0 rfl).trans ((sw_iload_n f_51_1 rfl).trans (st_callV' f_51_2 h_51_67 mn_83 rfl rfl rfl rfl mo_83 g1 rfl))
theorem bX6_fault_5 {o0 o1 o3 o4 : Option Value} {x2 : Int} {b0 : Nat} : XR sc d 51 5 [o0, o1, some (xw x2), o3, o4] [.ref b0] (T, z, xv V, J, R) = xret 51 (XR sc d 51) 10 13 [o0, o1, some (xw x2), o3, some (.ref b0)] [] (X sc d 87 [xw x2, xw 12] (T, z, xv V, J, R)) :=
  (st_astore (L' := [o0, o1, some (xw x2), o3, some (.ref b0)]) f_51_5 (Nat.le_of_ble_eq_true rfl) rfl).trans ((sw_iload_n f_51_7 rfl).trans ((sw_bipush f_51_8 c8_12).trans (st_callS' f_51_10 h_51_71 mn_87 rfl rfl rfl rfl)))
theorem bX6_fault_13 {o0 o1 o2 o4 : Option Value} {x3 : Int} : XR sc d 51 13 [o0, o1, o2, some (xw x3), o4] [] (T, z, xv V, J, R) = xret 51 (XR sc d 51) 16 19 [o0, o1, o2, some (xw x3), o4] [] (X sc d 87 [xw x3, xw 8] (T, z, xv V, J, R)) :=
  (sw_iload_n f_51_13 rfl).trans ((sw_bipush f_51_14 c8_8).trans (st_callS' f_51_16 h_51_71 mn_87 rfl rfl rfl rfl))
theorem bX6_fault_19 {o0 o1 : Option Value} {x2 x3 : Int} {a4 : Nat} (g1 : T a4 = (1, 0)) : XR sc d 51 19 [o0, o1, some (xw x2), some (xw x3), some (.ref a4)] [] (T, z, xv V, J, R) = xret 51 (XR sc d 51) 25 28 [o0, o1, some (xw x2), some (xw x3), some (.ref a4)] [] (X sc d 1 [.ref a4, xw x2, xw x3, xw 1, xw 1] (T, z, xv V, J, R)) :=
  (st_aload f_51_19 rfl).trans ((sw_iload_n f_51_21 rfl).trans ((sw_iload_n f_51_22 rfl).trans ((sw_iconst f_51_23).trans ((sw_iconst f_51_24).trans (st_callV' f_51_25 h_51_75 mn_1 rfl rfl rfl rfl mo_1 g1 rfl)))))
theorem bX6_fault_28 {o0 o1 o2 o3 : Option Value} {a4 : Nat} (g1 : T a4 = (1, 0)) : XR sc d 51 28 [o0, o1, o2, o3, some (.ref a4)] [] (T, z, xv V, J, R) = xret 51 (XR sc d 51) 30 33 [o0, o1, o2, o3, some (.ref a4)] [] (X sc d 2 [.ref a4] (T, z, xv V, J, R)) :=
  (st_aload f_51_28 rfl).trans (st_callV' f_51_30 h_51_79 mn_2 rfl rfl rfl rfl mo_2 g1 rfl)
theorem bX6_fault_33 {o0 o1 o2 o3 o4 : Option Value} {y0 : Int} : XR sc d 51 33 [o0, o1, o2, o3, o4] [xw y0] (T, z, xv V, J, R) = some (.inl (some (xw y0)), (T, z, xv V, J, R)) :=
  sw_ireturn f_51_33 mr_51
theorem eX6_cut {x1 x2 x3 x4 x5 x6 : Int} {a0 : Nat} : X sc (d + 1) 52 [.ref a0, xw x1, xw x2, xw x3, xw x4, xw x5, xw x6] (T, z, xv V, J, R) = XR sc d 52 0 [some (.ref a0), some (xw x1), some (xw x2), some (xw x3), some (xw x4), some (xw x5), some (xw x6), none, none] [] (T, z, xv V, J, R) :=
  (X_eq ⟨jl_52, by rw [mn_52]; rfl, rfl, by rw [lm_52]; exact Nat.le_of_ble_eq_true rfl⟩).trans (by unfold xent; rw [lm_52]; rfl)
theorem bX6_cut_0 {o2 o3 o4 o5 o6 o7 o8 : Option Value} {x1 : Int} {a0 : Nat} (g1 : T a0 = (7, 0)) : XR sc d 52 0 [some (.ref a0), some (xw x1), o2, o3, o4, o5, o6, o7, o8] [] (T, z, xv V, J, R) = xret 52 (XR sc d 52) 2 5 [some (.ref a0), some (xw x1), o2, o3, o4, o5, o6, o7, o8] [] (X sc d 83 [.ref a0, xw x1] (T, z, xv V, J, R)) :=
  (st_aload_n f_52_0 rfl).trans ((sw_iload_n f_52_1 rfl).trans (st_callV' f_52_2 h_52_67 mn_83 rfl rfl rfl rfl mo_83 g1 rfl))
theorem bX6_cut_5 {o0 o1 o3 o4 o5 o6 o7 o8 : Option Value} {x2 : Int} {b0 : Nat} : XR sc d 52 5 [o0, o1, some (xw x2), o3, o4, o5, o6, o7, o8] [.ref b0] (T, z, xv V, J, R) = xret 52 (XR sc d 52) 10 13 [o0, o1, some (xw x2), o3, o4, o5, o6, some (.ref b0), o8] [] (X sc d 87 [xw x2, xw 12] (T, z, xv V, J, R)) :=
  (st_astore (L' := [o0, o1, some (xw x2), o3, o4, o5, o6, some (.ref b0), o8]) f_52_5 (Nat.le_of_ble_eq_true rfl) rfl).trans ((sw_iload_n f_52_7 rfl).trans ((sw_bipush f_52_8 c8_12).trans (st_callS' f_52_10 h_52_71 mn_87 rfl rfl rfl rfl)))
theorem bX6_cut_13 {o0 o1 o2 o4 o5 o6 o7 o8 : Option Value} {x3 : Int} : XR sc d 52 13 [o0, o1, o2, some (xw x3), o4, o5, o6, o7, o8] [] (T, z, xv V, J, R) = xret 52 (XR sc d 52) 16 19 [o0, o1, o2, some (xw x3), o4, o5, o6, o7, o8] [] (X sc d 87 [xw x3, xw 8] (T, z, xv V, J, R)) :=
  (sw_iload_n f_52_13 rfl).trans ((sw_bipush f_52_14 c8_8).trans (st_callS' f_52_16 h_52_71 mn_87 rfl rfl rfl rfl))
theorem bX6_cut_19 {o0 o1 o3 o5 o6 o7 o8 : Option Value} {x4 x2 : Int} : XR sc d 52 19 [o0, o1, some (xw x2), o3, some (xw x4), o5, o6, o7, o8] [] (T, z, xv V, J, R) = xret 52 (XR sc d 52) 26 29 [o0, o1, some (xw x2), o3, some (xw x4), o5, o6, o7, o8] [] (X sc d 88 [xw x4, xw 1, xw (12 - x2)] (T, z, xv V, J, R)) :=
  (sw_iload f_52_19 rfl).trans ((sw_iconst f_52_21).trans ((sw_bipush f_52_22 c8_12).trans ((sw_iload_n f_52_24 rfl).trans ((sw_isub f_52_25).trans (st_callS' f_52_26 h_52_49 mn_88 rfl rfl rfl rfl)))))
theorem bX6_cut_29 {o0 o1 o2 o4 o6 o7 o8 : Option Value} {x5 x3 : Int} : XR sc d 52 29 [o0, o1, o2, some (xw x3), o4, some (xw x5), o6, o7, o8] [] (T, z, xv V, J, R) = xret 52 (XR sc d 52) 36 39 [o0, o1, o2, some (xw x3), o4, some (xw x5), o6, o7, o8] [] (X sc d 88 [xw x5, xw 1, xw (8 - x3)] (T, z, xv V, J, R)) :=
  (sw_iload f_52_29 rfl).trans ((sw_iconst f_52_31).trans ((sw_bipush f_52_32 c8_8).trans ((sw_iload_n f_52_34 rfl).trans ((sw_isub f_52_35).trans (st_callS' f_52_36 h_52_49 mn_88 rfl rfl rfl rfl)))))
theorem bX6_cut_39 {o0 o1 o8 : Option Value} {x2 x3 x4 x5 x6 : Int} {a7 : Nat} (g1 : T a7 = (1, 0)) : XR sc d 52 39 [o0, o1, some (xw x2), some (xw x3), some (xw x4), some (xw x5), some (xw x6), some (.ref a7), o8] [] (T, z, xv V, J, R) = xret 52 (XR sc d 52) 49 52 [o0, o1, some (xw x2), some (xw x3), some (xw x4), some (xw x5), some (xw x6), some (.ref a7), o8] [] (X sc d 4 [.ref a7, xw x2, xw x3, xw x4, xw x5, xw x6] (T, z, xv V, J, R)) :=
  (st_aload f_52_39 rfl).trans ((sw_iload_n f_52_41 rfl).trans ((sw_iload_n f_52_42 rfl).trans ((sw_iload f_52_43 rfl).trans ((sw_iload f_52_45 rfl).trans ((sw_iload f_52_47 rfl).trans (st_callV' f_52_49 h_52_83 mn_4 rfl rfl rfl rfl mo_4 g1 rfl))))))
theorem bX6_cut_52 {o0 o1 o2 o3 o4 o5 o6 o7 o8 : Option Value} {y0 : Int} (g1 : -2147483648 ≤ y0 ∧ y0 ≤ 2147483647) : XR sc d 52 52 [o0, o1, o2, o3, o4, o5, o6, o7, o8] [xw y0] (T, z, xv V, J, R) = if y0 = 0 then XR sc d 52 55 [o0, o1, o2, o3, o4, o5, o6, o7, o8] [] (T, z, xv V, J, R) else XR sc d 52 65 [o0, o1, o2, o3, o4, o5, o6, o7, o8] [] (T, z, xv V, J, R) :=
  sw_if_ne (t := 65) f_52_52 ⟨by decide, rfl⟩ g1
theorem bX6_cut_55 {o0 o1 o2 o3 o4 o5 o6 o7 o8 : Option Value} (g1 : 6 ≤ d) : XR sc d 52 55 [o0, o1, o2, o3, o4, o5, o6, o7, o8] [] (T, z, xv V, J, R) = some (.inr 9, (va_up T z.1 (10, 0), (z.1 + 1, z.2 + 6), xv (va_up V z.1 (fun _ => 0)), va_up J z.1 (fun _ => 0), va_up R z.1 (fun _ => none))) :=
  sw_throw f_52_55 q_52_57 (by decide) (xthr_L (idx := 0) g1 (Nat.le_of_ble_eq_true rfl) w_52 f_52_58 f_52_59 u_52_87 f_52_61 f_52_64 v_52_61)
theorem bX6_cut_65 {o1 o2 o3 o4 o5 o6 o7 o8 : Option Value} {a0 : Nat} (g1 : T a0 = (7, 0)) (g2 : -2147483648 ≤ (V a0 3) ∧ (V a0 3) ≤ 2147483647) : XR sc d 52 65 [some (.ref a0), o1, o2, o3, o4, o5, o6, o7, o8] [] (T, z, xv V, J, R) = if (V a0 3) < 40 then XR sc d 52 84 [some (.ref a0), o1, o2, o3, o4, o5, o6, o7, o8] [] (T, z, xv V, J, R) else XR sc d 52 74 [some (.ref a0), o1, o2, o3, o4, o5, o6, o7, o8] [] (T, z, xv V, J, R) :=
  (st_aload_n f_52_65 rfl).trans ((sw_getI f_52_66 e_52_89 (by decide) g1).trans ((sw_bipush f_52_69 c8_40).trans (sw_icmp_lt (t := 84) f_52_71 ⟨by decide, rfl⟩ g2 ⟨by decide, by decide⟩)))
theorem bX6_cut_74 {o0 o1 o2 o3 o4 o5 o6 o7 o8 : Option Value} (g1 : 6 ≤ d) : XR sc d 52 74 [o0, o1, o2, o3, o4, o5, o6, o7, o8] [] (T, z, xv V, J, R) = some (.inr 9, (va_up T z.1 (10, 0), (z.1 + 1, z.2 + 6), xv (va_up V z.1 (fun _ => 0)), va_up J z.1 (fun _ => 0), va_up R z.1 (fun _ => none))) :=
  sw_throw f_52_74 q_52_57 (by decide) (xthr_L (idx := 0) g1 (Nat.le_of_ble_eq_true rfl) w_52 f_52_77 f_52_78 u_52_92 f_52_80 f_52_83 v_52_61)
theorem bX6_cut_84 {o1 o2 o6 o8 : Option Value} {x4 x5 x3 : Int} {a0 a7 : Nat} (g1 : T a0 = (7, 0)) (g2 : R a0 2 = some ((R a0 2).getD 0)) (g3 : (va_up T z.1 (2, 0)) a7 = (1, 0)) : XR sc d 52 84 [some (.ref a0), o1, o2, some (xw x3), some (xw x4), some (xw x5), o6, some (.ref a7), o8] [] (T, z, xv V, J, R) = xret 52 (XR sc d 52) 110 113 [some (.ref a0), o1, o2, some (xw x3), some (xw x4), some (xw x5), o6, some (.ref a7), some (xw (V a0 3))] [xw x3, xw x5, xw x4, .ref z.1, .ref z.1, xw (V a0 3), .ref ((R a0 2).getD 0)] (X sc d 3 [.ref a7, xw x3, xw x5] ((va_up T z.1 (2, 0)), (z.1 + 1, z.2 + 13), xv (va_up V z.1 (fun _ => 0)), (va_up J z.1 (fun _ => 0)), (va_up R z.1 (fun _ => none)))) :=
  (st_aload_n f_52_84 rfl).trans ((sw_getI f_52_85 e_52_89 (by decide) g1).trans ((sw_istore (L' := [some (.ref a0), o1, o2, some (xw x3), some (xw x4), some (xw x5), o6, some (.ref a7), some (xw (V a0 3))]) f_52_88 (Nat.le_of_ble_eq_true rfl) rfl).trans ((st_aload_n f_52_90 rfl).trans ((st_getR f_52_91 e_52_17 (by decide) g1 g2).trans ((sw_iload f_52_94 rfl).trans ((sw_new f_52_96 q_52_15 (by decide)).trans ((st_dup f_52_99 rfl).trans ((sw_iload f_52_100 rfl).trans ((sw_iload f_52_102 rfl).trans ((sw_iload_n f_52_104 rfl).trans ((st_aload f_52_105 rfl).trans ((sw_iload_n f_52_107 rfl).trans ((sw_iload f_52_108 rfl).trans (st_callV' f_52_110 h_52_94 mn_3 rfl rfl rfl rfl mo_3 g3 rfl))))))))))))))
theorem bX6_cut_113 {o0 o1 o2 o3 o4 o5 o7 o8 : Option Value} {s5 s6 s7 : Value} {x6 y0 y1 y2 y3 : Int} {b4 : Nat} (g1 : T b4 = (2, 0)) : XR sc d 52 113 [o0, o1, o2, o3, o4, o5, some (xw x6), o7, o8] [xw y0, xw y1, xw y2, xw y3, .ref b4, s5, s6, s7] (T, z, xv V, J, R) = xret 52 (XR sc d 52) 115 118 [o0, o1, o2, o3, o4, o5, some (xw x6), o7, o8] [s5, s6, s7] (X sc d 15 [.ref b4, xw y3, xw y2, xw y1, xw y0, xw x6] (T, z, xv V, J, R)) :=
  (sw_iload f_52_113 rfl).trans (st_callI' f_52_115 h_52_98 mn_15 rfl rfl rfl rfl mo_15 g1 rfl)
theorem bX6_cut_118 {o1 o6 o8 : Option Value} {y1 x2 x3 x4 x5 : Int} {b0 b2 a0 a7 : Nat} (g1 : T b2 = (41, (T b2).2)) (g2 : (0 : Int) ≤ y1 ∧ y1 < ((T b2).2 : Int) ∧ (T b2).2 ≤ 3584) (g3 : b0 < z.1) (g4 : T b0 = (2, 0)) (g5 : T a0 = (7, 0)) (g6 : T a7 = (1, 0)) : XR sc d 52 118 [some (.ref a0), o1, some (xw x2), some (xw x3), some (xw x4), some (xw x5), o6, some (.ref a7), o8] [.ref b0, xw y1, .ref b2] (T, z, xv V, J, R) = xret 52 (XR sc d 52) 137 140 [some (.ref a0), o1, some (xw x2), some (xw x3), some (xw x4), some (xw x5), o6, some (.ref a7), o8] [] (X sc d 1 [.ref a7, xw x2, xw x3, xw x4, xw x5] (T, z, xv (xup2 V a0 3 ((V a0 3) + 1)), J, (xup2 R b2 y1.toNat (some b0)))) :=
  (sw_aastore (c := 1) f_52_118 g1 (by decide) g2 g3 g4).trans ((st_aload_n f_52_119 rfl).trans ((st_dup f_52_120 rfl).trans ((sw_getI f_52_121 e_52_89 (by decide) g5).trans ((sw_iconst f_52_124).trans ((sw_iadd f_52_125).trans ((sw_putI f_52_126 e_52_89 (Or.inl rfl) (Or.inl rfl) g5).trans ((st_aload f_52_129 rfl).trans ((sw_iload_n f_52_131 rfl).trans ((sw_iload_n f_52_132 rfl).trans ((sw_iload f_52_133 rfl).trans ((sw_iload f_52_135 rfl).trans (st_callV' f_52_137 h_52_75 mn_1 rfl rfl rfl rfl mo_1 g6 rfl))))))))))))
theorem bX6_cut_140 {o0 o1 o2 o3 o4 o5 o6 o7 : Option Value} {x8 : Int} : XR sc d 52 140 [o0, o1, o2, o3, o4, o5, o6, o7, some (xw x8)] [] (T, z, xv V, J, R) = some (.inl (some (xw x8)), (T, z, xv V, J, R)) :=
  (sw_iload f_52_140 rfl).trans (sw_ireturn f_52_142 mr_52)
theorem eX6_find {x1 x2 x3 x4 x5 : Int} {a0 : Nat} : X sc (d + 1) 53 [.ref a0, xw x1, xw x2, xw x3, xw x4, xw x5] (T, z, xv V, J, R) = XR sc d 53 0 [some (.ref a0), some (xw x1), some (xw x2), some (xw x3), some (xw x4), some (xw x5), none] [] (T, z, xv V, J, R) :=
  (X_eq ⟨jl_53, by rw [mn_53]; rfl, rfl, by rw [lm_53]; exact Nat.le_of_ble_eq_true rfl⟩).trans (by unfold xent; rw [lm_53]; rfl)
theorem bX6_find_0 {o2 o3 o4 o5 o6 : Option Value} {x1 : Int} {a0 : Nat} (g1 : T a0 = (7, 0)) : XR sc d 53 0 [some (.ref a0), some (xw x1), o2, o3, o4, o5, o6] [] (T, z, xv V, J, R) = xret 53 (XR sc d 53) 2 5 [some (.ref a0), some (xw x1), o2, o3, o4, o5, o6] [] (X sc d 83 [.ref a0, xw x1] (T, z, xv V, J, R)) :=
  (st_aload_n f_53_0 rfl).trans ((sw_iload_n f_53_1 rfl).trans (st_callV' f_53_2 h_53_67 mn_83 rfl rfl rfl rfl mo_83 g1 rfl))
theorem bX6_find_5 {o0 o1 o3 o4 o5 o6 : Option Value} {x2 : Int} {b0 : Nat} : XR sc d 53 5 [o0, o1, some (xw x2), o3, o4, o5, o6] [.ref b0] (T, z, xv V, J, R) = xret 53 (XR sc d 53) 11 14 [o0, o1, some (xw x2), o3, o4, o5, some (.ref b0)] [] (X sc d 88 [xw x2, xw 1, xw 12] (T, z, xv V, J, R)) :=
  (st_astore (L' := [o0, o1, some (xw x2), o3, o4, o5, some (.ref b0)]) f_53_5 (Nat.le_of_ble_eq_true rfl) rfl).trans ((sw_iload_n f_53_7 rfl).trans ((sw_iconst f_53_8).trans ((sw_bipush f_53_9 c8_12).trans (st_callS' f_53_11 h_53_49 mn_88 rfl rfl rfl rfl))))
theorem bX6_find_14 {o0 o1 o2 o4 o5 o6 : Option Value} {x3 : Int} : XR sc d 53 14 [o0, o1, o2, some (xw x3), o4, o5, o6] [] (T, z, xv V, J, R) = xret 53 (XR sc d 53) 18 21 [o0, o1, o2, some (xw x3), o4, o5, o6] [] (X sc d 88 [xw x3, xw 1, xw 8] (T, z, xv V, J, R)) :=
  (sw_iload_n f_53_14 rfl).trans ((sw_iconst f_53_15).trans ((sw_bipush f_53_16 c8_8).trans (st_callS' f_53_18 h_53_49 mn_88 rfl rfl rfl rfl)))
theorem bX6_find_21 {o0 o1 o2 o3 o4 o6 : Option Value} {x5 : Int} : XR sc d 53 21 [o0, o1, o2, o3, o4, some (xw x5), o6] [] (T, z, xv V, J, R) = xret 53 (XR sc d 53) 26 29 [o0, o1, o2, o3, o4, some (xw x5), o6] [] (X sc d 88 [xw x5, xw 1, xw 9] (T, z, xv V, J, R)) :=
  (sw_iload f_53_21 rfl).trans ((sw_iconst f_53_23).trans ((sw_bipush f_53_24 c8_9).trans (st_callS' f_53_26 h_53_49 mn_88 rfl rfl rfl rfl)))
theorem bX6_find_29 {o0 o1 : Option Value} {x2 x3 x4 x5 : Int} {a6 : Nat} (g1 : T a6 = (1, 0)) : XR sc d 53 29 [o0, o1, some (xw x2), some (xw x3), some (xw x4), some (xw x5), some (.ref a6)] [] (T, z, xv V, J, R) = xret 53 (XR sc d 53) 37 40 [o0, o1, some (xw x2), some (xw x3), some (xw x4), some (xw x5), some (.ref a6)] [] (X sc d 5 [.ref a6, xw x2, xw x3, xw x4, xw x5] (T, z, xv V, J, R)) :=
  (st_aload f_53_29 rfl).trans ((sw_iload_n f_53_31 rfl).trans ((sw_iload_n f_53_32 rfl).trans ((sw_iload f_53_33 rfl).trans ((sw_iload f_53_35 rfl).trans (st_callV' f_53_37 h_53_101 mn_5 rfl rfl rfl rfl mo_5 g1 rfl)))))
theorem bX6_find_40 {o0 o1 o2 o3 o4 o5 o6 : Option Value} {y0 : Int} : XR sc d 53 40 [o0, o1, o2, o3, o4, o5, o6] [xw y0] (T, z, xv V, J, R) = some (.inl (some (xw y0)), (T, z, xv V, J, R)) :=
  sw_ireturn f_53_40 mr_53
theorem eX6_skive {x1 x2 : Int} {a0 : Nat} : X sc (d + 1) 54 [.ref a0, xw x1, xw x2] (T, z, xv V, J, R) = XR sc d 54 0 [some (.ref a0), some (xw x1), some (xw x2), none, none] [] (T, z, xv V, J, R) :=
  (X_eq ⟨jl_54, by rw [mn_54]; rfl, rfl, by rw [lm_54]; exact Nat.le_of_ble_eq_true rfl⟩).trans (by unfold xent; rw [lm_54]; rfl)
theorem bX6_skive_0 {o2 o3 o4 : Option Value} {x1 : Int} {a0 : Nat} (g1 : T a0 = (7, 0)) : XR sc d 54 0 [some (.ref a0), some (xw x1), o2, o3, o4] [] (T, z, xv V, J, R) = xret 54 (XR sc d 54) 2 5 [some (.ref a0), some (xw x1), o2, o3, o4] [] (X sc d 84 [.ref a0, xw x1] (T, z, xv V, J, R)) :=
  (st_aload_n f_54_0 rfl).trans ((sw_iload_n f_54_1 rfl).trans (st_callV' f_54_2 h_54_105 mn_84 rfl rfl rfl rfl mo_84 g1 rfl))
theorem bX6_skive_5 {o0 o1 o3 o4 : Option Value} {x2 : Int} {b0 : Nat} (g1 : T b0 = (2, 0)) : XR sc d 54 5 [o0, o1, some (xw x2), o3, o4] [.ref b0] (T, z, xv V, J, R) = xret 54 (XR sc d 54) 14 17 [o0, o1, some (xw x2), some (.ref b0), o4] [] (X sc d 88 [xw x2, xw 1, xw ((V b0 5) - 1)] (T, z, xv V, J, R)) :=
  (st_astore_n (L' := [o0, o1, some (xw x2), some (.ref b0), o4]) f_54_5 (Nat.le_of_ble_eq_true rfl) rfl).trans ((sw_iload_n f_54_6 rfl).trans ((sw_iconst f_54_7).trans ((st_aload_n f_54_8 rfl).trans ((sw_getI f_54_9 e_54_109 (by decide) g1).trans ((sw_iconst f_54_12).trans ((sw_isub f_54_13).trans (st_callS' f_54_14 h_54_49 mn_88 rfl rfl rfl rfl)))))))
theorem bX6_skive_17 {o0 o1 o2 o4 : Option Value} {a3 : Nat} (g1 : T a3 = (2, 0)) (g2 : -2147483648 ≤ (V a3 8) ∧ (V a3 8) ≤ 2147483647) : XR sc d 54 17 [o0, o1, o2, some (.ref a3), o4] [] (T, z, xv V, J, R) = if (V a3 8) ≤ 0 then XR sc d 54 34 [o0, o1, o2, some (.ref a3), o4] [] (T, z, xv V, J, R) else XR sc d 54 24 [o0, o1, o2, some (.ref a3), o4] [] (T, z, xv V, J, R) :=
  (st_aload_n f_54_17 rfl).trans ((sw_getI f_54_18 e_54_112 (by decide) g1).trans (sw_if_le (t := 34) f_54_21 ⟨by decide, rfl⟩ g2))
theorem bX6_skive_24 {o0 o1 o2 o3 o4 : Option Value} (g1 : 6 ≤ d) : XR sc d 54 24 [o0, o1, o2, o3, o4] [] (T, z, xv V, J, R) = some (.inr 9, (va_up T z.1 (10, 0), (z.1 + 1, z.2 + 6), xv (va_up V z.1 (fun _ => 0)), va_up J z.1 (fun _ => 0), va_up R z.1 (fun _ => none))) :=
  sw_throw f_54_24 q_54_57 (by decide) (xthr_L (idx := 0) g1 (Nat.le_of_ble_eq_true rfl) w_54 f_54_27 f_54_28 u_54_115 f_54_30 f_54_33 v_54_61)
theorem bX6_skive_34 {o0 o1 o4 : Option Value} {x2 : Int} {a3 : Nat} (g1 : T a3 = (2, 0)) : XR sc d 54 34 [o0, o1, some (xw x2), some (.ref a3), o4] [] (T, z, xv V, J, R) = some (.inl (some (xw (V a3 5))), (T, z, xv (xup2 V a3 5 x2), J, R)) :=
  (st_aload_n f_54_34 rfl).trans ((sw_getI f_54_35 e_54_109 (by decide) g1).trans ((sw_istore (L' := [o0, o1, some (xw x2), some (.ref a3), some (xw (V a3 5))]) f_54_38 (Nat.le_of_ble_eq_true rfl) rfl).trans ((st_aload_n f_54_40 rfl).trans ((sw_iload_n f_54_41 rfl).trans ((sw_putI f_54_42 e_54_109 (Or.inl rfl) (Or.inl rfl) g1).trans ((sw_iload f_54_45 rfl).trans (sw_ireturn f_54_47 mr_54)))))))
theorem eX6_pierce {x1 x2 : Int} {a0 : Nat} : X sc (d + 1) 55 [.ref a0, xw x1, xw x2] (T, z, xv V, J, R) = XR sc d 55 0 [some (.ref a0), some (xw x1), some (xw x2), none] [] (T, z, xv V, J, R) :=
  (X_eq ⟨jl_55, by rw [mn_55]; rfl, rfl, by rw [lm_55]; exact Nat.le_of_ble_eq_true rfl⟩).trans (by unfold xent; rw [lm_55]; rfl)
theorem bX6_pierce_0 {o2 o3 : Option Value} {x1 : Int} {a0 : Nat} (g1 : T a0 = (7, 0)) : XR sc d 55 0 [some (.ref a0), some (xw x1), o2, o3] [] (T, z, xv V, J, R) = xret 55 (XR sc d 55) 2 5 [some (.ref a0), some (xw x1), o2, o3] [] (X sc d 84 [.ref a0, xw x1] (T, z, xv V, J, R)) :=
  (st_aload_n f_55_0 rfl).trans ((sw_iload_n f_55_1 rfl).trans (st_callV' f_55_2 h_55_105 mn_84 rfl rfl rfl rfl mo_84 g1 rfl))
theorem bX6_pierce_5 {o0 o1 o3 : Option Value} {x2 : Int} {b0 : Nat} (g1 : T b0 = (2, 0)) : XR sc d 55 5 [o0, o1, some (xw x2), o3] [.ref b0] (T, z, xv V, J, R) = xret 55 (XR sc d 55) 16 19 [o0, o1, some (xw x2), some (.ref b0)] [] (X sc d 88 [xw x2, xw 3, xw ((4 * (V b0 0)) - 3)] (T, z, xv V, J, R)) :=
  (st_astore_n (L' := [o0, o1, some (xw x2), some (.ref b0)]) f_55_5 (Nat.le_of_ble_eq_true rfl) rfl).trans ((sw_iload_n f_55_6 rfl).trans ((sw_iconst f_55_7).trans ((sw_iconst f_55_8).trans ((st_aload_n f_55_9 rfl).trans ((sw_getI f_55_10 e_55_117 (by decide) g1).trans ((sw_imul f_55_13).trans ((sw_iconst f_55_14).trans ((sw_isub f_55_15).trans (st_callS' f_55_16 h_55_49 mn_88 rfl rfl rfl rfl)))))))))
theorem bX6_pierce_19 {o0 o1 : Option Value} {x2 : Int} {a3 : Nat} (g1 : T a3 = (2, 0)) : XR sc d 55 19 [o0, o1, some (xw x2), some (.ref a3)] [] (T, z, xv V, J, R) = xret 55 (XR sc d 55) 21 24 [o0, o1, some (xw x2), some (.ref a3)] [] (X sc d 16 [.ref a3, xw x2] (T, z, xv V, J, R)) :=
  (st_aload_n f_55_19 rfl).trans ((sw_iload_n f_55_20 rfl).trans (st_callV' f_55_21 h_55_120 mn_16 rfl rfl rfl rfl mo_16 g1 rfl))
theorem bX6_pierce_24 {o0 o1 o2 o3 : Option Value} {y0 : Int} (g1 : -2147483648 ≤ y0 ∧ y0 ≤ 2147483647) : XR sc d 55 24 [o0, o1, o2, o3] [xw y0] (T, z, xv V, J, R) = if y0 = 0 then XR sc d 55 37 [o0, o1, o2, o3] [] (T, z, xv V, J, R) else XR sc d 55 27 [o0, o1, o2, o3] [] (T, z, xv V, J, R) :=
  sw_if_eq (t := 37) f_55_24 ⟨by decide, rfl⟩ g1
theorem bX6_pierce_27 {o0 o1 o2 o3 : Option Value} (g1 : 6 ≤ d) : XR sc d 55 27 [o0, o1, o2, o3] [] (T, z, xv V, J, R) = some (.inr 9, (va_up T z.1 (10, 0), (z.1 + 1, z.2 + 6), xv (va_up V z.1 (fun _ => 0)), va_up J z.1 (fun _ => 0), va_up R z.1 (fun _ => none))) :=
  sw_throw f_55_27 q_55_57 (by decide) (xthr_L (idx := 0) g1 (Nat.le_of_ble_eq_true rfl) w_55 f_55_30 f_55_31 u_55_124 f_55_33 f_55_36 v_55_61)
theorem bX6_pierce_37 {o0 o1 o2 : Option Value} {a3 : Nat} (g1 : T a3 = (2, 0)) (g2 : -2147483648 ≤ (V a3 8) ∧ (V a3 8) ≤ 2147483647) : XR sc d 55 37 [o0, o1, o2, some (.ref a3)] [] (T, z, xv V, J, R) = if 0 < (V a3 8) then XR sc d 55 58 [o0, o1, o2, some (.ref a3)] [] (T, z, xv V, J, R) else XR sc d 55 44 [o0, o1, o2, some (.ref a3)] [] (T, z, xv V, J, R) :=
  (st_aload_n f_55_37 rfl).trans ((sw_getI f_55_38 e_55_112 (by decide) g1).trans (sw_if_gt (t := 58) f_55_41 ⟨by decide, rfl⟩ g2))
theorem bX6_pierce_44 {o0 o1 o2 : Option Value} {a3 : Nat} (g1 : T a3 = (2, 0)) : XR sc d 55 44 [o0, o1, o2, some (.ref a3)] [] (T, z, xv V, J, R) = xret 55 (XR sc d 55) 45 48 [o0, o1, o2, some (.ref a3)] [] (X sc d 20 [.ref a3] (T, z, xv V, J, R)) :=
  (st_aload_n f_55_44 rfl).trans (st_callV' f_55_45 h_55_126 mn_20 rfl rfl rfl rfl mo_20 g1 rfl)
theorem bX6_pierce_48 {o0 o1 o2 o3 : Option Value} {y0 : Int} (g1 : -2147483648 ≤ y0 ∧ y0 ≤ 2147483647) : XR sc d 55 48 [o0, o1, o2, o3] [xw y0] (T, z, xv V, J, R) = if y0 = 0 then XR sc d 55 51 [o0, o1, o2, o3] [] (T, z, xv V, J, R) else XR sc d 55 58 [o0, o1, o2, o3] [] (T, z, xv V, J, R) :=
  sw_if_ne (t := 58) f_55_48 ⟨by decide, rfl⟩ g1
theorem bX6_pierce_51 {o0 o1 o2 : Option Value} {a3 : Nat} (g1 : T a3 = (2, 0)) (g2 : -2147483648 ≤ (V a3 12) ∧ (V a3 12) ≤ 2147483647) : XR sc d 55 51 [o0, o1, o2, some (.ref a3)] [] (T, z, xv V, J, R) = if (V a3 12) = 0 then XR sc d 55 68 [o0, o1, o2, some (.ref a3)] [] (T, z, xv V, J, R) else XR sc d 55 58 [o0, o1, o2, some (.ref a3)] [] (T, z, xv V, J, R) :=
  (st_aload_n f_55_51 rfl).trans ((sw_getI f_55_52 e_55_130 (by decide) g1).trans (sw_if_eq (t := 68) f_55_55 ⟨by decide, rfl⟩ g2))
theorem bX6_pierce_58 {o0 o1 o2 o3 : Option Value} (g1 : 6 ≤ d) : XR sc d 55 58 [o0, o1, o2, o3] [] (T, z, xv V, J, R) = some (.inr 9, (va_up T z.1 (10, 0), (z.1 + 1, z.2 + 6), xv (va_up V z.1 (fun _ => 0)), va_up J z.1 (fun _ => 0), va_up R z.1 (fun _ => none))) :=
  sw_throw f_55_58 q_55_57 (by decide) (xthr_L (idx := 0) g1 (Nat.le_of_ble_eq_true rfl) w_55 f_55_61 f_55_62 u_55_134 f_55_64 f_55_67 v_55_61)
theorem bX6_pierce_68 {o0 o1 : Option Value} {x2 : Int} {a3 : Nat} (g1 : T a3 = (2, 0)) : XR sc d 55 68 [o0, o1, some (xw x2), some (.ref a3)] [] (T, z, xv V, J, R) = xret 55 (XR sc d 55) 70 73 [o0, o1, some (xw x2), some (.ref a3)] [] (X sc d 17 [.ref a3, xw x2] (T, z, xv V, J, R)) :=
  (st_aload_n f_55_68 rfl).trans ((sw_iload_n f_55_69 rfl).trans (st_callV' f_55_70 h_55_136 mn_17 rfl rfl rfl rfl mo_17 g1 rfl))
theorem bX6_pierce_73 {o0 o1 o2 o3 : Option Value} {y0 : Int} : XR sc d 55 73 [o0, o1, o2, o3] [xw y0] (T, z, xv V, J, R) = some (.inl (some (xw y0)), (T, z, xv V, J, R)) :=
  sw_ireturn f_55_73 mr_55
theorem eX6_match {x1 x2 : Int} {a0 : Nat} : X sc (d + 1) 56 [.ref a0, xw x1, xw x2] (T, z, xv V, J, R) = XR sc d 56 0 [some (.ref a0), some (xw x1), some (xw x2), none, none] [] (T, z, xv V, J, R) :=
  (X_eq ⟨jl_56, by rw [mn_56]; rfl, rfl, by rw [lm_56]; exact Nat.le_of_ble_eq_true rfl⟩).trans (by unfold xent; rw [lm_56]; rfl)
theorem bX6_match_0 {o2 o3 o4 : Option Value} {x1 : Int} {a0 : Nat} (g1 : T a0 = (7, 0)) : XR sc d 56 0 [some (.ref a0), some (xw x1), o2, o3, o4] [] (T, z, xv V, J, R) = xret 56 (XR sc d 56) 2 5 [some (.ref a0), some (xw x1), o2, o3, o4] [] (X sc d 84 [.ref a0, xw x1] (T, z, xv V, J, R)) :=
  (st_aload_n f_56_0 rfl).trans ((sw_iload_n f_56_1 rfl).trans (st_callV' f_56_2 h_56_105 mn_84 rfl rfl rfl rfl mo_84 g1 rfl))
theorem bX6_match_5 {o1 o3 o4 : Option Value} {x2 : Int} {b0 a0 : Nat} (g1 : T a0 = (7, 0)) : XR sc d 56 5 [some (.ref a0), o1, some (xw x2), o3, o4] [.ref b0] (T, z, xv V, J, R) = xret 56 (XR sc d 56) 8 11 [some (.ref a0), o1, some (xw x2), some (.ref b0), o4] [] (X sc d 84 [.ref a0, xw x2] (T, z, xv V, J, R)) :=
  (st_astore_n (L' := [some (.ref a0), o1, some (xw x2), some (.ref b0), o4]) f_56_5 (Nat.le_of_ble_eq_true rfl) rfl).trans ((st_aload_n f_56_6 rfl).trans ((sw_iload_n f_56_7 rfl).trans (st_callV' f_56_8 h_56_105 mn_84 rfl rfl rfl rfl mo_84 g1 rfl)))
theorem bX6_match_11 {o0 o1 o2 o4 : Option Value} {b0 a3 : Nat} (g1 : T a3 = (2, 0)) (g2 : T b0 = (2, 0)) (g3 : -2147483648 ≤ (V a3 3) ∧ (V a3 3) ≤ 2147483647) (g4 : -2147483648 ≤ (V b0 3) ∧ (V b0 3) ≤ 2147483647) : XR sc d 56 11 [o0, o1, o2, some (.ref a3), o4] [.ref b0] (T, z, xv V, J, R) = if (V a3 3) = (V b0 3) then XR sc d 56 25 [o0, o1, o2, some (.ref a3), some (.ref b0)] [] (T, z, xv V, J, R) else XR sc d 56 77 [o0, o1, o2, some (.ref a3), some (.ref b0)] [] (T, z, xv V, J, R) :=
  (st_astore (L' := [o0, o1, o2, some (.ref a3), some (.ref b0)]) f_56_11 (Nat.le_of_ble_eq_true rfl) rfl).trans ((st_aload_n f_56_13 rfl).trans ((sw_getI f_56_14 e_56_140 (by decide) g1).trans ((st_aload f_56_17 rfl).trans ((sw_getI f_56_19 e_56_140 (by decide) g2).trans (sw_icmp_ne (t := 77) f_56_22 ⟨by decide, rfl⟩ g3 g4)))))
theorem bX6_match_25 {o0 o1 o2 : Option Value} {a3 a4 : Nat} (g1 : T a3 = (2, 0)) (g2 : T a4 = (2, 0)) (g3 : -2147483648 ≤ (V a3 0) ∧ (V a3 0) ≤ 2147483647) (g4 : -2147483648 ≤ (V a4 0) ∧ (V a4 0) ≤ 2147483647) : XR sc d 56 25 [o0, o1, o2, some (.ref a3), some (.ref a4)] [] (T, z, xv V, J, R) = if (V a3 0) = (V a4 0) then XR sc d 56 37 [o0, o1, o2, some (.ref a3), some (.ref a4)] [] (T, z, xv V, J, R) else XR sc d 56 77 [o0, o1, o2, some (.ref a3), some (.ref a4)] [] (T, z, xv V, J, R) :=
  (st_aload_n f_56_25 rfl).trans ((sw_getI f_56_26 e_56_117 (by decide) g1).trans ((st_aload f_56_29 rfl).trans ((sw_getI f_56_31 e_56_117 (by decide) g2).trans (sw_icmp_ne (t := 77) f_56_34 ⟨by decide, rfl⟩ g3 g4))))
theorem bX6_match_37 {o0 o1 o2 : Option Value} {a3 a4 : Nat} (g1 : T a3 = (2, 0)) (g2 : T a4 = (2, 0)) (g3 : -2147483648 ≤ (V a3 1) ∧ (V a3 1) ≤ 2147483647) (g4 : -2147483648 ≤ (V a4 1) ∧ (V a4 1) ≤ 2147483647) : XR sc d 56 37 [o0, o1, o2, some (.ref a3), some (.ref a4)] [] (T, z, xv V, J, R) = if (V a3 1) = (V a4 1) then XR sc d 56 49 [o0, o1, o2, some (.ref a3), some (.ref a4)] [] (T, z, xv V, J, R) else XR sc d 56 77 [o0, o1, o2, some (.ref a3), some (.ref a4)] [] (T, z, xv V, J, R) :=
  (st_aload_n f_56_37 rfl).trans ((sw_getI f_56_38 e_56_143 (by decide) g1).trans ((st_aload f_56_41 rfl).trans ((sw_getI f_56_43 e_56_143 (by decide) g2).trans (sw_icmp_ne (t := 77) f_56_46 ⟨by decide, rfl⟩ g3 g4))))
theorem bX6_match_49 {o0 o1 o2 : Option Value} {a3 a4 : Nat} (g1 : T a3 = (2, 0)) (g2 : T a4 = (2, 0)) (g3 : -2147483648 ≤ (V a3 5) ∧ (V a3 5) ≤ 2147483647) (g4 : -2147483648 ≤ (V a4 5) ∧ (V a4 5) ≤ 2147483647) : XR sc d 56 49 [o0, o1, o2, some (.ref a3), some (.ref a4)] [] (T, z, xv V, J, R) = if (V a3 5) = (V a4 5) then XR sc d 56 61 [o0, o1, o2, some (.ref a3), some (.ref a4)] [] (T, z, xv V, J, R) else XR sc d 56 77 [o0, o1, o2, some (.ref a3), some (.ref a4)] [] (T, z, xv V, J, R) :=
  (st_aload_n f_56_49 rfl).trans ((sw_getI f_56_50 e_56_109 (by decide) g1).trans ((st_aload f_56_53 rfl).trans ((sw_getI f_56_55 e_56_109 (by decide) g2).trans (sw_icmp_ne (t := 77) f_56_58 ⟨by decide, rfl⟩ g3 g4))))
theorem bX6_match_61 {o0 o1 o2 : Option Value} {a3 a4 : Nat} (g1 : T a3 = (2, 0)) (g2 : T a4 = (2, 0)) (g3 : -2147483648 ≤ (V a3 2) ∧ (V a3 2) ≤ 2147483647) (g4 : -2147483648 ≤ (V a4 2) ∧ (V a4 2) ≤ 2147483647) : XR sc d 56 61 [o0, o1, o2, some (.ref a3), some (.ref a4)] [] (T, z, xv V, J, R) = if (V a3 2) = (V a4 2) then XR sc d 56 73 [o0, o1, o2, some (.ref a3), some (.ref a4)] [] (T, z, xv V, J, R) else XR sc d 56 77 [o0, o1, o2, some (.ref a3), some (.ref a4)] [] (T, z, xv V, J, R) :=
  (st_aload_n f_56_61 rfl).trans ((sw_getI f_56_62 e_56_146 (by decide) g1).trans ((st_aload f_56_65 rfl).trans ((sw_getI f_56_67 e_56_146 (by decide) g2).trans (sw_icmp_ne (t := 77) f_56_70 ⟨by decide, rfl⟩ g3 g4))))
theorem bX6_match_73 {o0 o1 o2 o3 o4 : Option Value} : XR sc d 56 73 [o0, o1, o2, o3, o4] [] (T, z, xv V, J, R) = XR sc d 56 78 [o0, o1, o2, o3, o4] [xw 1] (T, z, xv V, J, R) :=
  (sw_iconst f_56_73).trans (st_goto (t := 78) f_56_74 ⟨by decide, rfl⟩)
theorem bX6_match_77 {o0 o1 o2 o3 o4 : Option Value} : XR sc d 56 77 [o0, o1, o2, o3, o4] [] (T, z, xv V, J, R) = XR sc d 56 78 [o0, o1, o2, o3, o4] [xw 0] (T, z, xv V, J, R) :=
  sw_iconst f_56_77
theorem bX6_match_78 {o0 o1 o2 o3 o4 : Option Value} {y0 : Int} (g1 : y0 = 0 ∨ y0 = 1) : XR sc d 56 78 [o0, o1, o2, o3, o4] [xw y0] (T, z, xv V, J, R) = some (.inl (some (xw y0)), (T, z, xv V, J, R)) :=
  sw_zreturn f_56_78 mr_56 g1
theorem eX6_part {x1 x2 : Int} {a0 : Nat} : X sc (d + 1) 57 [.ref a0, xw x1, xw x2] (T, z, xv V, J, R) = XR sc d 57 0 [some (.ref a0), some (xw x1), some (xw x2), none] [] (T, z, xv V, J, R) :=
  (X_eq ⟨jl_57, by rw [mn_57]; rfl, rfl, by rw [lm_57]; exact Nat.le_of_ble_eq_true rfl⟩).trans (by unfold xent; rw [lm_57]; rfl)
theorem bX6_part_0 {o2 o3 : Option Value} {x1 : Int} {a0 : Nat} (g1 : T a0 = (7, 0)) : XR sc d 57 0 [some (.ref a0), some (xw x1), o2, o3] [] (T, z, xv V, J, R) = xret 57 (XR sc d 57) 2 5 [some (.ref a0), some (xw x1), o2, o3] [] (X sc d 84 [.ref a0, xw x1] (T, z, xv V, J, R)) :=
  (st_aload_n f_57_0 rfl).trans ((sw_iload_n f_57_1 rfl).trans (st_callV' f_57_2 h_57_105 mn_84 rfl rfl rfl rfl mo_84 g1 rfl))
theorem bX6_part_5 {o0 o1 o3 : Option Value} {x2 : Int} {b0 : Nat} : XR sc d 57 5 [o0, o1, some (xw x2), o3] [.ref b0] (T, z, xv V, J, R) = xret 57 (XR sc d 57) 10 13 [o0, o1, some (xw x2), some (.ref b0)] [] (X sc d 88 [xw x2, xw 0, xw 10] (T, z, xv V, J, R)) :=
  (st_astore_n (L' := [o0, o1, some (xw x2), some (.ref b0)]) f_57_5 (Nat.le_of_ble_eq_true rfl) rfl).trans ((sw_iload_n f_57_6 rfl).trans ((sw_iconst f_57_7).trans ((sw_bipush f_57_8 c8_10).trans (st_callS' f_57_10 h_57_49 mn_88 rfl rfl rfl rfl))))
theorem bX6_part_13 {o0 o1 o3 : Option Value} {x2 : Int} : XR sc d 57 13 [o0, o1, some (xw x2), o3] [] (T, z, xv V, J, R) = XR sc d 57 14 [o0, o1, some (xw x2), o3] [xw x2] (T, z, xv V, J, R) :=
  sw_iload_n f_57_13 rfl
theorem bX6_part_68 {o0 o1 o2 : Option Value} {a3 : Nat} (g1 : T a3 = (2, 0)) : XR sc d 57 68 [o0, o1, o2, some (.ref a3)] [] (T, z, xv V, J, R) = some (.inl (some (xw (V a3 0))), (T, z, xv V, J, R)) :=
  (st_aload_n f_57_68 rfl).trans ((sw_getI f_57_69 e_57_117 (by decide) g1).trans (sw_ireturn f_57_72 mr_57))
theorem bX6_part_73 {o0 o1 o2 : Option Value} {a3 : Nat} (g1 : T a3 = (2, 0)) : XR sc d 57 73 [o0, o1, o2, some (.ref a3)] [] (T, z, xv V, J, R) = some (.inl (some (xw (V a3 1))), (T, z, xv V, J, R)) :=
  (st_aload_n f_57_73 rfl).trans ((sw_getI f_57_74 e_57_143 (by decide) g1).trans (sw_ireturn f_57_77 mr_57))
theorem bX6_part_78 {o0 o1 o2 : Option Value} {a3 : Nat} (g1 : T a3 = (2, 0)) : XR sc d 57 78 [o0, o1, o2, some (.ref a3)] [] (T, z, xv V, J, R) = some (.inl (some (xw (V a3 5))), (T, z, xv V, J, R)) :=
  (st_aload_n f_57_78 rfl).trans ((sw_getI f_57_79 e_57_109 (by decide) g1).trans (sw_ireturn f_57_82 mr_57))
theorem bX6_part_83 {o0 o1 o2 : Option Value} {a3 : Nat} (g1 : T a3 = (2, 0)) : XR sc d 57 83 [o0, o1, o2, some (.ref a3)] [] (T, z, xv V, J, R) = some (.inl (some (xw (V a3 2))), (T, z, xv V, J, R)) :=
  (st_aload_n f_57_83 rfl).trans ((sw_getI f_57_84 e_57_146 (by decide) g1).trans (sw_ireturn f_57_87 mr_57))
theorem bX6_part_88 {o0 o1 o2 : Option Value} {a3 : Nat} (g1 : T a3 = (2, 0)) : XR sc d 57 88 [o0, o1, o2, some (.ref a3)] [] (T, z, xv V, J, R) = some (.inl (some (xw (V a3 6))), (T, z, xv V, J, R)) :=
  (st_aload_n f_57_88 rfl).trans ((sw_getI f_57_89 e_57_149 (by decide) g1).trans (sw_ireturn f_57_92 mr_57))
theorem bX6_part_93 {o0 o1 o2 : Option Value} {a3 : Nat} (g1 : T a3 = (2, 0)) : XR sc d 57 93 [o0, o1, o2, some (.ref a3)] [] (T, z, xv V, J, R) = some (.inl (some (xw (V a3 7))), (T, z, xv V, J, R)) :=
  (st_aload_n f_57_93 rfl).trans ((sw_getI f_57_94 e_57_152 (by decide) g1).trans (sw_ireturn f_57_97 mr_57))
theorem bX6_part_98 {o0 o1 o2 : Option Value} {a3 : Nat} (g1 : T a3 = (2, 0)) : XR sc d 57 98 [o0, o1, o2, some (.ref a3)] [] (T, z, xv V, J, R) = xret 57 (XR sc d 57) 99 102 [o0, o1, o2, some (.ref a3)] [] (X sc d 19 [.ref a3] (T, z, xv V, J, R)) :=
  (st_aload_n f_57_98 rfl).trans (st_callV' f_57_99 h_57_155 mn_19 rfl rfl rfl rfl mo_19 g1 rfl)
theorem bX6_part_102 {o0 o1 o2 o3 : Option Value} {y0 : Int} : XR sc d 57 102 [o0, o1, o2, o3] [xw y0] (T, z, xv V, J, R) = some (.inl (some (xw y0)), (T, z, xv V, J, R)) :=
  sw_ireturn f_57_102 mr_57
theorem bX6_part_103 {o0 o1 o2 : Option Value} {a3 : Nat} (g1 : T a3 = (2, 0)) : XR sc d 57 103 [o0, o1, o2, some (.ref a3)] [] (T, z, xv V, J, R) = some (.inl (some (xw (V a3 9))), (T, z, xv V, J, R)) :=
  (st_aload_n f_57_103 rfl).trans ((sw_getI f_57_104 e_57_158 (by decide) g1).trans (sw_ireturn f_57_107 mr_57))
theorem bX6_part_108 {o0 o1 o2 : Option Value} {a3 : Nat} (g1 : T a3 = (2, 0)) : XR sc d 57 108 [o0, o1, o2, some (.ref a3)] [] (T, z, xv V, J, R) = some (.inl (some (xw (V a3 10))), (T, z, xv V, J, R)) :=
  (st_aload_n f_57_108 rfl).trans ((sw_getI f_57_109 e_57_161 (by decide) g1).trans (sw_ireturn f_57_112 mr_57))
theorem bX6_part_113 {o0 o1 o2 : Option Value} {a3 : Nat} (g1 : T a3 = (2, 0)) : XR sc d 57 113 [o0, o1, o2, some (.ref a3)] [] (T, z, xv V, J, R) = some (.inl (some (xw (V a3 11))), (T, z, xv V, J, R)) :=
  (st_aload_n f_57_113 rfl).trans ((sw_getI f_57_114 e_57_164 (by decide) g1).trans (sw_ireturn f_57_117 mr_57))
theorem bX6_part_118 {o0 o1 o2 : Option Value} {a3 : Nat} (g1 : T a3 = (2, 0)) (g2 : -2147483648 ≤ (V a3 12) ∧ (V a3 12) ≤ 2147483647) : XR sc d 57 118 [o0, o1, o2, some (.ref a3)] [] (T, z, xv V, J, R) = if (V a3 12) = 0 then XR sc d 57 129 [o0, o1, o2, some (.ref a3)] [] (T, z, xv V, J, R) else XR sc d 57 125 [o0, o1, o2, some (.ref a3)] [] (T, z, xv V, J, R) :=
  (st_aload_n f_57_118 rfl).trans ((sw_getI f_57_119 e_57_130 (by decide) g1).trans (sw_if_eq (t := 129) f_57_122 ⟨by decide, rfl⟩ g2))
theorem bX6_part_125 {o0 o1 o2 o3 : Option Value} : XR sc d 57 125 [o0, o1, o2, o3] [] (T, z, xv V, J, R) = XR sc d 57 130 [o0, o1, o2, o3] [xw 1] (T, z, xv V, J, R) :=
  (sw_iconst f_57_125).trans (st_goto (t := 130) f_57_126 ⟨by decide, rfl⟩)
theorem bX6_part_129 {o0 o1 o2 o3 : Option Value} : XR sc d 57 129 [o0, o1, o2, o3] [] (T, z, xv V, J, R) = XR sc d 57 130 [o0, o1, o2, o3] [xw 0] (T, z, xv V, J, R) :=
  sw_iconst f_57_129
theorem bX6_part_130 {o0 o1 o2 o3 : Option Value} {y0 : Int} : XR sc d 57 130 [o0, o1, o2, o3] [xw y0] (T, z, xv V, J, R) = some (.inl (some (xw y0)), (T, z, xv V, J, R)) :=
  sw_ireturn f_57_130 mr_57
theorem eX6_buckle {x1 x2 x3 x4 : Int} {a0 : Nat} : X sc (d + 1) 58 [.ref a0, xw x1, xw x2, xw x3, xw x4] (T, z, xv V, J, R) = XR sc d 58 0 [some (.ref a0), some (xw x1), some (xw x2), some (xw x3), some (xw x4), none] [] (T, z, xv V, J, R) :=
  (X_eq ⟨jl_58, by rw [mn_58]; rfl, rfl, by rw [lm_58]; exact Nat.le_of_ble_eq_true rfl⟩).trans (by unfold xent; rw [lm_58]; rfl)
theorem bX6_buckle_0 {o2 o3 o4 o5 : Option Value} {x1 : Int} {a0 : Nat} (g1 : T a0 = (7, 0)) : XR sc d 58 0 [some (.ref a0), some (xw x1), o2, o3, o4, o5] [] (T, z, xv V, J, R) = xret 58 (XR sc d 58) 2 5 [some (.ref a0), some (xw x1), o2, o3, o4, o5] [] (X sc d 84 [.ref a0, xw x1] (T, z, xv V, J, R)) :=
  (st_aload_n f_58_0 rfl).trans ((sw_iload_n f_58_1 rfl).trans (st_callV' f_58_2 h_58_105 mn_84 rfl rfl rfl rfl mo_84 g1 rfl))
theorem bX6_buckle_5 {o0 o1 o3 o4 o5 : Option Value} {x2 : Int} {b0 : Nat} : XR sc d 58 5 [o0, o1, some (xw x2), o3, o4, o5] [.ref b0] (T, z, xv V, J, R) = xret 58 (XR sc d 58) 10 13 [o0, o1, some (xw x2), o3, o4, some (.ref b0)] [] (X sc d 87 [xw x2, xw 8] (T, z, xv V, J, R)) :=
  (st_astore (L' := [o0, o1, some (xw x2), o3, o4, some (.ref b0)]) f_58_5 (Nat.le_of_ble_eq_true rfl) rfl).trans ((sw_iload_n f_58_7 rfl).trans ((sw_bipush f_58_8 c8_8).trans (st_callS' f_58_10 h_58_71 mn_87 rfl rfl rfl rfl)))
theorem bX6_buckle_13 {o0 o1 o2 o4 o5 : Option Value} {x3 : Int} : XR sc d 58 13 [o0, o1, o2, some (xw x3), o4, o5] [] (T, z, xv V, J, R) = xret 58 (XR sc d 58) 16 19 [o0, o1, o2, some (xw x3), o4, o5] [] (X sc d 87 [xw x3, xw 8] (T, z, xv V, J, R)) :=
  (sw_iload_n f_58_13 rfl).trans ((sw_bipush f_58_14 c8_8).trans (st_callS' f_58_16 h_58_71 mn_87 rfl rfl rfl rfl))
theorem bX6_buckle_19 {o0 o1 o2 o3 : Option Value} {x4 : Int} {a5 : Nat} (g1 : T a5 = (2, 0)) : XR sc d 58 19 [o0, o1, o2, o3, some (xw x4), some (.ref a5)] [] (T, z, xv V, J, R) = xret 58 (XR sc d 58) 26 29 [o0, o1, o2, o3, some (xw x4), some (.ref a5)] [] (X sc d 87 [xw x4, xw (V a5 6)] (T, z, xv V, J, R)) :=
  (sw_iload f_58_19 rfl).trans ((st_aload f_58_21 rfl).trans ((sw_getI f_58_23 e_58_149 (by decide) g1).trans (st_callS' f_58_26 h_58_71 mn_87 rfl rfl rfl rfl)))
theorem bX6_buckle_29 {o0 o1 o4 o5 : Option Value} {x2 x3 : Int} : XR sc d 58 29 [o0, o1, some (xw x2), some (xw x3), o4, o5] [] (T, z, xv V, J, R) = xret 58 (XR sc d 58) 31 34 [o0, o1, some (xw x2), some (xw x3), o4, o5] [] (X sc d 89 [xw x2, xw x3] (T, z, xv V, J, R)) :=
  (sw_iload_n f_58_29 rfl).trans ((sw_iload_n f_58_30 rfl).trans (st_callS' f_58_31 h_58_167 mn_89 rfl rfl rfl rfl))
theorem bX6_buckle_34 {o0 o1 o2 o3 o4 : Option Value} {a5 : Nat} (g1 : T a5 = (2, 0)) (g2 : -2147483648 ≤ (V a5 3) ∧ (V a5 3) ≤ 2147483647) : XR sc d 58 34 [o0, o1, o2, o3, o4, some (.ref a5)] [] (T, z, xv V, J, R) = if (V a5 3) = 0 then XR sc d 58 58 [o0, o1, o2, o3, o4, some (.ref a5)] [] (T, z, xv V, J, R) else XR sc d 58 42 [o0, o1, o2, o3, o4, some (.ref a5)] [] (T, z, xv V, J, R) :=
  (st_aload f_58_34 rfl).trans ((sw_getI f_58_36 e_58_140 (by decide) g1).trans (sw_if_eq (t := 58) f_58_39 ⟨by decide, rfl⟩ g2))
theorem bX6_buckle_42 {o0 o1 o2 o3 o4 : Option Value} {a5 : Nat} (g1 : T a5 = (2, 0)) : XR sc d 58 42 [o0, o1, o2, o3, o4, some (.ref a5)] [] (T, z, xv V, J, R) = xret 58 (XR sc d 58) 44 47 [o0, o1, o2, o3, o4, some (.ref a5)] [] (X sc d 20 [.ref a5] (T, z, xv V, J, R)) :=
  (st_aload f_58_42 rfl).trans (st_callV' f_58_44 h_58_126 mn_20 rfl rfl rfl rfl mo_20 g1 rfl)
theorem bX6_buckle_47 {o0 o1 o2 o3 o4 o5 : Option Value} {y0 : Int} (g1 : -2147483648 ≤ y0 ∧ y0 ≤ 2147483647) : XR sc d 58 47 [o0, o1, o2, o3, o4, o5] [xw y0] (T, z, xv V, J, R) = if y0 = 0 then XR sc d 58 50 [o0, o1, o2, o3, o4, o5] [] (T, z, xv V, J, R) else XR sc d 58 58 [o0, o1, o2, o3, o4, o5] [] (T, z, xv V, J, R) :=
  sw_if_ne (t := 58) f_58_47 ⟨by decide, rfl⟩ g1
theorem bX6_buckle_50 {o0 o1 o2 o3 o4 : Option Value} {a5 : Nat} (g1 : T a5 = (2, 0)) (g2 : -2147483648 ≤ (V a5 12) ∧ (V a5 12) ≤ 2147483647) : XR sc d 58 50 [o0, o1, o2, o3, o4, some (.ref a5)] [] (T, z, xv V, J, R) = if (V a5 12) = 0 then XR sc d 58 68 [o0, o1, o2, o3, o4, some (.ref a5)] [] (T, z, xv V, J, R) else XR sc d 58 58 [o0, o1, o2, o3, o4, some (.ref a5)] [] (T, z, xv V, J, R) :=
  (st_aload f_58_50 rfl).trans ((sw_getI f_58_52 e_58_130 (by decide) g1).trans (sw_if_eq (t := 68) f_58_55 ⟨by decide, rfl⟩ g2))
theorem bX6_buckle_58 {o0 o1 o2 o3 o4 o5 : Option Value} (g1 : 6 ≤ d) : XR sc d 58 58 [o0, o1, o2, o3, o4, o5] [] (T, z, xv V, J, R) = some (.inr 9, (va_up T z.1 (10, 0), (z.1 + 1, z.2 + 6), xv (va_up V z.1 (fun _ => 0)), va_up J z.1 (fun _ => 0), va_up R z.1 (fun _ => none))) :=
  sw_throw f_58_58 q_58_57 (by decide) (xthr_L (idx := 0) g1 (Nat.le_of_ble_eq_true rfl) w_58 f_58_61 f_58_62 u_58_170 f_58_64 f_58_67 v_58_61)
theorem bX6_buckle_68 {o0 o1 o4 : Option Value} {x2 x3 : Int} {a5 : Nat} : XR sc d 58 68 [o0, o1, some (xw x2), some (xw x3), o4, some (.ref a5)] [] (T, z, xv V, J, R) = xret 58 (XR sc d 58) 72 75 [o0, o1, some (xw x2), some (xw x3), o4, some (.ref a5)] [.ref a5] (X sc d 159 [xw x2, xw x3] (T, z, xv V, J, R)) :=
  (st_aload f_58_68 rfl).trans ((sw_iload_n f_58_70 rfl).trans ((sw_iload_n f_58_71 rfl).trans (st_callS' f_58_72 h_58_172 mn_159 rfl rfl rfl rfl)))
theorem bX6_buckle_75 {o0 o1 o4 : Option Value} {y0 x2 x3 : Int} {b1 a5 : Nat} (g1 : T b1 = (2, 0)) : XR sc d 58 75 [o0, o1, some (xw x2), some (xw x3), o4, some (.ref a5)] [xw y0, .ref b1] (T, z, xv V, J, R) = xret 58 (XR sc d 58) 82 85 [o0, o1, some (xw x2), some (xw x3), o4, some (.ref a5)] [.ref a5] (X sc d 158 [xw x2, xw x3] (T, z, xv (xup2 V b1 9 y0), J, R)) :=
  (sw_putI f_58_75 e_58_158 (Or.inl rfl) (Or.inl rfl) g1).trans ((st_aload f_58_78 rfl).trans ((sw_iload_n f_58_80 rfl).trans ((sw_iload_n f_58_81 rfl).trans (st_callS' f_58_82 h_58_177 mn_158 rfl rfl rfl rfl))))
theorem bX6_buckle_85 {o0 o1 o2 o3 : Option Value} {y0 x4 : Int} {b1 a5 : Nat} (g1 : T b1 = (2, 0)) (g2 : T a5 = (2, 0)) : XR sc d 58 85 [o0, o1, o2, o3, some (xw x4), some (.ref a5)] [xw y0, .ref b1] (T, z, xv V, J, R) = xret 58 (XR sc d 58) 94 97 [o0, o1, o2, o3, some (xw x4), some (.ref a5)] [.ref a5] (X sc d 18 [.ref a5, xw x4] (T, z, xv (xup2 V b1 10 y0), J, R)) :=
  (sw_putI f_58_85 e_58_161 (Or.inl rfl) (Or.inl rfl) g1).trans ((st_aload f_58_88 rfl).trans ((st_aload f_58_90 rfl).trans ((sw_iload f_58_92 rfl).trans (st_callV' f_58_94 h_58_180 mn_18 rfl rfl rfl rfl mo_18 g2 rfl))))
theorem bX6_buckle_97 {o0 o1 o2 o3 o4 : Option Value} {y0 : Int} {b1 a5 : Nat} (g1 : T b1 = (2, 0)) (g2 : T a5 = (2, 0)) : XR sc d 58 97 [o0, o1, o2, o3, o4, some (.ref a5)] [xw y0, .ref b1] (T, z, xv V, J, R) = some (.inl (some (xw ((xup2 V b1 11 y0) a5 11))), (T, z, xv (xup2 V b1 11 y0), J, R)) :=
  (sw_putI f_58_97 e_58_164 (Or.inl rfl) (Or.inl rfl) g1).trans ((st_aload f_58_100 rfl).trans ((sw_getI f_58_102 e_58_164 (by decide) g2).trans (sw_ireturn f_58_105 mr_58)))
theorem eX6_unbuckle {x1 : Int} {a0 : Nat} : X sc (d + 1) 59 [.ref a0, xw x1] (T, z, xv V, J, R) = XR sc d 59 0 [some (.ref a0), some (xw x1), none, none] [] (T, z, xv V, J, R) :=
  (X_eq ⟨jl_59, by rw [mn_59]; rfl, rfl, by rw [lm_59]; exact Nat.le_of_ble_eq_true rfl⟩).trans (by unfold xent; rw [lm_59]; rfl)
theorem bX6_unbuckle_0 {o2 o3 : Option Value} {x1 : Int} {a0 : Nat} (g1 : T a0 = (7, 0)) : XR sc d 59 0 [some (.ref a0), some (xw x1), o2, o3] [] (T, z, xv V, J, R) = xret 59 (XR sc d 59) 2 5 [some (.ref a0), some (xw x1), o2, o3] [] (X sc d 84 [.ref a0, xw x1] (T, z, xv V, J, R)) :=
  (st_aload_n f_59_0 rfl).trans ((sw_iload_n f_59_1 rfl).trans (st_callV' f_59_2 h_59_105 mn_84 rfl rfl rfl rfl mo_84 g1 rfl))
theorem bX6_unbuckle_5 {o0 o1 o2 o3 : Option Value} {b0 : Nat} (g1 : T b0 = (2, 0)) : XR sc d 59 5 [o0, o1, o2, o3] [.ref b0] (T, z, xv V, J, R) = xret 59 (XR sc d 59) 7 10 [o0, o1, some (.ref b0), o3] [] (X sc d 20 [.ref b0] (T, z, xv V, J, R)) :=
  (st_astore_n (L' := [o0, o1, some (.ref b0), o3]) f_59_5 (Nat.le_of_ble_eq_true rfl) rfl).trans ((st_aload_n f_59_6 rfl).trans (st_callV' f_59_7 h_59_126 mn_20 rfl rfl rfl rfl mo_20 g1 rfl))
theorem bX6_unbuckle_10 {o0 o1 o2 o3 : Option Value} {y0 : Int} (g1 : -2147483648 ≤ y0 ∧ y0 ≤ 2147483647) : XR sc d 59 10 [o0, o1, o2, o3] [xw y0] (T, z, xv V, J, R) = if y0 = 0 then XR sc d 59 13 [o0, o1, o2, o3] [] (T, z, xv V, J, R) else XR sc d 59 23 [o0, o1, o2, o3] [] (T, z, xv V, J, R) :=
  sw_if_ne (t := 23) f_59_10 ⟨by decide, rfl⟩ g1
theorem bX6_unbuckle_13 {o0 o1 o2 o3 : Option Value} (g1 : 6 ≤ d) : XR sc d 59 13 [o0, o1, o2, o3] [] (T, z, xv V, J, R) = some (.inr 9, (va_up T z.1 (10, 0), (z.1 + 1, z.2 + 6), xv (va_up V z.1 (fun _ => 0)), va_up J z.1 (fun _ => 0), va_up R z.1 (fun _ => none))) :=
  sw_throw f_59_13 q_59_57 (by decide) (xthr_L (idx := 0) g1 (Nat.le_of_ble_eq_true rfl) w_59 f_59_16 f_59_17 u_59_183 f_59_19 f_59_22 v_59_61)
theorem bX6_unbuckle_23 {o0 o1 o3 : Option Value} {a2 : Nat} (g1 : T a2 = (2, 0)) : XR sc d 59 23 [o0, o1, some (.ref a2), o3] [] (T, z, xv V, J, R) = xret 59 (XR sc d 59) 29 32 [o0, o1, some (.ref a2), some (xw (V a2 11))] [] (X sc d 22 [.ref a2] (T, z, xv V, J, R)) :=
  (st_aload_n f_59_23 rfl).trans ((sw_getI f_59_24 e_59_164 (by decide) g1).trans ((sw_istore_n (L' := [o0, o1, some (.ref a2), some (xw (V a2 11))]) f_59_27 (Nat.le_of_ble_eq_true rfl) rfl).trans ((st_aload_n f_59_28 rfl).trans (st_callV' f_59_29 h_59_185 mn_22 rfl rfl rfl rfl mo_22 g1 rfl))))
theorem bX6_unbuckle_32 {o0 o1 o2 : Option Value} {x3 : Int} : XR sc d 59 32 [o0, o1, o2, some (xw x3)] [] (T, z, xv V, J, R) = some (.inl (some (xw x3)), (T, z, xv V, J, R)) :=
  (sw_iload_n f_59_32 rfl).trans (sw_ireturn f_59_33 mr_59)
theorem eX6_bears {x1 x2 x3 x4 : Int} {a0 : Nat} : X sc (d + 1) 60 [.ref a0, xw x1, xw x2, xw x3, xw x4] (T, z, xv V, J, R) = XR sc d 60 0 [some (.ref a0), some (xw x1), some (xw x2), some (xw x3), some (xw x4), none] [] (T, z, xv V, J, R) :=
  (X_eq ⟨jl_60, by rw [mn_60]; rfl, rfl, by rw [lm_60]; exact Nat.le_of_ble_eq_true rfl⟩).trans (by unfold xent; rw [lm_60]; rfl)
theorem bX6_bears_0 {o2 o3 o4 o5 : Option Value} {x1 : Int} {a0 : Nat} (g1 : T a0 = (7, 0)) : XR sc d 60 0 [some (.ref a0), some (xw x1), o2, o3, o4, o5] [] (T, z, xv V, J, R) = xret 60 (XR sc d 60) 2 5 [some (.ref a0), some (xw x1), o2, o3, o4, o5] [] (X sc d 84 [.ref a0, xw x1] (T, z, xv V, J, R)) :=
  (st_aload_n f_60_0 rfl).trans ((sw_iload_n f_60_1 rfl).trans (st_callV' f_60_2 h_60_105 mn_84 rfl rfl rfl rfl mo_84 g1 rfl))
theorem bX6_bears_5 {o0 o1 o4 o5 : Option Value} {x2 x3 : Int} {b0 : Nat} : XR sc d 60 5 [o0, o1, some (xw x2), some (xw x3), o4, o5] [.ref b0] (T, z, xv V, J, R) = xret 60 (XR sc d 60) 9 12 [o0, o1, some (xw x2), some (xw x3), o4, some (.ref b0)] [] (X sc d 90 [xw x2, xw x3] (T, z, xv V, J, R)) :=
  (st_astore (L' := [o0, o1, some (xw x2), some (xw x3), o4, some (.ref b0)]) f_60_5 (Nat.le_of_ble_eq_true rfl) rfl).trans ((sw_iload_n f_60_7 rfl).trans ((sw_iload_n f_60_8 rfl).trans (st_callS' f_60_9 h_60_188 mn_90 rfl rfl rfl rfl)))
theorem bX6_bears_12 {o0 o1 o2 o3 o5 : Option Value} {x4 : Int} : XR sc d 60 12 [o0, o1, o2, o3, some (xw x4), o5] [] (T, z, xv V, J, R) = xret 60 (XR sc d 60) 18 21 [o0, o1, o2, o3, some (xw x4), o5] [] (X sc d 88 [xw x4, xw 1, xw 9999] (T, z, xv V, J, R)) :=
  (sw_iload f_60_12 rfl).trans ((sw_iconst f_60_14).trans ((sw_sipush f_60_15 c16_9999).trans (st_callS' f_60_18 h_60_49 mn_88 rfl rfl rfl rfl)))
theorem bX6_bears_21 {o1 o4 o5 : Option Value} {x2 x3 : Int} {a0 : Nat} (g1 : T a0 = (7, 0)) (g2 : R a0 4 = some ((R a0 4).getD 0)) (g3 : R a0 2 = some ((R a0 2).getD 0)) (g4 : T ((R a0 4).getD 0) = (5, 0)) : XR sc d 60 21 [some (.ref a0), o1, some (xw x2), some (xw x3), o4, o5] [] (T, z, xv V, J, R) = xret 60 (XR sc d 60) 31 34 [some (.ref a0), o1, some (xw x2), some (xw x3), o4, o5] [] (X sc d 25 [.ref ((R a0 4).getD 0), .ref ((R a0 2).getD 0), xw x2, xw x3] (T, z, xv V, J, R)) :=
  (st_aload_n f_60_21 rfl).trans ((st_getR f_60_22 e_60_24 (by decide) g1 g2).trans ((st_aload_n f_60_25 rfl).trans ((st_getR f_60_26 e_60_17 (by decide) g1 g3).trans ((sw_iload_n f_60_29 rfl).trans ((sw_iload_n f_60_30 rfl).trans (st_callV' f_60_31 h_60_191 mn_25 rfl rfl rfl rfl mo_25 g4 rfl))))))
theorem bX6_bears_34 {o1 o2 o3 : Option Value} {x4 : Int} {a0 a5 : Nat} (g1 : T a0 = (7, 0)) (g2 : R a0 4 = some ((R a0 4).getD 0)) (g3 : T ((R a0 4).getD 0) = (5, 0)) : XR sc d 60 34 [some (.ref a0), o1, o2, o3, some (xw x4), some (.ref a5)] [] (T, z, xv V, J, R) = xret 60 (XR sc d 60) 42 45 [some (.ref a0), o1, o2, o3, some (xw x4), some (.ref a5)] [] (X sc d 29 [.ref ((R a0 4).getD 0), .ref a5, xw x4] (T, z, xv V, J, R)) :=
  (st_aload_n f_60_34 rfl).trans ((st_getR f_60_35 e_60_24 (by decide) g1 g2).trans ((st_aload f_60_38 rfl).trans ((sw_iload f_60_40 rfl).trans (st_callV' f_60_42 h_60_195 mn_29 rfl rfl rfl rfl mo_29 g3 rfl))))
theorem bX6_bears_45 {o0 o1 o2 o3 o4 o5 : Option Value} {y0 : Int} : XR sc d 60 45 [o0, o1, o2, o3, o4, o5] [xw y0] (T, z, xv V, J, R) = some (.inl (some (xw y0)), (T, z, xv V, J, R)) :=
  sw_ireturn f_60_45 mr_60
theorem eX6_way {x1 x2 x3 : Int} {a0 : Nat} : X sc (d + 1) 61 [.ref a0, xw x1, xw x2, xw x3] (T, z, xv V, J, R) = XR sc d 61 0 [some (.ref a0), some (xw x1), some (xw x2), some (xw x3)] [] (T, z, xv V, J, R) :=
  (X_eq ⟨jl_61, by rw [mn_61]; rfl, rfl, by rw [lm_61]; exact Nat.le_of_ble_eq_true rfl⟩).trans (by unfold xent; rw [lm_61]; rfl)
theorem bX6_way_0 {o0 o2 o3 : Option Value} {x1 : Int} : XR sc d 61 0 [o0, some (xw x1), o2, o3] [] (T, z, xv V, J, R) = xret 61 (XR sc d 61) 3 6 [o0, some (xw x1), o2, o3] [] (X sc d 87 [xw x1, xw 8] (T, z, xv V, J, R)) :=
  (sw_iload_n f_61_0 rfl).trans ((sw_bipush f_61_1 c8_8).trans (st_callS' f_61_3 h_61_71 mn_87 rfl rfl rfl rfl))
theorem bX6_way_6 {o0 o1 o3 : Option Value} {x2 : Int} : XR sc d 61 6 [o0, o1, some (xw x2), o3] [] (T, z, xv V, J, R) = xret 61 (XR sc d 61) 9 12 [o0, o1, some (xw x2), o3] [] (X sc d 87 [xw x2, xw 8] (T, z, xv V, J, R)) :=
  (sw_iload_n f_61_6 rfl).trans ((sw_bipush f_61_7 c8_8).trans (st_callS' f_61_9 h_61_71 mn_87 rfl rfl rfl rfl))
theorem bX6_way_12 {o0 o1 o2 : Option Value} {x3 : Int} (g1 : -2147483648 ≤ x3 ∧ x3 ≤ 2147483647) : XR sc d 61 12 [o0, o1, o2, some (xw x3)] [] (T, z, xv V, J, R) = if 0 ≤ x3 then XR sc d 61 26 [o0, o1, o2, some (xw x3)] [] (T, z, xv V, J, R) else XR sc d 61 16 [o0, o1, o2, some (xw x3)] [] (T, z, xv V, J, R) :=
  (sw_iload_n f_61_12 rfl).trans (sw_if_ge (t := 26) f_61_13 ⟨by decide, rfl⟩ g1)
theorem bX6_way_16 {o0 o1 o2 o3 : Option Value} (g1 : 6 ≤ d) : XR sc d 61 16 [o0, o1, o2, o3] [] (T, z, xv V, J, R) = some (.inr 10, (va_up T z.1 (11, 0), (z.1 + 1, z.2 + 6), xv (va_up V z.1 (fun _ => 0)), va_up J z.1 (fun _ => 0), va_up R z.1 (fun _ => none))) :=
  sw_throw f_61_16 q_61_199 (by decide) (xthr_L (idx := 0) g1 (Nat.le_of_ble_eq_true rfl) w_61 f_61_19 f_61_20 u_61_201 f_61_22 f_61_25 v_61_203)
theorem bX6_way_26 {o0 o3 : Option Value} {x1 x2 : Int} : XR sc d 61 26 [o0, some (xw x1), some (xw x2), o3] [] (T, z, xv V, J, R) = xret 61 (XR sc d 61) 28 31 [o0, some (xw x1), some (xw x2), o3] [] (X sc d 89 [xw x1, xw x2] (T, z, xv V, J, R)) :=
  (sw_iload_n f_61_26 rfl).trans ((sw_iload_n f_61_27 rfl).trans (st_callS' f_61_28 h_61_167 mn_89 rfl rfl rfl rfl))
theorem bX6_way_31 {o3 : Option Value} {x1 x2 : Int} {a0 : Nat} (g1 : T a0 = (7, 0)) (g2 : R a0 4 = some ((R a0 4).getD 0)) (g3 : R a0 2 = some ((R a0 2).getD 0)) (g4 : T ((R a0 4).getD 0) = (5, 0)) : XR sc d 61 31 [some (.ref a0), some (xw x1), some (xw x2), o3] [] (T, z, xv V, J, R) = xret 61 (XR sc d 61) 41 44 [some (.ref a0), some (xw x1), some (xw x2), o3] [] (X sc d 25 [.ref ((R a0 4).getD 0), .ref ((R a0 2).getD 0), xw x1, xw x2] (T, z, xv V, J, R)) :=
  (st_aload_n f_61_31 rfl).trans ((st_getR f_61_32 e_61_24 (by decide) g1 g2).trans ((st_aload_n f_61_35 rfl).trans ((st_getR f_61_36 e_61_17 (by decide) g1 g3).trans ((sw_iload_n f_61_39 rfl).trans ((sw_iload_n f_61_40 rfl).trans (st_callV' f_61_41 h_61_191 mn_25 rfl rfl rfl rfl mo_25 g4 rfl))))))
theorem bX6_way_44 {o1 o2 : Option Value} {x3 : Int} {a0 : Nat} (g1 : T a0 = (7, 0)) (g2 : R a0 4 = some ((R a0 4).getD 0)) (g3 : T ((R a0 4).getD 0) = (5, 0)) : XR sc d 61 44 [some (.ref a0), o1, o2, some (xw x3)] [] (T, z, xv V, J, R) = xret 61 (XR sc d 61) 49 52 [some (.ref a0), o1, o2, some (xw x3)] [] (X sc d 27 [.ref ((R a0 4).getD 0), xw x3] (T, z, xv V, J, R)) :=
  (st_aload_n f_61_44 rfl).trans ((st_getR f_61_45 e_61_24 (by decide) g1 g2).trans ((sw_iload_n f_61_48 rfl).trans (st_callV' f_61_49 h_61_204 mn_27 rfl rfl rfl rfl mo_27 g3 rfl)))
theorem bX6_way_52 {o0 o1 o2 o3 : Option Value} {y0 : Int} : XR sc d 61 52 [o0, o1, o2, o3] [xw y0] (T, z, xv V, J, R) = some (.inl (some (xw y0)), (T, z, xv V, J, R)) :=
  sw_ireturn f_61_52 mr_61
theorem eX6_pull {x1 x2 x3 : Int} {a0 : Nat} : X sc (d + 1) 62 [.ref a0, xw x1, xw x2, xw x3] (T, z, xv V, J, R) = XR sc d 62 0 [some (.ref a0), some (xw x1), some (xw x2), some (xw x3), none] [] (T, z, xv V, J, R) :=
  (X_eq ⟨jl_62, by rw [mn_62]; rfl, rfl, by rw [lm_62]; exact Nat.le_of_ble_eq_true rfl⟩).trans (by unfold xent; rw [lm_62]; rfl)
theorem bX6_pull_0 {o0 o3 o4 : Option Value} {x1 x2 : Int} : XR sc d 62 0 [o0, some (xw x1), some (xw x2), o3, o4] [] (T, z, xv V, J, R) = xret 62 (XR sc d 62) 2 5 [o0, some (xw x1), some (xw x2), o3, o4] [] (X sc d 90 [xw x1, xw x2] (T, z, xv V, J, R)) :=
  (sw_iload_n f_62_0 rfl).trans ((sw_iload_n f_62_1 rfl).trans (st_callS' f_62_2 h_62_188 mn_90 rfl rfl rfl rfl))
theorem bX6_pull_5 {o0 o1 o2 o4 : Option Value} {x3 : Int} : XR sc d 62 5 [o0, o1, o2, some (xw x3), o4] [] (T, z, xv V, J, R) = xret 62 (XR sc d 62) 10 13 [o0, o1, o2, some (xw x3), o4] [] (X sc d 88 [xw x3, xw 1, xw 9999] (T, z, xv V, J, R)) :=
  (sw_iload_n f_62_5 rfl).trans ((sw_iconst f_62_6).trans ((sw_sipush f_62_7 c16_9999).trans (st_callS' f_62_10 h_62_49 mn_88 rfl rfl rfl rfl)))
theorem bX6_pull_13 {o3 o4 : Option Value} {x1 x2 : Int} {a0 : Nat} (g1 : T a0 = (7, 0)) (g2 : R a0 4 = some ((R a0 4).getD 0)) (g3 : R a0 2 = some ((R a0 2).getD 0)) (g4 : T ((R a0 4).getD 0) = (5, 0)) : XR sc d 62 13 [some (.ref a0), some (xw x1), some (xw x2), o3, o4] [] (T, z, xv V, J, R) = xret 62 (XR sc d 62) 23 26 [some (.ref a0), some (xw x1), some (xw x2), o3, o4] [] (X sc d 25 [.ref ((R a0 4).getD 0), .ref ((R a0 2).getD 0), xw x1, xw x2] (T, z, xv V, J, R)) :=
  (st_aload_n f_62_13 rfl).trans ((st_getR f_62_14 e_62_24 (by decide) g1 g2).trans ((st_aload_n f_62_17 rfl).trans ((st_getR f_62_18 e_62_17 (by decide) g1 g3).trans ((sw_iload_n f_62_21 rfl).trans ((sw_iload_n f_62_22 rfl).trans (st_callV' f_62_23 h_62_191 mn_25 rfl rfl rfl rfl mo_25 g4 rfl))))))
theorem bX6_pull_26 {o1 o2 o3 o4 : Option Value} {a0 : Nat} (g1 : T a0 = (7, 0)) (g2 : R a0 4 = some ((R a0 4).getD 0)) (g3 : T ((R a0 4).getD 0) = (5, 0)) : XR sc d 62 26 [some (.ref a0), o1, o2, o3, o4] [] (T, z, xv V, J, R) = xret 62 (XR sc d 62) 30 33 [some (.ref a0), o1, o2, o3, o4] [] (X sc d 26 [.ref ((R a0 4).getD 0)] (T, z, xv V, J, R)) :=
  (st_aload_n f_62_26 rfl).trans ((st_getR f_62_27 e_62_24 (by decide) g1 g2).trans (st_callV' f_62_30 h_62_207 mn_26 rfl rfl rfl rfl mo_26 g3 rfl))
theorem bX6_pull_33 {o0 o1 o2 o3 o4 : Option Value} {y0 : Int} (g1 : -2147483648 ≤ y0 ∧ y0 ≤ 2147483647) : XR sc d 62 33 [o0, o1, o2, o3, o4] [xw y0] (T, z, xv V, J, R) = if y0 = 0 then XR sc d 62 36 [o0, o1, o2, o3, o4] [] (T, z, xv V, J, R) else XR sc d 62 46 [o0, o1, o2, o3, o4] [] (T, z, xv V, J, R) :=
  sw_if_ne (t := 46) f_62_33 ⟨by decide, rfl⟩ g1
theorem bX6_pull_36 {o0 o1 o2 o3 o4 : Option Value} (g1 : 6 ≤ d) : XR sc d 62 36 [o0, o1, o2, o3, o4] [] (T, z, xv V, J, R) = some (.inr 9, (va_up T z.1 (10, 0), (z.1 + 1, z.2 + 6), xv (va_up V z.1 (fun _ => 0)), va_up J z.1 (fun _ => 0), va_up R z.1 (fun _ => none))) :=
  sw_throw f_62_36 q_62_57 (by decide) (xthr_L (idx := 0) g1 (Nat.le_of_ble_eq_true rfl) w_62 f_62_39 f_62_40 u_62_210 f_62_42 f_62_45 v_62_61)
theorem bX6_pull_46 {o4 : Option Value} {x1 x2 x3 : Int} {a0 : Nat} (g1 : T a0 = (7, 0)) : XR sc d 62 46 [some (.ref a0), some (xw x1), some (xw x2), some (xw x3), o4] [] (T, z, xv V, J, R) = xret 62 (XR sc d 62) 50 53 [some (.ref a0), some (xw x1), some (xw x2), some (xw x3), o4] [] (X sc d 79 [.ref a0, xw x1, xw x2, xw x3] (T, z, xv V, J, R)) :=
  (st_aload_n f_62_46 rfl).trans ((sw_iload_n f_62_47 rfl).trans ((sw_iload_n f_62_48 rfl).trans ((sw_iload_n f_62_49 rfl).trans (st_callV' f_62_50 h_62_212 mn_79 rfl rfl rfl rfl mo_79 g1 rfl))))
theorem bX6_pull_53 {o1 o2 o4 : Option Value} {y0 x3 : Int} {a0 : Nat} (g1 : T a0 = (7, 0)) : XR sc d 62 53 [some (.ref a0), o1, o2, some (xw x3), o4] [xw y0] (T, z, xv V, J, R) = xret 62 (XR sc d 62) 57 60 [some (.ref a0), o1, o2, some (xw x3), some (xw y0)] [] (X sc d 81 [.ref a0, xw x3] (T, z, xv V, J, R)) :=
  (sw_istore (L' := [some (.ref a0), o1, o2, some (xw x3), some (xw y0)]) f_62_53 (Nat.le_of_ble_eq_true rfl) rfl).trans ((st_aload_n f_62_55 rfl).trans ((sw_iload_n f_62_56 rfl).trans (st_callV' f_62_57 h_62_216 mn_81 rfl rfl rfl rfl mo_81 g1 rfl)))
theorem bX6_pull_60 {o0 o1 o2 o3 : Option Value} {x4 : Int} : XR sc d 62 60 [o0, o1, o2, o3, some (xw x4)] [] (T, z, xv V, J, R) = some (.inl (some (xw x4)), (T, z, xv V, J, R)) :=
  (sw_iload f_62_60 rfl).trans (sw_ireturn f_62_62 mr_62)
theorem eX6_holds {x1 x2 : Int} {a0 : Nat} : X sc (d + 1) 63 [.ref a0, xw x1, xw x2] (T, z, xv V, J, R) = XR sc d 63 0 [some (.ref a0), some (xw x1), some (xw x2), none, none, none] [] (T, z, xv V, J, R) :=
  (X_eq ⟨jl_63, by rw [mn_63]; rfl, rfl, by rw [lm_63]; exact Nat.le_of_ble_eq_true rfl⟩).trans (by unfold xent; rw [lm_63]; rfl)
theorem bX6_holds_0 {o0 o3 o4 o5 : Option Value} {x1 x2 : Int} : XR sc d 63 0 [o0, some (xw x1), some (xw x2), o3, o4, o5] [] (T, z, xv V, J, R) = xret 63 (XR sc d 63) 2 5 [o0, some (xw x1), some (xw x2), o3, o4, o5] [] (X sc d 90 [xw x1, xw x2] (T, z, xv V, J, R)) :=
  (sw_iload_n f_63_0 rfl).trans ((sw_iload_n f_63_1 rfl).trans (st_callS' f_63_2 h_63_188 mn_90 rfl rfl rfl rfl))
theorem bX6_holds_5r {o3 o4 o5 : Option Value} {x1 x2 : Int} {a0 : Nat} (g1 : T a0 = (7, 0)) (g2 : R a0 4 = some ((R a0 4).getD 0)) (g3 : R a0 2 = some ((R a0 2).getD 0)) (g4 : T ((R a0 4).getD 0) = (5, 0)) : XR sc d 63 5 [some (.ref a0), some (xw x1), some (xw x2), o3, o4, o5] [] (T, z, xv V, J, R) = xret 63 (XR sc d 63) 15 18 [some (.ref a0), some (xw x1), some (xw x2), o3, o4, o5] [] (X sc d 25 [.ref ((R a0 4).getD 0), .ref ((R a0 2).getD 0), xw x1, xw x2] (T, z, xv V, J, R)) :=
  (st_aload_n f_63_5 rfl).trans ((st_getR f_63_6 e_63_24 (by decide) g1 g2).trans ((st_aload_n f_63_9 rfl).trans ((st_getR f_63_10 e_63_17 (by decide) g1 g3).trans ((sw_iload_n f_63_13 rfl).trans ((sw_iload_n f_63_14 rfl).trans (st_callV' f_63_15 h_63_191 mn_25 rfl rfl rfl rfl mo_25 g4 rfl))))))
theorem bX6_holds_18r {o1 o2 o3 o4 o5 : Option Value} {a0 : Nat} (g1 : T a0 = (7, 0)) (g2 : R a0 4 = some ((R a0 4).getD 0)) (g3 : T ((R a0 4).getD 0) = (5, 0)) : XR sc d 63 18 [some (.ref a0), o1, o2, o3, o4, o5] [] (T, z, xv V, J, R) = xret 63 (XR sc d 63) 22 25 [some (.ref a0), o1, o2, o3, o4, o5] [] (X sc d 26 [.ref ((R a0 4).getD 0)] (T, z, xv V, J, R)) :=
  (st_aload_n f_63_18 rfl).trans ((st_getR f_63_19 e_63_24 (by decide) g1 g2).trans (st_callV' f_63_22 h_63_207 mn_26 rfl rfl rfl rfl mo_26 g3 rfl))
theorem bX6_holds_25 {o0 o1 o2 o3 o4 o5 : Option Value} {y0 : Int} (g1 : -2147483648 ≤ y0 ∧ y0 ≤ 2147483647) : XR sc d 63 25 [o0, o1, o2, o3, o4, o5] [xw y0] (T, z, xv V, J, R) = if y0 = 0 then XR sc d 63 28 [o0, o1, o2, o3, o4, o5] [] (T, z, xv V, J, R) else XR sc d 63 30 [o0, o1, o2, o3, o4, o5] [] (T, z, xv V, J, R) :=
  sw_if_ne (t := 30) f_63_25 ⟨by decide, rfl⟩ g1
theorem bX6_holds_28 {o0 o1 o2 o3 o4 o5 : Option Value} : XR sc d 63 28 [o0, o1, o2, o3, o4, o5] [] (T, z, xv V, J, R) = some (.inl (some (xw (-1))), (T, z, xv V, J, R)) :=
  (sw_iconst f_63_28).trans (sw_ireturn f_63_29 mr_63)
theorem bX6_holds_30 {o0 o1 o2 o3 o4 o5 : Option Value} : XR sc d 63 30 [o0, o1, o2, o3, o4, o5] [] (T, z, xv V, J, R) = XR sc d 63 37 [o0, o1, o2, some (xw 9999), some (xw 0), o5] [] (T, z, xv V, J, R) :=
  (sw_sipush f_63_30 c16_9999).trans ((sw_istore_n (L' := [o0, o1, o2, some (xw 9999), o4, o5]) f_63_33 (Nat.le_of_ble_eq_true rfl) rfl).trans ((sw_iconst f_63_34).trans (sw_istore (L' := [o0, o1, o2, some (xw 9999), some (xw 0), o5]) f_63_35 (Nat.le_of_ble_eq_true rfl) rfl)))
theorem bX6_holds_37r {o1 o2 o3 o5 : Option Value} {x4 : Int} {a0 : Nat} (g1 : T a0 = (7, 0)) (g2 : -2147483648 ≤ x4 ∧ x4 ≤ 2147483647) (g3 : -2147483648 ≤ (V a0 3) ∧ (V a0 3) ≤ 2147483647) : XR sc d 63 37 [some (.ref a0), o1, o2, o3, some (xw x4), o5] [] (T, z, xv V, J, R) = if (V a0 3) ≤ x4 then XR sc d 63 92 [some (.ref a0), o1, o2, o3, some (xw x4), o5] [] (T, z, xv V, J, R) else XR sc d 63 46 [some (.ref a0), o1, o2, o3, some (xw x4), o5] [] (T, z, xv V, J, R) :=
  (sw_iload f_63_37 rfl).trans ((st_aload_n f_63_39 rfl).trans ((sw_getI f_63_40 e_63_89 (by decide) g1).trans (sw_icmp_ge (t := 92) f_63_43 ⟨by decide, rfl⟩ g2 g3)))
theorem bX6_holds_46rr {o1 o2 o3 o5 : Option Value} {x4 : Int} {a0 : Nat} (g1 : T a0 = (7, 0)) (g2 : R a0 2 = some ((R a0 2).getD 0)) (g3 : T ((R a0 2).getD 0) = ((T ((R a0 2).getD 0)).1, (T ((R a0 2).getD 0)).2)) (g4 : 40 ≤ (T ((R a0 2).getD 0)).1 ∧ (T ((R a0 2).getD 0)).1 < 44) (g5 : (0 : Int) ≤ x4 ∧ x4 < ((T ((R a0 2).getD 0)).2 : Int) ∧ (T ((R a0 2).getD 0)).2 ≤ 3584) (g6 : R ((R a0 2).getD 0) x4.toNat = some ((R ((R a0 2).getD 0) x4.toNat).getD 0)) : XR sc d 63 46 [some (.ref a0), o1, o2, o3, some (xw x4), o5] [] (T, z, xv V, J, R) = XR sc d 63 60 [some (.ref a0), o1, o2, o3, some (xw x4), some (.ref ((R ((R a0 2).getD 0) x4.toNat).getD 0))] [] (T, z, xv V, J, R) :=
  (st_aload_n f_63_46 rfl).trans ((st_getR f_63_47 e_63_17 (by decide) g1 g2).trans ((sw_iload f_63_50 rfl).trans ((sw_aaload f_63_52 g3 g4 g5 g6).trans ((st_astore (L' := [some (.ref a0), o1, o2, o3, some (xw x4), some (.ref ((R ((R a0 2).getD 0) x4.toNat).getD 0))]) f_63_53 (Nat.le_of_ble_eq_true rfl) rfl).trans ((st_aload f_63_55 rfl).trans (st_ifnull f_63_57))))))
theorem bX6_holds_46rn {o1 o2 o3 o5 : Option Value} {x4 : Int} {a0 : Nat} (g1 : T a0 = (7, 0)) (g2 : R a0 2 = some ((R a0 2).getD 0)) (g3 : T ((R a0 2).getD 0) = ((T ((R a0 2).getD 0)).1, (T ((R a0 2).getD 0)).2)) (g4 : 40 ≤ (T ((R a0 2).getD 0)).1 ∧ (T ((R a0 2).getD 0)).1 < 44) (g5 : (0 : Int) ≤ x4 ∧ x4 < ((T ((R a0 2).getD 0)).2 : Int) ∧ (T ((R a0 2).getD 0)).2 ≤ 3584) (g6 : R ((R a0 2).getD 0) x4.toNat = none) : XR sc d 63 46 [some (.ref a0), o1, o2, o3, some (xw x4), o5] [] (T, z, xv V, J, R) = XR sc d 63 86 [some (.ref a0), o1, o2, o3, some (xw x4), some (.null)] [] (T, z, xv V, J, R) :=
  (st_aload_n f_63_46 rfl).trans ((st_getR f_63_47 e_63_17 (by decide) g1 g2).trans ((sw_iload f_63_50 rfl).trans ((sw_aaload f_63_52 g3 g4 g5 g6).trans ((st_astoreN (L' := [some (.ref a0), o1, o2, o3, some (xw x4), some (.null)]) f_63_53 (Nat.le_of_ble_eq_true rfl) rfl).trans ((st_aloadN f_63_55 rfl).trans (st_ifnullN (t := 86) f_63_57 ⟨by decide, rfl⟩))))))
theorem bX6_holds_60rr {o1 o2 o3 o4 : Option Value} {a0 a5 : Nat} (g1 : T a0 = (7, 0)) (g2 : R a0 4 = some ((R a0 4).getD 0)) (g3 : T ((R a0 4).getD 0) = (5, 0)) : XR sc d 63 60 [some (.ref a0), o1, o2, o3, o4, some (.ref a5)] [] (T, z, xv V, J, R) = xret 63 (XR sc d 63) 66 69 [some (.ref a0), o1, o2, o3, o4, some (.ref a5)] [] (X sc d 28 [.ref ((R a0 4).getD 0), .ref a5] (T, z, xv V, J, R)) :=
  (st_aload_n f_63_60 rfl).trans ((st_getR f_63_61 e_63_24 (by decide) g1 g2).trans ((st_aload f_63_64 rfl).trans (st_callV' f_63_66 h_63_219 mn_28 rfl rfl rfl rfl mo_28 g3 rfl)))
theorem bX6_holds_60rn {o1 o2 o3 o4 : Option Value} {a0 : Nat} (g1 : T a0 = (7, 0)) (g2 : R a0 4 = some ((R a0 4).getD 0)) (g3 : T ((R a0 4).getD 0) = (5, 0)) : XR sc d 63 60 [some (.ref a0), o1, o2, o3, o4, some .null] [] (T, z, xv V, J, R) = xret 63 (XR sc d 63) 66 69 [some (.ref a0), o1, o2, o3, o4, some (.null)] [] (X sc d 28 [.ref ((R a0 4).getD 0), .null] (T, z, xv V, J, R)) :=
  (st_aload_n f_63_60 rfl).trans ((st_getR f_63_61 e_63_24 (by decide) g1 g2).trans ((st_aloadN f_63_64 rfl).trans (st_callV' f_63_66 h_63_219 mn_28 rfl rfl rfl rfl mo_28 g3 rfl)))
theorem bX6_holds_69 {o0 o1 o2 o3 o4 o5 : Option Value} {y0 : Int} (g1 : -2147483648 ≤ y0 ∧ y0 ≤ 2147483647) : XR sc d 63 69 [o0, o1, o2, o3, o4, o5] [xw y0] (T, z, xv V, J, R) = if y0 = 0 then XR sc d 63 86 [o0, o1, o2, o3, o4, o5] [] (T, z, xv V, J, R) else XR sc d 63 72 [o0, o1, o2, o3, o4, o5] [] (T, z, xv V, J, R) :=
  sw_if_eq (t := 86) f_63_69 ⟨by decide, rfl⟩ g1
theorem bX6_holds_72rr {o1 o2 o4 : Option Value} {x3 : Int} {a0 a5 : Nat} (g1 : T a0 = (7, 0)) (g2 : R a0 4 = some ((R a0 4).getD 0)) (g3 : T ((R a0 4).getD 0) = (5, 0)) : XR sc d 63 72 [some (.ref a0), o1, o2, some (xw x3), o4, some (.ref a5)] [] (T, z, xv V, J, R) = xret 63 (XR sc d 63) 79 82 [some (.ref a0), o1, o2, some (xw x3), o4, some (.ref a5)] [xw x3] (X sc d 30 [.ref ((R a0 4).getD 0), .ref a5] (T, z, xv V, J, R)) :=
  (sw_iload_n f_63_72 rfl).trans ((st_aload_n f_63_73 rfl).trans ((st_getR f_63_74 e_63_24 (by decide) g1 g2).trans ((st_aload f_63_77 rfl).trans (st_callV' f_63_79 h_63_223 mn_30 rfl rfl rfl rfl mo_30 g3 rfl))))
theorem bX6_holds_72rn {o1 o2 o4 : Option Value} {x3 : Int} {a0 : Nat} (g1 : T a0 = (7, 0)) (g2 : R a0 4 = some ((R a0 4).getD 0)) (g3 : T ((R a0 4).getD 0) = (5, 0)) : XR sc d 63 72 [some (.ref a0), o1, o2, some (xw x3), o4, some .null] [] (T, z, xv V, J, R) = xret 63 (XR sc d 63) 79 82 [some (.ref a0), o1, o2, some (xw x3), o4, some (.null)] [xw x3] (X sc d 30 [.ref ((R a0 4).getD 0), .null] (T, z, xv V, J, R)) :=
  (sw_iload_n f_63_72 rfl).trans ((st_aload_n f_63_73 rfl).trans ((st_getR f_63_74 e_63_24 (by decide) g1 g2).trans ((st_aloadN f_63_77 rfl).trans (st_callV' f_63_79 h_63_223 mn_30 rfl rfl rfl rfl mo_30 g3 rfl))))
theorem bX6_holds_82 {o0 o1 o2 o3 o4 o5 : Option Value} {y0 y1 : Int} : XR sc d 63 82 [o0, o1, o2, o3, o4, o5] [xw y0, xw y1] (T, z, xv V, J, R) = xret 63 (XR sc d 63) 82 85 [o0, o1, o2, o3, o4, o5] [] (X sc d 159 [xw y1, xw y0] (T, z, xv V, J, R)) :=
  st_callS' f_63_82 h_63_172 mn_159 rfl rfl rfl rfl
theorem bX6_holds_85 {o0 o1 o2 o3 o4 o5 : Option Value} {y0 : Int} : XR sc d 63 85 [o0, o1, o2, o3, o4, o5] [xw y0] (T, z, xv V, J, R) = XR sc d 63 86 [o0, o1, o2, some (xw y0), o4, o5] [] (T, z, xv V, J, R) :=
  sw_istore_n (L' := [o0, o1, o2, some (xw y0), o4, o5]) f_63_85 (Nat.le_of_ble_eq_true rfl) rfl
theorem bX6_holds_86 {o0 o1 o2 o3 o5 : Option Value} {x4 : Int} : XR sc d 63 86 [o0, o1, o2, o3, some (xw x4), o5] [] (T, z, xv V, J, R) = XR sc d 63 37 [o0, o1, o2, o3, some (xw (x4 + 1)), o5] [] (T, z, xv V, J, R) :=
  (sw_iinc (L' := [o0, o1, o2, o3, some (xw (x4 + 1)), o5]) f_63_86 rfl (Nat.le_of_ble_eq_true rfl) rfl).trans (st_goto (t := 37) f_63_89 ⟨by decide, rfl⟩)
theorem bX6_holds_92 {o0 o1 o2 o4 o5 : Option Value} {x3 : Int} : XR sc d 63 92 [o0, o1, o2, some (xw x3), o4, o5] [] (T, z, xv V, J, R) = some (.inl (some (xw x3)), (T, z, xv V, J, R)) :=
  (sw_iload_n f_63_92 rfl).trans (sw_ireturn f_63_93 mr_63)
theorem eX6_oil {x1 : Int} {a0 : Nat} : X sc (d + 1) 64 [.ref a0, xw x1] (T, z, xv V, J, R) = XR sc d 64 0 [some (.ref a0), some (xw x1), none] [] (T, z, xv V, J, R) :=
  (X_eq ⟨jl_64, by rw [mn_64]; rfl, rfl, by rw [lm_64]; exact Nat.le_of_ble_eq_true rfl⟩).trans (by unfold xent; rw [lm_64]; rfl)
theorem bX6_oil_0 {o2 : Option Value} {x1 : Int} {a0 : Nat} (g1 : T a0 = (7, 0)) : XR sc d 64 0 [some (.ref a0), some (xw x1), o2] [] (T, z, xv V, J, R) = xret 64 (XR sc d 64) 2 5 [some (.ref a0), some (xw x1), o2] [] (X sc d 84 [.ref a0, xw x1] (T, z, xv V, J, R)) :=
  (st_aload_n f_64_0 rfl).trans ((sw_iload_n f_64_1 rfl).trans (st_callV' f_64_2 h_64_105 mn_84 rfl rfl rfl rfl mo_84 g1 rfl))
theorem bX6_oil_5 {o0 o1 o2 : Option Value} {b0 : Nat} (g1 : T b0 = (2, 0)) (g2 : 0 ≤ (V b0 7) ∧ (V b0 7) ≤ 2147483647) : XR sc d 64 5 [o0, o1, o2] [.ref b0] (T, z, xv V, J, R) = some (.inl (some (xw ((xup2 V b0 7 ((V b0 7) / 2)) b0 7))), (T, z, xv (xup2 V b0 7 ((V b0 7) / 2)), J, R)) :=
  (st_astore_n (L' := [o0, o1, some (.ref b0)]) f_64_5 (Nat.le_of_ble_eq_true rfl) rfl).trans ((st_aload_n f_64_6 rfl).trans ((st_aload_n f_64_7 rfl).trans ((sw_getI f_64_8 e_64_152 (by decide) g1).trans ((sw_iconst f_64_11).trans ((sw_idiv f_64_12 ⟨by decide, by decide, g2⟩).trans ((sw_putI f_64_13 e_64_152 (Or.inl rfl) (Or.inl rfl) g1).trans ((st_aload_n f_64_16 rfl).trans ((sw_getI f_64_17 e_64_152 (by decide) g1).trans (sw_ireturn f_64_20 mr_64)))))))))
theorem eX6_sew {x1 x2 x3 x4 : Int} {a0 : Nat} : X sc (d + 1) 65 [.ref a0, xw x1, xw x2, xw x3, xw x4] (T, z, xv V, J, R) = XR sc d 65 0 [some (.ref a0), some (xw x1), some (xw x2), some (xw x3), some (xw x4), none, none, none, none, none, none] [] (T, z, xv V, J, R) :=
  (X_eq ⟨jl_65, by rw [mn_65]; rfl, rfl, by rw [lm_65]; exact Nat.le_of_ble_eq_true rfl⟩).trans (by unfold xent; rw [lm_65]; rfl)
theorem bX6_sew_0 {o2 o3 o4 o5 o6 o7 o8 o9 o10 : Option Value} {x1 : Int} {a0 : Nat} (g1 : T a0 = (7, 0)) : XR sc d 65 0 [some (.ref a0), some (xw x1), o2, o3, o4, o5, o6, o7, o8, o9, o10] [] (T, z, xv V, J, R) = xret 65 (XR sc d 65) 2 5 [some (.ref a0), some (xw x1), o2, o3, o4, o5, o6, o7, o8, o9, o10] [] (X sc d 84 [.ref a0, xw x1] (T, z, xv V, J, R)) :=
  (st_aload_n f_65_0 rfl).trans ((sw_iload_n f_65_1 rfl).trans (st_callV' f_65_2 h_65_105 mn_84 rfl rfl rfl rfl mo_84 g1 rfl))
theorem bX6_sew_5 {o1 o3 o4 o5 o6 o7 o8 o9 o10 : Option Value} {x2 : Int} {b0 a0 : Nat} (g1 : T a0 = (7, 0)) : XR sc d 65 5 [some (.ref a0), o1, some (xw x2), o3, o4, o5, o6, o7, o8, o9, o10] [.ref b0] (T, z, xv V, J, R) = xret 65 (XR sc d 65) 9 12 [some (.ref a0), o1, some (xw x2), o3, o4, some (.ref b0), o6, o7, o8, o9, o10] [] (X sc d 84 [.ref a0, xw x2] (T, z, xv V, J, R)) :=
  (st_astore (L' := [some (.ref a0), o1, some (xw x2), o3, o4, some (.ref b0), o6, o7, o8, o9, o10]) f_65_5 (Nat.le_of_ble_eq_true rfl) rfl).trans ((st_aload_n f_65_7 rfl).trans ((sw_iload_n f_65_8 rfl).trans (st_callV' f_65_9 h_65_105 mn_84 rfl rfl rfl rfl mo_84 g1 rfl)))
theorem bX6_sew_12 {o0 o3 o4 o5 o6 o7 o8 o9 o10 : Option Value} {x1 x2 : Int} {b0 : Nat} : XR sc d 65 12 [o0, some (xw x1), some (xw x2), o3, o4, o5, o6, o7, o8, o9, o10] [.ref b0] (T, z, xv V, J, R) = xret 65 (XR sc d 65) 16 19 [o0, some (xw x1), some (xw x2), o3, o4, o5, some (.ref b0), o7, o8, o9, o10] [] (X sc d 89 [xw x1, xw x2] (T, z, xv V, J, R)) :=
  (st_astore (L' := [o0, some (xw x1), some (xw x2), o3, o4, o5, some (.ref b0), o7, o8, o9, o10]) f_65_12 (Nat.le_of_ble_eq_true rfl) rfl).trans ((sw_iload_n f_65_14 rfl).trans ((sw_iload_n f_65_15 rfl).trans (st_callS' f_65_16 h_65_167 mn_89 rfl rfl rfl rfl)))
theorem bX6_sew_19 {o0 o1 o2 o4 o5 o6 o7 o8 o9 o10 : Option Value} {x3 : Int} : XR sc d 65 19 [o0, o1, o2, some (xw x3), o4, o5, o6, o7, o8, o9, o10] [] (T, z, xv V, J, R) = xret 65 (XR sc d 65) 23 26 [o0, o1, o2, some (xw x3), o4, o5, o6, o7, o8, o9, o10] [] (X sc d 88 [xw x3, xw 1, xw 12] (T, z, xv V, J, R)) :=
  (sw_iload_n f_65_19 rfl).trans ((sw_iconst f_65_20).trans ((sw_bipush f_65_21 c8_12).trans (st_callS' f_65_23 h_65_49 mn_88 rfl rfl rfl rfl)))
theorem bX6_sew_26 {o0 o1 o2 o3 o5 o6 o7 o8 o9 o10 : Option Value} {x4 : Int} : XR sc d 65 26 [o0, o1, o2, o3, some (xw x4), o5, o6, o7, o8, o9, o10] [] (T, z, xv V, J, R) = xret 65 (XR sc d 65) 31 34 [o0, o1, o2, o3, some (xw x4), o5, o6, o7, o8, o9, o10] [] (X sc d 88 [xw x4, xw 1, xw 50] (T, z, xv V, J, R)) :=
  (sw_iload f_65_26 rfl).trans ((sw_iconst f_65_28).trans ((sw_bipush f_65_29 c8_50).trans (st_callS' f_65_31 h_65_49 mn_88 rfl rfl rfl rfl)))
theorem bX6_sew_34 {o0 o1 o2 o3 o4 o6 o7 o8 o9 o10 : Option Value} {a5 : Nat} (g1 : T a5 = (2, 0)) : XR sc d 65 34 [o0, o1, o2, o3, o4, some (.ref a5), o6, o7, o8, o9, o10] [] (T, z, xv V, J, R) = xret 65 (XR sc d 65) 36 39 [o0, o1, o2, o3, o4, some (.ref a5), o6, o7, o8, o9, o10] [] (X sc d 21 [.ref a5] (T, z, xv V, J, R)) :=
  (st_aload f_65_34 rfl).trans (st_callV' f_65_36 h_65_227 mn_21 rfl rfl rfl rfl mo_21 g1 rfl)
theorem bX6_sew_39 {o0 o1 o2 o3 o4 o5 o6 o7 o8 o9 o10 : Option Value} {y0 : Int} (g1 : -2147483648 ≤ y0 ∧ y0 ≤ 2147483647) : XR sc d 65 39 [o0, o1, o2, o3, o4, o5, o6, o7, o8, o9, o10] [xw y0] (T, z, xv V, J, R) = if y0 = 0 then XR sc d 65 50 [o0, o1, o2, o3, o4, o5, o6, o7, o8, o9, o10] [] (T, z, xv V, J, R) else XR sc d 65 42 [o0, o1, o2, o3, o4, o5, o6, o7, o8, o9, o10] [] (T, z, xv V, J, R) :=
  sw_if_eq (t := 50) f_65_39 ⟨by decide, rfl⟩ g1
theorem bX6_sew_42 {o0 o1 o2 o3 o4 o5 o7 o8 o9 o10 : Option Value} {a6 : Nat} (g1 : T a6 = (2, 0)) : XR sc d 65 42 [o0, o1, o2, o3, o4, o5, some (.ref a6), o7, o8, o9, o10] [] (T, z, xv V, J, R) = xret 65 (XR sc d 65) 44 47 [o0, o1, o2, o3, o4, o5, some (.ref a6), o7, o8, o9, o10] [] (X sc d 21 [.ref a6] (T, z, xv V, J, R)) :=
  (st_aload f_65_42 rfl).trans (st_callV' f_65_44 h_65_227 mn_21 rfl rfl rfl rfl mo_21 g1 rfl)
theorem bX6_sew_47 {o0 o1 o2 o3 o4 o5 o6 o7 o8 o9 o10 : Option Value} {y0 : Int} (g1 : -2147483648 ≤ y0 ∧ y0 ≤ 2147483647) : XR sc d 65 47 [o0, o1, o2, o3, o4, o5, o6, o7, o8, o9, o10] [xw y0] (T, z, xv V, J, R) = if y0 = 0 then XR sc d 65 50 [o0, o1, o2, o3, o4, o5, o6, o7, o8, o9, o10] [] (T, z, xv V, J, R) else XR sc d 65 60 [o0, o1, o2, o3, o4, o5, o6, o7, o8, o9, o10] [] (T, z, xv V, J, R) :=
  sw_if_ne (t := 60) f_65_47 ⟨by decide, rfl⟩ g1
theorem bX6_sew_50 {o0 o1 o2 o3 o4 o5 o6 o7 o8 o9 o10 : Option Value} (g1 : 6 ≤ d) : XR sc d 65 50 [o0, o1, o2, o3, o4, o5, o6, o7, o8, o9, o10] [] (T, z, xv V, J, R) = some (.inr 9, (va_up T z.1 (10, 0), (z.1 + 1, z.2 + 6), xv (va_up V z.1 (fun _ => 0)), va_up J z.1 (fun _ => 0), va_up R z.1 (fun _ => none))) :=
  sw_throw f_65_50 q_65_57 (by decide) (xthr_L (idx := 0) g1 (Nat.le_of_ble_eq_true rfl) w_65 f_65_53 f_65_54 u_65_230 f_65_56 f_65_59 v_65_61)
theorem bX6_sew_60 {o0 o1 o2 o3 o4 o7 o8 o9 o10 : Option Value} {a5 a6 : Nat} (g1 : T a5 = (2, 0)) (g2 : T a6 = (2, 0)) : XR sc d 65 60 [o0, o1, o2, o3, o4, some (.ref a5), some (.ref a6), o7, o8, o9, o10] [] (T, z, xv V, J, R) = xret 65 (XR sc d 65) 92 95 [o0, o1, o2, o3, o4, some (.ref a5), some (.ref a6), o7, o8, o9, o10] [] (X sc d 159 [xw ((xup2 (xup2 V a5 8 ((V a5 8) + 1)) a6 8 (((xup2 V a5 8 ((V a5 8) + 1)) a6 8) + 1)) a5 0), xw ((xup2 (xup2 V a5 8 ((V a5 8) + 1)) a6 8 (((xup2 V a5 8 ((V a5 8) + 1)) a6 8) + 1)) a6 0)] (T, z, xv (xup2 (xup2 V a5 8 ((V a5 8) + 1)) a6 8 (((xup2 V a5 8 ((V a5 8) + 1)) a6 8) + 1)), J, R)) :=
  (st_aload f_65_60 rfl).trans ((st_dup f_65_62 rfl).trans ((sw_getI f_65_63 e_65_112 (by decide) g1).trans ((sw_iconst f_65_66).trans ((sw_iadd f_65_67).trans ((sw_putI f_65_68 e_65_112 (Or.inl rfl) (Or.inl rfl) g1).trans ((st_aload f_65_71 rfl).trans ((st_dup f_65_73 rfl).trans ((sw_getI f_65_74 e_65_112 (by decide) g2).trans ((sw_iconst f_65_77).trans ((sw_iadd f_65_78).trans ((sw_putI f_65_79 e_65_112 (Or.inl rfl) (Or.inl rfl) g2).trans ((st_aload f_65_82 rfl).trans ((sw_getI f_65_84 e_65_117 (by decide) g1).trans ((st_aload f_65_87 rfl).trans ((sw_getI f_65_89 e_65_117 (by decide) g2).trans (st_callS' f_65_92 h_65_172 mn_159 rfl rfl rfl rfl))))))))))))))))
theorem bX6_sew_95 {o0 o1 o2 o3 o4 o7 o8 o9 o10 : Option Value} {y0 : Int} {a5 a6 : Nat} (g1 : T a5 = (2, 0)) (g2 : T a6 = (2, 0)) : XR sc d 65 95 [o0, o1, o2, o3, o4, some (.ref a5), some (.ref a6), o7, o8, o9, o10] [xw y0] (T, z, xv V, J, R) = xret 65 (XR sc d 65) 107 110 [o0, o1, o2, o3, o4, some (.ref a5), some (.ref a6), some (xw y0), o8, o9, o10] [] (X sc d 159 [xw (V a5 5), xw (V a6 5)] (T, z, xv V, J, R)) :=
  (sw_istore (L' := [o0, o1, o2, o3, o4, some (.ref a5), some (.ref a6), some (xw y0), o8, o9, o10]) f_65_95 (Nat.le_of_ble_eq_true rfl) rfl).trans ((st_aload f_65_97 rfl).trans ((sw_getI f_65_99 e_65_109 (by decide) g1).trans ((st_aload f_65_102 rfl).trans ((sw_getI f_65_104 e_65_109 (by decide) g2).trans (st_callS' f_65_107 h_65_172 mn_159 rfl rfl rfl rfl)))))
theorem bX6_sew_110 {o0 o1 o2 o5 o6 o8 o9 o10 : Option Value} {y0 x3 x7 x4 : Int} : XR sc d 65 110 [o0, o1, o2, some (xw x3), some (xw x4), o5, o6, some (xw x7), o8, o9, o10] [xw y0] (T, z, xv V, J, R) = xret 65 (XR sc d 65) 137 140 [o0, o1, o2, some (xw x3), some (xw x4), o5, o6, some (xw x7), some (xw y0), some (xw ((x3 * x7) * x4)), some (xw ((y0 * (20 - x3)) * x7))] [] (X sc d 159 [xw ((x3 * x7) * x4), xw ((y0 * (20 - x3)) * x7)] (T, z, xv V, J, R)) :=
  (sw_istore (L' := [o0, o1, o2, some (xw x3), some (xw x4), o5, o6, some (xw x7), some (xw y0), o9, o10]) f_65_110 (Nat.le_of_ble_eq_true rfl) rfl).trans ((sw_iload_n f_65_112 rfl).trans ((sw_iload f_65_113 rfl).trans ((sw_imul f_65_115).trans ((sw_iload f_65_116 rfl).trans ((sw_imul f_65_118).trans ((sw_istore (L' := [o0, o1, o2, some (xw x3), some (xw x4), o5, o6, some (xw x7), some (xw y0), some (xw ((x3 * x7) * x4)), o10]) f_65_119 (Nat.le_of_ble_eq_true rfl) rfl).trans ((sw_iload f_65_121 rfl).trans ((sw_bipush f_65_123 c8_20).trans ((sw_iload_n f_65_125 rfl).trans ((sw_isub f_65_126).trans ((sw_imul f_65_127).trans ((sw_iload f_65_128 rfl).trans ((sw_imul f_65_130).trans ((sw_istore (L' := [o0, o1, o2, some (xw x3), some (xw x4), o5, o6, some (xw x7), some (xw y0), some (xw ((x3 * x7) * x4)), some (xw ((y0 * (20 - x3)) * x7))]) f_65_131 (Nat.le_of_ble_eq_true rfl) rfl).trans ((sw_iload f_65_133 rfl).trans ((sw_iload f_65_135 rfl).trans (st_callS' f_65_137 h_65_172 mn_159 rfl rfl rfl rfl)))))))))))))))))
theorem bX6_sew_140 {o0 o1 o2 o3 o4 o5 o6 o7 o8 o9 o10 : Option Value} {y0 : Int} : XR sc d 65 140 [o0, o1, o2, o3, o4, o5, o6, o7, o8, o9, o10] [xw y0] (T, z, xv V, J, R) = some (.inl (some (xw y0)), (T, z, xv V, J, R)) :=
  sw_ireturn f_65_140 mr_65
theorem eX6_back {x1 x2 x3 : Int} {a0 : Nat} : X sc (d + 1) 66 [.ref a0, xw x1, xw x2, xw x3] (T, z, xv V, J, R) = XR sc d 66 0 [some (.ref a0), some (xw x1), some (xw x2), some (xw x3), none, none] [] (T, z, xv V, J, R) :=
  (X_eq ⟨jl_66, by rw [mn_66]; rfl, rfl, by rw [lm_66]; exact Nat.le_of_ble_eq_true rfl⟩).trans (by unfold xent; rw [lm_66]; rfl)
theorem bX6_back_0 {o2 o3 o4 o5 : Option Value} {x1 : Int} {a0 : Nat} (g1 : T a0 = (7, 0)) : XR sc d 66 0 [some (.ref a0), some (xw x1), o2, o3, o4, o5] [] (T, z, xv V, J, R) = xret 66 (XR sc d 66) 2 5 [some (.ref a0), some (xw x1), o2, o3, o4, o5] [] (X sc d 85 [.ref a0, xw x1] (T, z, xv V, J, R)) :=
  (st_aload_n f_66_0 rfl).trans ((sw_iload_n f_66_1 rfl).trans (st_callV' f_66_2 h_66_232 mn_85 rfl rfl rfl rfl mo_85 g1 rfl))
theorem bX6_back_5 {o0 o1 o3 o4 o5 : Option Value} {x2 : Int} {b0 : Nat} : XR sc d 66 5 [o0, o1, some (xw x2), o3, o4, o5] [.ref b0] (T, z, xv V, J, R) = xret 66 (XR sc d 66) 10 13 [o0, o1, some (xw x2), o3, some (.ref b0), o5] [] (X sc d 87 [xw x2, xw 7] (T, z, xv V, J, R)) :=
  (st_astore (L' := [o0, o1, some (xw x2), o3, some (.ref b0), o5]) f_66_5 (Nat.le_of_ble_eq_true rfl) rfl).trans ((sw_iload_n f_66_7 rfl).trans ((sw_bipush f_66_8 c8_7).trans (st_callS' f_66_10 h_66_71 mn_87 rfl rfl rfl rfl)))
theorem bX6_back_13 {o0 o1 o2 o4 o5 : Option Value} {x3 : Int} : XR sc d 66 13 [o0, o1, o2, some (xw x3), o4, o5] [] (T, z, xv V, J, R) = xret 66 (XR sc d 66) 18 21 [o0, o1, o2, some (xw x3), o4, o5] [] (X sc d 88 [xw x3, xw (-50), xw 50] (T, z, xv V, J, R)) :=
  (sw_iload_n f_66_13 rfl).trans ((sw_bipush f_66_14 c8_m50).trans ((sw_bipush f_66_16 c8_50).trans (st_callS' f_66_18 h_66_49 mn_88 rfl rfl rfl rfl)))
theorem bX6_back_21 {o0 o1 o5 : Option Value} {x2 x3 : Int} {a4 : Nat} (g1 : T a4 = (3, 0)) (g2 : R a4 0 = some ((R a4 0).getD 0)) (g3 : T ((R a4 0).getD 0) = (32, (T ((R a4 0).getD 0)).2)) (g4 : (0 : Int) ≤ x2 ∧ x2 < ((T ((R a4 0).getD 0)).2 : Int) ∧ (T ((R a4 0).getD 0)).2 ≤ 3584) : XR sc d 66 21 [o0, o1, some (xw x2), some (xw x3), some (.ref a4), o5] [] (T, z, xv V, J, R) = some (.inl (some (xw (V ((R a4 0).getD 0) x2.toNat))), (T, z, xv (xup2 V ((R a4 0).getD 0) x2.toNat x3), J, R)) :=
  (st_aload f_66_21 rfl).trans ((st_getR f_66_23 e_66_236 (by decide) g1 g2).trans ((sw_iload_n f_66_26 rfl).trans ((sw_iaload f_66_27 g3 g4).trans ((sw_istore (L' := [o0, o1, some (xw x2), some (xw x3), some (.ref a4), some (xw (V ((R a4 0).getD 0) x2.toNat))]) f_66_28 (Nat.le_of_ble_eq_true rfl) rfl).trans ((st_aload f_66_30 rfl).trans ((st_getR f_66_32 e_66_236 (by decide) g1 g2).trans ((sw_iload_n f_66_35 rfl).trans ((sw_iload_n f_66_36 rfl).trans ((sw_iastore f_66_37 g3 g4).trans ((sw_iload f_66_38 rfl).trans (sw_ireturn f_66_40 mr_66)))))))))))
theorem eX6_tree {x1 x2 x3 : Int} {a0 : Nat} : X sc (d + 1) 67 [.ref a0, xw x1, xw x2, xw x3] (T, z, xv V, J, R) = XR sc d 67 0 [some (.ref a0), some (xw x1), some (xw x2), some (xw x3), none, none] [] (T, z, xv V, J, R) :=
  (X_eq ⟨jl_67, by rw [mn_67]; rfl, rfl, by rw [lm_67]; exact Nat.le_of_ble_eq_true rfl⟩).trans (by unfold xent; rw [lm_67]; rfl)
theorem bX6_tree_0 {o2 o3 o4 o5 : Option Value} {x1 : Int} {a0 : Nat} (g1 : T a0 = (7, 0)) : XR sc d 67 0 [some (.ref a0), some (xw x1), o2, o3, o4, o5] [] (T, z, xv V, J, R) = xret 67 (XR sc d 67) 2 5 [some (.ref a0), some (xw x1), o2, o3, o4, o5] [] (X sc d 86 [.ref a0, xw x1] (T, z, xv V, J, R)) :=
  (st_aload_n f_67_0 rfl).trans ((sw_iload_n f_67_1 rfl).trans (st_callV' f_67_2 h_67_240 mn_86 rfl rfl rfl rfl mo_86 g1 rfl))
theorem bX6_tree_5 {o0 o1 o3 o4 o5 : Option Value} {x2 : Int} {b0 : Nat} : XR sc d 67 5 [o0, o1, some (xw x2), o3, o4, o5] [.ref b0] (T, z, xv V, J, R) = xret 67 (XR sc d 67) 10 13 [o0, o1, some (xw x2), o3, some (.ref b0), o5] [] (X sc d 87 [xw x2, xw 7] (T, z, xv V, J, R)) :=
  (st_astore (L' := [o0, o1, some (xw x2), o3, some (.ref b0), o5]) f_67_5 (Nat.le_of_ble_eq_true rfl) rfl).trans ((sw_iload_n f_67_7 rfl).trans ((sw_bipush f_67_8 c8_7).trans (st_callS' f_67_10 h_67_71 mn_87 rfl rfl rfl rfl)))
theorem bX6_tree_13 {o0 o1 o2 o4 o5 : Option Value} {x3 : Int} : XR sc d 67 13 [o0, o1, o2, some (xw x3), o4, o5] [] (T, z, xv V, J, R) = xret 67 (XR sc d 67) 18 21 [o0, o1, o2, some (xw x3), o4, o5] [] (X sc d 88 [xw x3, xw (-50), xw 50] (T, z, xv V, J, R)) :=
  (sw_iload_n f_67_13 rfl).trans ((sw_bipush f_67_14 c8_m50).trans ((sw_bipush f_67_16 c8_50).trans (st_callS' f_67_18 h_67_49 mn_88 rfl rfl rfl rfl)))
theorem bX6_tree_21 {o0 o1 o5 : Option Value} {x2 x3 : Int} {a4 : Nat} (g1 : T a4 = (4, 0)) (g2 : R a4 0 = some ((R a4 0).getD 0)) (g3 : T ((R a4 0).getD 0) = (32, (T ((R a4 0).getD 0)).2)) (g4 : (0 : Int) ≤ x2 ∧ x2 < ((T ((R a4 0).getD 0)).2 : Int) ∧ (T ((R a4 0).getD 0)).2 ≤ 3584) : XR sc d 67 21 [o0, o1, some (xw x2), some (xw x3), some (.ref a4), o5] [] (T, z, xv V, J, R) = some (.inl (some (xw (V ((R a4 0).getD 0) x2.toNat))), (T, z, xv (xup2 V ((R a4 0).getD 0) x2.toNat x3), J, R)) :=
  (st_aload f_67_21 rfl).trans ((st_getR f_67_23 e_67_244 (by decide) g1 g2).trans ((sw_iload_n f_67_26 rfl).trans ((sw_iaload f_67_27 g3 g4).trans ((sw_istore (L' := [o0, o1, some (xw x2), some (xw x3), some (.ref a4), some (xw (V ((R a4 0).getD 0) x2.toNat))]) f_67_28 (Nat.le_of_ble_eq_true rfl) rfl).trans ((st_aload f_67_30 rfl).trans ((st_getR f_67_32 e_67_244 (by decide) g1 g2).trans ((sw_iload_n f_67_35 rfl).trans ((sw_iload_n f_67_36 rfl).trans ((sw_iastore f_67_37 g3 g4).trans ((sw_iload f_67_38 rfl).trans (sw_ireturn f_67_40 mr_67)))))))))))
theorem eX6_flock {x1 x2 x3 : Int} {a0 : Nat} : X sc (d + 1) 68 [.ref a0, xw x1, xw x2, xw x3] (T, z, xv V, J, R) = XR sc d 68 0 [some (.ref a0), some (xw x1), some (xw x2), some (xw x3), none, none] [] (T, z, xv V, J, R) :=
  (X_eq ⟨jl_68, by rw [mn_68]; rfl, rfl, by rw [lm_68]; exact Nat.le_of_ble_eq_true rfl⟩).trans (by unfold xent; rw [lm_68]; rfl)
theorem bX6_flock_0 {o2 o3 o4 o5 : Option Value} {x1 : Int} {a0 : Nat} (g1 : T a0 = (7, 0)) : XR sc d 68 0 [some (.ref a0), some (xw x1), o2, o3, o4, o5] [] (T, z, xv V, J, R) = xret 68 (XR sc d 68) 2 5 [some (.ref a0), some (xw x1), o2, o3, o4, o5] [] (X sc d 86 [.ref a0, xw x1] (T, z, xv V, J, R)) :=
  (st_aload_n f_68_0 rfl).trans ((sw_iload_n f_68_1 rfl).trans (st_callV' f_68_2 h_68_240 mn_86 rfl rfl rfl rfl mo_86 g1 rfl))
theorem bX6_flock_5 {o0 o1 o3 o4 o5 : Option Value} {x2 : Int} {b0 : Nat} : XR sc d 68 5 [o0, o1, some (xw x2), o3, o4, o5] [.ref b0] (T, z, xv V, J, R) = xret 68 (XR sc d 68) 10 13 [o0, o1, some (xw x2), o3, some (.ref b0), o5] [] (X sc d 87 [xw x2, xw 7] (T, z, xv V, J, R)) :=
  (st_astore (L' := [o0, o1, some (xw x2), o3, some (.ref b0), o5]) f_68_5 (Nat.le_of_ble_eq_true rfl) rfl).trans ((sw_iload_n f_68_7 rfl).trans ((sw_bipush f_68_8 c8_7).trans (st_callS' f_68_10 h_68_71 mn_87 rfl rfl rfl rfl)))
theorem bX6_flock_13 {o0 o1 o2 o4 o5 : Option Value} {x3 : Int} : XR sc d 68 13 [o0, o1, o2, some (xw x3), o4, o5] [] (T, z, xv V, J, R) = xret 68 (XR sc d 68) 17 20 [o0, o1, o2, some (xw x3), o4, o5] [] (X sc d 88 [xw x3, xw 0, xw 20] (T, z, xv V, J, R)) :=
  (sw_iload_n f_68_13 rfl).trans ((sw_iconst f_68_14).trans ((sw_bipush f_68_15 c8_20).trans (st_callS' f_68_17 h_68_49 mn_88 rfl rfl rfl rfl)))
theorem bX6_flock_20 {o0 o1 o5 : Option Value} {x2 x3 : Int} {a4 : Nat} (g1 : T a4 = (4, 0)) (g2 : R a4 1 = some ((R a4 1).getD 0)) (g3 : T ((R a4 1).getD 0) = (32, (T ((R a4 1).getD 0)).2)) (g4 : (0 : Int) ≤ x2 ∧ x2 < ((T ((R a4 1).getD 0)).2 : Int) ∧ (T ((R a4 1).getD 0)).2 ≤ 3584) : XR sc d 68 20 [o0, o1, some (xw x2), some (xw x3), some (.ref a4), o5] [] (T, z, xv V, J, R) = some (.inl (some (xw (V ((R a4 1).getD 0) x2.toNat))), (T, z, xv (xup2 V ((R a4 1).getD 0) x2.toNat x3), J, R)) :=
  (st_aload f_68_20 rfl).trans ((st_getR f_68_22 e_68_245 (by decide) g1 g2).trans ((sw_iload_n f_68_25 rfl).trans ((sw_iaload f_68_26 g3 g4).trans ((sw_istore (L' := [o0, o1, some (xw x2), some (xw x3), some (.ref a4), some (xw (V ((R a4 1).getD 0) x2.toNat))]) f_68_27 (Nat.le_of_ble_eq_true rfl) rfl).trans ((st_aload f_68_29 rfl).trans ((st_getR f_68_31 e_68_245 (by decide) g1 g2).trans ((sw_iload_n f_68_34 rfl).trans ((sw_iload_n f_68_35 rfl).trans ((sw_iastore f_68_36 g3 g4).trans ((sw_iload f_68_37 rfl).trans (sw_ireturn f_68_39 mr_68)))))))))))
theorem eX6_sinks {x1 x2 x3 : Int} {a0 : Nat} : X sc (d + 1) 69 [.ref a0, xw x1, xw x2, xw x3] (T, z, xv V, J, R) = XR sc d 69 0 [some (.ref a0), some (xw x1), some (xw x2), some (xw x3)] [] (T, z, xv V, J, R) :=
  (X_eq ⟨jl_69, by rw [mn_69]; rfl, rfl, by rw [lm_69]; exact Nat.le_of_ble_eq_true rfl⟩).trans (by unfold xent; rw [lm_69]; rfl)
theorem bX6_sinks_0 {x1 x2 x3 : Int} {a0 : Nat} (g1 : T a0 = (7, 0)) : XR sc d 69 0 [some (.ref a0), some (xw x1), some (xw x2), some (xw x3)] [] (T, z, xv V, J, R) = xret 69 (XR sc d 69) 4 7 [some (.ref a0), some (xw x1), some (xw x2), some (xw x3)] [] (X sc d 82 [.ref a0, xw x1, xw x2, xw x3] (T, z, xv V, J, R)) :=
  (st_aload_n f_69_0 rfl).trans ((sw_iload_n f_69_1 rfl).trans ((sw_iload_n f_69_2 rfl).trans ((sw_iload_n f_69_3 rfl).trans (st_callV' f_69_4 h_69_248 mn_82 rfl rfl rfl rfl mo_82 g1 rfl))))
theorem bX6_sinks_7 {o1 o2 : Option Value} {x3 : Int} {a0 : Nat} (g1 : T a0 = (7, 0)) (g2 : R a0 7 = some ((R a0 7).getD 0)) (g3 : T ((R a0 7).getD 0) = (6, 0)) : XR sc d 69 7 [some (.ref a0), o1, o2, some (xw x3)] [] (T, z, xv V, J, R) = xret 69 (XR sc d 69) 12 15 [some (.ref a0), o1, o2, some (xw x3)] [] (X sc d 43 [.ref ((R a0 7).getD 0), xw x3] (T, z, xv V, J, R)) :=
  (st_aload_n f_69_7 rfl).trans ((st_getR f_69_8 e_69_45 (by decide) g1 g2).trans ((sw_iload_n f_69_11 rfl).trans (st_callV' f_69_12 h_69_251 mn_43 rfl rfl rfl rfl mo_43 g3 rfl)))
theorem bX6_sinks_15 {o0 o1 o2 o3 : Option Value} {y0 : Int} : XR sc d 69 15 [o0, o1, o2, o3] [xw y0] (T, z, xv V, J, R) = some (.inl (some (xw y0)), (T, z, xv V, J, R)) :=
  sw_ireturn f_69_15 mr_69
theorem eX6_sinksAnew {x1 x2 x3 : Int} {a0 : Nat} : X sc (d + 1) 70 [.ref a0, xw x1, xw x2, xw x3] (T, z, xv V, J, R) = XR sc d 70 0 [some (.ref a0), some (xw x1), some (xw x2), some (xw x3)] [] (T, z, xv V, J, R) :=
  (X_eq ⟨jl_70, by rw [mn_70]; rfl, rfl, by rw [lm_70]; exact Nat.le_of_ble_eq_true rfl⟩).trans (by unfold xent; rw [lm_70]; rfl)
theorem bX6_sinksAnew_0 {x1 x2 x3 : Int} {a0 : Nat} (g1 : T a0 = (7, 0)) : XR sc d 70 0 [some (.ref a0), some (xw x1), some (xw x2), some (xw x3)] [] (T, z, xv V, J, R) = xret 70 (XR sc d 70) 4 7 [some (.ref a0), some (xw x1), some (xw x2), some (xw x3)] [] (X sc d 82 [.ref a0, xw x1, xw x2, xw x3] (T, z, xv V, J, R)) :=
  (st_aload_n f_70_0 rfl).trans ((sw_iload_n f_70_1 rfl).trans ((sw_iload_n f_70_2 rfl).trans ((sw_iload_n f_70_3 rfl).trans (st_callV' f_70_4 h_70_248 mn_82 rfl rfl rfl rfl mo_82 g1 rfl))))
theorem bX6_sinksAnew_7 {o1 o2 : Option Value} {x3 : Int} {a0 : Nat} (g1 : T a0 = (7, 0)) (g2 : R a0 7 = some ((R a0 7).getD 0)) (g3 : T ((R a0 7).getD 0) = (6, 0)) : XR sc d 70 7 [some (.ref a0), o1, o2, some (xw x3)] [] (T, z, xv V, J, R) = xret 70 (XR sc d 70) 12 15 [some (.ref a0), o1, o2, some (xw x3)] [] (X sc d 44 [.ref ((R a0 7).getD 0), xw x3] (T, z, xv V, J, R)) :=
  (st_aload_n f_70_7 rfl).trans ((st_getR f_70_8 e_70_45 (by decide) g1 g2).trans ((sw_iload_n f_70_11 rfl).trans (st_callV' f_70_12 h_70_254 mn_44 rfl rfl rfl rfl mo_44 g3 rfl)))
theorem bX6_sinksAnew_15 {o0 o1 o2 o3 : Option Value} {y0 : Int} : XR sc d 70 15 [o0, o1, o2, o3] [xw y0] (T, z, xv V, J, R) = some (.inl (some (xw y0)), (T, z, xv V, J, R)) :=
  sw_ireturn f_70_15 mr_70
theorem eX6_pressure {x1 x2 x3 x4 : Int} {a0 : Nat} : X sc (d + 1) 71 [.ref a0, xw x1, xw x2, xw x3, xw x4] (T, z, xv V, J, R) = XR sc d 71 0 [some (.ref a0), some (xw x1), some (xw x2), some (xw x3), some (xw x4)] [] (T, z, xv V, J, R) :=
  (X_eq ⟨jl_71, by rw [mn_71]; rfl, rfl, by rw [lm_71]; exact Nat.le_of_ble_eq_true rfl⟩).trans (by unfold xent; rw [lm_71]; rfl)
theorem bX6_pressure_0 {o0 o1 o2 o3 : Option Value} {x4 : Int} : XR sc d 71 0 [o0, o1, o2, o3, some (xw x4)] [] (T, z, xv V, J, R) = xret 71 (XR sc d 71) 4 7 [o0, o1, o2, o3, some (xw x4)] [] (X sc d 87 [xw x4, xw 7] (T, z, xv V, J, R)) :=
  (sw_iload f_71_0 rfl).trans ((sw_bipush f_71_2 c8_7).trans (st_callS' f_71_4 h_71_71 mn_87 rfl rfl rfl rfl))
theorem bX6_pressure_7 {o4 : Option Value} {x1 x2 x3 : Int} {a0 : Nat} (g1 : T a0 = (7, 0)) : XR sc d 71 7 [some (.ref a0), some (xw x1), some (xw x2), some (xw x3), o4] [] (T, z, xv V, J, R) = xret 71 (XR sc d 71) 11 14 [some (.ref a0), some (xw x1), some (xw x2), some (xw x3), o4] [] (X sc d 82 [.ref a0, xw x1, xw x2, xw x3] (T, z, xv V, J, R)) :=
  (st_aload_n f_71_7 rfl).trans ((sw_iload_n f_71_8 rfl).trans ((sw_iload_n f_71_9 rfl).trans ((sw_iload_n f_71_10 rfl).trans (st_callV' f_71_11 h_71_248 mn_82 rfl rfl rfl rfl mo_82 g1 rfl))))
theorem bX6_pressure_14 {o1 o2 : Option Value} {x4 x3 : Int} {a0 : Nat} (g1 : T a0 = (7, 0)) (g2 : R a0 7 = some ((R a0 7).getD 0)) (g3 : T ((R a0 7).getD 0) = (6, 0)) : XR sc d 71 14 [some (.ref a0), o1, o2, some (xw x3), some (xw x4)] [] (T, z, xv V, J, R) = xret 71 (XR sc d 71) 25 28 [some (.ref a0), o1, o2, some (xw x3), some (xw x4)] [xw x4, .ref ((R a0 7).getD 0)] (X sc d 43 [.ref ((R a0 7).getD 0), xw x3] (T, z, xv V, J, R)) :=
  (st_aload_n f_71_14 rfl).trans ((st_getR f_71_15 e_71_45 (by decide) g1 g2).trans ((sw_iload f_71_18 rfl).trans ((st_aload_n f_71_20 rfl).trans ((st_getR f_71_21 e_71_45 (by decide) g1 g2).trans ((sw_iload_n f_71_24 rfl).trans (st_callV' f_71_25 h_71_251 mn_43 rfl rfl rfl rfl mo_43 g3 rfl))))))
theorem bX6_pressure_28 {o0 o1 o2 o3 o4 : Option Value} {y0 y1 : Int} {b2 : Nat} (g1 : T b2 = (6, 0)) : XR sc d 71 28 [o0, o1, o2, o3, o4] [xw y0, xw y1, .ref b2] (T, z, xv V, J, R) = xret 71 (XR sc d 71) 28 31 [o0, o1, o2, o3, o4] [] (X sc d 42 [.ref b2, xw y1, xw y0] (T, z, xv V, J, R)) :=
  st_callV' f_71_28 h_71_257 mn_42 rfl rfl rfl rfl mo_42 g1 rfl
theorem bX6_pressure_31 {o0 o1 o2 o3 o4 : Option Value} {y0 : Int} : XR sc d 71 31 [o0, o1, o2, o3, o4] [xw y0] (T, z, xv V, J, R) = some (.inl (some (xw y0)), (T, z, xv V, J, R)) :=
  sw_ireturn f_71_31 mr_71
theorem eX6_bridges {x1 x2 x3 : Int} {a0 : Nat} : X sc (d + 1) 72 [.ref a0, xw x1, xw x2, xw x3] (T, z, xv V, J, R) = XR sc d 72 0 [some (.ref a0), some (xw x1), some (xw x2), some (xw x3)] [] (T, z, xv V, J, R) :=
  (X_eq ⟨jl_72, by rw [mn_72]; rfl, rfl, by rw [lm_72]; exact Nat.le_of_ble_eq_true rfl⟩).trans (by unfold xent; rw [lm_72]; rfl)
theorem bX6_bridges_0 {x1 x2 x3 : Int} {a0 : Nat} (g1 : T a0 = (7, 0)) : XR sc d 72 0 [some (.ref a0), some (xw x1), some (xw x2), some (xw x3)] [] (T, z, xv V, J, R) = xret 72 (XR sc d 72) 4 7 [some (.ref a0), some (xw x1), some (xw x2), some (xw x3)] [] (X sc d 82 [.ref a0, xw x1, xw x2, xw x3] (T, z, xv V, J, R)) :=
  (st_aload_n f_72_0 rfl).trans ((sw_iload_n f_72_1 rfl).trans ((sw_iload_n f_72_2 rfl).trans ((sw_iload_n f_72_3 rfl).trans (st_callV' f_72_4 h_72_248 mn_82 rfl rfl rfl rfl mo_82 g1 rfl))))
theorem bX6_bridges_7 {o1 o2 : Option Value} {x3 : Int} {a0 : Nat} (g1 : T a0 = (7, 0)) (g2 : R a0 7 = some ((R a0 7).getD 0)) (g3 : T ((R a0 7).getD 0) = (6, 0)) : XR sc d 72 7 [some (.ref a0), o1, o2, some (xw x3)] [] (T, z, xv V, J, R) = xret 72 (XR sc d 72) 16 19 [some (.ref a0), o1, o2, some (xw x3)] [.ref ((R a0 7).getD 0)] (X sc d 43 [.ref ((R a0 7).getD 0), xw x3] (T, z, xv V, J, R)) :=
  (st_aload_n f_72_7 rfl).trans ((st_getR f_72_8 e_72_45 (by decide) g1 g2).trans ((st_aload_n f_72_11 rfl).trans ((st_getR f_72_12 e_72_45 (by decide) g1 g2).trans ((sw_iload_n f_72_15 rfl).trans (st_callV' f_72_16 h_72_251 mn_43 rfl rfl rfl rfl mo_43 g3 rfl)))))
theorem bX6_bridges_19 {o0 o1 o2 o3 : Option Value} {y0 : Int} {b1 : Nat} (g1 : T b1 = (6, 0)) : XR sc d 72 19 [o0, o1, o2, o3] [xw y0, .ref b1] (T, z, xv V, J, R) = xret 72 (XR sc d 72) 19 22 [o0, o1, o2, o3] [] (X sc d 45 [.ref b1, xw y0] (T, z, xv V, J, R)) :=
  st_callV' f_72_19 h_72_260 mn_45 rfl rfl rfl rfl mo_45 g1 rfl
theorem bX6_bridges_22 {o0 o1 o2 o3 : Option Value} {y0 : Int} : XR sc d 72 22 [o0, o1, o2, o3] [xw y0] (T, z, xv V, J, R) = some (.inl (some (xw y0)), (T, z, xv V, J, R)) :=
  sw_ireturn f_72_22 mr_72
theorem eX6_ride {x1 x2 x3 x4 x5 x6 : Int} {a0 : Nat} : X sc (d + 1) 73 [.ref a0, xw x1, xw x2, xw x3, xw x4, xw x5, xw x6] (T, z, xv V, J, R) = XR sc d 73 0 [some (.ref a0), some (xw x1), some (xw x2), some (xw x3), some (xw x4), some (xw x5), some (xw x6), none, none, none, none, none, none, none] [] (T, z, xv V, J, R) :=
  (X_eq ⟨jl_73, by rw [mn_73]; rfl, rfl, by rw [lm_73]; exact Nat.le_of_ble_eq_true rfl⟩).trans (by unfold xent; rw [lm_73]; rfl)
theorem bX6_ride_0 {o2 o3 o4 o5 o6 o7 o8 o9 o10 o11 o12 o13 : Option Value} {x1 : Int} {a0 : Nat} (g1 : T a0 = (7, 0)) : XR sc d 73 0 [some (.ref a0), some (xw x1), o2, o3, o4, o5, o6, o7, o8, o9, o10, o11, o12, o13] [] (T, z, xv V, J, R) = xret 73 (XR sc d 73) 2 5 [some (.ref a0), some (xw x1), o2, o3, o4, o5, o6, o7, o8, o9, o10, o11, o12, o13] [] (X sc d 85 [.ref a0, xw x1] (T, z, xv V, J, R)) :=
  (st_aload_n f_73_0 rfl).trans ((sw_iload_n f_73_1 rfl).trans (st_callV' f_73_2 h_73_232 mn_85 rfl rfl rfl rfl mo_85 g1 rfl))
theorem bX6_ride_5 {o1 o3 o4 o5 o6 o7 o8 o9 o10 o11 o12 o13 : Option Value} {x2 : Int} {b0 a0 : Nat} (g1 : T a0 = (7, 0)) : XR sc d 73 5 [some (.ref a0), o1, some (xw x2), o3, o4, o5, o6, o7, o8, o9, o10, o11, o12, o13] [.ref b0] (T, z, xv V, J, R) = xret 73 (XR sc d 73) 9 12 [some (.ref a0), o1, some (xw x2), o3, o4, o5, o6, some (.ref b0), o8, o9, o10, o11, o12, o13] [] (X sc d 86 [.ref a0, xw x2] (T, z, xv V, J, R)) :=
  (st_astore (L' := [some (.ref a0), o1, some (xw x2), o3, o4, o5, o6, some (.ref b0), o8, o9, o10, o11, o12, o13]) f_73_5 (Nat.le_of_ble_eq_true rfl) rfl).trans ((st_aload_n f_73_7 rfl).trans ((sw_iload_n f_73_8 rfl).trans (st_callV' f_73_9 h_73_240 mn_86 rfl rfl rfl rfl mo_86 g1 rfl)))
theorem bX6_ride_12 {o0 o1 o2 o4 o5 o6 o7 o8 o9 o10 o11 o12 o13 : Option Value} {x3 : Int} {b0 : Nat} : XR sc d 73 12 [o0, o1, o2, some (xw x3), o4, o5, o6, o7, o8, o9, o10, o11, o12, o13] [.ref b0] (T, z, xv V, J, R) = xret 73 (XR sc d 73) 16 19 [o0, o1, o2, some (xw x3), o4, o5, o6, o7, some (.ref b0), o9, o10, o11, o12, o13] [] (X sc d 87 [xw x3, xw 4] (T, z, xv V, J, R)) :=
  (st_astore (L' := [o0, o1, o2, some (xw x3), o4, o5, o6, o7, some (.ref b0), o9, o10, o11, o12, o13]) f_73_12 (Nat.le_of_ble_eq_true rfl) rfl).trans ((sw_iload_n f_73_14 rfl).trans ((sw_iconst f_73_15).trans (st_callS' f_73_16 h_73_71 mn_87 rfl rfl rfl rfl)))
theorem bX6_ride_19 {o0 o1 o2 o3 o5 o6 o7 o8 o9 o10 o11 o12 o13 : Option Value} {x4 : Int} : XR sc d 73 19 [o0, o1, o2, o3, some (xw x4), o5, o6, o7, o8, o9, o10, o11, o12, o13] [] (T, z, xv V, J, R) = xret 73 (XR sc d 73) 25 28 [o0, o1, o2, o3, some (xw x4), o5, o6, o7, o8, o9, o10, o11, o12, o13] [] (X sc d 88 [xw x4, xw 1, xw 1000] (T, z, xv V, J, R)) :=
  (sw_iload f_73_19 rfl).trans ((sw_iconst f_73_21).trans ((sw_sipush f_73_22 c16_1000).trans (st_callS' f_73_25 h_73_49 mn_88 rfl rfl rfl rfl)))
theorem bX6_ride_28 {o0 o1 o2 o3 o4 o6 o7 o8 o9 o10 o11 o12 o13 : Option Value} {x5 : Int} : XR sc d 73 28 [o0, o1, o2, o3, o4, some (xw x5), o6, o7, o8, o9, o10, o11, o12, o13] [] (T, z, xv V, J, R) = xret 73 (XR sc d 73) 32 35 [o0, o1, o2, o3, o4, some (xw x5), o6, o7, o8, o9, o10, o11, o12, o13] [] (X sc d 88 [xw x5, xw 1, xw 3] (T, z, xv V, J, R)) :=
  (sw_iload f_73_28 rfl).trans ((sw_iconst f_73_30).trans ((sw_iconst f_73_31).trans (st_callS' f_73_32 h_73_49 mn_88 rfl rfl rfl rfl)))
theorem bX6_ride_35 {o0 o1 o2 o3 o4 o5 o7 o8 o9 o10 o11 o12 o13 : Option Value} {x6 : Int} : XR sc d 73 35 [o0, o1, o2, o3, o4, o5, some (xw x6), o7, o8, o9, o10, o11, o12, o13] [] (T, z, xv V, J, R) = xret 73 (XR sc d 73) 40 43 [o0, o1, o2, o3, o4, o5, some (xw x6), o7, o8, o9, o10, o11, o12, o13] [] (X sc d 88 [xw x6, xw 1, xw 10] (T, z, xv V, J, R)) :=
  (sw_iload f_73_35 rfl).trans ((sw_iconst f_73_37).trans ((sw_bipush f_73_38 c8_10).trans (st_callS' f_73_40 h_73_49 mn_88 rfl rfl rfl rfl)))
theorem bX6_ride_43 {o0 o1 o2 o3 o4 o5 o6 o8 o9 o10 o11 o12 o13 : Option Value} {a7 : Nat} (g1 : T a7 = (3, 0)) : XR sc d 73 43 [o0, o1, o2, o3, o4, o5, o6, some (.ref a7), o8, o9, o10, o11, o12, o13] [] (T, z, xv V, J, R) = xret 73 (XR sc d 73) 45 48 [o0, o1, o2, o3, o4, o5, o6, some (.ref a7), o8, o9, o10, o11, o12, o13] [] (X sc d 11 [.ref a7] (T, z, xv V, J, R)) :=
  (st_aload f_73_43 rfl).trans (st_callV' f_73_45 h_73_263 mn_11 rfl rfl rfl rfl mo_11 g1 rfl)
theorem bX6_ride_48 {o0 o1 o2 o3 o4 o5 o6 o7 o8 o9 o10 o11 o12 o13 : Option Value} {y0 : Int} (g1 : -2147483648 ≤ y0 ∧ y0 ≤ 2147483647) : XR sc d 73 48 [o0, o1, o2, o3, o4, o5, o6, o7, o8, o9, o10, o11, o12, o13] [xw y0] (T, z, xv V, J, R) = if y0 = 0 then XR sc d 73 62 [o0, o1, o2, o3, o4, o5, o6, o7, o8, o9, o10, o11, o12, o13] [] (T, z, xv V, J, R) else XR sc d 73 51 [o0, o1, o2, o3, o4, o5, o6, o7, o8, o9, o10, o11, o12, o13] [] (T, z, xv V, J, R) :=
  sw_if_eq (t := 62) f_73_48 ⟨by decide, rfl⟩ g1
theorem bX6_ride_51 {o0 o1 o2 o3 o4 o5 o6 o7 o8 o9 o10 o11 o12 o13 : Option Value} (g1 : 6 ≤ d) : XR sc d 73 51 [o0, o1, o2, o3, o4, o5, o6, o7, o8, o9, o10, o11, o12, o13] [] (T, z, xv V, J, R) = some (.inr 9, (va_up T z.1 (10, 0), (z.1 + 1, z.2 + 6), xv (va_up V z.1 (fun _ => 0)), va_up J z.1 (fun _ => 0), va_up R z.1 (fun _ => none))) :=
  sw_throw f_73_51 q_73_57 (by decide) (xthr_W (idx := 0) g1 (Nat.le_of_ble_eq_true rfl) w_73 f_73_54 f_73_55 u_73_266 f_73_58 f_73_61 v_73_61)
theorem bX6_ride_62 {o1 o2 o3 o4 o5 o6 o7 o8 o9 o10 o11 o12 o13 : Option Value} {a0 : Nat} (g1 : T a0 = (7, 0)) (g2 : -2147483648 ≤ (V a0 8) ∧ (V a0 8) ≤ 2147483647) : XR sc d 73 62 [some (.ref a0), o1, o2, o3, o4, o5, o6, o7, o8, o9, o10, o11, o12, o13] [] (T, z, xv V, J, R) = if (V a0 8) < 60 then XR sc d 73 82 [some (.ref a0), o1, o2, o3, o4, o5, o6, o7, o8, o9, o10, o11, o12, o13] [] (T, z, xv V, J, R) else XR sc d 73 71 [some (.ref a0), o1, o2, o3, o4, o5, o6, o7, o8, o9, o10, o11, o12, o13] [] (T, z, xv V, J, R) :=
  (st_aload_n f_73_62 rfl).trans ((sw_getI f_73_63 e_73_268 (by decide) g1).trans ((sw_bipush f_73_66 c8_60).trans (sw_icmp_lt (t := 82) f_73_68 ⟨by decide, rfl⟩ g2 ⟨by decide, by decide⟩)))
theorem bX6_ride_71 {o0 o1 o2 o3 o4 o5 o6 o7 o8 o9 o10 o11 o12 o13 : Option Value} (g1 : 6 ≤ d) : XR sc d 73 71 [o0, o1, o2, o3, o4, o5, o6, o7, o8, o9, o10, o11, o12, o13] [] (T, z, xv V, J, R) = some (.inr 9, (va_up T z.1 (10, 0), (z.1 + 1, z.2 + 6), xv (va_up V z.1 (fun _ => 0)), va_up J z.1 (fun _ => 0), va_up R z.1 (fun _ => none))) :=
  sw_throw f_73_71 q_73_57 (by decide) (xthr_W (idx := 0) g1 (Nat.le_of_ble_eq_true rfl) w_73 f_73_74 f_73_75 u_73_271 f_73_78 f_73_81 v_73_61)
theorem bX6_ride_82 {o1 o2 o3 o4 o5 o6 o9 o10 o11 o12 o13 : Option Value} {a0 a7 a8 : Nat} (g1 : T a0 = (7, 0)) (g2 : R a0 7 = some ((R a0 7).getD 0)) (g3 : T ((R a0 7).getD 0) = (6, 0)) : XR sc d 73 82 [some (.ref a0), o1, o2, o3, o4, o5, o6, some (.ref a7), some (.ref a8), o9, o10, o11, o12, o13] [] (T, z, xv V, J, R) = xret 73 (XR sc d 73) 100 103 [some (.ref a0), o1, o2, o3, o4, o5, o6, some (.ref a7), some (.ref a8), o9, o10, o11, o12, o13] [] (X sc d 41 [.ref ((R a0 7).getD 0), .ref a7, .ref a8] (T, z, xv (xup2 V a0 8 ((V a0 8) + 1)), J, R)) :=
  (st_aload_n f_73_82 rfl).trans ((st_dup f_73_83 rfl).trans ((sw_getI f_73_84 e_73_268 (by decide) g1).trans ((sw_iconst f_73_87).trans ((sw_iadd f_73_88).trans ((sw_putI f_73_89 e_73_268 (Or.inl rfl) (Or.inl rfl) g1).trans ((st_aload_n f_73_92 rfl).trans ((st_getR f_73_93 e_73_45 (by decide) g1 g2).trans ((st_aload f_73_96 rfl).trans ((st_aload f_73_98 rfl).trans (st_callV' f_73_100 h_73_273 mn_41 rfl rfl rfl rfl mo_41 g3 rfl))))))))))
theorem bX6_ride_103 {o1 o2 o3 o6 o7 o8 o9 o10 o11 o12 o13 : Option Value} {x4 x5 : Int} {a0 : Nat} (g1 : T a0 = (7, 0)) (g2 : R a0 7 = some ((R a0 7).getD 0)) (g3 : T ((R a0 7).getD 0) = (6, 0)) : XR sc d 73 103 [some (.ref a0), o1, o2, o3, some (xw x4), some (xw x5), o6, o7, o8, o9, o10, o11, o12, o13] [] (T, z, xv V, J, R) = xret 73 (XR sc d 73) 112 115 [some (.ref a0), o1, o2, o3, some (xw x4), some (xw x5), o6, o7, o8, o9, o10, o11, o12, o13] [] (X sc d 43 [.ref ((R a0 7).getD 0), xw (x4 * x5)] (T, z, xv V, J, R)) :=
  (st_aload_n f_73_103 rfl).trans ((st_getR f_73_104 e_73_45 (by decide) g1 g2).trans ((sw_iload f_73_107 rfl).trans ((sw_iload f_73_109 rfl).trans ((sw_imul f_73_111).trans (st_callV' f_73_112 h_73_251 mn_43 rfl rfl rfl rfl mo_43 g3 rfl)))))
theorem bX6_ride_115 {o0 o1 o2 o3 o4 o5 o6 o7 o8 o9 o10 o11 o12 o13 : Option Value} {y0 : Int} : XR sc d 73 115 [o0, o1, o2, o3, o4, o5, o6, o7, o8, o9, o10, o11, o12, o13] [xw y0] (T, z, xv V, J, R) = XR sc d 73 123 [o0, o1, o2, o3, o4, o5, o6, o7, o8, some (xw y0), some (xw 0), some (xw 0), o12, o13] [] (T, z, xv V, J, R) :=
  (sw_istore (L' := [o0, o1, o2, o3, o4, o5, o6, o7, o8, some (xw y0), o10, o11, o12, o13]) f_73_115 (Nat.le_of_ble_eq_true rfl) rfl).trans ((sw_iconst f_73_117).trans ((sw_istore (L' := [o0, o1, o2, o3, o4, o5, o6, o7, o8, some (xw y0), some (xw 0), o11, o12, o13]) f_73_118 (Nat.le_of_ble_eq_true rfl) rfl).trans ((sw_iconst f_73_120).trans (sw_istore (L' := [o0, o1, o2, o3, o4, o5, o6, o7, o8, some (xw y0), some (xw 0), some (xw 0), o12, o13]) f_73_121 (Nat.le_of_ble_eq_true rfl) rfl))))
theorem bX6_ride_123 {o0 o1 o2 o3 o4 o5 o6 o7 o8 o9 o10 o12 o13 : Option Value} {x11 : Int} (g1 : -2147483648 ≤ x11 ∧ x11 ≤ 2147483647) : XR sc d 73 123 [o0, o1, o2, o3, o4, o5, o6, o7, o8, o9, o10, some (xw x11), o12, o13] [] (T, z, xv V, J, R) = if 7 ≤ x11 then XR sc d 73 198 [o0, o1, o2, o3, o4, o5, o6, o7, o8, o9, o10, some (xw x11), o12, o13] [] (T, z, xv V, J, R) else XR sc d 73 130 [o0, o1, o2, o3, o4, o5, o6, o7, o8, o9, o10, some (xw x11), o12, o13] [] (T, z, xv V, J, R) :=
  (sw_iload f_73_123 rfl).trans ((sw_bipush f_73_125 c8_7).trans (sw_icmp_ge (t := 198) f_73_127 ⟨by decide, rfl⟩ g1 ⟨by decide, by decide⟩))
theorem bX6_ride_130 {o1 o2 o3 o4 o5 o6 o7 o8 o10 o12 o13 : Option Value} {x11 x9 : Int} {a0 : Nat} (g1 : T a0 = (7, 0)) (g2 : R a0 7 = some ((R a0 7).getD 0)) (g3 : T ((R a0 7).getD 0) = (6, 0)) : XR sc d 73 130 [some (.ref a0), o1, o2, o3, o4, o5, o6, o7, o8, some (xw x9), o10, some (xw x11), o12, o13] [] (T, z, xv V, J, R) = xret 73 (XR sc d 73) 138 141 [some (.ref a0), o1, o2, o3, o4, o5, o6, o7, o8, some (xw x9), o10, some (xw x11), o12, o13] [] (X sc d 42 [.ref ((R a0 7).getD 0), xw x11, xw x9] (T, z, xv V, J, R)) :=
  (st_aload_n f_73_130 rfl).trans ((st_getR f_73_131 e_73_45 (by decide) g1 g2).trans ((sw_iload f_73_134 rfl).trans ((sw_iload f_73_136 rfl).trans (st_callV' f_73_138 h_73_257 mn_42 rfl rfl rfl rfl mo_42 g3 rfl))))
theorem bX6_ride_141 {o0 o1 o2 o3 o4 o5 o6 o7 o8 o9 o10 o11 o12 o13 : Option Value} {y0 : Int} : XR sc d 73 141 [o0, o1, o2, o3, o4, o5, o6, o7, o8, o9, o10, o11, o12, o13] [xw y0] (T, z, xv V, J, R) = xret 73 (XR sc d 73) 149 152 [o0, o1, o2, o3, o4, o5, o6, o7, o8, o9, o10, o11, some (xw y0), o13] [] (X sc d 158 [xw 0, xw (y0 - 40)] (T, z, xv V, J, R)) :=
  (sw_istore (L' := [o0, o1, o2, o3, o4, o5, o6, o7, o8, o9, o10, o11, some (xw y0), o13]) f_73_141 (Nat.le_of_ble_eq_true rfl) rfl).trans ((sw_iconst f_73_143).trans ((sw_iload f_73_144 rfl).trans ((sw_bipush f_73_146 c8_40).trans ((sw_isub f_73_148).trans (st_callS' f_73_149 h_73_177 mn_158 rfl rfl rfl rfl)))))
theorem bX6_ride_152 {o0 o1 o2 o3 o4 o5 o7 o8 o9 o10 o11 o12 o13 : Option Value} {x6 y0 : Int} (g1 : -2147483648 ≤ (y0 * x6) ∧ (y0 * x6) ≤ 2147483647) : XR sc d 73 152 [o0, o1, o2, o3, o4, o5, some (xw x6), o7, o8, o9, o10, o11, o12, o13] [xw y0] (T, z, xv V, J, R) = if (y0 * x6) ≤ 0 then XR sc d 73 178 [o0, o1, o2, o3, o4, o5, some (xw x6), o7, o8, o9, o10, o11, o12, some (xw (y0 * x6))] [] (T, z, xv V, J, R) else XR sc d 73 162 [o0, o1, o2, o3, o4, o5, some (xw x6), o7, o8, o9, o10, o11, o12, some (xw (y0 * x6))] [] (T, z, xv V, J, R) :=
  (sw_iload f_73_152 rfl).trans ((sw_imul f_73_154).trans ((sw_istore (L' := [o0, o1, o2, o3, o4, o5, some (xw x6), o7, o8, o9, o10, o11, o12, some (xw (y0 * x6))]) f_73_155 (Nat.le_of_ble_eq_true rfl) rfl).trans ((sw_iload f_73_157 rfl).trans (sw_if_le (t := 178) f_73_159 ⟨by decide, rfl⟩ g1))))
theorem bX6_ride_162 {o0 o1 o4 o6 o8 o9 o10 o12 : Option Value} {x11 x13 x2 x3 x5 : Int} {a7 : Nat} (g1 : T a7 = (3, 0)) : XR sc d 73 162 [o0, o1, some (xw x2), some (xw x3), o4, some (xw x5), o6, some (.ref a7), o8, o9, o10, some (xw x11), o12, some (xw x13)] [] (T, z, xv V, J, R) = xret 73 (XR sc d 73) 172 175 [o0, o1, some (xw x2), some (xw x3), o4, some (xw x5), o6, some (.ref a7), o8, o9, o10, some (xw x11), o12, some (xw x13)] [] (X sc d 189 [.ref a7, xw x11, xw x13, xw x2, xw x3, xw x5] (T, z, xv V, J, R)) :=
  (st_aload f_73_162 rfl).trans ((sw_iload f_73_164 rfl).trans ((sw_iload f_73_166 rfl).trans ((sw_iload_n f_73_168 rfl).trans ((sw_iload_n f_73_169 rfl).trans ((sw_iload f_73_170 rfl).trans (st_callV' f_73_172 h_73_277 mn_189 rfl rfl rfl rfl mo_189 g1 rfl))))))
theorem bX6_ride_175 {o0 o1 o2 o3 o4 o5 o6 o7 o8 o9 o11 o12 o13 : Option Value} {x10 : Int} : XR sc d 73 175 [o0, o1, o2, o3, o4, o5, o6, o7, o8, o9, some (xw x10), o11, o12, o13] [] (T, z, xv V, J, R) = XR sc d 73 178 [o0, o1, o2, o3, o4, o5, o6, o7, o8, o9, some (xw (x10 + 1)), o11, o12, o13] [] (T, z, xv V, J, R) :=
  sw_iinc (L' := [o0, o1, o2, o3, o4, o5, o6, o7, o8, o9, some (xw (x10 + 1)), o11, o12, o13]) f_73_175 rfl (Nat.le_of_ble_eq_true rfl) rfl
theorem bX6_ride_178 {o0 o1 o2 o3 o4 o5 o6 o7 o8 o9 o10 o11 o13 : Option Value} {x12 : Int} (g1 : -2147483648 ≤ x12 ∧ x12 ≤ 2147483647) : XR sc d 73 178 [o0, o1, o2, o3, o4, o5, o6, o7, o8, o9, o10, o11, some (xw x12), o13] [] (T, z, xv V, J, R) = if x12 ≤ 20 then XR sc d 73 192 [o0, o1, o2, o3, o4, o5, o6, o7, o8, o9, o10, o11, some (xw x12), o13] [] (T, z, xv V, J, R) else XR sc d 73 185 [o0, o1, o2, o3, o4, o5, o6, o7, o8, o9, o10, o11, some (xw x12), o13] [] (T, z, xv V, J, R) :=
  (sw_iload f_73_178 rfl).trans ((sw_bipush f_73_180 c8_20).trans (sw_icmp_le (t := 192) f_73_182 ⟨by decide, rfl⟩ g1 ⟨by decide, by decide⟩))
theorem bX6_ride_185 {o0 o1 o2 o3 o4 o5 o6 o7 o9 o10 o12 o13 : Option Value} {x11 : Int} {a8 : Nat} (g1 : T a8 = (4, 0)) : XR sc d 73 185 [o0, o1, o2, o3, o4, o5, o6, o7, some (.ref a8), o9, o10, some (xw x11), o12, o13] [] (T, z, xv V, J, R) = xret 73 (XR sc d 73) 189 192 [o0, o1, o2, o3, o4, o5, o6, o7, some (.ref a8), o9, o10, some (xw x11), o12, o13] [] (X sc d 190 [.ref a8, xw x11] (T, z, xv V, J, R)) :=
  (st_aload f_73_185 rfl).trans ((sw_iload f_73_187 rfl).trans (st_callV' f_73_189 h_73_281 mn_190 rfl rfl rfl rfl mo_190 g1 rfl))
theorem bX6_ride_192 {o0 o1 o2 o3 o4 o5 o6 o7 o8 o9 o10 o12 o13 : Option Value} {x11 : Int} : XR sc d 73 192 [o0, o1, o2, o3, o4, o5, o6, o7, o8, o9, o10, some (xw x11), o12, o13] [] (T, z, xv V, J, R) = XR sc d 73 123 [o0, o1, o2, o3, o4, o5, o6, o7, o8, o9, o10, some (xw (x11 + 1)), o12, o13] [] (T, z, xv V, J, R) :=
  (sw_iinc (L' := [o0, o1, o2, o3, o4, o5, o6, o7, o8, o9, o10, some (xw (x11 + 1)), o12, o13]) f_73_192 rfl (Nat.le_of_ble_eq_true rfl) rfl).trans (st_goto (t := 123) f_73_195 ⟨by decide, rfl⟩)
theorem bX6_ride_198 {o0 o1 o2 o3 o4 o5 o6 o7 o8 o9 o11 o12 o13 : Option Value} {x10 : Int} : XR sc d 73 198 [o0, o1, o2, o3, o4, o5, o6, o7, o8, o9, some (xw x10), o11, o12, o13] [] (T, z, xv V, J, R) = some (.inl (some (xw x10)), (T, z, xv V, J, R)) :=
  (sw_iload f_73_198 rfl).trans (sw_ireturn f_73_200 mr_73)
theorem eX6_rest {x1 : Int} {a0 : Nat} : X sc (d + 1) 74 [.ref a0, xw x1] (T, z, xv V, J, R) = XR sc d 74 0 [some (.ref a0), some (xw x1), none, none, none, none, none] [] (T, z, xv V, J, R) :=
  (X_eq ⟨jl_74, by rw [mn_74]; rfl, rfl, by rw [lm_74]; exact Nat.le_of_ble_eq_true rfl⟩).trans (by unfold xent; rw [lm_74]; rfl)
theorem bX6_rest_0 {o0 o2 o3 o4 o5 o6 : Option Value} {x1 : Int} : XR sc d 74 0 [o0, some (xw x1), o2, o3, o4, o5, o6] [] (T, z, xv V, J, R) = xret 74 (XR sc d 74) 4 7 [o0, some (xw x1), o2, o3, o4, o5, o6] [] (X sc d 88 [xw x1, xw 1, xw 100] (T, z, xv V, J, R)) :=
  (sw_iload_n f_74_0 rfl).trans ((sw_iconst f_74_1).trans ((sw_bipush f_74_2 c8_100).trans (st_callS' f_74_4 h_74_49 mn_88 rfl rfl rfl rfl)))
theorem bX6_rest_7r {o1 o2 o3 o4 o5 o6 : Option Value} {a0 : Nat} (g1 : T a0 = (7, 0)) (g2 : R a0 5 = some ((R a0 5).getD 0)) (g3 : T ((R a0 5).getD 0) = ((T ((R a0 5).getD 0)).1, (T ((R a0 5).getD 0)).2)) (g4 : (32 ≤ (T ((R a0 5).getD 0)).1 ∧ (T ((R a0 5).getD 0)).1 < 35) ∨ (40 ≤ (T ((R a0 5).getD 0)).1 ∧ (T ((R a0 5).getD 0)).1 < 44)) : XR sc d 74 7 [some (.ref a0), o1, o2, o3, o4, o5, o6] [] (T, z, xv V, J, R) = XR sc d 74 21 [some (.ref a0), o1, some (xw 0), some (.ref ((R a0 5).getD 0)), some (xw ((T ((R a0 5).getD 0)).2 : Int)), some (xw 0), o6] [] (T, z, xv V, J, R) :=
  (sw_iconst f_74_7).trans ((sw_istore_n (L' := [some (.ref a0), o1, some (xw 0), o3, o4, o5, o6]) f_74_8 (Nat.le_of_ble_eq_true rfl) rfl).trans ((st_aload_n f_74_9 rfl).trans ((st_getR f_74_10 e_74_30 (by decide) g1 g2).trans ((st_astore_n (L' := [some (.ref a0), o1, some (xw 0), some (.ref ((R a0 5).getD 0)), o4, o5, o6]) f_74_13 (Nat.le_of_ble_eq_true rfl) rfl).trans ((st_aload_n f_74_14 rfl).trans ((sw_alenI f_74_15 g3 g4).trans ((sw_istore (L' := [some (.ref a0), o1, some (xw 0), some (.ref ((R a0 5).getD 0)), some (xw ((T ((R a0 5).getD 0)).2 : Int)), o5, o6]) f_74_16 (Nat.le_of_ble_eq_true rfl) rfl).trans ((sw_iconst f_74_18).trans (sw_istore (L' := [some (.ref a0), o1, some (xw 0), some (.ref ((R a0 5).getD 0)), some (xw ((T ((R a0 5).getD 0)).2 : Int)), some (xw 0), o6]) f_74_19 (Nat.le_of_ble_eq_true rfl) rfl)))))))))
theorem bX6_rest_21 {o0 o1 o2 o3 o6 : Option Value} {x5 x4 : Int} (g1 : -2147483648 ≤ x5 ∧ x5 ≤ 2147483647) (g2 : -2147483648 ≤ x4 ∧ x4 ≤ 2147483647) : XR sc d 74 21 [o0, o1, o2, o3, some (xw x4), some (xw x5), o6] [] (T, z, xv V, J, R) = if x4 ≤ x5 then XR sc d 74 70 [o0, o1, o2, o3, some (xw x4), some (xw x5), o6] [] (T, z, xv V, J, R) else XR sc d 74 28 [o0, o1, o2, o3, some (xw x4), some (xw x5), o6] [] (T, z, xv V, J, R) :=
  (sw_iload f_74_21 rfl).trans ((sw_iload f_74_23 rfl).trans (sw_icmp_ge (t := 70) f_74_25 ⟨by decide, rfl⟩ g1 g2))
theorem bX6_rest_28rr {o0 o1 o2 o4 o6 : Option Value} {x5 : Int} {a3 : Nat} (g1 : T a3 = ((T a3).1, (T a3).2)) (g2 : 40 ≤ (T a3).1 ∧ (T a3).1 < 44) (g3 : (0 : Int) ≤ x5 ∧ x5 < ((T a3).2 : Int) ∧ (T a3).2 ≤ 3584) (g4 : R a3 x5.toNat = some ((R a3 x5.toNat).getD 0)) : XR sc d 74 28 [o0, o1, o2, some (.ref a3), o4, some (xw x5), o6] [] (T, z, xv V, J, R) = XR sc d 74 39 [o0, o1, o2, some (.ref a3), o4, some (xw x5), some (.ref ((R a3 x5.toNat).getD 0))] [] (T, z, xv V, J, R) :=
  (st_aload_n f_74_28 rfl).trans ((sw_iload f_74_29 rfl).trans ((sw_aaload f_74_31 g1 g2 g3 g4).trans ((st_astore (L' := [o0, o1, o2, some (.ref a3), o4, some (xw x5), some (.ref ((R a3 x5.toNat).getD 0))]) f_74_32 (Nat.le_of_ble_eq_true rfl) rfl).trans ((st_aload f_74_34 rfl).trans (st_ifnull f_74_36)))))
theorem bX6_rest_28rn {o0 o1 o2 o4 o6 : Option Value} {x5 : Int} {a3 : Nat} (g1 : T a3 = ((T a3).1, (T a3).2)) (g2 : 40 ≤ (T a3).1 ∧ (T a3).1 < 44) (g3 : (0 : Int) ≤ x5 ∧ x5 < ((T a3).2 : Int) ∧ (T a3).2 ≤ 3584) (g4 : R a3 x5.toNat = none) : XR sc d 74 28 [o0, o1, o2, some (.ref a3), o4, some (xw x5), o6] [] (T, z, xv V, J, R) = XR sc d 74 64 [o0, o1, o2, some (.ref a3), o4, some (xw x5), some (.null)] [] (T, z, xv V, J, R) :=
  (st_aload_n f_74_28 rfl).trans ((sw_iload f_74_29 rfl).trans ((sw_aaload f_74_31 g1 g2 g3 g4).trans ((st_astoreN (L' := [o0, o1, o2, some (.ref a3), o4, some (xw x5), some (.null)]) f_74_32 (Nat.le_of_ble_eq_true rfl) rfl).trans ((st_aloadN f_74_34 rfl).trans (st_ifnullN (t := 64) f_74_36 ⟨by decide, rfl⟩)))))
theorem bX6_rest_39r {o0 o2 o3 o4 o5 : Option Value} {x1 : Int} {a6 : Nat} (g1 : T a6 = (3, 0)) : XR sc d 74 39 [o0, some (xw x1), o2, o3, o4, o5, some (.ref a6)] [] (T, z, xv V, J, R) = xret 74 (XR sc d 74) 45 48 [o0, some (xw x1), o2, o3, o4, o5, some (.ref a6)] [] (X sc d 12 [.ref a6, xw (x1 * 10)] (T, z, xv V, J, R)) :=
  (st_aload f_74_39 rfl).trans ((sw_iload_n f_74_41 rfl).trans ((sw_bipush f_74_42 c8_10).trans ((sw_imul f_74_44).trans (st_callV' f_74_45 h_74_284 mn_12 rfl rfl rfl rfl mo_12 g1 rfl))))
theorem bX6_rest_48r {o0 o1 o3 o4 o5 : Option Value} {x2 : Int} {a6 : Nat} (g1 : T a6 = (3, 0)) : XR sc d 74 48 [o0, o1, some (xw x2), o3, o4, o5, some (.ref a6)] [] (T, z, xv V, J, R) = xret 74 (XR sc d 74) 51 54 [o0, o1, some (xw x2), o3, o4, o5, some (.ref a6)] [xw x2] (X sc d 11 [.ref a6] (T, z, xv V, J, R)) :=
  (sw_iload_n f_74_48 rfl).trans ((st_aload f_74_49 rfl).trans (st_callV' f_74_51 h_74_263 mn_11 rfl rfl rfl rfl mo_11 g1 rfl))
theorem bX6_rest_54 {o0 o1 o2 o3 o4 o5 o6 : Option Value} {s1 : Value} {y0 : Int} (g1 : -2147483648 ≤ y0 ∧ y0 ≤ 2147483647) : XR sc d 74 54 [o0, o1, o2, o3, o4, o5, o6] [xw y0, s1] (T, z, xv V, J, R) = if y0 = 0 then XR sc d 74 61 [o0, o1, o2, o3, o4, o5, o6] [s1] (T, z, xv V, J, R) else XR sc d 74 57 [o0, o1, o2, o3, o4, o5, o6] [s1] (T, z, xv V, J, R) :=
  sw_if_eq (t := 61) f_74_54 ⟨by decide, rfl⟩ g1
theorem bX6_rest_57 {o0 o1 o2 o3 o4 o5 o6 : Option Value} {s0 : Value} : XR sc d 74 57 [o0, o1, o2, o3, o4, o5, o6] [s0] (T, z, xv V, J, R) = XR sc d 74 62 [o0, o1, o2, o3, o4, o5, o6] [xw 1, s0] (T, z, xv V, J, R) :=
  (sw_iconst f_74_57).trans (st_goto (t := 62) f_74_58 ⟨by decide, rfl⟩)
theorem bX6_rest_61 {o0 o1 o2 o3 o4 o5 o6 : Option Value} {s0 : Value} : XR sc d 74 61 [o0, o1, o2, o3, o4, o5, o6] [s0] (T, z, xv V, J, R) = XR sc d 74 62 [o0, o1, o2, o3, o4, o5, o6] [xw 0, s0] (T, z, xv V, J, R) :=
  sw_iconst f_74_61
theorem bX6_rest_62 {o0 o1 o2 o3 o4 o5 o6 : Option Value} {y0 y1 : Int} : XR sc d 74 62 [o0, o1, o2, o3, o4, o5, o6] [xw y0, xw y1] (T, z, xv V, J, R) = XR sc d 74 64 [o0, o1, some (xw (y1 + y0)), o3, o4, o5, o6] [] (T, z, xv V, J, R) :=
  (sw_iadd f_74_62).trans (sw_istore_n (L' := [o0, o1, some (xw (y1 + y0)), o3, o4, o5, o6]) f_74_63 (Nat.le_of_ble_eq_true rfl) rfl)
theorem bX6_rest_64 {o0 o1 o2 o3 o4 o6 : Option Value} {x5 : Int} : XR sc d 74 64 [o0, o1, o2, o3, o4, some (xw x5), o6] [] (T, z, xv V, J, R) = XR sc d 74 21 [o0, o1, o2, o3, o4, some (xw (x5 + 1)), o6] [] (T, z, xv V, J, R) :=
  (sw_iinc (L' := [o0, o1, o2, o3, o4, some (xw (x5 + 1)), o6]) f_74_64 rfl (Nat.le_of_ble_eq_true rfl) rfl).trans (st_goto (t := 21) f_74_67 ⟨by decide, rfl⟩)
theorem bX6_rest_70 {o0 o1 o3 o4 o5 o6 : Option Value} {x2 : Int} : XR sc d 74 70 [o0, o1, some (xw x2), o3, o4, o5, o6] [] (T, z, xv V, J, R) = some (.inl (some (xw x2)), (T, z, xv V, J, R)) :=
  (sw_iload_n f_74_70 rfl).trans (sw_ireturn f_74_71 mr_74)
theorem eX6_sore {x1 x2 x3 : Int} {a0 : Nat} : X sc (d + 1) 75 [.ref a0, xw x1, xw x2, xw x3] (T, z, xv V, J, R) = XR sc d 75 0 [some (.ref a0), some (xw x1), some (xw x2), some (xw x3), none] [] (T, z, xv V, J, R) :=
  (X_eq ⟨jl_75, by rw [mn_75]; rfl, rfl, by rw [lm_75]; exact Nat.le_of_ble_eq_true rfl⟩).trans (by unfold xent; rw [lm_75]; rfl)
theorem bX6_sore_0 {o2 o3 o4 : Option Value} {x1 : Int} {a0 : Nat} (g1 : T a0 = (7, 0)) : XR sc d 75 0 [some (.ref a0), some (xw x1), o2, o3, o4] [] (T, z, xv V, J, R) = xret 75 (XR sc d 75) 2 5 [some (.ref a0), some (xw x1), o2, o3, o4] [] (X sc d 85 [.ref a0, xw x1] (T, z, xv V, J, R)) :=
  (st_aload_n f_75_0 rfl).trans ((sw_iload_n f_75_1 rfl).trans (st_callV' f_75_2 h_75_232 mn_85 rfl rfl rfl rfl mo_85 g1 rfl))
theorem bX6_sore_5 {o0 o1 o3 o4 : Option Value} {x2 : Int} {b0 : Nat} : XR sc d 75 5 [o0, o1, some (xw x2), o3, o4] [.ref b0] (T, z, xv V, J, R) = xret 75 (XR sc d 75) 10 13 [o0, o1, some (xw x2), o3, some (.ref b0)] [] (X sc d 87 [xw x2, xw 7] (T, z, xv V, J, R)) :=
  (st_astore (L' := [o0, o1, some (xw x2), o3, some (.ref b0)]) f_75_5 (Nat.le_of_ble_eq_true rfl) rfl).trans ((sw_iload_n f_75_7 rfl).trans ((sw_bipush f_75_8 c8_7).trans (st_callS' f_75_10 h_75_71 mn_87 rfl rfl rfl rfl)))
theorem bX6_sore_13 {o0 o1 o2 o4 : Option Value} {x3 : Int} : XR sc d 75 13 [o0, o1, o2, some (xw x3), o4] [] (T, z, xv V, J, R) = xret 75 (XR sc d 75) 16 19 [o0, o1, o2, some (xw x3), o4] [] (X sc d 88 [xw x3, xw 0, xw 2] (T, z, xv V, J, R)) :=
  (sw_iload_n f_75_13 rfl).trans ((sw_iconst f_75_14).trans ((sw_iconst f_75_15).trans (st_callS' f_75_16 h_75_49 mn_88 rfl rfl rfl rfl)))
theorem bX6_sore_19 {o0 o1 o2 o4 : Option Value} {x3 : Int} (g1 : -2147483648 ≤ x3 ∧ x3 ≤ 2147483647) : XR sc d 75 19 [o0, o1, o2, some (xw x3), o4] [] (T, z, xv V, J, R) = if x3 = 0 then XR sc d 75 23 [o0, o1, o2, some (xw x3), o4] [] (T, z, xv V, J, R) else XR sc d 75 31 [o0, o1, o2, some (xw x3), o4] [] (T, z, xv V, J, R) :=
  (sw_iload_n f_75_19 rfl).trans (sw_if_ne (t := 31) f_75_20 ⟨by decide, rfl⟩ g1)
theorem bX6_sore_23 {o0 o1 o3 : Option Value} {x2 : Int} {a4 : Nat} (g1 : T a4 = (3, 0)) (g2 : R a4 1 = some ((R a4 1).getD 0)) (g3 : T ((R a4 1).getD 0) = (32, (T ((R a4 1).getD 0)).2)) (g4 : (0 : Int) ≤ x2 ∧ x2 < ((T ((R a4 1).getD 0)).2 : Int) ∧ (T ((R a4 1).getD 0)).2 ≤ 3584) : XR sc d 75 23 [o0, o1, some (xw x2), o3, some (.ref a4)] [] (T, z, xv V, J, R) = some (.inl (some (xw (V ((R a4 1).getD 0) x2.toNat))), (T, z, xv V, J, R)) :=
  (st_aload f_75_23 rfl).trans ((st_getR f_75_25 e_75_287 (by decide) g1 g2).trans ((sw_iload_n f_75_28 rfl).trans ((sw_iaload f_75_29 g3 g4).trans (sw_ireturn f_75_30 mr_75))))
theorem bX6_sore_31 {o0 o1 o2 o4 : Option Value} {x3 : Int} (g1 : -2147483648 ≤ x3 ∧ x3 ≤ 2147483647) : XR sc d 75 31 [o0, o1, o2, some (xw x3), o4] [] (T, z, xv V, J, R) = if x3 = 1 then XR sc d 75 36 [o0, o1, o2, some (xw x3), o4] [] (T, z, xv V, J, R) else XR sc d 75 44 [o0, o1, o2, some (xw x3), o4] [] (T, z, xv V, J, R) :=
  (sw_iload_n f_75_31 rfl).trans ((sw_iconst f_75_32).trans (sw_icmp_ne (t := 44) f_75_33 ⟨by decide, rfl⟩ g1 ⟨by decide, by decide⟩))
theorem bX6_sore_36 {o0 o1 o3 : Option Value} {x2 : Int} {a4 : Nat} (g1 : T a4 = (3, 0)) (g2 : R a4 0 = some ((R a4 0).getD 0)) (g3 : T ((R a4 0).getD 0) = (32, (T ((R a4 0).getD 0)).2)) (g4 : (0 : Int) ≤ x2 ∧ x2 < ((T ((R a4 0).getD 0)).2 : Int) ∧ (T ((R a4 0).getD 0)).2 ≤ 3584) : XR sc d 75 36 [o0, o1, some (xw x2), o3, some (.ref a4)] [] (T, z, xv V, J, R) = some (.inl (some (xw (V ((R a4 0).getD 0) x2.toNat))), (T, z, xv V, J, R)) :=
  (st_aload f_75_36 rfl).trans ((st_getR f_75_38 e_75_236 (by decide) g1 g2).trans ((sw_iload_n f_75_41 rfl).trans ((sw_iaload f_75_42 g3 g4).trans (sw_ireturn f_75_43 mr_75))))
theorem bX6_sore_44 {o0 o1 o2 o3 : Option Value} {a4 : Nat} (g1 : T a4 = (3, 0)) : XR sc d 75 44 [o0, o1, o2, o3, some (.ref a4)] [] (T, z, xv V, J, R) = xret 75 (XR sc d 75) 46 49 [o0, o1, o2, o3, some (.ref a4)] [] (X sc d 11 [.ref a4] (T, z, xv V, J, R)) :=
  (st_aload f_75_44 rfl).trans (st_callV' f_75_46 h_75_263 mn_11 rfl rfl rfl rfl mo_11 g1 rfl)
theorem bX6_sore_49 {o0 o1 o2 o3 o4 : Option Value} {y0 : Int} (g1 : -2147483648 ≤ y0 ∧ y0 ≤ 2147483647) : XR sc d 75 49 [o0, o1, o2, o3, o4] [xw y0] (T, z, xv V, J, R) = if y0 = 0 then XR sc d 75 56 [o0, o1, o2, o3, o4] [] (T, z, xv V, J, R) else XR sc d 75 52 [o0, o1, o2, o3, o4] [] (T, z, xv V, J, R) :=
  sw_if_eq (t := 56) f_75_49 ⟨by decide, rfl⟩ g1
theorem bX6_sore_52 {o0 o1 o2 o3 o4 : Option Value} : XR sc d 75 52 [o0, o1, o2, o3, o4] [] (T, z, xv V, J, R) = XR sc d 75 57 [o0, o1, o2, o3, o4] [xw 1] (T, z, xv V, J, R) :=
  (sw_iconst f_75_52).trans (st_goto (t := 57) f_75_53 ⟨by decide, rfl⟩)
theorem bX6_sore_56 {o0 o1 o2 o3 o4 : Option Value} : XR sc d 75 56 [o0, o1, o2, o3, o4] [] (T, z, xv V, J, R) = XR sc d 75 57 [o0, o1, o2, o3, o4] [xw 0] (T, z, xv V, J, R) :=
  sw_iconst f_75_56
theorem bX6_sore_57 {o0 o1 o2 o3 o4 : Option Value} {y0 : Int} : XR sc d 75 57 [o0, o1, o2, o3, o4] [xw y0] (T, z, xv V, J, R) = some (.inl (some (xw y0)), (T, z, xv V, J, R)) :=
  sw_ireturn f_75_57 mr_75
theorem eX6_share {x1 x2 x3 x4 : Int} {a0 : Nat} : X sc (d + 1) 76 [.ref a0, xw x1, xw x2, xw x3, xw x4] (T, z, xv V, J, R) = XR sc d 76 0 [some (.ref a0), some (xw x1), some (xw x2), some (xw x3), some (xw x4), none] [] (T, z, xv V, J, R) :=
  (X_eq ⟨jl_76, by rw [mn_76]; rfl, rfl, by rw [lm_76]; exact Nat.le_of_ble_eq_true rfl⟩).trans (by unfold xent; rw [lm_76]; rfl)
theorem bX6_share_0 {o2 o3 o4 o5 : Option Value} {x1 : Int} {a0 : Nat} (g1 : T a0 = (7, 0)) : XR sc d 76 0 [some (.ref a0), some (xw x1), o2, o3, o4, o5] [] (T, z, xv V, J, R) = xret 76 (XR sc d 76) 2 5 [some (.ref a0), some (xw x1), o2, o3, o4, o5] [] (X sc d 85 [.ref a0, xw x1] (T, z, xv V, J, R)) :=
  (st_aload_n f_76_0 rfl).trans ((sw_iload_n f_76_1 rfl).trans (st_callV' f_76_2 h_76_232 mn_85 rfl rfl rfl rfl mo_85 g1 rfl))
theorem bX6_share_5 {o0 o1 o3 o4 o5 : Option Value} {x2 : Int} {b0 : Nat} : XR sc d 76 5 [o0, o1, some (xw x2), o3, o4, o5] [.ref b0] (T, z, xv V, J, R) = xret 76 (XR sc d 76) 10 13 [o0, o1, some (xw x2), o3, o4, some (.ref b0)] [] (X sc d 87 [xw x2, xw 7] (T, z, xv V, J, R)) :=
  (st_astore (L' := [o0, o1, some (xw x2), o3, o4, some (.ref b0)]) f_76_5 (Nat.le_of_ble_eq_true rfl) rfl).trans ((sw_iload_n f_76_7 rfl).trans ((sw_bipush f_76_8 c8_7).trans (st_callS' f_76_10 h_76_71 mn_87 rfl rfl rfl rfl)))
theorem bX6_share_13 {o0 o1 o2 o4 o5 : Option Value} {x3 : Int} : XR sc d 76 13 [o0, o1, o2, some (xw x3), o4, o5] [] (T, z, xv V, J, R) = xret 76 (XR sc d 76) 16 19 [o0, o1, o2, some (xw x3), o4, o5] [] (X sc d 88 [xw x3, xw 0, xw 2] (T, z, xv V, J, R)) :=
  (sw_iload_n f_76_13 rfl).trans ((sw_iconst f_76_14).trans ((sw_iconst f_76_15).trans (st_callS' f_76_16 h_76_49 mn_88 rfl rfl rfl rfl)))
theorem bX6_share_19 {o0 o1 : Option Value} {x2 x3 x4 : Int} {a5 : Nat} (g1 : T a5 = (3, 0)) : XR sc d 76 19 [o0, o1, some (xw x2), some (xw x3), some (xw x4), some (.ref a5)] [] (T, z, xv V, J, R) = xret 76 (XR sc d 76) 25 28 [o0, o1, some (xw x2), some (xw x3), some (xw x4), some (.ref a5)] [] (X sc d 14 [.ref a5, xw x2, xw x3, xw x4] (T, z, xv V, J, R)) :=
  (st_aload f_76_19 rfl).trans ((sw_iload_n f_76_21 rfl).trans ((sw_iload_n f_76_22 rfl).trans ((sw_iload f_76_23 rfl).trans (st_callV' f_76_25 h_76_290 mn_14 rfl rfl rfl rfl mo_14 g1 rfl))))
theorem bX6_share_28 {o0 o1 o2 o3 o4 o5 : Option Value} {y0 : Int} : XR sc d 76 28 [o0, o1, o2, o3, o4, o5] [xw y0] (T, z, xv V, J, R) = some (.inl (some (xw y0)), (T, z, xv V, J, R)) :=
  sw_ireturn f_76_28 mr_76
theorem eX6_cause {x1 x2 x3 : Int} {a0 : Nat} : X sc (d + 1) 77 [.ref a0, xw x1, xw x2, xw x3] (T, z, xv V, J, R) = XR sc d 77 0 [some (.ref a0), some (xw x1), some (xw x2), some (xw x3), none, none, none, none, none] [] (T, z, xv V, J, R) :=
  (X_eq ⟨jl_77, by rw [mn_77]; rfl, rfl, by rw [lm_77]; exact Nat.le_of_ble_eq_true rfl⟩).trans (by unfold xent; rw [lm_77]; rfl)
theorem bX6_cause_0 {o2 o3 o4 o5 o6 o7 o8 : Option Value} {x1 : Int} {a0 : Nat} (g1 : T a0 = (7, 0)) : XR sc d 77 0 [some (.ref a0), some (xw x1), o2, o3, o4, o5, o6, o7, o8] [] (T, z, xv V, J, R) = xret 77 (XR sc d 77) 2 5 [some (.ref a0), some (xw x1), o2, o3, o4, o5, o6, o7, o8] [] (X sc d 85 [.ref a0, xw x1] (T, z, xv V, J, R)) :=
  (st_aload_n f_77_0 rfl).trans ((sw_iload_n f_77_1 rfl).trans (st_callV' f_77_2 h_77_232 mn_85 rfl rfl rfl rfl mo_85 g1 rfl))
theorem bX6_cause_5 {o0 o1 o3 o4 o5 o6 o7 o8 : Option Value} {x2 : Int} {b0 : Nat} : XR sc d 77 5 [o0, o1, some (xw x2), o3, o4, o5, o6, o7, o8] [.ref b0] (T, z, xv V, J, R) = xret 77 (XR sc d 77) 10 13 [o0, o1, some (xw x2), o3, some (.ref b0), o5, o6, o7, o8] [] (X sc d 87 [xw x2, xw 7] (T, z, xv V, J, R)) :=
  (st_astore (L' := [o0, o1, some (xw x2), o3, some (.ref b0), o5, o6, o7, o8]) f_77_5 (Nat.le_of_ble_eq_true rfl) rfl).trans ((sw_iload_n f_77_7 rfl).trans ((sw_bipush f_77_8 c8_7).trans (st_callS' f_77_10 h_77_71 mn_87 rfl rfl rfl rfl)))
theorem bX6_cause_13 {o0 o1 o2 o4 o5 o6 o7 o8 : Option Value} {x3 : Int} : XR sc d 77 13 [o0, o1, o2, some (xw x3), o4, o5, o6, o7, o8] [] (T, z, xv V, J, R) = xret 77 (XR sc d 77) 16 19 [o0, o1, o2, some (xw x3), o4, o5, o6, o7, o8] [] (X sc d 88 [xw x3, xw 0, xw 2] (T, z, xv V, J, R)) :=
  (sw_iload_n f_77_13 rfl).trans ((sw_iconst f_77_14).trans ((sw_iconst f_77_15).trans (st_callS' f_77_16 h_77_49 mn_88 rfl rfl rfl rfl)))
theorem bX6_cause_19 {o0 o1 o2 o3 o4 o5 o6 o7 o8 : Option Value} : XR sc d 77 19 [o0, o1, o2, o3, o4, o5, o6, o7, o8] [] (T, z, xv V, J, R) = XR sc d 77 28 [o0, o1, o2, o3, o4, some (xw 0), some (xw (-1)), some (xw 0), o8] [] (T, z, xv V, J, R) :=
  (sw_iconst f_77_19).trans ((sw_istore (L' := [o0, o1, o2, o3, o4, some (xw 0), o6, o7, o8]) f_77_20 (Nat.le_of_ble_eq_true rfl) rfl).trans ((sw_iconst f_77_22).trans ((sw_istore (L' := [o0, o1, o2, o3, o4, some (xw 0), some (xw (-1)), o7, o8]) f_77_23 (Nat.le_of_ble_eq_true rfl) rfl).trans ((sw_iconst f_77_25).trans (sw_istore (L' := [o0, o1, o2, o3, o4, some (xw 0), some (xw (-1)), some (xw 0), o8]) f_77_26 (Nat.le_of_ble_eq_true rfl) rfl)))))
theorem bX6_cause_28 {o0 o1 o2 o3 o4 o5 o6 o8 : Option Value} {x7 : Int} (g1 : -2147483648 ≤ x7 ∧ x7 ≤ 2147483647) : XR sc d 77 28 [o0, o1, o2, o3, o4, o5, o6, some (xw x7), o8] [] (T, z, xv V, J, R) = if 6 ≤ x7 then XR sc d 77 67 [o0, o1, o2, o3, o4, o5, o6, some (xw x7), o8] [] (T, z, xv V, J, R) else XR sc d 77 35 [o0, o1, o2, o3, o4, o5, o6, some (xw x7), o8] [] (T, z, xv V, J, R) :=
  (sw_iload f_77_28 rfl).trans ((sw_bipush f_77_30 c8_6).trans (sw_icmp_ge (t := 67) f_77_32 ⟨by decide, rfl⟩ g1 ⟨by decide, by decide⟩))
theorem bX6_cause_35 {o0 o1 o5 o6 o8 : Option Value} {x2 x3 x7 : Int} {a4 : Nat} (g1 : T a4 = (3, 0)) : XR sc d 77 35 [o0, o1, some (xw x2), some (xw x3), some (.ref a4), o5, o6, some (xw x7), o8] [] (T, z, xv V, J, R) = xret 77 (XR sc d 77) 41 44 [o0, o1, some (xw x2), some (xw x3), some (.ref a4), o5, o6, some (xw x7), o8] [] (X sc d 14 [.ref a4, xw x2, xw x3, xw x7] (T, z, xv V, J, R)) :=
  (st_aload f_77_35 rfl).trans ((sw_iload_n f_77_37 rfl).trans ((sw_iload_n f_77_38 rfl).trans ((sw_iload f_77_39 rfl).trans (st_callV' f_77_41 h_77_290 mn_14 rfl rfl rfl rfl mo_14 g1 rfl))))
theorem bX6_cause_44 {o0 o1 o2 o3 o4 o6 o7 o8 : Option Value} {y0 x5 : Int} (g1 : -2147483648 ≤ y0 ∧ y0 ≤ 2147483647) (g2 : -2147483648 ≤ x5 ∧ x5 ≤ 2147483647) : XR sc d 77 44 [o0, o1, o2, o3, o4, some (xw x5), o6, o7, o8] [xw y0] (T, z, xv V, J, R) = if y0 ≤ x5 then XR sc d 77 61 [o0, o1, o2, o3, o4, some (xw x5), o6, o7, some (xw y0)] [] (T, z, xv V, J, R) else XR sc d 77 53 [o0, o1, o2, o3, o4, some (xw x5), o6, o7, some (xw y0)] [] (T, z, xv V, J, R) :=
  (sw_istore (L' := [o0, o1, o2, o3, o4, some (xw x5), o6, o7, some (xw y0)]) f_77_44 (Nat.le_of_ble_eq_true rfl) rfl).trans ((sw_iload f_77_46 rfl).trans ((sw_iload f_77_48 rfl).trans (sw_icmp_le (t := 61) f_77_50 ⟨by decide, rfl⟩ g1 g2)))
theorem bX6_cause_53 {o0 o1 o2 o3 o4 o5 o6 : Option Value} {x8 x7 : Int} : XR sc d 77 53 [o0, o1, o2, o3, o4, o5, o6, some (xw x7), some (xw x8)] [] (T, z, xv V, J, R) = XR sc d 77 61 [o0, o1, o2, o3, o4, some (xw x8), some (xw x7), some (xw x7), some (xw x8)] [] (T, z, xv V, J, R) :=
  (sw_iload f_77_53 rfl).trans ((sw_istore (L' := [o0, o1, o2, o3, o4, some (xw x8), o6, some (xw x7), some (xw x8)]) f_77_55 (Nat.le_of_ble_eq_true rfl) rfl).trans ((sw_iload f_77_57 rfl).trans (sw_istore (L' := [o0, o1, o2, o3, o4, some (xw x8), some (xw x7), some (xw x7), some (xw x8)]) f_77_59 (Nat.le_of_ble_eq_true rfl) rfl)))
theorem bX6_cause_61 {o0 o1 o2 o3 o4 o5 o6 o8 : Option Value} {x7 : Int} : XR sc d 77 61 [o0, o1, o2, o3, o4, o5, o6, some (xw x7), o8] [] (T, z, xv V, J, R) = XR sc d 77 28 [o0, o1, o2, o3, o4, o5, o6, some (xw (x7 + 1)), o8] [] (T, z, xv V, J, R) :=
  (sw_iinc (L' := [o0, o1, o2, o3, o4, o5, o6, some (xw (x7 + 1)), o8]) f_77_61 rfl (Nat.le_of_ble_eq_true rfl) rfl).trans (st_goto (t := 28) f_77_64 ⟨by decide, rfl⟩)
theorem bX6_cause_67 {o0 o1 o2 o3 o4 o5 o7 o8 : Option Value} {x6 : Int} : XR sc d 77 67 [o0, o1, o2, o3, o4, o5, some (xw x6), o7, o8] [] (T, z, xv V, J, R) = some (.inl (some (xw x6)), (T, z, xv V, J, R)) :=
  (sw_iload f_77_67 rfl).trans (sw_ireturn f_77_69 mr_77)
theorem eX6_rides {a0 : Nat} : X sc (d + 1) 78 [.ref a0] (T, z, xv V, J, R) = XR sc d 78 0 [some (.ref a0)] [] (T, z, xv V, J, R) :=
  (X_eq ⟨jl_78, by rw [mn_78]; rfl, rfl, by rw [lm_78]; exact Nat.le_of_ble_eq_true rfl⟩).trans (by unfold xent; rw [lm_78]; rfl)
theorem bX6_rides_0 {a0 : Nat} (g1 : T a0 = (7, 0)) : XR sc d 78 0 [some (.ref a0)] [] (T, z, xv V, J, R) = some (.inl (some (xw (V a0 8))), (T, z, xv V, J, R)) :=
  (st_aload_n f_78_0 rfl).trans ((sw_getI f_78_1 e_78_268 (by decide) g1).trans (sw_ireturn f_78_4 mr_78))
theorem eX6_breakStraps {x1 x2 x3 : Int} {a0 : Nat} : X sc (d + 1) 79 [.ref a0, xw x1, xw x2, xw x3] (T, z, xv V, J, R) = XR sc d 79 0 [some (.ref a0), some (xw x1), some (xw x2), some (xw x3), none, none, none] [] (T, z, xv V, J, R) :=
  (X_eq ⟨jl_79, by rw [mn_79]; rfl, rfl, by rw [lm_79]; exact Nat.le_of_ble_eq_true rfl⟩).trans (by unfold xent; rw [lm_79]; rfl)
theorem bX6_breakStraps_0 {o0 o1 o2 o3 o4 o5 o6 : Option Value} : XR sc d 79 0 [o0, o1, o2, o3, o4, o5, o6] [] (T, z, xv V, J, R) = XR sc d 79 6 [o0, o1, o2, o3, some (xw 0), some (xw 0), o6] [] (T, z, xv V, J, R) :=
  (sw_iconst f_79_0).trans ((sw_istore (L' := [o0, o1, o2, o3, some (xw 0), o5, o6]) f_79_1 (Nat.le_of_ble_eq_true rfl) rfl).trans ((sw_iconst f_79_3).trans (sw_istore (L' := [o0, o1, o2, o3, some (xw 0), some (xw 0), o6]) f_79_4 (Nat.le_of_ble_eq_true rfl) rfl)))
theorem bX6_breakStraps_6 {o0 o1 o2 o3 o4 o6 : Option Value} {x5 : Int} (g1 : -2147483648 ≤ x5 ∧ x5 ≤ 2147483647) : XR sc d 79 6 [o0, o1, o2, o3, o4, some (xw x5), o6] [] (T, z, xv V, J, R) = if 40 ≤ x5 then XR sc d 79 55 [o0, o1, o2, o3, o4, some (xw x5), o6] [] (T, z, xv V, J, R) else XR sc d 79 13 [o0, o1, o2, o3, o4, some (xw x5), o6] [] (T, z, xv V, J, R) :=
  (sw_iload f_79_6 rfl).trans ((sw_bipush f_79_8 c8_40).trans (sw_icmp_ge (t := 55) f_79_10 ⟨by decide, rfl⟩ g1 ⟨by decide, by decide⟩))
theorem bX6_breakStraps_13r {o1 o2 o4 o5 o6 : Option Value} {x3 : Int} {a0 : Nat} (g1 : T a0 = (7, 0)) : XR sc d 79 13 [some (.ref a0), o1, o2, some (xw x3), o4, o5, o6] [] (T, z, xv V, J, R) = xret 79 (XR sc d 79) 15 18 [some (.ref a0), o1, o2, some (xw x3), o4, o5, o6] [] (X sc d 80 [.ref a0, xw x3] (T, z, xv V, J, R)) :=
  (st_aload_n f_79_13 rfl).trans ((sw_iload_n f_79_14 rfl).trans (st_callV' f_79_15 h_79_293 mn_80 rfl rfl rfl rfl mo_80 g1 rfl))
theorem bX6_breakStraps_18r {o0 o1 o2 o3 o4 o5 o6 : Option Value} {b0 : Nat} : XR sc d 79 18 [o0, o1, o2, o3, o4, o5, o6] [.ref b0] (T, z, xv V, J, R) = XR sc d 79 28 [o0, o1, o2, o3, o4, o5, some (.ref b0)] [] (T, z, xv V, J, R) :=
  (st_astore (L' := [o0, o1, o2, o3, o4, o5, some (.ref b0)]) f_79_18 (Nat.le_of_ble_eq_true rfl) rfl).trans ((st_aload f_79_20 rfl).trans (st_ifnonnull (t := 28) f_79_22 ⟨by decide, rfl⟩))
theorem bX6_breakStraps_18n {o0 o1 o2 o3 o4 o5 o6 : Option Value} : XR sc d 79 18 [o0, o1, o2, o3, o4, o5, o6] [.null] (T, z, xv V, J, R) = XR sc d 79 25 [o0, o1, o2, o3, o4, o5, some (.null)] [] (T, z, xv V, J, R) :=
  (st_astoreN (L' := [o0, o1, o2, o3, o4, o5, some (.null)]) f_79_18 (Nat.le_of_ble_eq_true rfl) rfl).trans ((st_aloadN f_79_20 rfl).trans (st_ifnonnullN f_79_22))
theorem bX6_breakStraps_25 {o0 o1 o2 o3 o5 o6 : Option Value} {x4 : Int} : XR sc d 79 25 [o0, o1, o2, o3, some (xw x4), o5, o6] [] (T, z, xv V, J, R) = some (.inl (some (xw x4)), (T, z, xv V, J, R)) :=
  (sw_iload f_79_25 rfl).trans (sw_ireturn f_79_27 mr_79)
theorem bX6_breakStraps_28r {o0 o1 o2 o3 o4 o5 : Option Value} {a6 : Nat} (g1 : T a6 = (2, 0)) : XR sc d 79 28 [o0, o1, o2, o3, o4, o5, some (.ref a6)] [] (T, z, xv V, J, R) = xret 79 (XR sc d 79) 30 33 [o0, o1, o2, o3, o4, o5, some (.ref a6)] [] (X sc d 23 [.ref a6] (T, z, xv V, J, R)) :=
  (st_aload f_79_28 rfl).trans (st_callV' f_79_30 h_79_296 mn_23 rfl rfl rfl rfl mo_23 g1 rfl)
theorem bX6_breakStraps_33r {o3 o5 o6 : Option Value} {x4 x1 x2 : Int} {a0 : Nat} (g1 : T a0 = (7, 0)) (g2 : R a0 4 = some ((R a0 4).getD 0)) (g3 : R a0 2 = some ((R a0 2).getD 0)) (g4 : T ((R a0 4).getD 0) = (5, 0)) : XR sc d 79 33 [some (.ref a0), some (xw x1), some (xw x2), o3, some (xw x4), o5, o6] [] (T, z, xv V, J, R) = xret 79 (XR sc d 79) 46 49 [some (.ref a0), some (xw x1), some (xw x2), o3, some (xw (x4 + 1)), o5, o6] [] (X sc d 25 [.ref ((R a0 4).getD 0), .ref ((R a0 2).getD 0), xw x1, xw x2] (T, z, xv V, J, R)) :=
  (sw_iinc (L' := [some (.ref a0), some (xw x1), some (xw x2), o3, some (xw (x4 + 1)), o5, o6]) f_79_33 rfl (Nat.le_of_ble_eq_true rfl) rfl).trans ((st_aload_n f_79_36 rfl).trans ((st_getR f_79_37 e_79_24 (by decide) g1 g2).trans ((st_aload_n f_79_40 rfl).trans ((st_getR f_79_41 e_79_17 (by decide) g1 g3).trans ((sw_iload_n f_79_44 rfl).trans ((sw_iload_n f_79_45 rfl).trans (st_callV' f_79_46 h_79_191 mn_25 rfl rfl rfl rfl mo_25 g4 rfl)))))))
theorem bX6_breakStraps_49 {o0 o1 o2 o3 o4 o6 : Option Value} {x5 : Int} : XR sc d 79 49 [o0, o1, o2, o3, o4, some (xw x5), o6] [] (T, z, xv V, J, R) = XR sc d 79 6 [o0, o1, o2, o3, o4, some (xw (x5 + 1)), o6] [] (T, z, xv V, J, R) :=
  (sw_iinc (L' := [o0, o1, o2, o3, o4, some (xw (x5 + 1)), o6]) f_79_49 rfl (Nat.le_of_ble_eq_true rfl) rfl).trans (st_goto (t := 6) f_79_52 ⟨by decide, rfl⟩)
theorem bX6_breakStraps_55 {o0 o1 o2 o3 o5 o6 : Option Value} {x4 : Int} : XR sc d 79 55 [o0, o1, o2, o3, some (xw x4), o5, o6] [] (T, z, xv V, J, R) = some (.inl (some (xw x4)), (T, z, xv V, J, R)) :=
  (sw_iload f_79_55 rfl).trans (sw_ireturn f_79_57 mr_79)
theorem eX6_firstOverborne {x1 : Int} {a0 : Nat} : X sc (d + 1) 80 [.ref a0, xw x1] (T, z, xv V, J, R) = XR sc d 80 0 [some (.ref a0), some (xw x1), none, none] [] (T, z, xv V, J, R) :=
  (X_eq ⟨jl_80, by rw [mn_80]; rfl, rfl, by rw [lm_80]; exact Nat.le_of_ble_eq_true rfl⟩).trans (by unfold xent; rw [lm_80]; rfl)
theorem bX6_firstOverborne_0 {o0 o1 o2 o3 : Option Value} : XR sc d 80 0 [o0, o1, o2, o3] [] (T, z, xv V, J, R) = XR sc d 80 2 [o0, o1, some (xw 0), o3] [] (T, z, xv V, J, R) :=
  (sw_iconst f_80_0).trans (sw_istore_n (L' := [o0, o1, some (xw 0), o3]) f_80_1 (Nat.le_of_ble_eq_true rfl) rfl)
theorem bX6_firstOverborne_2r {o1 o3 : Option Value} {x2 : Int} {a0 : Nat} (g1 : T a0 = (7, 0)) (g2 : -2147483648 ≤ x2 ∧ x2 ≤ 2147483647) (g3 : -2147483648 ≤ (V a0 3) ∧ (V a0 3) ≤ 2147483647) : XR sc d 80 2 [some (.ref a0), o1, some (xw x2), o3] [] (T, z, xv V, J, R) = if (V a0 3) ≤ x2 then XR sc d 80 45 [some (.ref a0), o1, some (xw x2), o3] [] (T, z, xv V, J, R) else XR sc d 80 10 [some (.ref a0), o1, some (xw x2), o3] [] (T, z, xv V, J, R) :=
  (sw_iload_n f_80_2 rfl).trans ((st_aload_n f_80_3 rfl).trans ((sw_getI f_80_4 e_80_89 (by decide) g1).trans (sw_icmp_ge (t := 45) f_80_7 ⟨by decide, rfl⟩ g2 g3)))
theorem bX6_firstOverborne_10rr {o1 o3 : Option Value} {x2 : Int} {a0 : Nat} (g1 : T a0 = (7, 0)) (g2 : R a0 2 = some ((R a0 2).getD 0)) (g3 : T ((R a0 2).getD 0) = ((T ((R a0 2).getD 0)).1, (T ((R a0 2).getD 0)).2)) (g4 : 40 ≤ (T ((R a0 2).getD 0)).1 ∧ (T ((R a0 2).getD 0)).1 < 44) (g5 : (0 : Int) ≤ x2 ∧ x2 < ((T ((R a0 2).getD 0)).2 : Int) ∧ (T ((R a0 2).getD 0)).2 ≤ 3584) (g6 : R ((R a0 2).getD 0) x2.toNat = some ((R ((R a0 2).getD 0) x2.toNat).getD 0)) : XR sc d 80 10 [some (.ref a0), o1, some (xw x2), o3] [] (T, z, xv V, J, R) = XR sc d 80 21 [some (.ref a0), o1, some (xw x2), some (.ref ((R ((R a0 2).getD 0) x2.toNat).getD 0))] [] (T, z, xv V, J, R) :=
  (st_aload_n f_80_10 rfl).trans ((st_getR f_80_11 e_80_17 (by decide) g1 g2).trans ((sw_iload_n f_80_14 rfl).trans ((sw_aaload f_80_15 g3 g4 g5 g6).trans ((st_astore_n (L' := [some (.ref a0), o1, some (xw x2), some (.ref ((R ((R a0 2).getD 0) x2.toNat).getD 0))]) f_80_16 (Nat.le_of_ble_eq_true rfl) rfl).trans ((st_aload_n f_80_17 rfl).trans (st_ifnull f_80_18))))))
theorem bX6_firstOverborne_10rn {o1 o3 : Option Value} {x2 : Int} {a0 : Nat} (g1 : T a0 = (7, 0)) (g2 : R a0 2 = some ((R a0 2).getD 0)) (g3 : T ((R a0 2).getD 0) = ((T ((R a0 2).getD 0)).1, (T ((R a0 2).getD 0)).2)) (g4 : 40 ≤ (T ((R a0 2).getD 0)).1 ∧ (T ((R a0 2).getD 0)).1 < 44) (g5 : (0 : Int) ≤ x2 ∧ x2 < ((T ((R a0 2).getD 0)).2 : Int) ∧ (T ((R a0 2).getD 0)).2 ≤ 3584) (g6 : R ((R a0 2).getD 0) x2.toNat = none) : XR sc d 80 10 [some (.ref a0), o1, some (xw x2), o3] [] (T, z, xv V, J, R) = XR sc d 80 39 [some (.ref a0), o1, some (xw x2), some (.null)] [] (T, z, xv V, J, R) :=
  (st_aload_n f_80_10 rfl).trans ((st_getR f_80_11 e_80_17 (by decide) g1 g2).trans ((sw_iload_n f_80_14 rfl).trans ((sw_aaload f_80_15 g3 g4 g5 g6).trans ((st_astore_nN (L' := [some (.ref a0), o1, some (xw x2), some (.null)]) f_80_16 (Nat.le_of_ble_eq_true rfl) rfl).trans ((st_aload_nN f_80_17 rfl).trans (st_ifnullN (t := 39) f_80_18 ⟨by decide, rfl⟩))))))
theorem bX6_firstOverborne_21rr {o2 : Option Value} {x1 : Int} {a0 a3 : Nat} (g1 : T a0 = (7, 0)) (g2 : R a0 4 = some ((R a0 4).getD 0)) (g3 : T ((R a0 4).getD 0) = (5, 0)) : XR sc d 80 21 [some (.ref a0), some (xw x1), o2, some (.ref a3)] [] (T, z, xv V, J, R) = xret 80 (XR sc d 80) 27 30 [some (.ref a0), some (xw x1), o2, some (.ref a3)] [] (X sc d 29 [.ref ((R a0 4).getD 0), .ref a3, xw x1] (T, z, xv V, J, R)) :=
  (st_aload_n f_80_21 rfl).trans ((st_getR f_80_22 e_80_24 (by decide) g1 g2).trans ((st_aload_n f_80_25 rfl).trans ((sw_iload_n f_80_26 rfl).trans (st_callV' f_80_27 h_80_195 mn_29 rfl rfl rfl rfl mo_29 g3 rfl))))
theorem bX6_firstOverborne_21rn {o2 : Option Value} {x1 : Int} {a0 : Nat} (g1 : T a0 = (7, 0)) (g2 : R a0 4 = some ((R a0 4).getD 0)) (g3 : T ((R a0 4).getD 0) = (5, 0)) : XR sc d 80 21 [some (.ref a0), some (xw x1), o2, some .null] [] (T, z, xv V, J, R) = xret 80 (XR sc d 80) 27 30 [some (.ref a0), some (xw x1), o2, some (.null)] [] (X sc d 29 [.ref ((R a0 4).getD 0), .null, xw x1] (T, z, xv V, J, R)) :=
  (st_aload_n f_80_21 rfl).trans ((st_getR f_80_22 e_80_24 (by decide) g1 g2).trans ((st_aload_nN f_80_25 rfl).trans ((sw_iload_n f_80_26 rfl).trans (st_callV' f_80_27 h_80_195 mn_29 rfl rfl rfl rfl mo_29 g3 rfl))))
theorem bX6_firstOverborne_30r {o0 o1 o2 : Option Value} {s0 : Value} {a3 : Nat} (g1 : T a3 = (2, 0)) : XR sc d 80 30 [o0, o1, o2, some (.ref a3)] [s0] (T, z, xv V, J, R) = xret 80 (XR sc d 80) 31 34 [o0, o1, o2, some (.ref a3)] [s0] (X sc d 19 [.ref a3] (T, z, xv V, J, R)) :=
  (st_aload_n f_80_30 rfl).trans (st_callV' f_80_31 h_80_155 mn_19 rfl rfl rfl rfl mo_19 g1 rfl)
theorem bX6_firstOverborne_34 {o0 o1 o2 o3 : Option Value} {y0 y1 : Int} (g1 : -2147483648 ≤ y1 ∧ y1 ≤ 2147483647) (g2 : -2147483648 ≤ y0 ∧ y0 ≤ 2147483647) : XR sc d 80 34 [o0, o1, o2, o3] [xw y0, xw y1] (T, z, xv V, J, R) = if y1 ≤ y0 then XR sc d 80 39 [o0, o1, o2, o3] [] (T, z, xv V, J, R) else XR sc d 80 37 [o0, o1, o2, o3] [] (T, z, xv V, J, R) :=
  sw_icmp_le (t := 39) f_80_34 ⟨by decide, rfl⟩ g1 g2
theorem bX6_firstOverborne_37r {o0 o1 o2 : Option Value} {a3 : Nat} : XR sc d 80 37 [o0, o1, o2, some (.ref a3)] [] (T, z, xv V, J, R) = some (.inl (some (.ref a3)), (T, z, xv V, J, R)) :=
  (st_aload_n f_80_37 rfl).trans (st_areturn f_80_38 mr_80)
theorem bX6_firstOverborne_37n {o0 o1 o2 : Option Value} : XR sc d 80 37 [o0, o1, o2, some .null] [] (T, z, xv V, J, R) = some (.inl (some (.null)), (T, z, xv V, J, R)) :=
  (st_aload_nN f_80_37 rfl).trans (st_areturnN f_80_38 mr_80)
theorem bX6_firstOverborne_39 {o0 o1 o3 : Option Value} {x2 : Int} : XR sc d 80 39 [o0, o1, some (xw x2), o3] [] (T, z, xv V, J, R) = XR sc d 80 2 [o0, o1, some (xw (x2 + 1)), o3] [] (T, z, xv V, J, R) :=
  (sw_iinc (L' := [o0, o1, some (xw (x2 + 1)), o3]) f_80_39 rfl (Nat.le_of_ble_eq_true rfl) rfl).trans (st_goto (t := 2) f_80_42 ⟨by decide, rfl⟩)
theorem bX6_firstOverborne_45 {o0 o1 o2 o3 : Option Value} : XR sc d 80 45 [o0, o1, o2, o3] [] (T, z, xv V, J, R) = some (.inl (some (.null)), (T, z, xv V, J, R)) :=
  (st_null f_80_45).trans (st_areturnN f_80_46 mr_80)
theorem eX6_wearStraps {x1 : Int} {a0 : Nat} : X sc (d + 1) 81 [.ref a0, xw x1] (T, z, xv V, J, R) = XR sc d 81 0 [some (.ref a0), some (xw x1), none, none] [] (T, z, xv V, J, R) :=
  (X_eq ⟨jl_81, by rw [mn_81]; rfl, rfl, by rw [lm_81]; exact Nat.le_of_ble_eq_true rfl⟩).trans (by unfold xent; rw [lm_81]; rfl)
theorem bX6_wearStraps_0 {o0 o1 o2 o3 : Option Value} : XR sc d 81 0 [o0, o1, o2, o3] [] (T, z, xv V, J, R) = XR sc d 81 2 [o0, o1, some (xw 0), o3] [] (T, z, xv V, J, R) :=
  (sw_iconst f_81_0).trans (sw_istore_n (L' := [o0, o1, some (xw 0), o3]) f_81_1 (Nat.le_of_ble_eq_true rfl) rfl)
theorem bX6_wearStraps_2r {o1 o3 : Option Value} {x2 : Int} {a0 : Nat} (g1 : T a0 = (7, 0)) (g2 : -2147483648 ≤ x2 ∧ x2 ≤ 2147483647) (g3 : -2147483648 ≤ (V a0 3) ∧ (V a0 3) ≤ 2147483647) : XR sc d 81 2 [some (.ref a0), o1, some (xw x2), o3] [] (T, z, xv V, J, R) = if (V a0 3) ≤ x2 then XR sc d 81 48 [some (.ref a0), o1, some (xw x2), o3] [] (T, z, xv V, J, R) else XR sc d 81 10 [some (.ref a0), o1, some (xw x2), o3] [] (T, z, xv V, J, R) :=
  (sw_iload_n f_81_2 rfl).trans ((st_aload_n f_81_3 rfl).trans ((sw_getI f_81_4 e_81_89 (by decide) g1).trans (sw_icmp_ge (t := 48) f_81_7 ⟨by decide, rfl⟩ g2 g3)))
theorem bX6_wearStraps_10rr {o1 o3 : Option Value} {x2 : Int} {a0 : Nat} (g1 : T a0 = (7, 0)) (g2 : R a0 2 = some ((R a0 2).getD 0)) (g3 : T ((R a0 2).getD 0) = ((T ((R a0 2).getD 0)).1, (T ((R a0 2).getD 0)).2)) (g4 : 40 ≤ (T ((R a0 2).getD 0)).1 ∧ (T ((R a0 2).getD 0)).1 < 44) (g5 : (0 : Int) ≤ x2 ∧ x2 < ((T ((R a0 2).getD 0)).2 : Int) ∧ (T ((R a0 2).getD 0)).2 ≤ 3584) (g6 : R ((R a0 2).getD 0) x2.toNat = some ((R ((R a0 2).getD 0) x2.toNat).getD 0)) : XR sc d 81 10 [some (.ref a0), o1, some (xw x2), o3] [] (T, z, xv V, J, R) = XR sc d 81 21 [some (.ref a0), o1, some (xw x2), some (.ref ((R ((R a0 2).getD 0) x2.toNat).getD 0))] [] (T, z, xv V, J, R) :=
  (st_aload_n f_81_10 rfl).trans ((st_getR f_81_11 e_81_17 (by decide) g1 g2).trans ((sw_iload_n f_81_14 rfl).trans ((sw_aaload f_81_15 g3 g4 g5 g6).trans ((st_astore_n (L' := [some (.ref a0), o1, some (xw x2), some (.ref ((R ((R a0 2).getD 0) x2.toNat).getD 0))]) f_81_16 (Nat.le_of_ble_eq_true rfl) rfl).trans ((st_aload_n f_81_17 rfl).trans (st_ifnull f_81_18))))))
theorem bX6_wearStraps_10rn {o1 o3 : Option Value} {x2 : Int} {a0 : Nat} (g1 : T a0 = (7, 0)) (g2 : R a0 2 = some ((R a0 2).getD 0)) (g3 : T ((R a0 2).getD 0) = ((T ((R a0 2).getD 0)).1, (T ((R a0 2).getD 0)).2)) (g4 : 40 ≤ (T ((R a0 2).getD 0)).1 ∧ (T ((R a0 2).getD 0)).1 < 44) (g5 : (0 : Int) ≤ x2 ∧ x2 < ((T ((R a0 2).getD 0)).2 : Int) ∧ (T ((R a0 2).getD 0)).2 ≤ 3584) (g6 : R ((R a0 2).getD 0) x2.toNat = none) : XR sc d 81 10 [some (.ref a0), o1, some (xw x2), o3] [] (T, z, xv V, J, R) = XR sc d 81 42 [some (.ref a0), o1, some (xw x2), some (.null)] [] (T, z, xv V, J, R) :=
  (st_aload_n f_81_10 rfl).trans ((st_getR f_81_11 e_81_17 (by decide) g1 g2).trans ((sw_iload_n f_81_14 rfl).trans ((sw_aaload f_81_15 g3 g4 g5 g6).trans ((st_astore_nN (L' := [some (.ref a0), o1, some (xw x2), some (.null)]) f_81_16 (Nat.le_of_ble_eq_true rfl) rfl).trans ((st_aload_nN f_81_17 rfl).trans (st_ifnullN (t := 42) f_81_18 ⟨by decide, rfl⟩))))))
theorem bX6_wearStraps_21rr {o2 : Option Value} {x1 : Int} {a3 a0 : Nat} (g1 : T a3 = (2, 0)) (g2 : T a0 = (7, 0)) (g3 : R a0 4 = some ((R a0 4).getD 0)) (g4 : T ((R a0 4).getD 0) = (5, 0)) : XR sc d 81 21 [some (.ref a0), some (xw x1), o2, some (.ref a3)] [] (T, z, xv V, J, R) = xret 81 (XR sc d 81) 32 35 [some (.ref a0), some (xw x1), o2, some (.ref a3)] [xw (V a3 7), .ref a3] (X sc d 29 [.ref ((R a0 4).getD 0), .ref a3, xw x1] (T, z, xv V, J, R)) :=
  (st_aload_n f_81_21 rfl).trans ((st_dup f_81_22 rfl).trans ((sw_getI f_81_23 e_81_152 (by decide) g1).trans ((st_aload_n f_81_26 rfl).trans ((st_getR f_81_27 e_81_24 (by decide) g2 g3).trans ((st_aload_n f_81_30 rfl).trans ((sw_iload_n f_81_31 rfl).trans (st_callV' f_81_32 h_81_195 mn_29 rfl rfl rfl rfl mo_29 g4 rfl)))))))
theorem bX6_wearStraps_35r {o0 o1 o2 o3 : Option Value} {y0 y1 : Int} {b2 : Nat} (g1 : 0 ≤ y0 ∧ y0 ≤ 2147483647) (g2 : T b2 = (2, 0)) : XR sc d 81 35 [o0, o1, o2, o3] [xw y0, xw y1, .ref b2] (T, z, xv V, J, R) = XR sc d 81 42 [o0, o1, o2, o3] [] (T, z, xv (xup2 V b2 7 (y1 + (y0 / 10))), J, R) :=
  (sw_bipush f_81_35 c8_10).trans ((sw_idiv f_81_37 ⟨by decide, by decide, g1⟩).trans ((sw_iadd f_81_38).trans (sw_putI f_81_39 e_81_152 (Or.inl rfl) (Or.inl rfl) g2)))
theorem bX6_wearStraps_42 {o0 o1 o3 : Option Value} {x2 : Int} : XR sc d 81 42 [o0, o1, some (xw x2), o3] [] (T, z, xv V, J, R) = XR sc d 81 2 [o0, o1, some (xw (x2 + 1)), o3] [] (T, z, xv V, J, R) :=
  (sw_iinc (L' := [o0, o1, some (xw (x2 + 1)), o3]) f_81_42 rfl (Nat.le_of_ble_eq_true rfl) rfl).trans (st_goto (t := 2) f_81_45 ⟨by decide, rfl⟩)
theorem bX6_wearStraps_48 {o0 o1 o2 o3 : Option Value} : XR sc d 81 48 [o0, o1, o2, o3] [] (T, z, xv V, J, R) = some (.inl none, (T, z, xv V, J, R)) :=
  st_return f_81_48 mr_81
theorem eX6_measureGaps {x1 x2 x3 : Int} {a0 : Nat} : X sc (d + 1) 82 [.ref a0, xw x1, xw x2, xw x3] (T, z, xv V, J, R) = XR sc d 82 0 [some (.ref a0), some (xw x1), some (xw x2), some (xw x3), none, none] [] (T, z, xv V, J, R) :=
  (X_eq ⟨jl_82, by rw [mn_82]; rfl, rfl, by rw [lm_82]; exact Nat.le_of_ble_eq_true rfl⟩).trans (by unfold xent; rw [lm_82]; rfl)
theorem bX6_measureGaps_0 {o2 o3 o4 o5 : Option Value} {x1 : Int} {a0 : Nat} (g1 : T a0 = (7, 0)) : XR sc d 82 0 [some (.ref a0), some (xw x1), o2, o3, o4, o5] [] (T, z, xv V, J, R) = xret 82 (XR sc d 82) 2 5 [some (.ref a0), some (xw x1), o2, o3, o4, o5] [] (X sc d 85 [.ref a0, xw x1] (T, z, xv V, J, R)) :=
  (st_aload_n f_82_0 rfl).trans ((sw_iload_n f_82_1 rfl).trans (st_callV' f_82_2 h_82_232 mn_85 rfl rfl rfl rfl mo_85 g1 rfl))
theorem bX6_measureGaps_5 {o1 o3 o4 o5 : Option Value} {x2 : Int} {b0 a0 : Nat} (g1 : T a0 = (7, 0)) : XR sc d 82 5 [some (.ref a0), o1, some (xw x2), o3, o4, o5] [.ref b0] (T, z, xv V, J, R) = xret 82 (XR sc d 82) 9 12 [some (.ref a0), o1, some (xw x2), o3, some (.ref b0), o5] [] (X sc d 86 [.ref a0, xw x2] (T, z, xv V, J, R)) :=
  (st_astore (L' := [some (.ref a0), o1, some (xw x2), o3, some (.ref b0), o5]) f_82_5 (Nat.le_of_ble_eq_true rfl) rfl).trans ((st_aload_n f_82_7 rfl).trans ((sw_iload_n f_82_8 rfl).trans (st_callV' f_82_9 h_82_240 mn_86 rfl rfl rfl rfl mo_86 g1 rfl)))
theorem bX6_measureGaps_12 {o0 o1 o2 o4 o5 : Option Value} {x3 : Int} {b0 : Nat} : XR sc d 82 12 [o0, o1, o2, some (xw x3), o4, o5] [.ref b0] (T, z, xv V, J, R) = xret 82 (XR sc d 82) 19 22 [o0, o1, o2, some (xw x3), o4, some (.ref b0)] [] (X sc d 88 [xw x3, xw 1, xw 3000] (T, z, xv V, J, R)) :=
  (st_astore (L' := [o0, o1, o2, some (xw x3), o4, some (.ref b0)]) f_82_12 (Nat.le_of_ble_eq_true rfl) rfl).trans ((sw_iload_n f_82_14 rfl).trans ((sw_iconst f_82_15).trans ((sw_sipush f_82_16 c16_3000).trans (st_callS' f_82_19 h_82_49 mn_88 rfl rfl rfl rfl))))
theorem bX6_measureGaps_22 {o1 o2 o3 : Option Value} {a0 a4 a5 : Nat} (g1 : T a0 = (7, 0)) (g2 : R a0 7 = some ((R a0 7).getD 0)) (g3 : T ((R a0 7).getD 0) = (6, 0)) : XR sc d 82 22 [some (.ref a0), o1, o2, o3, some (.ref a4), some (.ref a5)] [] (T, z, xv V, J, R) = xret 82 (XR sc d 82) 30 33 [some (.ref a0), o1, o2, o3, some (.ref a4), some (.ref a5)] [] (X sc d 41 [.ref ((R a0 7).getD 0), .ref a4, .ref a5] (T, z, xv V, J, R)) :=
  (st_aload_n f_82_22 rfl).trans ((st_getR f_82_23 e_82_45 (by decide) g1 g2).trans ((st_aload f_82_26 rfl).trans ((st_aload f_82_28 rfl).trans (st_callV' f_82_30 h_82_273 mn_41 rfl rfl rfl rfl mo_41 g3 rfl))))
theorem bX6_measureGaps_33 {o0 o1 o2 o3 o4 o5 : Option Value} : XR sc d 82 33 [o0, o1, o2, o3, o4, o5] [] (T, z, xv V, J, R) = some (.inl none, (T, z, xv V, J, R)) :=
  st_return f_82_33 mr_82
theorem eX6_hideAt {x1 : Int} {a0 : Nat} : X sc (d + 1) 83 [.ref a0, xw x1] (T, z, xv V, J, R) = XR sc d 83 0 [some (.ref a0), some (xw x1), none] [] (T, z, xv V, J, R) :=
  (X_eq ⟨jl_83, by rw [mn_83]; rfl, rfl, by rw [lm_83]; exact Nat.le_of_ble_eq_true rfl⟩).trans (by unfold xent; rw [lm_83]; rfl)
theorem bX6_hideAt_0 {o0 o2 : Option Value} {x1 : Int} (g1 : -2147483648 ≤ x1 ∧ x1 ≤ 2147483647) : XR sc d 83 0 [o0, some (xw x1), o2] [] (T, z, xv V, J, R) = if x1 < 0 then XR sc d 83 22 [o0, some (xw x1), o2] [] (T, z, xv V, J, R) else XR sc d 83 4 [o0, some (xw x1), o2] [] (T, z, xv V, J, R) :=
  (sw_iload_n f_83_0 rfl).trans (sw_if_lt (t := 22) f_83_1 ⟨by decide, rfl⟩ g1)
theorem bX6_hideAt_4r {o2 : Option Value} {x1 : Int} {a0 : Nat} (g1 : T a0 = (7, 0)) (g2 : R a0 0 = some ((R a0 0).getD 0)) (g3 : T ((R a0 0).getD 0) = ((T ((R a0 0).getD 0)).1, (T ((R a0 0).getD 0)).2)) (g4 : (32 ≤ (T ((R a0 0).getD 0)).1 ∧ (T ((R a0 0).getD 0)).1 < 35) ∨ (40 ≤ (T ((R a0 0).getD 0)).1 ∧ (T ((R a0 0).getD 0)).1 < 44)) (g5 : -2147483648 ≤ x1 ∧ x1 ≤ 2147483647) (g6 : -2147483648 ≤ ((T ((R a0 0).getD 0)).2 : Int) ∧ ((T ((R a0 0).getD 0)).2 : Int) ≤ 2147483647) : XR sc d 83 4 [some (.ref a0), some (xw x1), o2] [] (T, z, xv V, J, R) = if ((T ((R a0 0).getD 0)).2 : Int) ≤ x1 then XR sc d 83 22 [some (.ref a0), some (xw x1), o2] [] (T, z, xv V, J, R) else XR sc d 83 13 [some (.ref a0), some (xw x1), o2] [] (T, z, xv V, J, R) :=
  (sw_iload_n f_83_4 rfl).trans ((st_aload_n f_83_5 rfl).trans ((st_getR f_83_6 e_83_11 (by decide) g1 g2).trans ((sw_alenI f_83_9 g3 g4).trans (sw_icmp_ge (t := 22) f_83_10 ⟨by decide, rfl⟩ g5 g6))))
theorem bX6_hideAt_13rr {o2 : Option Value} {x1 : Int} {a0 : Nat} (g1 : T a0 = (7, 0)) (g2 : R a0 0 = some ((R a0 0).getD 0)) (g3 : T ((R a0 0).getD 0) = ((T ((R a0 0).getD 0)).1, (T ((R a0 0).getD 0)).2)) (g4 : 40 ≤ (T ((R a0 0).getD 0)).1 ∧ (T ((R a0 0).getD 0)).1 < 44) (g5 : (0 : Int) ≤ x1 ∧ x1 < ((T ((R a0 0).getD 0)).2 : Int) ∧ (T ((R a0 0).getD 0)).2 ≤ 3584) (g6 : R ((R a0 0).getD 0) x1.toNat = some ((R ((R a0 0).getD 0) x1.toNat).getD 0)) : XR sc d 83 13 [some (.ref a0), some (xw x1), o2] [] (T, z, xv V, J, R) = XR sc d 83 23 [some (.ref a0), some (xw x1), o2] [.ref ((R ((R a0 0).getD 0) x1.toNat).getD 0)] (T, z, xv V, J, R) :=
  (st_aload_n f_83_13 rfl).trans ((st_getR f_83_14 e_83_11 (by decide) g1 g2).trans ((sw_iload_n f_83_17 rfl).trans ((sw_aaload f_83_18 g3 g4 g5 g6).trans (st_goto (t := 23) f_83_19 ⟨by decide, rfl⟩))))
theorem bX6_hideAt_13rn {o2 : Option Value} {x1 : Int} {a0 : Nat} (g1 : T a0 = (7, 0)) (g2 : R a0 0 = some ((R a0 0).getD 0)) (g3 : T ((R a0 0).getD 0) = ((T ((R a0 0).getD 0)).1, (T ((R a0 0).getD 0)).2)) (g4 : 40 ≤ (T ((R a0 0).getD 0)).1 ∧ (T ((R a0 0).getD 0)).1 < 44) (g5 : (0 : Int) ≤ x1 ∧ x1 < ((T ((R a0 0).getD 0)).2 : Int) ∧ (T ((R a0 0).getD 0)).2 ≤ 3584) (g6 : R ((R a0 0).getD 0) x1.toNat = none) : XR sc d 83 13 [some (.ref a0), some (xw x1), o2] [] (T, z, xv V, J, R) = XR sc d 83 23 [some (.ref a0), some (xw x1), o2] [.null] (T, z, xv V, J, R) :=
  (st_aload_n f_83_13 rfl).trans ((st_getR f_83_14 e_83_11 (by decide) g1 g2).trans ((sw_iload_n f_83_17 rfl).trans ((sw_aaload f_83_18 g3 g4 g5 g6).trans (st_goto (t := 23) f_83_19 ⟨by decide, rfl⟩))))
theorem bX6_hideAt_22 {o0 o1 o2 : Option Value} : XR sc d 83 22 [o0, o1, o2] [] (T, z, xv V, J, R) = XR sc d 83 23 [o0, o1, o2] [.null] (T, z, xv V, J, R) :=
  st_null f_83_22
theorem bX6_hideAt_23r {o0 o1 o2 : Option Value} {b0 : Nat} : XR sc d 83 23 [o0, o1, o2] [.ref b0] (T, z, xv V, J, R) = XR sc d 83 39 [o0, o1, some (.ref b0)] [] (T, z, xv V, J, R) :=
  (st_astore_n (L' := [o0, o1, some (.ref b0)]) f_83_23 (Nat.le_of_ble_eq_true rfl) rfl).trans ((st_aload_n f_83_24 rfl).trans (st_ifnonnull (t := 39) f_83_25 ⟨by decide, rfl⟩))
theorem bX6_hideAt_23n {o0 o1 o2 : Option Value} : XR sc d 83 23 [o0, o1, o2] [.null] (T, z, xv V, J, R) = XR sc d 83 28 [o0, o1, some (.null)] [] (T, z, xv V, J, R) :=
  (st_astore_nN (L' := [o0, o1, some (.null)]) f_83_23 (Nat.le_of_ble_eq_true rfl) rfl).trans ((st_aload_nN f_83_24 rfl).trans (st_ifnonnullN f_83_25))
theorem bX6_hideAt_28 {o0 o1 o2 : Option Value} (g1 : 6 ≤ d) : XR sc d 83 28 [o0, o1, o2] [] (T, z, xv V, J, R) = some (.inr 10, (va_up T z.1 (11, 0), (z.1 + 1, z.2 + 6), xv (va_up V z.1 (fun _ => 0)), va_up J z.1 (fun _ => 0), va_up R z.1 (fun _ => none))) :=
  sw_throw f_83_28 q_83_199 (by decide) (xthr_W (idx := 0) g1 (Nat.le_of_ble_eq_true rfl) w_83 f_83_31 f_83_32 u_83_299 f_83_35 f_83_38 v_83_203)
theorem bX6_hideAt_39r {o0 o1 : Option Value} {a2 : Nat} : XR sc d 83 39 [o0, o1, some (.ref a2)] [] (T, z, xv V, J, R) = some (.inl (some (.ref a2)), (T, z, xv V, J, R)) :=
  (st_aload_n f_83_39 rfl).trans (st_areturn f_83_40 mr_83)
theorem bX6_hideAt_39n {o0 o1 : Option Value} : XR sc d 83 39 [o0, o1, some .null] [] (T, z, xv V, J, R) = some (.inl (some (.null)), (T, z, xv V, J, R)) :=
  (st_aload_nN f_83_39 rfl).trans (st_areturnN f_83_40 mr_83)
theorem eX6_partAt {x1 : Int} {a0 : Nat} : X sc (d + 1) 84 [.ref a0, xw x1] (T, z, xv V, J, R) = XR sc d 84 0 [some (.ref a0), some (xw x1), none] [] (T, z, xv V, J, R) :=
  (X_eq ⟨jl_84, by rw [mn_84]; rfl, rfl, by rw [lm_84]; exact Nat.le_of_ble_eq_true rfl⟩).trans (by unfold xent; rw [lm_84]; rfl)
theorem bX6_partAt_0 {o0 o2 : Option Value} {x1 : Int} (g1 : -2147483648 ≤ x1 ∧ x1 ≤ 2147483647) : XR sc d 84 0 [o0, some (xw x1), o2] [] (T, z, xv V, J, R) = if x1 < 0 then XR sc d 84 22 [o0, some (xw x1), o2] [] (T, z, xv V, J, R) else XR sc d 84 4 [o0, some (xw x1), o2] [] (T, z, xv V, J, R) :=
  (sw_iload_n f_84_0 rfl).trans (sw_if_lt (t := 22) f_84_1 ⟨by decide, rfl⟩ g1)
theorem bX6_partAt_4r {o2 : Option Value} {x1 : Int} {a0 : Nat} (g1 : T a0 = (7, 0)) (g2 : R a0 2 = some ((R a0 2).getD 0)) (g3 : T ((R a0 2).getD 0) = ((T ((R a0 2).getD 0)).1, (T ((R a0 2).getD 0)).2)) (g4 : (32 ≤ (T ((R a0 2).getD 0)).1 ∧ (T ((R a0 2).getD 0)).1 < 35) ∨ (40 ≤ (T ((R a0 2).getD 0)).1 ∧ (T ((R a0 2).getD 0)).1 < 44)) (g5 : -2147483648 ≤ x1 ∧ x1 ≤ 2147483647) (g6 : -2147483648 ≤ ((T ((R a0 2).getD 0)).2 : Int) ∧ ((T ((R a0 2).getD 0)).2 : Int) ≤ 2147483647) : XR sc d 84 4 [some (.ref a0), some (xw x1), o2] [] (T, z, xv V, J, R) = if ((T ((R a0 2).getD 0)).2 : Int) ≤ x1 then XR sc d 84 22 [some (.ref a0), some (xw x1), o2] [] (T, z, xv V, J, R) else XR sc d 84 13 [some (.ref a0), some (xw x1), o2] [] (T, z, xv V, J, R) :=
  (sw_iload_n f_84_4 rfl).trans ((st_aload_n f_84_5 rfl).trans ((st_getR f_84_6 e_84_17 (by decide) g1 g2).trans ((sw_alenI f_84_9 g3 g4).trans (sw_icmp_ge (t := 22) f_84_10 ⟨by decide, rfl⟩ g5 g6))))
theorem bX6_partAt_13rr {o2 : Option Value} {x1 : Int} {a0 : Nat} (g1 : T a0 = (7, 0)) (g2 : R a0 2 = some ((R a0 2).getD 0)) (g3 : T ((R a0 2).getD 0) = ((T ((R a0 2).getD 0)).1, (T ((R a0 2).getD 0)).2)) (g4 : 40 ≤ (T ((R a0 2).getD 0)).1 ∧ (T ((R a0 2).getD 0)).1 < 44) (g5 : (0 : Int) ≤ x1 ∧ x1 < ((T ((R a0 2).getD 0)).2 : Int) ∧ (T ((R a0 2).getD 0)).2 ≤ 3584) (g6 : R ((R a0 2).getD 0) x1.toNat = some ((R ((R a0 2).getD 0) x1.toNat).getD 0)) : XR sc d 84 13 [some (.ref a0), some (xw x1), o2] [] (T, z, xv V, J, R) = XR sc d 84 23 [some (.ref a0), some (xw x1), o2] [.ref ((R ((R a0 2).getD 0) x1.toNat).getD 0)] (T, z, xv V, J, R) :=
  (st_aload_n f_84_13 rfl).trans ((st_getR f_84_14 e_84_17 (by decide) g1 g2).trans ((sw_iload_n f_84_17 rfl).trans ((sw_aaload f_84_18 g3 g4 g5 g6).trans (st_goto (t := 23) f_84_19 ⟨by decide, rfl⟩))))
theorem bX6_partAt_13rn {o2 : Option Value} {x1 : Int} {a0 : Nat} (g1 : T a0 = (7, 0)) (g2 : R a0 2 = some ((R a0 2).getD 0)) (g3 : T ((R a0 2).getD 0) = ((T ((R a0 2).getD 0)).1, (T ((R a0 2).getD 0)).2)) (g4 : 40 ≤ (T ((R a0 2).getD 0)).1 ∧ (T ((R a0 2).getD 0)).1 < 44) (g5 : (0 : Int) ≤ x1 ∧ x1 < ((T ((R a0 2).getD 0)).2 : Int) ∧ (T ((R a0 2).getD 0)).2 ≤ 3584) (g6 : R ((R a0 2).getD 0) x1.toNat = none) : XR sc d 84 13 [some (.ref a0), some (xw x1), o2] [] (T, z, xv V, J, R) = XR sc d 84 23 [some (.ref a0), some (xw x1), o2] [.null] (T, z, xv V, J, R) :=
  (st_aload_n f_84_13 rfl).trans ((st_getR f_84_14 e_84_17 (by decide) g1 g2).trans ((sw_iload_n f_84_17 rfl).trans ((sw_aaload f_84_18 g3 g4 g5 g6).trans (st_goto (t := 23) f_84_19 ⟨by decide, rfl⟩))))
theorem bX6_partAt_22 {o0 o1 o2 : Option Value} : XR sc d 84 22 [o0, o1, o2] [] (T, z, xv V, J, R) = XR sc d 84 23 [o0, o1, o2] [.null] (T, z, xv V, J, R) :=
  st_null f_84_22
theorem bX6_partAt_23r {o0 o1 o2 : Option Value} {b0 : Nat} : XR sc d 84 23 [o0, o1, o2] [.ref b0] (T, z, xv V, J, R) = XR sc d 84 39 [o0, o1, some (.ref b0)] [] (T, z, xv V, J, R) :=
  (st_astore_n (L' := [o0, o1, some (.ref b0)]) f_84_23 (Nat.le_of_ble_eq_true rfl) rfl).trans ((st_aload_n f_84_24 rfl).trans (st_ifnonnull (t := 39) f_84_25 ⟨by decide, rfl⟩))
theorem bX6_partAt_23n {o0 o1 o2 : Option Value} : XR sc d 84 23 [o0, o1, o2] [.null] (T, z, xv V, J, R) = XR sc d 84 28 [o0, o1, some (.null)] [] (T, z, xv V, J, R) :=
  (st_astore_nN (L' := [o0, o1, some (.null)]) f_84_23 (Nat.le_of_ble_eq_true rfl) rfl).trans ((st_aload_nN f_84_24 rfl).trans (st_ifnonnullN f_84_25))
theorem bX6_partAt_28 {o0 o1 o2 : Option Value} (g1 : 6 ≤ d) : XR sc d 84 28 [o0, o1, o2] [] (T, z, xv V, J, R) = some (.inr 10, (va_up T z.1 (11, 0), (z.1 + 1, z.2 + 6), xv (va_up V z.1 (fun _ => 0)), va_up J z.1 (fun _ => 0), va_up R z.1 (fun _ => none))) :=
  sw_throw f_84_28 q_84_199 (by decide) (xthr_W (idx := 0) g1 (Nat.le_of_ble_eq_true rfl) w_84 f_84_31 f_84_32 u_84_301 f_84_35 f_84_38 v_84_203)
theorem bX6_partAt_39r {o0 o1 : Option Value} {a2 : Nat} : XR sc d 84 39 [o0, o1, some (.ref a2)] [] (T, z, xv V, J, R) = some (.inl (some (.ref a2)), (T, z, xv V, J, R)) :=
  (st_aload_n f_84_39 rfl).trans (st_areturn f_84_40 mr_84)
theorem bX6_partAt_39n {o0 o1 : Option Value} : XR sc d 84 39 [o0, o1, some .null] [] (T, z, xv V, J, R) = some (.inl (some (.null)), (T, z, xv V, J, R)) :=
  (st_aload_nN f_84_39 rfl).trans (st_areturnN f_84_40 mr_84)
theorem eX6_horseAt {x1 : Int} {a0 : Nat} : X sc (d + 1) 85 [.ref a0, xw x1] (T, z, xv V, J, R) = XR sc d 85 0 [some (.ref a0), some (xw x1), none] [] (T, z, xv V, J, R) :=
  (X_eq ⟨jl_85, by rw [mn_85]; rfl, rfl, by rw [lm_85]; exact Nat.le_of_ble_eq_true rfl⟩).trans (by unfold xent; rw [lm_85]; rfl)
theorem bX6_horseAt_0 {o0 o2 : Option Value} {x1 : Int} (g1 : -2147483648 ≤ x1 ∧ x1 ≤ 2147483647) : XR sc d 85 0 [o0, some (xw x1), o2] [] (T, z, xv V, J, R) = if x1 < 0 then XR sc d 85 22 [o0, some (xw x1), o2] [] (T, z, xv V, J, R) else XR sc d 85 4 [o0, some (xw x1), o2] [] (T, z, xv V, J, R) :=
  (sw_iload_n f_85_0 rfl).trans (sw_if_lt (t := 22) f_85_1 ⟨by decide, rfl⟩ g1)
theorem bX6_horseAt_4r {o2 : Option Value} {x1 : Int} {a0 : Nat} (g1 : T a0 = (7, 0)) (g2 : R a0 5 = some ((R a0 5).getD 0)) (g3 : T ((R a0 5).getD 0) = ((T ((R a0 5).getD 0)).1, (T ((R a0 5).getD 0)).2)) (g4 : (32 ≤ (T ((R a0 5).getD 0)).1 ∧ (T ((R a0 5).getD 0)).1 < 35) ∨ (40 ≤ (T ((R a0 5).getD 0)).1 ∧ (T ((R a0 5).getD 0)).1 < 44)) (g5 : -2147483648 ≤ x1 ∧ x1 ≤ 2147483647) (g6 : -2147483648 ≤ ((T ((R a0 5).getD 0)).2 : Int) ∧ ((T ((R a0 5).getD 0)).2 : Int) ≤ 2147483647) : XR sc d 85 4 [some (.ref a0), some (xw x1), o2] [] (T, z, xv V, J, R) = if ((T ((R a0 5).getD 0)).2 : Int) ≤ x1 then XR sc d 85 22 [some (.ref a0), some (xw x1), o2] [] (T, z, xv V, J, R) else XR sc d 85 13 [some (.ref a0), some (xw x1), o2] [] (T, z, xv V, J, R) :=
  (sw_iload_n f_85_4 rfl).trans ((st_aload_n f_85_5 rfl).trans ((st_getR f_85_6 e_85_30 (by decide) g1 g2).trans ((sw_alenI f_85_9 g3 g4).trans (sw_icmp_ge (t := 22) f_85_10 ⟨by decide, rfl⟩ g5 g6))))
theorem bX6_horseAt_13rr {o2 : Option Value} {x1 : Int} {a0 : Nat} (g1 : T a0 = (7, 0)) (g2 : R a0 5 = some ((R a0 5).getD 0)) (g3 : T ((R a0 5).getD 0) = ((T ((R a0 5).getD 0)).1, (T ((R a0 5).getD 0)).2)) (g4 : 40 ≤ (T ((R a0 5).getD 0)).1 ∧ (T ((R a0 5).getD 0)).1 < 44) (g5 : (0 : Int) ≤ x1 ∧ x1 < ((T ((R a0 5).getD 0)).2 : Int) ∧ (T ((R a0 5).getD 0)).2 ≤ 3584) (g6 : R ((R a0 5).getD 0) x1.toNat = some ((R ((R a0 5).getD 0) x1.toNat).getD 0)) : XR sc d 85 13 [some (.ref a0), some (xw x1), o2] [] (T, z, xv V, J, R) = XR sc d 85 23 [some (.ref a0), some (xw x1), o2] [.ref ((R ((R a0 5).getD 0) x1.toNat).getD 0)] (T, z, xv V, J, R) :=
  (st_aload_n f_85_13 rfl).trans ((st_getR f_85_14 e_85_30 (by decide) g1 g2).trans ((sw_iload_n f_85_17 rfl).trans ((sw_aaload f_85_18 g3 g4 g5 g6).trans (st_goto (t := 23) f_85_19 ⟨by decide, rfl⟩))))
theorem bX6_horseAt_13rn {o2 : Option Value} {x1 : Int} {a0 : Nat} (g1 : T a0 = (7, 0)) (g2 : R a0 5 = some ((R a0 5).getD 0)) (g3 : T ((R a0 5).getD 0) = ((T ((R a0 5).getD 0)).1, (T ((R a0 5).getD 0)).2)) (g4 : 40 ≤ (T ((R a0 5).getD 0)).1 ∧ (T ((R a0 5).getD 0)).1 < 44) (g5 : (0 : Int) ≤ x1 ∧ x1 < ((T ((R a0 5).getD 0)).2 : Int) ∧ (T ((R a0 5).getD 0)).2 ≤ 3584) (g6 : R ((R a0 5).getD 0) x1.toNat = none) : XR sc d 85 13 [some (.ref a0), some (xw x1), o2] [] (T, z, xv V, J, R) = XR sc d 85 23 [some (.ref a0), some (xw x1), o2] [.null] (T, z, xv V, J, R) :=
  (st_aload_n f_85_13 rfl).trans ((st_getR f_85_14 e_85_30 (by decide) g1 g2).trans ((sw_iload_n f_85_17 rfl).trans ((sw_aaload f_85_18 g3 g4 g5 g6).trans (st_goto (t := 23) f_85_19 ⟨by decide, rfl⟩))))
theorem bX6_horseAt_22 {o0 o1 o2 : Option Value} : XR sc d 85 22 [o0, o1, o2] [] (T, z, xv V, J, R) = XR sc d 85 23 [o0, o1, o2] [.null] (T, z, xv V, J, R) :=
  st_null f_85_22
theorem bX6_horseAt_23r {o0 o1 o2 : Option Value} {b0 : Nat} : XR sc d 85 23 [o0, o1, o2] [.ref b0] (T, z, xv V, J, R) = XR sc d 85 39 [o0, o1, some (.ref b0)] [] (T, z, xv V, J, R) :=
  (st_astore_n (L' := [o0, o1, some (.ref b0)]) f_85_23 (Nat.le_of_ble_eq_true rfl) rfl).trans ((st_aload_n f_85_24 rfl).trans (st_ifnonnull (t := 39) f_85_25 ⟨by decide, rfl⟩))
theorem bX6_horseAt_23n {o0 o1 o2 : Option Value} : XR sc d 85 23 [o0, o1, o2] [.null] (T, z, xv V, J, R) = XR sc d 85 28 [o0, o1, some (.null)] [] (T, z, xv V, J, R) :=
  (st_astore_nN (L' := [o0, o1, some (.null)]) f_85_23 (Nat.le_of_ble_eq_true rfl) rfl).trans ((st_aload_nN f_85_24 rfl).trans (st_ifnonnullN f_85_25))
theorem bX6_horseAt_28 {o0 o1 o2 : Option Value} (g1 : 6 ≤ d) : XR sc d 85 28 [o0, o1, o2] [] (T, z, xv V, J, R) = some (.inr 10, (va_up T z.1 (11, 0), (z.1 + 1, z.2 + 6), xv (va_up V z.1 (fun _ => 0)), va_up J z.1 (fun _ => 0), va_up R z.1 (fun _ => none))) :=
  sw_throw f_85_28 q_85_199 (by decide) (xthr_W (idx := 0) g1 (Nat.le_of_ble_eq_true rfl) w_85 f_85_31 f_85_32 u_85_303 f_85_35 f_85_38 v_85_203)
theorem bX6_horseAt_39r {o0 o1 : Option Value} {a2 : Nat} : XR sc d 85 39 [o0, o1, some (.ref a2)] [] (T, z, xv V, J, R) = some (.inl (some (.ref a2)), (T, z, xv V, J, R)) :=
  (st_aload_n f_85_39 rfl).trans (st_areturn f_85_40 mr_85)
theorem bX6_horseAt_39n {o0 o1 : Option Value} : XR sc d 85 39 [o0, o1, some .null] [] (T, z, xv V, J, R) = some (.inl (some (.null)), (T, z, xv V, J, R)) :=
  (st_aload_nN f_85_39 rfl).trans (st_areturnN f_85_40 mr_85)
theorem eX6_saddleAt {x1 : Int} {a0 : Nat} : X sc (d + 1) 86 [.ref a0, xw x1] (T, z, xv V, J, R) = XR sc d 86 0 [some (.ref a0), some (xw x1), none] [] (T, z, xv V, J, R) :=
  (X_eq ⟨jl_86, by rw [mn_86]; rfl, rfl, by rw [lm_86]; exact Nat.le_of_ble_eq_true rfl⟩).trans (by unfold xent; rw [lm_86]; rfl)
theorem bX6_saddleAt_0 {o0 o2 : Option Value} {x1 : Int} (g1 : -2147483648 ≤ x1 ∧ x1 ≤ 2147483647) : XR sc d 86 0 [o0, some (xw x1), o2] [] (T, z, xv V, J, R) = if x1 < 0 then XR sc d 86 22 [o0, some (xw x1), o2] [] (T, z, xv V, J, R) else XR sc d 86 4 [o0, some (xw x1), o2] [] (T, z, xv V, J, R) :=
  (sw_iload_n f_86_0 rfl).trans (sw_if_lt (t := 22) f_86_1 ⟨by decide, rfl⟩ g1)
theorem bX6_saddleAt_4r {o2 : Option Value} {x1 : Int} {a0 : Nat} (g1 : T a0 = (7, 0)) (g2 : R a0 6 = some ((R a0 6).getD 0)) (g3 : T ((R a0 6).getD 0) = ((T ((R a0 6).getD 0)).1, (T ((R a0 6).getD 0)).2)) (g4 : (32 ≤ (T ((R a0 6).getD 0)).1 ∧ (T ((R a0 6).getD 0)).1 < 35) ∨ (40 ≤ (T ((R a0 6).getD 0)).1 ∧ (T ((R a0 6).getD 0)).1 < 44)) (g5 : -2147483648 ≤ x1 ∧ x1 ≤ 2147483647) (g6 : -2147483648 ≤ ((T ((R a0 6).getD 0)).2 : Int) ∧ ((T ((R a0 6).getD 0)).2 : Int) ≤ 2147483647) : XR sc d 86 4 [some (.ref a0), some (xw x1), o2] [] (T, z, xv V, J, R) = if ((T ((R a0 6).getD 0)).2 : Int) ≤ x1 then XR sc d 86 22 [some (.ref a0), some (xw x1), o2] [] (T, z, xv V, J, R) else XR sc d 86 13 [some (.ref a0), some (xw x1), o2] [] (T, z, xv V, J, R) :=
  (sw_iload_n f_86_4 rfl).trans ((st_aload_n f_86_5 rfl).trans ((st_getR f_86_6 e_86_37 (by decide) g1 g2).trans ((sw_alenI f_86_9 g3 g4).trans (sw_icmp_ge (t := 22) f_86_10 ⟨by decide, rfl⟩ g5 g6))))
theorem bX6_saddleAt_13rr {o2 : Option Value} {x1 : Int} {a0 : Nat} (g1 : T a0 = (7, 0)) (g2 : R a0 6 = some ((R a0 6).getD 0)) (g3 : T ((R a0 6).getD 0) = ((T ((R a0 6).getD 0)).1, (T ((R a0 6).getD 0)).2)) (g4 : 40 ≤ (T ((R a0 6).getD 0)).1 ∧ (T ((R a0 6).getD 0)).1 < 44) (g5 : (0 : Int) ≤ x1 ∧ x1 < ((T ((R a0 6).getD 0)).2 : Int) ∧ (T ((R a0 6).getD 0)).2 ≤ 3584) (g6 : R ((R a0 6).getD 0) x1.toNat = some ((R ((R a0 6).getD 0) x1.toNat).getD 0)) : XR sc d 86 13 [some (.ref a0), some (xw x1), o2] [] (T, z, xv V, J, R) = XR sc d 86 23 [some (.ref a0), some (xw x1), o2] [.ref ((R ((R a0 6).getD 0) x1.toNat).getD 0)] (T, z, xv V, J, R) :=
  (st_aload_n f_86_13 rfl).trans ((st_getR f_86_14 e_86_37 (by decide) g1 g2).trans ((sw_iload_n f_86_17 rfl).trans ((sw_aaload f_86_18 g3 g4 g5 g6).trans (st_goto (t := 23) f_86_19 ⟨by decide, rfl⟩))))
theorem bX6_saddleAt_13rn {o2 : Option Value} {x1 : Int} {a0 : Nat} (g1 : T a0 = (7, 0)) (g2 : R a0 6 = some ((R a0 6).getD 0)) (g3 : T ((R a0 6).getD 0) = ((T ((R a0 6).getD 0)).1, (T ((R a0 6).getD 0)).2)) (g4 : 40 ≤ (T ((R a0 6).getD 0)).1 ∧ (T ((R a0 6).getD 0)).1 < 44) (g5 : (0 : Int) ≤ x1 ∧ x1 < ((T ((R a0 6).getD 0)).2 : Int) ∧ (T ((R a0 6).getD 0)).2 ≤ 3584) (g6 : R ((R a0 6).getD 0) x1.toNat = none) : XR sc d 86 13 [some (.ref a0), some (xw x1), o2] [] (T, z, xv V, J, R) = XR sc d 86 23 [some (.ref a0), some (xw x1), o2] [.null] (T, z, xv V, J, R) :=
  (st_aload_n f_86_13 rfl).trans ((st_getR f_86_14 e_86_37 (by decide) g1 g2).trans ((sw_iload_n f_86_17 rfl).trans ((sw_aaload f_86_18 g3 g4 g5 g6).trans (st_goto (t := 23) f_86_19 ⟨by decide, rfl⟩))))
theorem bX6_saddleAt_22 {o0 o1 o2 : Option Value} : XR sc d 86 22 [o0, o1, o2] [] (T, z, xv V, J, R) = XR sc d 86 23 [o0, o1, o2] [.null] (T, z, xv V, J, R) :=
  st_null f_86_22
theorem bX6_saddleAt_23r {o0 o1 o2 : Option Value} {b0 : Nat} : XR sc d 86 23 [o0, o1, o2] [.ref b0] (T, z, xv V, J, R) = XR sc d 86 39 [o0, o1, some (.ref b0)] [] (T, z, xv V, J, R) :=
  (st_astore_n (L' := [o0, o1, some (.ref b0)]) f_86_23 (Nat.le_of_ble_eq_true rfl) rfl).trans ((st_aload_n f_86_24 rfl).trans (st_ifnonnull (t := 39) f_86_25 ⟨by decide, rfl⟩))
theorem bX6_saddleAt_23n {o0 o1 o2 : Option Value} : XR sc d 86 23 [o0, o1, o2] [.null] (T, z, xv V, J, R) = XR sc d 86 28 [o0, o1, some (.null)] [] (T, z, xv V, J, R) :=
  (st_astore_nN (L' := [o0, o1, some (.null)]) f_86_23 (Nat.le_of_ble_eq_true rfl) rfl).trans ((st_aload_nN f_86_24 rfl).trans (st_ifnonnullN f_86_25))
theorem bX6_saddleAt_28 {o0 o1 o2 : Option Value} (g1 : 6 ≤ d) : XR sc d 86 28 [o0, o1, o2] [] (T, z, xv V, J, R) = some (.inr 10, (va_up T z.1 (11, 0), (z.1 + 1, z.2 + 6), xv (va_up V z.1 (fun _ => 0)), va_up J z.1 (fun _ => 0), va_up R z.1 (fun _ => none))) :=
  sw_throw f_86_28 q_86_199 (by decide) (xthr_W (idx := 0) g1 (Nat.le_of_ble_eq_true rfl) w_86 f_86_31 f_86_32 u_86_305 f_86_35 f_86_38 v_86_203)
theorem bX6_saddleAt_39r {o0 o1 : Option Value} {a2 : Nat} : XR sc d 86 39 [o0, o1, some (.ref a2)] [] (T, z, xv V, J, R) = some (.inl (some (.ref a2)), (T, z, xv V, J, R)) :=
  (st_aload_n f_86_39 rfl).trans (st_areturn f_86_40 mr_86)
theorem bX6_saddleAt_39n {o0 o1 : Option Value} : XR sc d 86 39 [o0, o1, some .null] [] (T, z, xv V, J, R) = some (.inl (some (.null)), (T, z, xv V, J, R)) :=
  (st_aload_nN f_86_39 rfl).trans (st_areturnN f_86_40 mr_86)
theorem eX6_checkIndex {x0 x1 : Int} : X sc (d + 1) 87 [xw x0, xw x1] (T, z, xv V, J, R) = XR sc d 87 0 [some (xw x0), some (xw x1)] [] (T, z, xv V, J, R) :=
  (X_eq ⟨jl_87, by rw [mn_87]; rfl, rfl, by rw [lm_87]; exact Nat.le_of_ble_eq_true rfl⟩).trans (by unfold xent; rw [lm_87]; rfl)
theorem bX6_checkIndex_0 {o1 : Option Value} {x0 : Int} (g1 : -2147483648 ≤ x0 ∧ x0 ≤ 2147483647) : XR sc d 87 0 [some (xw x0), o1] [] (T, z, xv V, J, R) = if x0 < 0 then XR sc d 87 9 [some (xw x0), o1] [] (T, z, xv V, J, R) else XR sc d 87 4 [some (xw x0), o1] [] (T, z, xv V, J, R) :=
  (sw_iload_n f_87_0 rfl).trans (sw_if_lt (t := 9) f_87_1 ⟨by decide, rfl⟩ g1)
theorem bX6_checkIndex_4 {x0 x1 : Int} (g1 : -2147483648 ≤ x0 ∧ x0 ≤ 2147483647) (g2 : -2147483648 ≤ x1 ∧ x1 ≤ 2147483647) : XR sc d 87 4 [some (xw x0), some (xw x1)] [] (T, z, xv V, J, R) = if x0 < x1 then XR sc d 87 20 [some (xw x0), some (xw x1)] [] (T, z, xv V, J, R) else XR sc d 87 9 [some (xw x0), some (xw x1)] [] (T, z, xv V, J, R) :=
  (sw_iload_n f_87_4 rfl).trans ((sw_iload_n f_87_5 rfl).trans (sw_icmp_lt (t := 20) f_87_6 ⟨by decide, rfl⟩ g1 g2))
theorem bX6_checkIndex_9 {o0 o1 : Option Value} (g1 : 6 ≤ d) : XR sc d 87 9 [o0, o1] [] (T, z, xv V, J, R) = some (.inr 10, (va_up T z.1 (11, 0), (z.1 + 1, z.2 + 6), xv (va_up V z.1 (fun _ => 0)), va_up J z.1 (fun _ => 0), va_up R z.1 (fun _ => none))) :=
  sw_throw f_87_9 q_87_199 (by decide) (xthr_W (idx := 0) g1 (Nat.le_of_ble_eq_true rfl) w_87 f_87_12 f_87_13 u_87_307 f_87_16 f_87_19 v_87_203)
theorem bX6_checkIndex_20 {o0 o1 : Option Value} : XR sc d 87 20 [o0, o1] [] (T, z, xv V, J, R) = some (.inl none, (T, z, xv V, J, R)) :=
  st_return f_87_20 mr_87
theorem eX6_checkArgument {x0 x1 x2 : Int} : X sc (d + 1) 88 [xw x0, xw x1, xw x2] (T, z, xv V, J, R) = XR sc d 88 0 [some (xw x0), some (xw x1), some (xw x2)] [] (T, z, xv V, J, R) :=
  (X_eq ⟨jl_88, by rw [mn_88]; rfl, rfl, by rw [lm_88]; exact Nat.le_of_ble_eq_true rfl⟩).trans (by unfold xent; rw [lm_88]; rfl)
theorem bX6_checkArgument_0 {o2 : Option Value} {x0 x1 : Int} (g1 : -2147483648 ≤ x0 ∧ x0 ≤ 2147483647) (g2 : -2147483648 ≤ x1 ∧ x1 ≤ 2147483647) : XR sc d 88 0 [some (xw x0), some (xw x1), o2] [] (T, z, xv V, J, R) = if x0 < x1 then XR sc d 88 10 [some (xw x0), some (xw x1), o2] [] (T, z, xv V, J, R) else XR sc d 88 5 [some (xw x0), some (xw x1), o2] [] (T, z, xv V, J, R) :=
  (sw_iload_n f_88_0 rfl).trans ((sw_iload_n f_88_1 rfl).trans (sw_icmp_lt (t := 10) f_88_2 ⟨by decide, rfl⟩ g1 g2))
theorem bX6_checkArgument_5 {o1 : Option Value} {x0 x2 : Int} (g1 : -2147483648 ≤ x0 ∧ x0 ≤ 2147483647) (g2 : -2147483648 ≤ x2 ∧ x2 ≤ 2147483647) : XR sc d 88 5 [some (xw x0), o1, some (xw x2)] [] (T, z, xv V, J, R) = if x0 ≤ x2 then XR sc d 88 21 [some (xw x0), o1, some (xw x2)] [] (T, z, xv V, J, R) else XR sc d 88 10 [some (xw x0), o1, some (xw x2)] [] (T, z, xv V, J, R) :=
  (sw_iload_n f_88_5 rfl).trans ((sw_iload_n f_88_6 rfl).trans (sw_icmp_le (t := 21) f_88_7 ⟨by decide, rfl⟩ g1 g2))
theorem bX6_checkArgument_10 {o0 o1 o2 : Option Value} (g1 : 6 ≤ d) : XR sc d 88 10 [o0, o1, o2] [] (T, z, xv V, J, R) = some (.inr 8, (va_up T z.1 (9, 0), (z.1 + 1, z.2 + 6), xv (va_up V z.1 (fun _ => 0)), va_up J z.1 (fun _ => 0), va_up R z.1 (fun _ => none))) :=
  sw_throw f_88_10 q_88_309 (by decide) (xthr_W (idx := 0) g1 (Nat.le_of_ble_eq_true rfl) w_88 f_88_13 f_88_14 u_88_311 f_88_17 f_88_20 v_88_313)
theorem bX6_checkArgument_21 {o0 o1 o2 : Option Value} : XR sc d 88 21 [o0, o1, o2] [] (T, z, xv V, J, R) = some (.inl none, (T, z, xv V, J, R)) :=
  st_return f_88_21 mr_88
theorem eX6_checkDifferent {x0 x1 : Int} : X sc (d + 1) 89 [xw x0, xw x1] (T, z, xv V, J, R) = XR sc d 89 0 [some (xw x0), some (xw x1)] [] (T, z, xv V, J, R) :=
  (X_eq ⟨jl_89, by rw [mn_89]; rfl, rfl, by rw [lm_89]; exact Nat.le_of_ble_eq_true rfl⟩).trans (by unfold xent; rw [lm_89]; rfl)
theorem bX6_checkDifferent_0 {x0 x1 : Int} (g1 : -2147483648 ≤ x0 ∧ x0 ≤ 2147483647) (g2 : -2147483648 ≤ x1 ∧ x1 ≤ 2147483647) : XR sc d 89 0 [some (xw x0), some (xw x1)] [] (T, z, xv V, J, R) = if x0 = x1 then XR sc d 89 5 [some (xw x0), some (xw x1)] [] (T, z, xv V, J, R) else XR sc d 89 16 [some (xw x0), some (xw x1)] [] (T, z, xv V, J, R) :=
  (sw_iload_n f_89_0 rfl).trans ((sw_iload_n f_89_1 rfl).trans (sw_icmp_ne (t := 16) f_89_2 ⟨by decide, rfl⟩ g1 g2))
theorem bX6_checkDifferent_5 {o0 o1 : Option Value} (g1 : 6 ≤ d) : XR sc d 89 5 [o0, o1] [] (T, z, xv V, J, R) = some (.inr 8, (va_up T z.1 (9, 0), (z.1 + 1, z.2 + 6), xv (va_up V z.1 (fun _ => 0)), va_up J z.1 (fun _ => 0), va_up R z.1 (fun _ => none))) :=
  sw_throw f_89_5 q_89_309 (by decide) (xthr_W (idx := 0) g1 (Nat.le_of_ble_eq_true rfl) w_89 f_89_8 f_89_9 u_89_314 f_89_12 f_89_15 v_89_313)
theorem bX6_checkDifferent_16 {o0 o1 : Option Value} : XR sc d 89 16 [o0, o1] [] (T, z, xv V, J, R) = some (.inl none, (T, z, xv V, J, R)) :=
  st_return f_89_16 mr_89
theorem eX6_checkRings {x0 x1 : Int} : X sc (d + 1) 90 [xw x0, xw x1] (T, z, xv V, J, R) = XR sc d 90 0 [some (xw x0), some (xw x1)] [] (T, z, xv V, J, R) :=
  (X_eq ⟨jl_90, by rw [mn_90]; rfl, rfl, by rw [lm_90]; exact Nat.le_of_ble_eq_true rfl⟩).trans (by unfold xent; rw [lm_90]; rfl)
theorem bX6_checkRings_0 {o1 : Option Value} {x0 : Int} : XR sc d 90 0 [some (xw x0), o1] [] (T, z, xv V, J, R) = xret 90 (XR sc d 90) 3 6 [some (xw x0), o1] [] (X sc d 87 [xw x0, xw 8] (T, z, xv V, J, R)) :=
  (sw_iload_n f_90_0 rfl).trans ((sw_bipush f_90_1 c8_8).trans (st_callS' f_90_3 h_90_71 mn_87 rfl rfl rfl rfl))
theorem bX6_checkRings_6 {o0 : Option Value} {x1 : Int} : XR sc d 90 6 [o0, some (xw x1)] [] (T, z, xv V, J, R) = xret 90 (XR sc d 90) 9 12 [o0, some (xw x1)] [] (X sc d 87 [xw x1, xw 8] (T, z, xv V, J, R)) :=
  (sw_iload_n f_90_6 rfl).trans ((sw_bipush f_90_7 c8_8).trans (st_callS' f_90_9 h_90_71 mn_87 rfl rfl rfl rfl))
theorem bX6_checkRings_12 {x0 x1 : Int} : XR sc d 90 12 [some (xw x0), some (xw x1)] [] (T, z, xv V, J, R) = xret 90 (XR sc d 90) 14 17 [some (xw x0), some (xw x1)] [] (X sc d 89 [xw x0, xw x1] (T, z, xv V, J, R)) :=
  (sw_iload_n f_90_12 rfl).trans ((sw_iload_n f_90_13 rfl).trans (st_callS' f_90_14 h_90_167 mn_89 rfl rfl rfl rfl))
theorem bX6_checkRings_17 {o0 o1 : Option Value} : XR sc d 90 17 [o0, o1] [] (T, z, xv V, J, R) = some (.inl none, (T, z, xv V, J, R)) :=
  st_return f_90_17 mr_90
end BLK
