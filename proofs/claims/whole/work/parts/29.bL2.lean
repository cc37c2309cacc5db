/-! instructions, by program (gen2.py) -/
set_option maxRecDepth 100000 in
theorem f_188_934 : xft 188 934 = some (.aload_n 0) := by decide +kernel
set_option maxRecDepth 100000 in
theorem f_188_935 : xft 188 935 = some (.iload 4) := by decide +kernel
set_option maxRecDepth 100000 in
theorem f_188_937 : xft 188 937 = some (.iconst 1) := by decide +kernel
set_option maxRecDepth 100000 in
theorem f_188_938 : xft 188 938 = some (.iadd) := by decide +kernel
set_option maxRecDepth 100000 in
theorem f_188_939 : xft 188 939 = some (.iaload) := by decide +kernel
set_option maxRecDepth 100000 in
theorem f_188_940 : xft 188 940 = some (.aload_n 3) := by decide +kernel
set_option maxRecDepth 100000 in
theorem f_188_941 : xft 188 941 = some (.invokestatic 150) := by decide +kernel
set_option maxRecDepth 100000 in
theorem f_188_944 : xft 188 944 = some (.istore 5) := by decide +kernel
set_option maxRecDepth 100000 in
theorem f_188_946 : xft 188 946 = some (.aload_n 2) := by decide +kernel
set_option maxRecDepth 100000 in
theorem f_188_947 : xft 188 947 = some (.aload_n 0) := by decide +kernel
set_option maxRecDepth 100000 in
theorem f_188_948 : xft 188 948 = some (.iload 4) := by decide +kernel
set_option maxRecDepth 100000 in
theorem f_188_950 : xft 188 950 = some (.iconst 1) := by decide +kernel
set_option maxRecDepth 100000 in
theorem f_188_951 : xft 188 951 = some (.iadd) := by decide +kernel
set_option maxRecDepth 100000 in
theorem f_188_952 : xft 188 952 = some (.iaload) := by decide +kernel
set_option maxRecDepth 100000 in
theorem f_188_953 : xft 188 953 = some (.invokevirtual 152) := by decide +kernel
set_option maxRecDepth 100000 in
theorem f_188_956 : xft 188 956 = some (.istore 6) := by decide +kernel
set_option maxRecDepth 100000 in
theorem f_188_958 : xft 188 958 = some (.aload_n 2) := by decide +kernel
set_option maxRecDepth 100000 in
theorem f_188_959 : xft 188 959 = some (.invokevirtual 117) := by decide +kernel
set_option maxRecDepth 100000 in
theorem f_188_962 : xft 188 962 = some (.iload 5) := by decide +kernel
set_option maxRecDepth 100000 in
theorem f_188_964 : xft 188 964 = some (.if_icmp .eq 5) := by decide +kernel
set_option maxRecDepth 100000 in
theorem f_188_967 : xft 188 967 = some (.iconst 0) := by decide +kernel
set_option maxRecDepth 100000 in
theorem f_188_968 : xft 188 968 = some (.ireturn) := by decide +kernel
set_option maxRecDepth 100000 in
theorem f_188_969 : xft 188 969 = some (.iload 5) := by decide +kernel
set_option maxRecDepth 100000 in
theorem f_188_971 : xft 188 971 = some (.ifCond .ne 15) := by decide +kernel
set_option maxRecDepth 100000 in
theorem f_188_974 : xft 188 974 = some (.aload_n 3) := by decide +kernel
set_option maxRecDepth 100000 in
theorem f_188_975 : xft 188 975 = some (.iconst 0) := by decide +kernel
set_option maxRecDepth 100000 in
theorem f_188_976 : xft 188 976 = some (.laload) := by decide +kernel
set_option maxRecDepth 100000 in
theorem f_188_977 : xft 188 977 = some (.iload 6) := by decide +kernel
set_option maxRecDepth 100000 in
theorem f_188_979 : xft 188 979 = some (.i2l) := by decide +kernel
set_option maxRecDepth 100000 in
theorem f_188_980 : xft 188 980 = some (.lcmp) := by decide +kernel
set_option maxRecDepth 100000 in
theorem f_188_981 : xft 188 981 = some (.ifCond .eq 5) := by decide +kernel
set_option maxRecDepth 100000 in
theorem f_188_984 : xft 188 984 = some (.iconst 0) := by decide +kernel
set_option maxRecDepth 100000 in
theorem f_188_985 : xft 188 985 = some (.ireturn) := by decide +kernel
set_option maxRecDepth 100000 in
theorem f_188_986 : xft 188 986 = some (.goto 1482) := by decide +kernel
set_option maxRecDepth 100000 in
theorem f_188_989 : xft 188 989 = some (.aload_n 1) := by decide +kernel
set_option maxRecDepth 100000 in
theorem f_188_990 : xft 188 990 = some (.aload_n 0) := by decide +kernel
set_option maxRecDepth 100000 in
theorem f_188_991 : xft 188 991 = some (.iload 4) := by decide +kernel
set_option maxRecDepth 100000 in
theorem f_188_993 : xft 188 993 = some (.iconst 1) := by decide +kernel
set_option maxRecDepth 100000 in
theorem f_188_994 : xft 188 994 = some (.iadd) := by decide +kernel
set_option maxRecDepth 100000 in
theorem f_188_995 : xft 188 995 = some (.iaload) := by decide +kernel
set_option maxRecDepth 100000 in
theorem f_188_996 : xft 188 996 = some (.aload_n 0) := by decide +kernel
set_option maxRecDepth 100000 in
theorem f_188_997 : xft 188 997 = some (.iload 4) := by decide +kernel
set_option maxRecDepth 100000 in
theorem f_188_999 : xft 188 999 = some (.iconst 2) := by decide +kernel
set_option maxRecDepth 100000 in
theorem f_188_1000 : xft 188 1000 = some (.iadd) := by decide +kernel
set_option maxRecDepth 100000 in
theorem f_188_1001 : xft 188 1001 = some (.iaload) := by decide +kernel
set_option maxRecDepth 100000 in
theorem f_188_1002 : xft 188 1002 = some (.aload_n 0) := by decide +kernel
set_option maxRecDepth 100000 in
theorem f_188_1003 : xft 188 1003 = some (.iload 4) := by decide +kernel
set_option maxRecDepth 100000 in
theorem f_188_1005 : xft 188 1005 = some (.iconst 3) := by decide +kernel
set_option maxRecDepth 100000 in
theorem f_188_1006 : xft 188 1006 = some (.iadd) := by decide +kernel
set_option maxRecDepth 100000 in
theorem f_188_1007 : xft 188 1007 = some (.iaload) := by decide +kernel
set_option maxRecDepth 100000 in
theorem f_188_1008 : xft 188 1008 = some (.aload_n 0) := by decide +kernel
set_option maxRecDepth 100000 in
theorem f_188_1009 : xft 188 1009 = some (.iload 4) := by decide +kernel
set_option maxRecDepth 100000 in
theorem f_188_1011 : xft 188 1011 = some (.iconst 4) := by decide +kernel
set_option maxRecDepth 100000 in
theorem f_188_1012 : xft 188 1012 = some (.iadd) := by decide +kernel
set_option maxRecDepth 100000 in
theorem f_188_1013 : xft 188 1013 = some (.iaload) := by decide +kernel
set_option maxRecDepth 100000 in
theorem f_188_1014 : xft 188 1014 = some (.aload_n 3) := by decide +kernel
set_option maxRecDepth 100000 in
theorem f_188_1015 : xft 188 1015 = some (.invokestatic 153) := by decide +kernel
set_option maxRecDepth 100000 in
theorem f_188_1018 : xft 188 1018 = some (.istore 5) := by decide +kernel
set_option maxRecDepth 100000 in
theorem f_188_1020 : xft 188 1020 = some (.aload_n 2) := by decide +kernel
set_option maxRecDepth 100000 in
theorem f_188_1021 : xft 188 1021 = some (.aload_n 0) := by decide +kernel
set_option maxRecDepth 100000 in
theorem f_188_1022 : xft 188 1022 = some (.iload 4) := by decide +kernel
set_option maxRecDepth 100000 in
theorem f_188_1024 : xft 188 1024 = some (.iconst 1) := by decide +kernel
set_option maxRecDepth 100000 in
theorem f_188_1025 : xft 188 1025 = some (.iadd) := by decide +kernel
set_option maxRecDepth 100000 in
theorem f_188_1026 : xft 188 1026 = some (.iaload) := by decide +kernel
set_option maxRecDepth 100000 in
theorem f_188_1027 : xft 188 1027 = some (.aload_n 0) := by decide +kernel
set_option maxRecDepth 100000 in
theorem f_188_1028 : xft 188 1028 = some (.iload 4) := by decide +kernel
set_option maxRecDepth 100000 in
theorem f_188_1030 : xft 188 1030 = some (.iconst 2) := by decide +kernel
set_option maxRecDepth 100000 in
theorem f_188_1031 : xft 188 1031 = some (.iadd) := by decide +kernel
set_option maxRecDepth 100000 in
theorem f_188_1032 : xft 188 1032 = some (.iaload) := by decide +kernel
set_option maxRecDepth 100000 in
theorem f_188_1033 : xft 188 1033 = some (.aload_n 0) := by decide +kernel
set_option maxRecDepth 100000 in
theorem f_188_1034 : xft 188 1034 = some (.iload 4) := by decide +kernel
set_option maxRecDepth 100000 in
theorem f_188_1036 : xft 188 1036 = some (.iconst 3) := by decide +kernel
set_option maxRecDepth 100000 in
theorem f_188_1037 : xft 188 1037 = some (.iadd) := by decide +kernel
set_option maxRecDepth 100000 in
theorem f_188_1038 : xft 188 1038 = some (.iaload) := by decide +kernel
set_option maxRecDepth 100000 in
theorem f_188_1039 : xft 188 1039 = some (.aload_n 0) := by decide +kernel
set_option maxRecDepth 100000 in
theorem f_188_1040 : xft 188 1040 = some (.iload 4) := by decide +kernel
set_option maxRecDepth 100000 in
theorem f_188_1042 : xft 188 1042 = some (.iconst 4) := by decide +kernel
set_option maxRecDepth 100000 in
theorem f_188_1043 : xft 188 1043 = some (.iadd) := by decide +kernel
set_option maxRecDepth 100000 in
theorem f_188_1044 : xft 188 1044 = some (.iaload) := by decide +kernel
set_option maxRecDepth 100000 in
theorem f_188_1045 : xft 188 1045 = some (.invokevirtual 155) := by decide +kernel
set_option maxRecDepth 100000 in
theorem f_188_1048 : xft 188 1048 = some (.istore 6) := by decide +kernel
set_option maxRecDepth 100000 in
theorem f_188_1050 : xft 188 1050 = some (.aload_n 2) := by decide +kernel
set_option maxRecDepth 100000 in
theorem f_188_1051 : xft 188 1051 = some (.invokevirtual 117) := by decide +kernel
set_option maxRecDepth 100000 in
theorem f_188_1054 : xft 188 1054 = some (.iload 5) := by decide +kernel
set_option maxRecDepth 100000 in
theorem f_188_1056 : xft 188 1056 = some (.if_icmp .eq 5) := by decide +kernel
set_option maxRecDepth 100000 in
theorem f_188_1059 : xft 188 1059 = some (.iconst 0) := by decide +kernel
set_option maxRecDepth 100000 in
theorem f_188_1060 : xft 188 1060 = some (.ireturn) := by decide +kernel
set_option maxRecDepth 100000 in
theorem f_188_1061 : xft 188 1061 = some (.iload 5) := by decide +kernel
set_option maxRecDepth 100000 in
theorem f_188_1063 : xft 188 1063 = some (.ifCond .ne 15) := by decide +kernel
set_option maxRecDepth 100000 in
theorem f_188_1066 : xft 188 1066 = some (.aload_n 3) := by decide +kernel
set_option maxRecDepth 100000 in
theorem f_188_1067 : xft 188 1067 = some (.iconst 0) := by decide +kernel
set_option maxRecDepth 100000 in
theorem f_188_1068 : xft 188 1068 = some (.laload) := by decide +kernel
set_option maxRecDepth 100000 in
theorem f_188_1069 : xft 188 1069 = some (.iload 6) := by decide +kernel
set_option maxRecDepth 100000 in
theorem f_188_1071 : xft 188 1071 = some (.i2l) := by decide +kernel
set_option maxRecDepth 100000 in
theorem f_188_1072 : xft 188 1072 = some (.lcmp) := by decide +kernel
set_option maxRecDepth 100000 in
theorem f_188_1073 : xft 188 1073 = some (.ifCond .eq 5) := by decide +kernel
set_option maxRecDepth 100000 in
theorem f_188_1076 : xft 188 1076 = some (.iconst 0) := by decide +kernel
set_option maxRecDepth 100000 in
theorem f_188_1077 : xft 188 1077 = some (.ireturn) := by decide +kernel
set_option maxRecDepth 100000 in
theorem f_188_1078 : xft 188 1078 = some (.goto 1390) := by decide +kernel
set_option maxRecDepth 100000 in
theorem f_188_1081 : xft 188 1081 = some (.aload_n 1) := by decide +kernel
set_option maxRecDepth 100000 in
theorem f_188_1082 : xft 188 1082 = some (.aload_n 0) := by decide +kernel
set_option maxRecDepth 100000 in
theorem f_188_1083 : xft 188 1083 = some (.iload 4) := by decide +kernel
set_option maxRecDepth 100000 in
theorem f_188_1085 : xft 188 1085 = some (.iconst 1) := by decide +kernel
set_option maxRecDepth 100000 in
theorem f_188_1086 : xft 188 1086 = some (.iadd) := by decide +kernel
set_option maxRecDepth 100000 in
theorem f_188_1087 : xft 188 1087 = some (.iaload) := by decide +kernel
set_option maxRecDepth 100000 in
theorem f_188_1088 : xft 188 1088 = some (.aload_n 0) := by decide +kernel
set_option maxRecDepth 100000 in
theorem f_188_1089 : xft 188 1089 = some (.iload 4) := by decide +kernel
set_option maxRecDepth 100000 in
theorem f_188_1091 : xft 188 1091 = some (.iconst 2) := by decide +kernel
set_option maxRecDepth 100000 in
theorem f_188_1092 : xft 188 1092 = some (.iadd) := by decide +kernel
set_option maxRecDepth 100000 in
theorem f_188_1093 : xft 188 1093 = some (.iaload) := by decide +kernel
set_option maxRecDepth 100000 in
theorem f_188_1094 : xft 188 1094 = some (.aload_n 0) := by decide +kernel
set_option maxRecDepth 100000 in
theorem f_188_1095 : xft 188 1095 = some (.iload 4) := by decide +kernel
set_option maxRecDepth 100000 in
theorem f_188_1097 : xft 188 1097 = some (.iconst 3) := by decide +kernel
set_option maxRecDepth 100000 in
theorem f_188_1098 : xft 188 1098 = some (.iadd) := by decide +kernel
set_option maxRecDepth 100000 in
theorem f_188_1099 : xft 188 1099 = some (.iaload) := by decide +kernel
set_option maxRecDepth 100000 in
theorem f_188_1100 : xft 188 1100 = some (.aload_n 3) := by decide +kernel
set_option maxRecDepth 100000 in
theorem f_188_1101 : xft 188 1101 = some (.invokestatic 156) := by decide +kernel
set_option maxRecDepth 100000 in
theorem f_188_1104 : xft 188 1104 = some (.istore 5) := by decide +kernel
set_option maxRecDepth 100000 in
theorem f_188_1106 : xft 188 1106 = some (.aload_n 2) := by decide +kernel
set_option maxRecDepth 100000 in
theorem f_188_1107 : xft 188 1107 = some (.aload_n 0) := by decide +kernel
set_option maxRecDepth 100000 in
theorem f_188_1108 : xft 188 1108 = some (.iload 4) := by decide +kernel
set_option maxRecDepth 100000 in
theorem f_188_1110 : xft 188 1110 = some (.iconst 1) := by decide +kernel
set_option maxRecDepth 100000 in
theorem f_188_1111 : xft 188 1111 = some (.iadd) := by decide +kernel
set_option maxRecDepth 100000 in
theorem f_188_1112 : xft 188 1112 = some (.iaload) := by decide +kernel
set_option maxRecDepth 100000 in
theorem f_188_1113 : xft 188 1113 = some (.aload_n 0) := by decide +kernel
set_option maxRecDepth 100000 in
theorem f_188_1114 : xft 188 1114 = some (.iload 4) := by decide +kernel
set_option maxRecDepth 100000 in
theorem f_188_1116 : xft 188 1116 = some (.iconst 2) := by decide +kernel
set_option maxRecDepth 100000 in
theorem f_188_1117 : xft 188 1117 = some (.iadd) := by decide +kernel
set_option maxRecDepth 100000 in
theorem f_188_1118 : xft 188 1118 = some (.iaload) := by decide +kernel
set_option maxRecDepth 100000 in
theorem f_188_1119 : xft 188 1119 = some (.aload_n 0) := by decide +kernel
set_option maxRecDepth 100000 in
theorem f_188_1120 : xft 188 1120 = some (.iload 4) := by decide +kernel
set_option maxRecDepth 100000 in
theorem f_188_1122 : xft 188 1122 = some (.iconst 3) := by decide +kernel
set_option maxRecDepth 100000 in
theorem f_188_1123 : xft 188 1123 = some (.iadd) := by decide +kernel
set_option maxRecDepth 100000 in
theorem f_188_1124 : xft 188 1124 = some (.iaload) := by decide +kernel
set_option maxRecDepth 100000 in
theorem f_188_1125 : xft 188 1125 = some (.invokevirtual 158) := by decide +kernel
set_option maxRecDepth 100000 in
theorem f_188_1128 : xft 188 1128 = some (.istore 6) := by decide +kernel
set_option maxRecDepth 100000 in
theorem f_188_1130 : xft 188 1130 = some (.aload_n 2) := by decide +kernel
set_option maxRecDepth 100000 in
theorem f_188_1131 : xft 188 1131 = some (.invokevirtual 117) := by decide +kernel
set_option maxRecDepth 100000 in
theorem f_188_1134 : xft 188 1134 = some (.iload 5) := by decide +kernel
set_option maxRecDepth 100000 in
theorem f_188_1136 : xft 188 1136 = some (.if_icmp .eq 5) := by decide +kernel
set_option maxRecDepth 100000 in
theorem f_188_1139 : xft 188 1139 = some (.iconst 0) := by decide +kernel
set_option maxRecDepth 100000 in
theorem f_188_1140 : xft 188 1140 = some (.ireturn) := by decide +kernel
set_option maxRecDepth 100000 in
theorem f_188_1141 : xft 188 1141 = some (.iload 5) := by decide +kernel
set_option maxRecDepth 100000 in
theorem f_188_1143 : xft 188 1143 = some (.ifCond .ne 15) := by decide +kernel
set_option maxRecDepth 100000 in
theorem f_188_1146 : xft 188 1146 = some (.aload_n 3) := by decide +kernel
set_option maxRecDepth 100000 in
theorem f_188_1147 : xft 188 1147 = some (.iconst 0) := by decide +kernel
set_option maxRecDepth 100000 in
theorem f_188_1148 : xft 188 1148 = some (.laload) := by decide +kernel
set_option maxRecDepth 100000 in
theorem f_188_1149 : xft 188 1149 = some (.iload 6) := by decide +kernel
set_option maxRecDepth 100000 in
theorem f_188_1151 : xft 188 1151 = some (.i2l) := by decide +kernel
set_option maxRecDepth 100000 in
theorem f_188_1152 : xft 188 1152 = some (.lcmp) := by decide +kernel
set_option maxRecDepth 100000 in
theorem f_188_1153 : xft 188 1153 = some (.ifCond .eq 5) := by decide +kernel
set_option maxRecDepth 100000 in
theorem f_188_1156 : xft 188 1156 = some (.iconst 0) := by decide +kernel
set_option maxRecDepth 100000 in
theorem f_188_1157 : xft 188 1157 = some (.ireturn) := by decide +kernel
set_option maxRecDepth 100000 in
theorem f_188_1158 : xft 188 1158 = some (.goto 1310) := by decide +kernel
set_option maxRecDepth 100000 in
theorem f_188_1161 : xft 188 1161 = some (.aload_n 1) := by decide +kernel
set_option maxRecDepth 100000 in
theorem f_188_1162 : xft 188 1162 = some (.aload_n 0) := by decide +kernel
set_option maxRecDepth 100000 in
theorem f_188_1163 : xft 188 1163 = some (.iload 4) := by decide +kernel
set_option maxRecDepth 100000 in
theorem f_188_1165 : xft 188 1165 = some (.iconst 1) := by decide +kernel
set_option maxRecDepth 100000 in
theorem f_188_1166 : xft 188 1166 = some (.iadd) := by decide +kernel
set_option maxRecDepth 100000 in
theorem f_188_1167 : xft 188 1167 = some (.iaload) := by decide +kernel
set_option maxRecDepth 100000 in
theorem f_188_1168 : xft 188 1168 = some (.aload_n 0) := by decide +kernel
set_option maxRecDepth 100000 in
theorem f_188_1169 : xft 188 1169 = some (.iload 4) := by decide +kernel
set_option maxRecDepth 100000 in
theorem f_188_1171 : xft 188 1171 = some (.iconst 2) := by decide +kernel
set_option maxRecDepth 100000 in
theorem f_188_1172 : xft 188 1172 = some (.iadd) := by decide +kernel
set_option maxRecDepth 100000 in
theorem f_188_1173 : xft 188 1173 = some (.iaload) := by decide +kernel
set_option maxRecDepth 100000 in
theorem f_188_1174 : xft 188 1174 = some (.aload_n 0) := by decide +kernel
set_option maxRecDepth 100000 in
theorem f_188_1175 : xft 188 1175 = some (.iload 4) := by decide +kernel
set_option maxRecDepth 100000 in
theorem f_188_1177 : xft 188 1177 = some (.iconst 3) := by decide +kernel
set_option maxRecDepth 100000 in
theorem f_188_1178 : xft 188 1178 = some (.iadd) := by decide +kernel
set_option maxRecDepth 100000 in
theorem f_188_1179 : xft 188 1179 = some (.iaload) := by decide +kernel
set_option maxRecDepth 100000 in
theorem f_188_1180 : xft 188 1180 = some (.aload_n 3) := by decide +kernel
set_option maxRecDepth 100000 in
theorem f_188_1181 : xft 188 1181 = some (.invokestatic 159) := by decide +kernel
set_option maxRecDepth 100000 in
theorem f_188_1184 : xft 188 1184 = some (.istore 5) := by decide +kernel
set_option maxRecDepth 100000 in
theorem f_188_1186 : xft 188 1186 = some (.aload_n 2) := by decide +kernel
set_option maxRecDepth 100000 in
theorem f_188_1187 : xft 188 1187 = some (.aload_n 0) := by decide +kernel
set_option maxRecDepth 100000 in
theorem f_188_1188 : xft 188 1188 = some (.iload 4) := by decide +kernel
set_option maxRecDepth 100000 in
theorem f_188_1190 : xft 188 1190 = some (.iconst 1) := by decide +kernel
set_option maxRecDepth 100000 in
theorem f_188_1191 : xft 188 1191 = some (.iadd) := by decide +kernel
set_option maxRecDepth 100000 in
theorem f_188_1192 : xft 188 1192 = some (.iaload) := by decide +kernel
set_option maxRecDepth 100000 in
theorem f_188_1193 : xft 188 1193 = some (.aload_n 0) := by decide +kernel
set_option maxRecDepth 100000 in
theorem f_188_1194 : xft 188 1194 = some (.iload 4) := by decide +kernel
set_option maxRecDepth 100000 in
theorem f_188_1196 : xft 188 1196 = some (.iconst 2) := by decide +kernel
set_option maxRecDepth 100000 in
theorem f_188_1197 : xft 188 1197 = some (.iadd) := by decide +kernel
set_option maxRecDepth 100000 in
theorem f_188_1198 : xft 188 1198 = some (.iaload) := by decide +kernel
set_option maxRecDepth 100000 in
theorem f_188_1199 : xft 188 1199 = some (.aload_n 0) := by decide +kernel
set_option maxRecDepth 100000 in
theorem f_188_1200 : xft 188 1200 = some (.iload 4) := by decide +kernel
set_option maxRecDepth 100000 in
theorem f_188_1202 : xft 188 1202 = some (.iconst 3) := by decide +kernel
set_option maxRecDepth 100000 in
theorem f_188_1203 : xft 188 1203 = some (.iadd) := by decide +kernel
set_option maxRecDepth 100000 in
theorem f_188_1204 : xft 188 1204 = some (.iaload) := by decide +kernel
set_option maxRecDepth 100000 in
theorem f_188_1205 : xft 188 1205 = some (.invokevirtual 161) := by decide +kernel
set_option maxRecDepth 100000 in
theorem f_188_1208 : xft 188 1208 = some (.istore 6) := by decide +kernel
set_option maxRecDepth 100000 in
theorem f_188_1210 : xft 188 1210 = some (.aload_n 2) := by decide +kernel
set_option maxRecDepth 100000 in
theorem f_188_1211 : xft 188 1211 = some (.invokevirtual 117) := by decide +kernel
set_option maxRecDepth 100000 in
theorem f_188_1214 : xft 188 1214 = some (.iload 5) := by decide +kernel
set_option maxRecDepth 100000 in
theorem f_188_1216 : xft 188 1216 = some (.if_icmp .eq 5) := by decide +kernel
set_option maxRecDepth 100000 in
theorem f_188_1219 : xft 188 1219 = some (.iconst 0) := by decide +kernel
set_option maxRecDepth 100000 in
theorem f_188_1220 : xft 188 1220 = some (.ireturn) := by decide +kernel
set_option maxRecDepth 100000 in
theorem f_188_1221 : xft 188 1221 = some (.iload 5) := by decide +kernel
set_option maxRecDepth 100000 in
theorem f_188_1223 : xft 188 1223 = some (.ifCond .ne 15) := by decide +kernel
set_option maxRecDepth 100000 in
theorem f_188_1226 : xft 188 1226 = some (.aload_n 3) := by decide +kernel
set_option maxRecDepth 100000 in
theorem f_188_1227 : xft 188 1227 = some (.iconst 0) := by decide +kernel
set_option maxRecDepth 100000 in
theorem f_188_1228 : xft 188 1228 = some (.laload) := by decide +kernel
set_option maxRecDepth 100000 in
theorem f_188_1229 : xft 188 1229 = some (.iload 6) := by decide +kernel
set_option maxRecDepth 100000 in
theorem f_188_1231 : xft 188 1231 = some (.i2l) := by decide +kernel
set_option maxRecDepth 100000 in
theorem f_188_1232 : xft 188 1232 = some (.lcmp) := by decide +kernel
set_option maxRecDepth 100000 in
theorem f_188_1233 : xft 188 1233 = some (.ifCond .eq 5) := by decide +kernel
set_option maxRecDepth 100000 in
theorem f_188_1236 : xft 188 1236 = some (.iconst 0) := by decide +kernel
set_option maxRecDepth 100000 in
theorem f_188_1237 : xft 188 1237 = some (.ireturn) := by decide +kernel
set_option maxRecDepth 100000 in
theorem f_188_1238 : xft 188 1238 = some (.goto 1230) := by decide +kernel
set_option maxRecDepth 100000 in
theorem f_188_1241 : xft 188 1241 = some (.aload_n 1) := by decide +kernel
set_option maxRecDepth 100000 in
theorem f_188_1242 : xft 188 1242 = some (.aload_n 0) := by decide +kernel
set_option maxRecDepth 100000 in
theorem f_188_1243 : xft 188 1243 = some (.iload 4) := by decide +kernel
set_option maxRecDepth 100000 in
theorem f_188_1245 : xft 188 1245 = some (.iconst 1) := by decide +kernel
set_option maxRecDepth 100000 in
theorem f_188_1246 : xft 188 1246 = some (.iadd) := by decide +kernel
set_option maxRecDepth 100000 in
theorem f_188_1247 : xft 188 1247 = some (.iaload) := by decide +kernel
set_option maxRecDepth 100000 in
theorem f_188_1248 : xft 188 1248 = some (.aload_n 0) := by decide +kernel
set_option maxRecDepth 100000 in
theorem f_188_1249 : xft 188 1249 = some (.iload 4) := by decide +kernel
set_option maxRecDepth 100000 in
theorem f_188_1251 : xft 188 1251 = some (.iconst 2) := by decide +kernel
set_option maxRecDepth 100000 in
theorem f_188_1252 : xft 188 1252 = some (.iadd) := by decide +kernel
set_option maxRecDepth 100000 in
theorem f_188_1253 : xft 188 1253 = some (.iaload) := by decide +kernel
set_option maxRecDepth 100000 in
theorem f_188_1254 : xft 188 1254 = some (.aload_n 3) := by decide +kernel
set_option maxRecDepth 100000 in
theorem f_188_1255 : xft 188 1255 = some (.invokestatic 162) := by decide +kernel
set_option maxRecDepth 100000 in
theorem f_188_1258 : xft 188 1258 = some (.istore 5) := by decide +kernel
set_option maxRecDepth 100000 in
theorem f_188_1260 : xft 188 1260 = some (.aload_n 2) := by decide +kernel
set_option maxRecDepth 100000 in
theorem f_188_1261 : xft 188 1261 = some (.aload_n 0) := by decide +kernel
set_option maxRecDepth 100000 in
theorem f_188_1262 : xft 188 1262 = some (.iload 4) := by decide +kernel
set_option maxRecDepth 100000 in
theorem f_188_1264 : xft 188 1264 = some (.iconst 1) := by decide +kernel
set_option maxRecDepth 100000 in
theorem f_188_1265 : xft 188 1265 = some (.iadd) := by decide +kernel
set_option maxRecDepth 100000 in
theorem f_188_1266 : xft 188 1266 = some (.iaload) := by decide +kernel
set_option maxRecDepth 100000 in
theorem f_188_1267 : xft 188 1267 = some (.aload_n 0) := by decide +kernel
set_option maxRecDepth 100000 in
theorem f_188_1268 : xft 188 1268 = some (.iload 4) := by decide +kernel
set_option maxRecDepth 100000 in
theorem f_188_1270 : xft 188 1270 = some (.iconst 2) := by decide +kernel
set_option maxRecDepth 100000 in
theorem f_188_1271 : xft 188 1271 = some (.iadd) := by decide +kernel
set_option maxRecDepth 100000 in
theorem f_188_1272 : xft 188 1272 = some (.iaload) := by decide +kernel
set_option maxRecDepth 100000 in
theorem f_188_1273 : xft 188 1273 = some (.invokevirtual 164) := by decide +kernel
set_option maxRecDepth 100000 in
theorem f_188_1276 : xft 188 1276 = some (.istore 6) := by decide +kernel
set_option maxRecDepth 100000 in
theorem f_188_1278 : xft 188 1278 = some (.aload_n 2) := by decide +kernel
set_option maxRecDepth 100000 in
theorem f_188_1279 : xft 188 1279 = some (.invokevirtual 117) := by decide +kernel
set_option maxRecDepth 100000 in
theorem f_188_1282 : xft 188 1282 = some (.iload 5) := by decide +kernel
set_option maxRecDepth 100000 in
theorem f_188_1284 : xft 188 1284 = some (.if_icmp .eq 5) := by decide +kernel
set_option maxRecDepth 100000 in
theorem f_188_1287 : xft 188 1287 = some (.iconst 0) := by decide +kernel
set_option maxRecDepth 100000 in
theorem f_188_1288 : xft 188 1288 = some (.ireturn) := by decide +kernel
set_option maxRecDepth 100000 in
theorem f_188_1289 : xft 188 1289 = some (.iload 5) := by decide +kernel
set_option maxRecDepth 100000 in
theorem f_188_1291 : xft 188 1291 = some (.ifCond .ne 15) := by decide +kernel
set_option maxRecDepth 100000 in
theorem f_188_1294 : xft 188 1294 = some (.aload_n 3) := by decide +kernel
set_option maxRecDepth 100000 in
theorem f_188_1295 : xft 188 1295 = some (.iconst 0) := by decide +kernel
set_option maxRecDepth 100000 in
theorem f_188_1296 : xft 188 1296 = some (.laload) := by decide +kernel
set_option maxRecDepth 100000 in
theorem f_188_1297 : xft 188 1297 = some (.iload 6) := by decide +kernel
set_option maxRecDepth 100000 in
theorem f_188_1299 : xft 188 1299 = some (.i2l) := by decide +kernel
set_option maxRecDepth 100000 in
theorem f_188_1300 : xft 188 1300 = some (.lcmp) := by decide +kernel
set_option maxRecDepth 100000 in
theorem f_188_1301 : xft 188 1301 = some (.ifCond .eq 5) := by decide +kernel
set_option maxRecDepth 100000 in
theorem f_188_1304 : xft 188 1304 = some (.iconst 0) := by decide +kernel
set_option maxRecDepth 100000 in
theorem f_188_1305 : xft 188 1305 = some (.ireturn) := by decide +kernel
set_option maxRecDepth 100000 in
theorem f_188_1306 : xft 188 1306 = some (.goto 1162) := by decide +kernel
set_option maxRecDepth 100000 in
theorem f_188_1309 : xft 188 1309 = some (.aload_n 1) := by decide +kernel
set_option maxRecDepth 100000 in
theorem f_188_1310 : xft 188 1310 = some (.aload_n 0) := by decide +kernel
set_option maxRecDepth 100000 in
theorem f_188_1311 : xft 188 1311 = some (.iload 4) := by decide +kernel
set_option maxRecDepth 100000 in
theorem f_188_1313 : xft 188 1313 = some (.iconst 1) := by decide +kernel
set_option maxRecDepth 100000 in
theorem f_188_1314 : xft 188 1314 = some (.iadd) := by decide +kernel
set_option maxRecDepth 100000 in
theorem f_188_1315 : xft 188 1315 = some (.iaload) := by decide +kernel
set_option maxRecDepth 100000 in
theorem f_188_1316 : xft 188 1316 = some (.aload_n 3) := by decide +kernel
set_option maxRecDepth 100000 in
theorem f_188_1317 : xft 188 1317 = some (.invokestatic 165) := by decide +kernel
set_option maxRecDepth 100000 in
theorem f_188_1320 : xft 188 1320 = some (.istore 5) := by decide +kernel
set_option maxRecDepth 100000 in
theorem f_188_1322 : xft 188 1322 = some (.aload_n 2) := by decide +kernel
set_option maxRecDepth 100000 in
theorem f_188_1323 : xft 188 1323 = some (.aload_n 0) := by decide +kernel
set_option maxRecDepth 100000 in
theorem f_188_1324 : xft 188 1324 = some (.iload 4) := by decide +kernel
set_option maxRecDepth 100000 in
theorem f_188_1326 : xft 188 1326 = some (.iconst 1) := by decide +kernel
set_option maxRecDepth 100000 in
theorem f_188_1327 : xft 188 1327 = some (.iadd) := by decide +kernel
set_option maxRecDepth 100000 in
theorem f_188_1328 : xft 188 1328 = some (.iaload) := by decide +kernel
set_option maxRecDepth 100000 in
theorem f_188_1329 : xft 188 1329 = some (.invokevirtual 167) := by decide +kernel
set_option maxRecDepth 100000 in
theorem f_188_1332 : xft 188 1332 = some (.istore 6) := by decide +kernel
set_option maxRecDepth 100000 in
theorem f_188_1334 : xft 188 1334 = some (.aload_n 2) := by decide +kernel
set_option maxRecDepth 100000 in
theorem f_188_1335 : xft 188 1335 = some (.invokevirtual 117) := by decide +kernel
set_option maxRecDepth 100000 in
theorem f_188_1338 : xft 188 1338 = some (.iload 5) := by decide +kernel
set_option maxRecDepth 100000 in
theorem f_188_1340 : xft 188 1340 = some (.if_icmp .eq 5) := by decide +kernel
set_option maxRecDepth 100000 in
theorem f_188_1343 : xft 188 1343 = some (.iconst 0) := by decide +kernel
set_option maxRecDepth 100000 in
theorem f_188_1344 : xft 188 1344 = some (.ireturn) := by decide +kernel
set_option maxRecDepth 100000 in
theorem f_188_1345 : xft 188 1345 = some (.iload 5) := by decide +kernel
set_option maxRecDepth 100000 in
theorem f_188_1347 : xft 188 1347 = some (.ifCond .ne 15) := by decide +kernel
set_option maxRecDepth 100000 in
theorem f_188_1350 : xft 188 1350 = some (.aload_n 3) := by decide +kernel
set_option maxRecDepth 100000 in
theorem f_188_1351 : xft 188 1351 = some (.iconst 0) := by decide +kernel
set_option maxRecDepth 100000 in
theorem f_188_1352 : xft 188 1352 = some (.laload) := by decide +kernel
set_option maxRecDepth 100000 in
theorem f_188_1353 : xft 188 1353 = some (.iload 6) := by decide +kernel
set_option maxRecDepth 100000 in
theorem f_188_1355 : xft 188 1355 = some (.i2l) := by decide +kernel
set_option maxRecDepth 100000 in
theorem f_188_1356 : xft 188 1356 = some (.lcmp) := by decide +kernel
set_option maxRecDepth 100000 in
theorem f_188_1357 : xft 188 1357 = some (.ifCond .eq 5) := by decide +kernel
set_option maxRecDepth 100000 in
theorem f_188_1360 : xft 188 1360 = some (.iconst 0) := by decide +kernel
set_option maxRecDepth 100000 in
theorem f_188_1361 : xft 188 1361 = some (.ireturn) := by decide +kernel
set_option maxRecDepth 100000 in
theorem f_188_1362 : xft 188 1362 = some (.goto 1106) := by decide +kernel
set_option maxRecDepth 100000 in
theorem f_188_1365 : xft 188 1365 = some (.aload_n 1) := by decide +kernel
set_option maxRecDepth 100000 in
theorem f_188_1366 : xft 188 1366 = some (.aload_n 0) := by decide +kernel
set_option maxRecDepth 100000 in
theorem f_188_1367 : xft 188 1367 = some (.iload 4) := by decide +kernel
set_option maxRecDepth 100000 in
theorem f_188_1369 : xft 188 1369 = some (.iconst 1) := by decide +kernel
set_option maxRecDepth 100000 in
theorem f_188_1370 : xft 188 1370 = some (.iadd) := by decide +kernel
set_option maxRecDepth 100000 in
theorem f_188_1371 : xft 188 1371 = some (.iaload) := by decide +kernel
set_option maxRecDepth 100000 in
theorem f_188_1372 : xft 188 1372 = some (.aload_n 0) := by decide +kernel
set_option maxRecDepth 100000 in
theorem f_188_1373 : xft 188 1373 = some (.iload 4) := by decide +kernel
set_option maxRecDepth 100000 in
theorem f_188_1375 : xft 188 1375 = some (.iconst 2) := by decide +kernel
set_option maxRecDepth 100000 in
theorem f_188_1376 : xft 188 1376 = some (.iadd) := by decide +kernel
set_option maxRecDepth 100000 in
theorem f_188_1377 : xft 188 1377 = some (.iaload) := by decide +kernel
set_option maxRecDepth 100000 in
theorem f_188_1378 : xft 188 1378 = some (.aload_n 0) := by decide +kernel
set_option maxRecDepth 100000 in
theorem f_188_1379 : xft 188 1379 = some (.iload 4) := by decide +kernel
set_option maxRecDepth 100000 in
theorem f_188_1381 : xft 188 1381 = some (.iconst 3) := by decide +kernel
set_option maxRecDepth 100000 in
theorem f_188_1382 : xft 188 1382 = some (.iadd) := by decide +kernel
set_option maxRecDepth 100000 in
theorem f_188_1383 : xft 188 1383 = some (.iaload) := by decide +kernel
set_option maxRecDepth 100000 in
theorem f_188_1384 : xft 188 1384 = some (.aload_n 0) := by decide +kernel
set_option maxRecDepth 100000 in
theorem f_188_1385 : xft 188 1385 = some (.iload 4) := by decide +kernel
set_option maxRecDepth 100000 in
theorem f_188_1387 : xft 188 1387 = some (.iconst 4) := by decide +kernel
set_option maxRecDepth 100000 in
theorem f_188_1388 : xft 188 1388 = some (.iadd) := by decide +kernel
set_option maxRecDepth 100000 in
theorem f_188_1389 : xft 188 1389 = some (.iaload) := by decide +kernel
set_option maxRecDepth 100000 in
theorem f_188_1390 : xft 188 1390 = some (.aload_n 3) := by decide +kernel
set_option maxRecDepth 100000 in
theorem f_188_1391 : xft 188 1391 = some (.invokestatic 168) := by decide +kernel
set_option maxRecDepth 100000 in
theorem f_188_1394 : xft 188 1394 = some (.istore 5) := by decide +kernel
set_option maxRecDepth 100000 in
theorem f_188_1396 : xft 188 1396 = some (.aload_n 2) := by decide +kernel
set_option maxRecDepth 100000 in
theorem f_188_1397 : xft 188 1397 = some (.aload_n 0) := by decide +kernel
set_option maxRecDepth 100000 in
theorem f_188_1398 : xft 188 1398 = some (.iload 4) := by decide +kernel
set_option maxRecDepth 100000 in
theorem f_188_1400 : xft 188 1400 = some (.iconst 1) := by decide +kernel
set_option maxRecDepth 100000 in
theorem f_188_1401 : xft 188 1401 = some (.iadd) := by decide +kernel
set_option maxRecDepth 100000 in
theorem f_188_1402 : xft 188 1402 = some (.iaload) := by decide +kernel
set_option maxRecDepth 100000 in
theorem f_188_1403 : xft 188 1403 = some (.aload_n 0) := by decide +kernel
set_option maxRecDepth 100000 in
theorem f_188_1404 : xft 188 1404 = some (.iload 4) := by decide +kernel
set_option maxRecDepth 100000 in
theorem f_188_1406 : xft 188 1406 = some (.iconst 2) := by decide +kernel
set_option maxRecDepth 100000 in
theorem f_188_1407 : xft 188 1407 = some (.iadd) := by decide +kernel
set_option maxRecDepth 100000 in
theorem f_188_1408 : xft 188 1408 = some (.iaload) := by decide +kernel
set_option maxRecDepth 100000 in
theorem f_188_1409 : xft 188 1409 = some (.aload_n 0) := by decide +kernel
set_option maxRecDepth 100000 in
theorem f_188_1410 : xft 188 1410 = some (.iload 4) := by decide +kernel
set_option maxRecDepth 100000 in
theorem f_188_1412 : xft 188 1412 = some (.iconst 3) := by decide +kernel
set_option maxRecDepth 100000 in
theorem f_188_1413 : xft 188 1413 = some (.iadd) := by decide +kernel
set_option maxRecDepth 100000 in
theorem f_188_1414 : xft 188 1414 = some (.iaload) := by decide +kernel
set_option maxRecDepth 100000 in
theorem f_188_1415 : xft 188 1415 = some (.aload_n 0) := by decide +kernel
set_option maxRecDepth 100000 in
theorem f_188_1416 : xft 188 1416 = some (.iload 4) := by decide +kernel
set_option maxRecDepth 100000 in
theorem f_188_1418 : xft 188 1418 = some (.iconst 4) := by decide +kernel
set_option maxRecDepth 100000 in
theorem f_188_1419 : xft 188 1419 = some (.iadd) := by decide +kernel
set_option maxRecDepth 100000 in
theorem f_188_1420 : xft 188 1420 = some (.iaload) := by decide +kernel
set_option maxRecDepth 100000 in
theorem f_188_1421 : xft 188 1421 = some (.invokevirtual 170) := by decide +kernel
set_option maxRecDepth 100000 in
theorem f_188_1424 : xft 188 1424 = some (.istore 6) := by decide +kernel
set_option maxRecDepth 100000 in
theorem f_188_1426 : xft 188 1426 = some (.aload_n 2) := by decide +kernel
set_option maxRecDepth 100000 in
theorem f_188_1427 : xft 188 1427 = some (.invokevirtual 117) := by decide +kernel
set_option maxRecDepth 100000 in
theorem f_188_1430 : xft 188 1430 = some (.iload 5) := by decide +kernel
set_option maxRecDepth 100000 in
theorem f_188_1432 : xft 188 1432 = some (.if_icmp .eq 5) := by decide +kernel
set_option maxRecDepth 100000 in
theorem f_188_1435 : xft 188 1435 = some (.iconst 0) := by decide +kernel
set_option maxRecDepth 100000 in
theorem f_188_1436 : xft 188 1436 = some (.ireturn) := by decide +kernel
set_option maxRecDepth 100000 in
theorem f_188_1437 : xft 188 1437 = some (.iload 5) := by decide +kernel
set_option maxRecDepth 100000 in
theorem f_188_1439 : xft 188 1439 = some (.ifCond .ne 15) := by decide +kernel
set_option maxRecDepth 100000 in
theorem f_188_1442 : xft 188 1442 = some (.aload_n 3) := by decide +kernel
set_option maxRecDepth 100000 in
theorem f_188_1443 : xft 188 1443 = some (.iconst 0) := by decide +kernel
set_option maxRecDepth 100000 in
theorem f_188_1444 : xft 188 1444 = some (.laload) := by decide +kernel
set_option maxRecDepth 100000 in
theorem f_188_1445 : xft 188 1445 = some (.iload 6) := by decide +kernel
set_option maxRecDepth 100000 in
theorem f_188_1447 : xft 188 1447 = some (.i2l) := by decide +kernel
set_option maxRecDepth 100000 in
theorem f_188_1448 : xft 188 1448 = some (.lcmp) := by decide +kernel
set_option maxRecDepth 100000 in
theorem f_188_1449 : xft 188 1449 = some (.ifCond .eq 5) := by decide +kernel
set_option maxRecDepth 100000 in
theorem f_188_1452 : xft 188 1452 = some (.iconst 0) := by decide +kernel
set_option maxRecDepth 100000 in
theorem f_188_1453 : xft 188 1453 = some (.ireturn) := by decide +kernel
set_option maxRecDepth 100000 in
theorem f_188_1454 : xft 188 1454 = some (.goto 1014) := by decide +kernel
set_option maxRecDepth 100000 in
theorem f_188_1457 : xft 188 1457 = some (.aload_n 1) := by decide +kernel
set_option maxRecDepth 100000 in
theorem f_188_1458 : xft 188 1458 = some (.aload_n 0) := by decide +kernel
set_option maxRecDepth 100000 in
theorem f_188_1459 : xft 188 1459 = some (.iload 4) := by decide +kernel
set_option maxRecDepth 100000 in
theorem f_188_1461 : xft 188 1461 = some (.iconst 1) := by decide +kernel
set_option maxRecDepth 100000 in
theorem f_188_1462 : xft 188 1462 = some (.iadd) := by decide +kernel
set_option maxRecDepth 100000 in
theorem f_188_1463 : xft 188 1463 = some (.iaload) := by decide +kernel
set_option maxRecDepth 100000 in
theorem f_188_1464 : xft 188 1464 = some (.aload_n 0) := by decide +kernel
set_option maxRecDepth 100000 in
theorem f_188_1465 : xft 188 1465 = some (.iload 4) := by decide +kernel
set_option maxRecDepth 100000 in
theorem f_188_1467 : xft 188 1467 = some (.iconst 2) := by decide +kernel
set_option maxRecDepth 100000 in
theorem f_188_1468 : xft 188 1468 = some (.iadd) := by decide +kernel
set_option maxRecDepth 100000 in
theorem f_188_1469 : xft 188 1469 = some (.iaload) := by decide +kernel
set_option maxRecDepth 100000 in
theorem f_188_1470 : xft 188 1470 = some (.aload_n 0) := by decide +kernel
set_option maxRecDepth 100000 in
theorem f_188_1471 : xft 188 1471 = some (.iload 4) := by decide +kernel
set_option maxRecDepth 100000 in
theorem f_188_1473 : xft 188 1473 = some (.iconst 3) := by decide +kernel
set_option maxRecDepth 100000 in
theorem f_188_1474 : xft 188 1474 = some (.iadd) := by decide +kernel
set_option maxRecDepth 100000 in
theorem f_188_1475 : xft 188 1475 = some (.iaload) := by decide +kernel
set_option maxRecDepth 100000 in
theorem f_188_1476 : xft 188 1476 = some (.aload_n 3) := by decide +kernel
set_option maxRecDepth 100000 in
theorem f_188_1477 : xft 188 1477 = some (.invokestatic 171) := by decide +kernel
set_option maxRecDepth 100000 in
theorem f_188_1480 : xft 188 1480 = some (.istore 5) := by decide +kernel
set_option maxRecDepth 100000 in
theorem f_188_1482 : xft 188 1482 = some (.aload_n 2) := by decide +kernel
set_option maxRecDepth 100000 in
theorem f_188_1483 : xft 188 1483 = some (.aload_n 0) := by decide +kernel
set_option maxRecDepth 100000 in
theorem f_188_1484 : xft 188 1484 = some (.iload 4) := by decide +kernel
set_option maxRecDepth 100000 in
theorem f_188_1486 : xft 188 1486 = some (.iconst 1) := by decide +kernel
set_option maxRecDepth 100000 in
theorem f_188_1487 : xft 188 1487 = some (.iadd) := by decide +kernel
set_option maxRecDepth 100000 in
theorem f_188_1488 : xft 188 1488 = some (.iaload) := by decide +kernel
set_option maxRecDepth 100000 in
theorem f_188_1489 : xft 188 1489 = some (.aload_n 0) := by decide +kernel
set_option maxRecDepth 100000 in
theorem f_188_1490 : xft 188 1490 = some (.iload 4) := by decide +kernel
set_option maxRecDepth 100000 in
theorem f_188_1492 : xft 188 1492 = some (.iconst 2) := by decide +kernel
set_option maxRecDepth 100000 in
theorem f_188_1493 : xft 188 1493 = some (.iadd) := by decide +kernel
set_option maxRecDepth 100000 in
theorem f_188_1494 : xft 188 1494 = some (.iaload) := by decide +kernel
set_option maxRecDepth 100000 in
theorem f_188_1495 : xft 188 1495 = some (.aload_n 0) := by decide +kernel
set_option maxRecDepth 100000 in
theorem f_188_1496 : xft 188 1496 = some (.iload 4) := by decide +kernel
set_option maxRecDepth 100000 in
theorem f_188_1498 : xft 188 1498 = some (.iconst 3) := by decide +kernel
set_option maxRecDepth 100000 in
theorem f_188_1499 : xft 188 1499 = some (.iadd) := by decide +kernel
set_option maxRecDepth 100000 in
theorem f_188_1500 : xft 188 1500 = some (.iaload) := by decide +kernel
set_option maxRecDepth 100000 in
theorem f_188_1501 : xft 188 1501 = some (.invokevirtual 173) := by decide +kernel
set_option maxRecDepth 100000 in
theorem f_188_1504 : xft 188 1504 = some (.istore 6) := by decide +kernel
set_option maxRecDepth 100000 in
theorem f_188_1506 : xft 188 1506 = some (.aload_n 2) := by decide +kernel
set_option maxRecDepth 100000 in
theorem f_188_1507 : xft 188 1507 = some (.invokevirtual 117) := by decide +kernel
set_option maxRecDepth 100000 in
theorem f_188_1510 : xft 188 1510 = some (.iload 5) := by decide +kernel
set_option maxRecDepth 100000 in
theorem f_188_1512 : xft 188 1512 = some (.if_icmp .eq 5) := by decide +kernel
set_option maxRecDepth 100000 in
theorem f_188_1515 : xft 188 1515 = some (.iconst 0) := by decide +kernel
set_option maxRecDepth 100000 in
theorem f_188_1516 : xft 188 1516 = some (.ireturn) := by decide +kernel
set_option maxRecDepth 100000 in
theorem f_188_1517 : xft 188 1517 = some (.iload 5) := by decide +kernel
set_option maxRecDepth 100000 in
theorem f_188_1519 : xft 188 1519 = some (.ifCond .ne 15) := by decide +kernel
set_option maxRecDepth 100000 in
theorem f_188_1522 : xft 188 1522 = some (.aload_n 3) := by decide +kernel
set_option maxRecDepth 100000 in
theorem f_188_1523 : xft 188 1523 = some (.iconst 0) := by decide +kernel
set_option maxRecDepth 100000 in
theorem f_188_1524 : xft 188 1524 = some (.laload) := by decide +kernel
set_option maxRecDepth 100000 in
theorem f_188_1525 : xft 188 1525 = some (.iload 6) := by decide +kernel
set_option maxRecDepth 100000 in
theorem f_188_1527 : xft 188 1527 = some (.i2l) := by decide +kernel
set_option maxRecDepth 100000 in
theorem f_188_1528 : xft 188 1528 = some (.lcmp) := by decide +kernel
set_option maxRecDepth 100000 in
theorem f_188_1529 : xft 188 1529 = some (.ifCond .eq 5) := by decide +kernel
set_option maxRecDepth 100000 in
theorem f_188_1532 : xft 188 1532 = some (.iconst 0) := by decide +kernel
set_option maxRecDepth 100000 in
theorem f_188_1533 : xft 188 1533 = some (.ireturn) := by decide +kernel
set_option maxRecDepth 100000 in
theorem f_188_1534 : xft 188 1534 = some (.goto 934) := by decide +kernel
set_option maxRecDepth 100000 in
theorem f_188_1537 : xft 188 1537 = some (.aload_n 1) := by decide +kernel
set_option maxRecDepth 100000 in
theorem f_188_1538 : xft 188 1538 = some (.aload_n 0) := by decide +kernel
set_option maxRecDepth 100000 in
theorem f_188_1539 : xft 188 1539 = some (.iload 4) := by decide +kernel
set_option maxRecDepth 100000 in
theorem f_188_1541 : xft 188 1541 = some (.iconst 1) := by decide +kernel
set_option maxRecDepth 100000 in
theorem f_188_1542 : xft 188 1542 = some (.iadd) := by decide +kernel
set_option maxRecDepth 100000 in
theorem f_188_1543 : xft 188 1543 = some (.iaload) := by decide +kernel
set_option maxRecDepth 100000 in
theorem f_188_1544 : xft 188 1544 = some (.aload_n 0) := by decide +kernel
set_option maxRecDepth 100000 in
theorem f_188_1545 : xft 188 1545 = some (.iload 4) := by decide +kernel
set_option maxRecDepth 100000 in
theorem f_188_1547 : xft 188 1547 = some (.iconst 2) := by decide +kernel
set_option maxRecDepth 100000 in
theorem f_188_1548 : xft 188 1548 = some (.iadd) := by decide +kernel
set_option maxRecDepth 100000 in
theorem f_188_1549 : xft 188 1549 = some (.iaload) := by decide +kernel
set_option maxRecDepth 100000 in
theorem f_188_1550 : xft 188 1550 = some (.aload_n 0) := by decide +kernel
set_option maxRecDepth 100000 in
theorem f_188_1551 : xft 188 1551 = some (.iload 4) := by decide +kernel
set_option maxRecDepth 100000 in
theorem f_188_1553 : xft 188 1553 = some (.iconst 3) := by decide +kernel
set_option maxRecDepth 100000 in
theorem f_188_1554 : xft 188 1554 = some (.iadd) := by decide +kernel
set_option maxRecDepth 100000 in
theorem f_188_1555 : xft 188 1555 = some (.iaload) := by decide +kernel
set_option maxRecDepth 100000 in
theorem f_188_1556 : xft 188 1556 = some (.aload_n 3) := by decide +kernel
set_option maxRecDepth 100000 in
theorem f_188_1557 : xft 188 1557 = some (.invokestatic 174) := by decide +kernel
set_option maxRecDepth 100000 in
theorem f_188_1560 : xft 188 1560 = some (.istore 5) := by decide +kernel
set_option maxRecDepth 100000 in
theorem f_188_1562 : xft 188 1562 = some (.aload_n 2) := by decide +kernel
set_option maxRecDepth 100000 in
theorem f_188_1563 : xft 188 1563 = some (.aload_n 0) := by decide +kernel
set_option maxRecDepth 100000 in
theorem f_188_1564 : xft 188 1564 = some (.iload 4) := by decide +kernel
set_option maxRecDepth 100000 in
theorem f_188_1566 : xft 188 1566 = some (.iconst 1) := by decide +kernel
set_option maxRecDepth 100000 in
theorem f_188_1567 : xft 188 1567 = some (.iadd) := by decide +kernel
set_option maxRecDepth 100000 in
theorem f_188_1568 : xft 188 1568 = some (.iaload) := by decide +kernel
set_option maxRecDepth 100000 in
theorem f_188_1569 : xft 188 1569 = some (.aload_n 0) := by decide +kernel
set_option maxRecDepth 100000 in
theorem f_188_1570 : xft 188 1570 = some (.iload 4) := by decide +kernel
set_option maxRecDepth 100000 in
theorem f_188_1572 : xft 188 1572 = some (.iconst 2) := by decide +kernel
set_option maxRecDepth 100000 in
theorem f_188_1573 : xft 188 1573 = some (.iadd) := by decide +kernel
set_option maxRecDepth 100000 in
theorem f_188_1574 : xft 188 1574 = some (.iaload) := by decide +kernel
set_option maxRecDepth 100000 in
theorem f_188_1575 : xft 188 1575 = some (.aload_n 0) := by decide +kernel
set_option maxRecDepth 100000 in
theorem f_188_1576 : xft 188 1576 = some (.iload 4) := by decide +kernel
set_option maxRecDepth 100000 in
theorem f_188_1578 : xft 188 1578 = some (.iconst 3) := by decide +kernel
set_option maxRecDepth 100000 in
theorem f_188_1579 : xft 188 1579 = some (.iadd) := by decide +kernel
set_option maxRecDepth 100000 in
theorem f_188_1580 : xft 188 1580 = some (.iaload) := by decide +kernel
set_option maxRecDepth 100000 in
theorem f_188_1581 : xft 188 1581 = some (.invokevirtual 176) := by decide +kernel
set_option maxRecDepth 100000 in
theorem f_188_1584 : xft 188 1584 = some (.istore 6) := by decide +kernel
set_option maxRecDepth 100000 in
theorem f_188_1586 : xft 188 1586 = some (.aload_n 2) := by decide +kernel
set_option maxRecDepth 100000 in
theorem f_188_1587 : xft 188 1587 = some (.invokevirtual 117) := by decide +kernel
set_option maxRecDepth 100000 in
theorem f_188_1590 : xft 188 1590 = some (.iload 5) := by decide +kernel
set_option maxRecDepth 100000 in
theorem f_188_1592 : xft 188 1592 = some (.if_icmp .eq 5) := by decide +kernel
set_option maxRecDepth 100000 in
theorem f_188_1595 : xft 188 1595 = some (.iconst 0) := by decide +kernel
set_option maxRecDepth 100000 in
theorem f_188_1596 : xft 188 1596 = some (.ireturn) := by decide +kernel
set_option maxRecDepth 100000 in
theorem f_188_1597 : xft 188 1597 = some (.iload 5) := by decide +kernel
set_option maxRecDepth 100000 in
theorem f_188_1599 : xft 188 1599 = some (.ifCond .ne 15) := by decide +kernel
set_option maxRecDepth 100000 in
theorem f_188_1602 : xft 188 1602 = some (.aload_n 3) := by decide +kernel
set_option maxRecDepth 100000 in
theorem f_188_1603 : xft 188 1603 = some (.iconst 0) := by decide +kernel
set_option maxRecDepth 100000 in
theorem f_188_1604 : xft 188 1604 = some (.laload) := by decide +kernel
set_option maxRecDepth 100000 in
theorem f_188_1605 : xft 188 1605 = some (.iload 6) := by decide +kernel
set_option maxRecDepth 100000 in
theorem f_188_1607 : xft 188 1607 = some (.i2l) := by decide +kernel
set_option maxRecDepth 100000 in
theorem f_188_1608 : xft 188 1608 = some (.lcmp) := by decide +kernel
set_option maxRecDepth 100000 in
theorem f_188_1609 : xft 188 1609 = some (.ifCond .eq 5) := by decide +kernel
set_option maxRecDepth 100000 in
theorem f_188_1612 : xft 188 1612 = some (.iconst 0) := by decide +kernel
set_option maxRecDepth 100000 in
theorem f_188_1613 : xft 188 1613 = some (.ireturn) := by decide +kernel
set_option maxRecDepth 100000 in
theorem f_188_1614 : xft 188 1614 = some (.goto 854) := by decide +kernel
set_option maxRecDepth 100000 in
theorem f_188_1617 : xft 188 1617 = some (.aload_n 1) := by decide +kernel
set_option maxRecDepth 100000 in
theorem f_188_1618 : xft 188 1618 = some (.aload_n 0) := by decide +kernel
set_option maxRecDepth 100000 in
theorem f_188_1619 : xft 188 1619 = some (.iload 4) := by decide +kernel
set_option maxRecDepth 100000 in
theorem f_188_1621 : xft 188 1621 = some (.iconst 1) := by decide +kernel
set_option maxRecDepth 100000 in
theorem f_188_1622 : xft 188 1622 = some (.iadd) := by decide +kernel
set_option maxRecDepth 100000 in
theorem f_188_1623 : xft 188 1623 = some (.iaload) := by decide +kernel
set_option maxRecDepth 100000 in
theorem f_188_1624 : xft 188 1624 = some (.aload_n 0) := by decide +kernel
set_option maxRecDepth 100000 in
theorem f_188_1625 : xft 188 1625 = some (.iload 4) := by decide +kernel
set_option maxRecDepth 100000 in
theorem f_188_1627 : xft 188 1627 = some (.iconst 2) := by decide +kernel
set_option maxRecDepth 100000 in
theorem f_188_1628 : xft 188 1628 = some (.iadd) := by decide +kernel
set_option maxRecDepth 100000 in
theorem f_188_1629 : xft 188 1629 = some (.iaload) := by decide +kernel
set_option maxRecDepth 100000 in
theorem f_188_1630 : xft 188 1630 = some (.aload_n 0) := by decide +kernel
set_option maxRecDepth 100000 in
theorem f_188_1631 : xft 188 1631 = some (.iload 4) := by decide +kernel
set_option maxRecDepth 100000 in
theorem f_188_1633 : xft 188 1633 = some (.iconst 3) := by decide +kernel
set_option maxRecDepth 100000 in
theorem f_188_1634 : xft 188 1634 = some (.iadd) := by decide +kernel
set_option maxRecDepth 100000 in
theorem f_188_1635 : xft 188 1635 = some (.iaload) := by decide +kernel
set_option maxRecDepth 100000 in
theorem f_188_1636 : xft 188 1636 = some (.aload_n 3) := by decide +kernel
set_option maxRecDepth 100000 in
theorem f_188_1637 : xft 188 1637 = some (.invokestatic 177) := by decide +kernel
set_option maxRecDepth 100000 in
theorem f_188_1640 : xft 188 1640 = some (.istore 5) := by decide +kernel
set_option maxRecDepth 100000 in
theorem f_188_1642 : xft 188 1642 = some (.aload_n 2) := by decide +kernel
set_option maxRecDepth 100000 in
theorem f_188_1643 : xft 188 1643 = some (.aload_n 0) := by decide +kernel
set_option maxRecDepth 100000 in
theorem f_188_1644 : xft 188 1644 = some (.iload 4) := by decide +kernel
set_option maxRecDepth 100000 in
theorem f_188_1646 : xft 188 1646 = some (.iconst 1) := by decide +kernel
set_option maxRecDepth 100000 in
theorem f_188_1647 : xft 188 1647 = some (.iadd) := by decide +kernel
set_option maxRecDepth 100000 in
theorem f_188_1648 : xft 188 1648 = some (.iaload) := by decide +kernel
set_option maxRecDepth 100000 in
theorem f_188_1649 : xft 188 1649 = some (.aload_n 0) := by decide +kernel
set_option maxRecDepth 100000 in
theorem f_188_1650 : xft 188 1650 = some (.iload 4) := by decide +kernel
set_option maxRecDepth 100000 in
theorem f_188_1652 : xft 188 1652 = some (.iconst 2) := by decide +kernel
set_option maxRecDepth 100000 in
theorem f_188_1653 : xft 188 1653 = some (.iadd) := by decide +kernel
set_option maxRecDepth 100000 in
theorem f_188_1654 : xft 188 1654 = some (.iaload) := by decide +kernel
set_option maxRecDepth 100000 in
theorem f_188_1655 : xft 188 1655 = some (.aload_n 0) := by decide +kernel
set_option maxRecDepth 100000 in
theorem f_188_1656 : xft 188 1656 = some (.iload 4) := by decide +kernel
set_option maxRecDepth 100000 in
theorem f_188_1658 : xft 188 1658 = some (.iconst 3) := by decide +kernel
set_option maxRecDepth 100000 in
theorem f_188_1659 : xft 188 1659 = some (.iadd) := by decide +kernel
set_option maxRecDepth 100000 in
theorem f_188_1660 : xft 188 1660 = some (.iaload) := by decide +kernel
set_option maxRecDepth 100000 in
theorem f_188_1661 : xft 188 1661 = some (.invokevirtual 179) := by decide +kernel
set_option maxRecDepth 100000 in
theorem f_188_1664 : xft 188 1664 = some (.istore 6) := by decide +kernel
set_option maxRecDepth 100000 in
theorem f_188_1666 : xft 188 1666 = some (.aload_n 2) := by decide +kernel
set_option maxRecDepth 100000 in
theorem f_188_1667 : xft 188 1667 = some (.invokevirtual 117) := by decide +kernel
set_option maxRecDepth 100000 in
theorem f_188_1670 : xft 188 1670 = some (.iload 5) := by decide +kernel
set_option maxRecDepth 100000 in
theorem f_188_1672 : xft 188 1672 = some (.if_icmp .eq 5) := by decide +kernel
set_option maxRecDepth 100000 in
theorem f_188_1675 : xft 188 1675 = some (.iconst 0) := by decide +kernel
set_option maxRecDepth 100000 in
theorem f_188_1676 : xft 188 1676 = some (.ireturn) := by decide +kernel
set_option maxRecDepth 100000 in
theorem f_188_1677 : xft 188 1677 = some (.iload 5) := by decide +kernel
set_option maxRecDepth 100000 in
theorem f_188_1679 : xft 188 1679 = some (.ifCond .ne 15) := by decide +kernel
set_option maxRecDepth 100000 in
theorem f_188_1682 : xft 188 1682 = some (.aload_n 3) := by decide +kernel
set_option maxRecDepth 100000 in
theorem f_188_1683 : xft 188 1683 = some (.iconst 0) := by decide +kernel
set_option maxRecDepth 100000 in
theorem f_188_1684 : xft 188 1684 = some (.laload) := by decide +kernel
set_option maxRecDepth 100000 in
theorem f_188_1685 : xft 188 1685 = some (.iload 6) := by decide +kernel
set_option maxRecDepth 100000 in
theorem f_188_1687 : xft 188 1687 = some (.i2l) := by decide +kernel
set_option maxRecDepth 100000 in
theorem f_188_1688 : xft 188 1688 = some (.lcmp) := by decide +kernel
set_option maxRecDepth 100000 in
theorem f_188_1689 : xft 188 1689 = some (.ifCond .eq 5) := by decide +kernel
set_option maxRecDepth 100000 in
theorem f_188_1692 : xft 188 1692 = some (.iconst 0) := by decide +kernel
set_option maxRecDepth 100000 in
theorem f_188_1693 : xft 188 1693 = some (.ireturn) := by decide +kernel
set_option maxRecDepth 100000 in
theorem f_188_1694 : xft 188 1694 = some (.goto 774) := by decide +kernel
set_option maxRecDepth 100000 in
theorem f_188_1697 : xft 188 1697 = some (.aload_n 1) := by decide +kernel
set_option maxRecDepth 100000 in
theorem f_188_1698 : xft 188 1698 = some (.aload_n 0) := by decide +kernel
set_option maxRecDepth 100000 in
theorem f_188_1699 : xft 188 1699 = some (.iload 4) := by decide +kernel
set_option maxRecDepth 100000 in
theorem f_188_1701 : xft 188 1701 = some (.iconst 1) := by decide +kernel
set_option maxRecDepth 100000 in
theorem f_188_1702 : xft 188 1702 = some (.iadd) := by decide +kernel
set_option maxRecDepth 100000 in
theorem f_188_1703 : xft 188 1703 = some (.iaload) := by decide +kernel
set_option maxRecDepth 100000 in
theorem f_188_1704 : xft 188 1704 = some (.aload_n 0) := by decide +kernel
set_option maxRecDepth 100000 in
theorem f_188_1705 : xft 188 1705 = some (.iload 4) := by decide +kernel
set_option maxRecDepth 100000 in
theorem f_188_1707 : xft 188 1707 = some (.iconst 2) := by decide +kernel
/-! blocks, by program (gen2.py) -/
section BLK
variable {sc : xS} {d : Nat} {T : Nat → Nat × Nat} {z : Nat × Nat} {V : Nat → Nat → Int} {J : Nat → Nat → Int64} {R : Nat → Nat → Option Nat}

end BLK
