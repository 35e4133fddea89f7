/-! the law: decoded -/
theorem d_Lw_law_1051 : decode code 1051 = .ok (.aload_n 2, 1) := by decide +kernel
theorem d_Lw_law_1052 : decode code 1052 = .ok (.aload_n 0, 1) := by decide +kernel
theorem d_Lw_law_1053 : decode code 1053 = .ok (.iload_n 3, 1) := by decide +kernel
theorem d_Lw_law_1054 : decode code 1054 = .ok (.iconst 1, 1) := by decide +kernel
theorem d_Lw_law_1055 : decode code 1055 = .ok (.iadd, 1) := by decide +kernel
theorem d_Lw_law_1056 : decode code 1056 = .ok (.iaload, 1) := by decide +kernel
theorem d_Lw_law_1057 : decode code 1057 = .ok (.invokevirtual 109, 3) := by decide +kernel
theorem d_Lw_law_1060 : decode code 1060 = .ok (.if_icmp .eq 107, 3) := by decide +kernel
theorem d_Lw_law_1063 : decode code 1063 = .ok (.iconst 0, 1) := by decide +kernel
theorem d_Lw_law_1064 : decode code 1064 = .ok (.ireturn, 1) := by decide +kernel
theorem d_Lw_law_1065 : decode code 1065 = .ok (.aload_n 1, 1) := by decide +kernel
theorem d_Lw_law_1066 : decode code 1066 = .ok (.aload_n 0, 1) := by decide +kernel
theorem d_Lw_law_1067 : decode code 1067 = .ok (.iload_n 3, 1) := by decide +kernel
theorem d_Lw_law_1068 : decode code 1068 = .ok (.iconst 1, 1) := by decide +kernel
theorem d_Lw_law_1069 : decode code 1069 = .ok (.iadd, 1) := by decide +kernel
theorem d_Lw_law_1070 : decode code 1070 = .ok (.iaload, 1) := by decide +kernel
theorem d_Lw_law_1071 : decode code 1071 = .ok (.aload_n 0, 1) := by decide +kernel
theorem d_Lw_law_1072 : decode code 1072 = .ok (.iload_n 3, 1) := by decide +kernel
theorem d_Lw_law_1073 : decode code 1073 = .ok (.iconst 2, 1) := by decide +kernel
theorem d_Lw_law_1074 : decode code 1074 = .ok (.iadd, 1) := by decide +kernel
theorem d_Lw_law_1075 : decode code 1075 = .ok (.iaload, 1) := by decide +kernel
theorem d_Lw_law_1076 : decode code 1076 = .ok (.invokevirtual 110, 3) := by decide +kernel
theorem d_Lw_law_1079 : decode code 1079 = .ok (.aload_n 2, 1) := by decide +kernel
theorem d_Lw_law_1080 : decode code 1080 = .ok (.aload_n 0, 1) := by decide +kernel
theorem d_Lw_law_1081 : decode code 1081 = .ok (.iload_n 3, 1) := by decide +kernel
theorem d_Lw_law_1082 : decode code 1082 = .ok (.iconst 1, 1) := by decide +kernel
theorem d_Lw_law_1083 : decode code 1083 = .ok (.iadd, 1) := by decide +kernel
theorem d_Lw_law_1084 : decode code 1084 = .ok (.iaload, 1) := by decide +kernel
theorem d_Lw_law_1085 : decode code 1085 = .ok (.aload_n 0, 1) := by decide +kernel
theorem d_Lw_law_1086 : decode code 1086 = .ok (.iload_n 3, 1) := by decide +kernel
theorem d_Lw_law_1087 : decode code 1087 = .ok (.iconst 2, 1) := by decide +kernel
theorem d_Lw_law_1088 : decode code 1088 = .ok (.iadd, 1) := by decide +kernel
theorem d_Lw_law_1089 : decode code 1089 = .ok (.iaload, 1) := by decide +kernel
theorem d_Lw_law_1090 : decode code 1090 = .ok (.invokevirtual 113, 3) := by decide +kernel
theorem d_Lw_law_1093 : decode code 1093 = .ok (.if_icmp .eq 74, 3) := by decide +kernel
theorem d_Lw_law_1096 : decode code 1096 = .ok (.iconst 0, 1) := by decide +kernel
theorem d_Lw_law_1097 : decode code 1097 = .ok (.ireturn, 1) := by decide +kernel
theorem d_Lw_law_1098 : decode code 1098 = .ok (.aload_n 1, 1) := by decide +kernel
theorem d_Lw_law_1099 : decode code 1099 = .ok (.aload_n 0, 1) := by decide +kernel
theorem d_Lw_law_1100 : decode code 1100 = .ok (.iload_n 3, 1) := by decide +kernel
theorem d_Lw_law_1101 : decode code 1101 = .ok (.iconst 1, 1) := by decide +kernel
theorem d_Lw_law_1102 : decode code 1102 = .ok (.iadd, 1) := by decide +kernel
theorem d_Lw_law_1103 : decode code 1103 = .ok (.iaload, 1) := by decide +kernel
theorem d_Lw_law_1104 : decode code 1104 = .ok (.invokevirtual 114, 3) := by decide +kernel
theorem d_Lw_law_1107 : decode code 1107 = .ok (.aload_n 2, 1) := by decide +kernel
theorem d_Lw_law_1108 : decode code 1108 = .ok (.aload_n 0, 1) := by decide +kernel
theorem d_Lw_law_1109 : decode code 1109 = .ok (.iload_n 3, 1) := by decide +kernel
theorem d_Lw_law_1110 : decode code 1110 = .ok (.iconst 1, 1) := by decide +kernel
theorem d_Lw_law_1111 : decode code 1111 = .ok (.iadd, 1) := by decide +kernel
theorem d_Lw_law_1112 : decode code 1112 = .ok (.iaload, 1) := by decide +kernel
theorem d_Lw_law_1113 : decode code 1113 = .ok (.invokevirtual 117, 3) := by decide +kernel
theorem d_Lw_law_1116 : decode code 1116 = .ok (.if_icmp .eq 51, 3) := by decide +kernel
theorem d_Lw_law_1119 : decode code 1119 = .ok (.iconst 0, 1) := by decide +kernel
theorem d_Lw_law_1120 : decode code 1120 = .ok (.ireturn, 1) := by decide +kernel
theorem d_Lw_law_1121 : decode code 1121 = .ok (.aload_n 1, 1) := by decide +kernel
theorem d_Lw_law_1122 : decode code 1122 = .ok (.aload_n 0, 1) := by decide +kernel
theorem d_Lw_law_1123 : decode code 1123 = .ok (.iload_n 3, 1) := by decide +kernel
theorem d_Lw_law_1124 : decode code 1124 = .ok (.iconst 1, 1) := by decide +kernel
theorem d_Lw_law_1125 : decode code 1125 = .ok (.iadd, 1) := by decide +kernel
theorem d_Lw_law_1126 : decode code 1126 = .ok (.iaload, 1) := by decide +kernel
theorem d_Lw_law_1127 : decode code 1127 = .ok (.aload_n 0, 1) := by decide +kernel
theorem d_Lw_law_1128 : decode code 1128 = .ok (.iload_n 3, 1) := by decide +kernel
theorem d_Lw_law_1129 : decode code 1129 = .ok (.iconst 2, 1) := by decide +kernel
theorem d_Lw_law_1130 : decode code 1130 = .ok (.iadd, 1) := by decide +kernel
theorem d_Lw_law_1131 : decode code 1131 = .ok (.iaload, 1) := by decide +kernel
theorem d_Lw_law_1132 : decode code 1132 = .ok (.invokevirtual 118, 3) := by decide +kernel
theorem d_Lw_law_1135 : decode code 1135 = .ok (.aload_n 2, 1) := by decide +kernel
theorem d_Lw_law_1136 : decode code 1136 = .ok (.aload_n 0, 1) := by decide +kernel
theorem d_Lw_law_1137 : decode code 1137 = .ok (.iload_n 3, 1) := by decide +kernel
theorem d_Lw_law_1138 : decode code 1138 = .ok (.iconst 1, 1) := by decide +kernel
theorem d_Lw_law_1139 : decode code 1139 = .ok (.iadd, 1) := by decide +kernel
theorem d_Lw_law_1140 : decode code 1140 = .ok (.iaload, 1) := by decide +kernel
theorem d_Lw_law_1141 : decode code 1141 = .ok (.aload_n 0, 1) := by decide +kernel
theorem d_Lw_law_1142 : decode code 1142 = .ok (.iload_n 3, 1) := by decide +kernel
theorem d_Lw_law_1143 : decode code 1143 = .ok (.iconst 2, 1) := by decide +kernel
theorem d_Lw_law_1144 : decode code 1144 = .ok (.iadd, 1) := by decide +kernel
theorem d_Lw_law_1145 : decode code 1145 = .ok (.iaload, 1) := by decide +kernel
theorem d_Lw_law_1146 : decode code 1146 = .ok (.invokevirtual 121, 3) := by decide +kernel
theorem d_Lw_law_1149 : decode code 1149 = .ok (.if_icmp .eq 18, 3) := by decide +kernel
theorem d_Lw_law_1152 : decode code 1152 = .ok (.iconst 0, 1) := by decide +kernel
theorem d_Lw_law_1153 : decode code 1153 = .ok (.ireturn, 1) := by decide +kernel
theorem d_Lw_law_1154 : decode code 1154 = .ok (.aload_n 1, 1) := by decide +kernel
theorem d_Lw_law_1155 : decode code 1155 = .ok (.invokevirtual 122, 3) := by decide +kernel
theorem d_Lw_law_1158 : decode code 1158 = .ok (.aload_n 2, 1) := by decide +kernel
theorem d_Lw_law_1159 : decode code 1159 = .ok (.invokevirtual 125, 3) := by decide +kernel
theorem d_Lw_law_1162 : decode code 1162 = .ok (.if_icmp .eq 5, 3) := by decide +kernel
theorem d_Lw_law_1165 : decode code 1165 = .ok (.iconst 0, 1) := by decide +kernel
theorem d_Lw_law_1166 : decode code 1166 = .ok (.ireturn, 1) := by decide +kernel
theorem d_Lw_law_1167 : decode code 1167 = .ok (.iinc 3 6, 3) := by decide +kernel
theorem d_Lw_law_1170 : decode code 1170 = .ok (.goto (-1152), 3) := by decide +kernel
theorem d_Lw_law_1173 : decode code 1173 = .ok (.iconst 1, 1) := by decide +kernel
theorem d_Lw_law_1174 : decode code 1174 = .ok (.ireturn, 1) := by decide +kernel

