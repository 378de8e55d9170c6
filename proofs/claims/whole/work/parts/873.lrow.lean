/-! The law: its rows 3 (written by wip/whole/genlaw.py) -/
section
theorem d417_1031 : decode code 1031 = .ok (.laload, 1) := by decide +kernel
theorem d417_1032 : decode code 1032 = .ok (.iload 6, 2) := by decide +kernel
theorem d417_1034 : decode code 1034 = .ok (.i2l, 1) := by decide +kernel
theorem d417_1035 : decode code 1035 = .ok (.lcmp, 1) := by decide +kernel
theorem d417_1036 : decode code 1036 = .ok (.ifCond .eq 5, 3) := by decide +kernel
theorem d417_1039 : decode code 1039 = .ok (.iconst 0, 1) := by decide +kernel
theorem d417_1040 : decode code 1040 = .ok (.ireturn, 1) := by decide +kernel
theorem d417_1041 : decode code 1041 = .ok (.goto 1742, 3) := by decide +kernel
theorem d417_1044 : decode code 1044 = .ok (.aload_n 1, 1) := by decide +kernel
theorem d417_1045 : decode code 1045 = .ok (.aload_n 0, 1) := by decide +kernel
theorem d417_1046 : decode code 1046 = .ok (.iload 4, 2) := by decide +kernel
theorem d417_1048 : decode code 1048 = .ok (.iconst 1, 1) := by decide +kernel
theorem d417_1049 : decode code 1049 = .ok (.iadd, 1) := by decide +kernel
theorem d417_1050 : decode code 1050 = .ok (.iaload, 1) := by decide +kernel
theorem d417_1051 : decode code 1051 = .ok (.aload_n 3, 1) := by decide +kernel
theorem d417_1052 : decode code 1052 = .ok (.invokestatic 205, 3) := by decide +kernel
theorem d417_1055 : decode code 1055 = .ok (.istore 5, 2) := by decide +kernel
theorem d417_1057 : decode code 1057 = .ok (.aload_n 2, 1) := by decide +kernel
theorem d417_1058 : decode code 1058 = .ok (.aload_n 0, 1) := by decide +kernel
theorem d417_1059 : decode code 1059 = .ok (.iload 4, 2) := by decide +kernel
theorem d417_1061 : decode code 1061 = .ok (.iconst 1, 1) := by decide +kernel
theorem d417_1062 : decode code 1062 = .ok (.iadd, 1) := by decide +kernel
theorem d417_1063 : decode code 1063 = .ok (.iaload, 1) := by decide +kernel
theorem d417_1064 : decode code 1064 = .ok (.invokevirtual 207, 3) := by decide +kernel
theorem d417_1067 : decode code 1067 = .ok (.istore 6, 2) := by decide +kernel
theorem d417_1069 : decode code 1069 = .ok (.aload_n 2, 1) := by decide +kernel
theorem d417_1070 : decode code 1070 = .ok (.invokevirtual 147, 3) := by decide +kernel
theorem d417_1073 : decode code 1073 = .ok (.iload 5, 2) := by decide +kernel
theorem d417_1075 : decode code 1075 = .ok (.if_icmp .eq 5, 3) := by decide +kernel
theorem d417_1078 : decode code 1078 = .ok (.iconst 0, 1) := by decide +kernel
theorem d417_1079 : decode code 1079 = .ok (.ireturn, 1) := by decide +kernel
theorem d417_1080 : decode code 1080 = .ok (.iload 5, 2) := by decide +kernel
theorem d417_1082 : decode code 1082 = .ok (.ifCond .ne 22, 3) := by decide +kernel
theorem d417_1085 : decode code 1085 = .ok (.aload_n 3, 1) := by decide +kernel
theorem d417_1086 : decode code 1086 = .ok (.iconst 0, 1) := by decide +kernel
theorem d417_1087 : decode code 1087 = .ok (.laload, 1) := by decide +kernel
theorem d417_1088 : decode code 1088 = .ok (.iload 6, 2) := by decide +kernel
theorem d417_1090 : decode code 1090 = .ok (.ifCond .eq 7, 3) := by decide +kernel
theorem d417_1093 : decode code 1093 = .ok (.lconst 1, 1) := by decide +kernel
theorem d417_1094 : decode code 1094 = .ok (.goto 4, 3) := by decide +kernel
theorem d417_1097 : decode code 1097 = .ok (.lconst 0, 1) := by decide +kernel
theorem d417_1098 : decode code 1098 = .ok (.lcmp, 1) := by decide +kernel
theorem d417_1099 : decode code 1099 = .ok (.ifCond .eq 5, 3) := by decide +kernel
theorem d417_1102 : decode code 1102 = .ok (.iconst 0, 1) := by decide +kernel
theorem d417_1103 : decode code 1103 = .ok (.ireturn, 1) := by decide +kernel
theorem d417_1104 : decode code 1104 = .ok (.goto 1679, 3) := by decide +kernel
theorem d417_1107 : decode code 1107 = .ok (.aload_n 1, 1) := by decide +kernel
theorem d417_1108 : decode code 1108 = .ok (.aload_n 0, 1) := by decide +kernel
theorem d417_1109 : decode code 1109 = .ok (.iload 4, 2) := by decide +kernel
theorem d417_1111 : decode code 1111 = .ok (.iconst 1, 1) := by decide +kernel
theorem d417_1112 : decode code 1112 = .ok (.iadd, 1) := by decide +kernel
theorem d417_1113 : decode code 1113 = .ok (.iaload, 1) := by decide +kernel
theorem d417_1114 : decode code 1114 = .ok (.aload_n 3, 1) := by decide +kernel
theorem d417_1115 : decode code 1115 = .ok (.invokestatic 208, 3) := by decide +kernel
theorem d417_1118 : decode code 1118 = .ok (.istore 5, 2) := by decide +kernel
theorem d417_1120 : decode code 1120 = .ok (.aload_n 2, 1) := by decide +kernel
theorem d417_1121 : decode code 1121 = .ok (.aload_n 0, 1) := by decide +kernel
theorem d417_1122 : decode code 1122 = .ok (.iload 4, 2) := by decide +kernel
theorem d417_1124 : decode code 1124 = .ok (.iconst 1, 1) := by decide +kernel
theorem d417_1125 : decode code 1125 = .ok (.iadd, 1) := by decide +kernel
theorem d417_1126 : decode code 1126 = .ok (.iaload, 1) := by decide +kernel
theorem d417_1127 : decode code 1127 = .ok (.invokevirtual 210, 3) := by decide +kernel
theorem d417_1130 : decode code 1130 = .ok (.istore 6, 2) := by decide +kernel
theorem d417_1132 : decode code 1132 = .ok (.aload_n 2, 1) := by decide +kernel
theorem d417_1133 : decode code 1133 = .ok (.invokevirtual 147, 3) := by decide +kernel
theorem d417_1136 : decode code 1136 = .ok (.iload 5, 2) := by decide +kernel
theorem d417_1138 : decode code 1138 = .ok (.if_icmp .eq 5, 3) := by decide +kernel
theorem d417_1141 : decode code 1141 = .ok (.iconst 0, 1) := by decide +kernel
theorem d417_1142 : decode code 1142 = .ok (.ireturn, 1) := by decide +kernel
theorem d417_1143 : decode code 1143 = .ok (.iload 5, 2) := by decide +kernel
theorem d417_1145 : decode code 1145 = .ok (.ifCond .ne 22, 3) := by decide +kernel
theorem d417_1148 : decode code 1148 = .ok (.aload_n 3, 1) := by decide +kernel
theorem d417_1149 : decode code 1149 = .ok (.iconst 0, 1) := by decide +kernel
theorem d417_1150 : decode code 1150 = .ok (.laload, 1) := by decide +kernel
theorem d417_1151 : decode code 1151 = .ok (.iload 6, 2) := by decide +kernel
theorem d417_1153 : decode code 1153 = .ok (.ifCond .eq 7, 3) := by decide +kernel
theorem d417_1156 : decode code 1156 = .ok (.lconst 1, 1) := by decide +kernel
theorem d417_1157 : decode code 1157 = .ok (.goto 4, 3) := by decide +kernel
theorem d417_1160 : decode code 1160 = .ok (.lconst 0, 1) := by decide +kernel
theorem d417_1161 : decode code 1161 = .ok (.lcmp, 1) := by decide +kernel
theorem d417_1162 : decode code 1162 = .ok (.ifCond .eq 5, 3) := by decide +kernel
theorem d417_1165 : decode code 1165 = .ok (.iconst 0, 1) := by decide +kernel
theorem d417_1166 : decode code 1166 = .ok (.ireturn, 1) := by decide +kernel
theorem d417_1167 : decode code 1167 = .ok (.goto 1616, 3) := by decide +kernel
theorem d417_1170 : decode code 1170 = .ok (.aload_n 1, 1) := by decide +kernel
theorem d417_1171 : decode code 1171 = .ok (.aload_n 0, 1) := by decide +kernel
theorem d417_1172 : decode code 1172 = .ok (.iload 4, 2) := by decide +kernel
theorem d417_1174 : decode code 1174 = .ok (.iconst 1, 1) := by decide +kernel
theorem d417_1175 : decode code 1175 = .ok (.iadd, 1) := by decide +kernel
theorem d417_1176 : decode code 1176 = .ok (.iaload, 1) := by decide +kernel
theorem d417_1177 : decode code 1177 = .ok (.aload_n 3, 1) := by decide +kernel
theorem d417_1178 : decode code 1178 = .ok (.invokestatic 211, 3) := by decide +kernel
theorem d417_1181 : decode code 1181 = .ok (.istore 5, 2) := by decide +kernel
theorem d417_1183 : decode code 1183 = .ok (.aload_n 2, 1) := by decide +kernel
theorem d417_1184 : decode code 1184 = .ok (.aload_n 0, 1) := by decide +kernel
theorem d417_1185 : decode code 1185 = .ok (.iload 4, 2) := by decide +kernel
theorem d417_1187 : decode code 1187 = .ok (.iconst 1, 1) := by decide +kernel
theorem d417_1188 : decode code 1188 = .ok (.iadd, 1) := by decide +kernel
theorem d417_1189 : decode code 1189 = .ok (.iaload, 1) := by decide +kernel
theorem d417_1190 : decode code 1190 = .ok (.invokevirtual 213, 3) := by decide +kernel
theorem d417_1193 : decode code 1193 = .ok (.istore 6, 2) := by decide +kernel
theorem d417_1195 : decode code 1195 = .ok (.aload_n 2, 1) := by decide +kernel
theorem d417_1196 : decode code 1196 = .ok (.invokevirtual 147, 3) := by decide +kernel
theorem d417_1199 : decode code 1199 = .ok (.iload 5, 2) := by decide +kernel
theorem d417_1201 : decode code 1201 = .ok (.if_icmp .eq 5, 3) := by decide +kernel
theorem d417_1204 : decode code 1204 = .ok (.iconst 0, 1) := by decide +kernel
theorem d417_1205 : decode code 1205 = .ok (.ireturn, 1) := by decide +kernel
theorem d417_1206 : decode code 1206 = .ok (.iload 5, 2) := by decide +kernel
theorem d417_1208 : decode code 1208 = .ok (.ifCond .ne 22, 3) := by decide +kernel
theorem d417_1211 : decode code 1211 = .ok (.aload_n 3, 1) := by decide +kernel
theorem d417_1212 : decode code 1212 = .ok (.iconst 0, 1) := by decide +kernel
theorem d417_1213 : decode code 1213 = .ok (.laload, 1) := by decide +kernel
theorem d417_1214 : decode code 1214 = .ok (.iload 6, 2) := by decide +kernel
theorem d417_1216 : decode code 1216 = .ok (.ifCond .eq 7, 3) := by decide +kernel
theorem d417_1219 : decode code 1219 = .ok (.lconst 1, 1) := by decide +kernel
theorem d417_1220 : decode code 1220 = .ok (.goto 4, 3) := by decide +kernel
theorem d417_1223 : decode code 1223 = .ok (.lconst 0, 1) := by decide +kernel
theorem d417_1224 : decode code 1224 = .ok (.lcmp, 1) := by decide +kernel
theorem d417_1225 : decode code 1225 = .ok (.ifCond .eq 5, 3) := by decide +kernel
theorem d417_1228 : decode code 1228 = .ok (.iconst 0, 1) := by decide +kernel
theorem d417_1229 : decode code 1229 = .ok (.ireturn, 1) := by decide +kernel
theorem d417_1230 : decode code 1230 = .ok (.goto 1553, 3) := by decide +kernel
theorem d417_1233 : decode code 1233 = .ok (.aload_n 1, 1) := by decide +kernel
theorem d417_1234 : decode code 1234 = .ok (.aload_n 0, 1) := by decide +kernel
theorem d417_1235 : decode code 1235 = .ok (.iload 4, 2) := by decide +kernel
theorem d417_1237 : decode code 1237 = .ok (.iconst 1, 1) := by decide +kernel
theorem d417_1238 : decode code 1238 = .ok (.iadd, 1) := by decide +kernel
theorem d417_1239 : decode code 1239 = .ok (.iaload, 1) := by decide +kernel
theorem d417_1240 : decode code 1240 = .ok (.aload_n 3, 1) := by decide +kernel
theorem d417_1241 : decode code 1241 = .ok (.invokestatic 214, 3) := by decide +kernel
theorem d417_1244 : decode code 1244 = .ok (.istore 5, 2) := by decide +kernel
theorem d417_1246 : decode code 1246 = .ok (.aload_n 2, 1) := by decide +kernel
theorem d417_1247 : decode code 1247 = .ok (.aload_n 0, 1) := by decide +kernel
theorem d417_1248 : decode code 1248 = .ok (.iload 4, 2) := by decide +kernel
theorem d417_1250 : decode code 1250 = .ok (.iconst 1, 1) := by decide +kernel
theorem d417_1251 : decode code 1251 = .ok (.iadd, 1) := by decide +kernel
theorem d417_1252 : decode code 1252 = .ok (.iaload, 1) := by decide +kernel
theorem d417_1253 : decode code 1253 = .ok (.invokevirtual 216, 3) := by decide +kernel
theorem d417_1256 : decode code 1256 = .ok (.istore 6, 2) := by decide +kernel
theorem d417_1258 : decode code 1258 = .ok (.aload_n 2, 1) := by decide +kernel
theorem d417_1259 : decode code 1259 = .ok (.invokevirtual 147, 3) := by decide +kernel
theorem d417_1262 : decode code 1262 = .ok (.iload 5, 2) := by decide +kernel
theorem d417_1264 : decode code 1264 = .ok (.if_icmp .eq 5, 3) := by decide +kernel
theorem d417_1267 : decode code 1267 = .ok (.iconst 0, 1) := by decide +kernel
theorem d417_1268 : decode code 1268 = .ok (.ireturn, 1) := by decide +kernel
theorem d417_1269 : decode code 1269 = .ok (.iload 5, 2) := by decide +kernel
theorem d417_1271 : decode code 1271 = .ok (.ifCond .ne 15, 3) := by decide +kernel
theorem d417_1274 : decode code 1274 = .ok (.aload_n 3, 1) := by decide +kernel
theorem d417_1275 : decode code 1275 = .ok (.iconst 0, 1) := by decide +kernel
theorem d417_1276 : decode code 1276 = .ok (.laload, 1) := by decide +kernel
theorem d417_1277 : decode code 1277 = .ok (.iload 6, 2) := by decide +kernel
theorem d417_1279 : decode code 1279 = .ok (.i2l, 1) := by decide +kernel
theorem d417_1280 : decode code 1280 = .ok (.lcmp, 1) := by decide +kernel
theorem d417_1281 : decode code 1281 = .ok (.ifCond .eq 5, 3) := by decide +kernel
theorem d417_1284 : decode code 1284 = .ok (.iconst 0, 1) := by decide +kernel
theorem d417_1285 : decode code 1285 = .ok (.ireturn, 1) := by decide +kernel
theorem d417_1286 : decode code 1286 = .ok (.goto 1497, 3) := by decide +kernel
theorem d417_1289 : decode code 1289 = .ok (.aload_n 1, 1) := by decide +kernel
theorem d417_1290 : decode code 1290 = .ok (.aload_n 0, 1) := by decide +kernel
theorem d417_1291 : decode code 1291 = .ok (.iload 4, 2) := by decide +kernel
theorem d417_1293 : decode code 1293 = .ok (.iconst 1, 1) := by decide +kernel
theorem d417_1294 : decode code 1294 = .ok (.iadd, 1) := by decide +kernel
theorem d417_1295 : decode code 1295 = .ok (.iaload, 1) := by decide +kernel
theorem d417_1296 : decode code 1296 = .ok (.aload_n 3, 1) := by decide +kernel
theorem d417_1297 : decode code 1297 = .ok (.invokestatic 217, 3) := by decide +kernel
theorem d417_1300 : decode code 1300 = .ok (.istore 5, 2) := by decide +kernel
theorem d417_1302 : decode code 1302 = .ok (.aload_n 2, 1) := by decide +kernel
theorem d417_1303 : decode code 1303 = .ok (.aload_n 0, 1) := by decide +kernel
theorem d417_1304 : decode code 1304 = .ok (.iload 4, 2) := by decide +kernel
theorem d417_1306 : decode code 1306 = .ok (.iconst 1, 1) := by decide +kernel
end
