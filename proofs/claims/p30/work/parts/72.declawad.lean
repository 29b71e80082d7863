theorem dL_law_1049 : decode cL_law 1049 = .ok (.aload_n 0, 1) := o42 (by decide +kernel)
theorem dL_law_1050 : decode cL_law 1050 = .ok (.iload_n 3, 1) := o29 (by decide +kernel)
theorem dL_law_1051 : decode cL_law 1051 = .ok (.iconst 5, 1) := o8 (by decide +kernel)
theorem dL_law_1052 : decode cL_law 1052 = .ok (.iadd, 1) := o96 (by decide +kernel)
theorem dL_law_1053 : decode cL_law 1053 = .ok (.iaload, 1) := o46 (by decide +kernel)
theorem dL_law_1054 : decode cL_law 1054 = .ok (.invokevirtual 140, 3) := o182 (by decide) (by decide +kernel)
theorem dL_law_1057 : decode cL_law 1057 = .ok (.pop2, 1) := o88 (by decide +kernel)
theorem dL_law_1058 : decode cL_law 1058 = .ok (.goto 302, 3) := o167 302 (by decide) (by decide +kernel)
theorem dL_law_1061 : decode cL_law 1061 = .ok (.aload_n 1, 1) := o43 (by decide +kernel)
theorem dL_law_1062 : decode cL_law 1062 = .ok (.aload_n 0, 1) := o42 (by decide +kernel)
theorem dL_law_1063 : decode cL_law 1063 = .ok (.iload_n 3, 1) := o29 (by decide +kernel)
theorem dL_law_1064 : decode cL_law 1064 = .ok (.iconst 1, 1) := o4 (by decide +kernel)
theorem dL_law_1065 : decode cL_law 1065 = .ok (.iadd, 1) := o96 (by decide +kernel)
theorem dL_law_1066 : decode cL_law 1066 = .ok (.iaload, 1) := o46 (by decide +kernel)
theorem dL_law_1067 : decode cL_law 1067 = .ok (.aload_n 0, 1) := o42 (by decide +kernel)
theorem dL_law_1068 : decode cL_law 1068 = .ok (.iload_n 3, 1) := o29 (by decide +kernel)
theorem dL_law_1069 : decode cL_law 1069 = .ok (.iconst 2, 1) := o5 (by decide +kernel)
theorem dL_law_1070 : decode cL_law 1070 = .ok (.iadd, 1) := o96 (by decide +kernel)
theorem dL_law_1071 : decode cL_law 1071 = .ok (.iaload, 1) := o46 (by decide +kernel)
theorem dL_law_1072 : decode cL_law 1072 = .ok (.invokevirtual 141, 3) := o182 (by decide) (by decide +kernel)
theorem dL_law_1075 : decode cL_law 1075 = .ok (.pop, 1) := o87 (by decide +kernel)
theorem dL_law_1076 : decode cL_law 1076 = .ok (.aload_n 2, 1) := o44 (by decide +kernel)
theorem dL_law_1077 : decode cL_law 1077 = .ok (.aload_n 0, 1) := o42 (by decide +kernel)
theorem dL_law_1078 : decode cL_law 1078 = .ok (.iload_n 3, 1) := o29 (by decide +kernel)
theorem dL_law_1079 : decode cL_law 1079 = .ok (.iconst 1, 1) := o4 (by decide +kernel)
theorem dL_law_1080 : decode cL_law 1080 = .ok (.iadd, 1) := o96 (by decide +kernel)
theorem dL_law_1081 : decode cL_law 1081 = .ok (.iaload, 1) := o46 (by decide +kernel)
theorem dL_law_1082 : decode cL_law 1082 = .ok (.aload_n 0, 1) := o42 (by decide +kernel)
theorem dL_law_1083 : decode cL_law 1083 = .ok (.iload_n 3, 1) := o29 (by decide +kernel)
theorem dL_law_1084 : decode cL_law 1084 = .ok (.iconst 2, 1) := o5 (by decide +kernel)
theorem dL_law_1085 : decode cL_law 1085 = .ok (.iadd, 1) := o96 (by decide +kernel)
theorem dL_law_1086 : decode cL_law 1086 = .ok (.iaload, 1) := o46 (by decide +kernel)
theorem dL_law_1087 : decode cL_law 1087 = .ok (.invokevirtual 144, 3) := o182 (by decide) (by decide +kernel)
theorem dL_law_1090 : decode cL_law 1090 = .ok (.pop, 1) := o87 (by decide +kernel)
theorem dL_law_1091 : decode cL_law 1091 = .ok (.goto 269, 3) := o167 269 (by decide) (by decide +kernel)
theorem dL_law_1094 : decode cL_law 1094 = .ok (.aload_n 1, 1) := o43 (by decide +kernel)
theorem dL_law_1095 : decode cL_law 1095 = .ok (.invokevirtual 145, 3) := o182 (by decide) (by decide +kernel)
theorem dL_law_1098 : decode cL_law 1098 = .ok (.pop, 1) := o87 (by decide +kernel)
theorem dL_law_1099 : decode cL_law 1099 = .ok (.aload_n 2, 1) := o44 (by decide +kernel)
theorem dL_law_1100 : decode cL_law 1100 = .ok (.invokevirtual 148, 3) := o182 (by decide) (by decide +kernel)
theorem dL_law_1103 : decode cL_law 1103 = .ok (.pop, 1) := o87 (by decide +kernel)
theorem dL_law_1104 : decode cL_law 1104 = .ok (.goto 256, 3) := o167 256 (by decide) (by decide +kernel)
theorem dL_law_1107 : decode cL_law 1107 = .ok (.aload_n 1, 1) := o43 (by decide +kernel)
theorem dL_law_1108 : decode cL_law 1108 = .ok (.aload_n 0, 1) := o42 (by decide +kernel)
theorem dL_law_1109 : decode cL_law 1109 = .ok (.iload_n 3, 1) := o29 (by decide +kernel)
theorem dL_law_1110 : decode cL_law 1110 = .ok (.iconst 1, 1) := o4 (by decide +kernel)
theorem dL_law_1111 : decode cL_law 1111 = .ok (.iadd, 1) := o96 (by decide +kernel)
theorem dL_law_1112 : decode cL_law 1112 = .ok (.iaload, 1) := o46 (by decide +kernel)
theorem dL_law_1113 : decode cL_law 1113 = .ok (.invokevirtual 149, 3) := o182 (by decide) (by decide +kernel)
theorem dL_law_1116 : decode cL_law 1116 = .ok (.pop, 1) := o87 (by decide +kernel)
theorem dL_law_1117 : decode cL_law 1117 = .ok (.aload_n 2, 1) := o44 (by decide +kernel)
theorem dL_law_1118 : decode cL_law 1118 = .ok (.aload_n 0, 1) := o42 (by decide +kernel)
theorem dL_law_1119 : decode cL_law 1119 = .ok (.iload_n 3, 1) := o29 (by decide +kernel)
theorem dL_law_1120 : decode cL_law 1120 = .ok (.iconst 1, 1) := o4 (by decide +kernel)
theorem dL_law_1121 : decode cL_law 1121 = .ok (.iadd, 1) := o96 (by decide +kernel)
theorem dL_law_1122 : decode cL_law 1122 = .ok (.iaload, 1) := o46 (by decide +kernel)
theorem dL_law_1123 : decode cL_law 1123 = .ok (.invokevirtual 152, 3) := o182 (by decide) (by decide +kernel)
theorem dL_law_1126 : decode cL_law 1126 = .ok (.pop, 1) := o87 (by decide +kernel)
theorem dL_law_1127 : decode cL_law 1127 = .ok (.goto 233, 3) := o167 233 (by decide) (by decide +kernel)
theorem dL_law_1130 : decode cL_law 1130 = .ok (.aload_n 1, 1) := o43 (by decide +kernel)
theorem dL_law_1131 : decode cL_law 1131 = .ok (.aload_n 0, 1) := o42 (by decide +kernel)
theorem dL_law_1132 : decode cL_law 1132 = .ok (.iload_n 3, 1) := o29 (by decide +kernel)
theorem dL_law_1133 : decode cL_law 1133 = .ok (.iconst 1, 1) := o4 (by decide +kernel)
theorem dL_law_1134 : decode cL_law 1134 = .ok (.iadd, 1) := o96 (by decide +kernel)
theorem dL_law_1135 : decode cL_law 1135 = .ok (.iaload, 1) := o46 (by decide +kernel)
theorem dL_law_1136 : decode cL_law 1136 = .ok (.invokevirtual 153, 3) := o182 (by decide) (by decide +kernel)
theorem dL_law_1139 : decode cL_law 1139 = .ok (.pop, 1) := o87 (by decide +kernel)
theorem dL_law_1140 : decode cL_law 1140 = .ok (.aload_n 2, 1) := o44 (by decide +kernel)
theorem dL_law_1141 : decode cL_law 1141 = .ok (.aload_n 0, 1) := o42 (by decide +kernel)
theorem dL_law_1142 : decode cL_law 1142 = .ok (.iload_n 3, 1) := o29 (by decide +kernel)
theorem dL_law_1143 : decode cL_law 1143 = .ok (.iconst 1, 1) := o4 (by decide +kernel)
theorem dL_law_1144 : decode cL_law 1144 = .ok (.iadd, 1) := o96 (by decide +kernel)
theorem dL_law_1145 : decode cL_law 1145 = .ok (.iaload, 1) := o46 (by decide +kernel)
theorem dL_law_1146 : decode cL_law 1146 = .ok (.invokevirtual 156, 3) := o182 (by decide) (by decide +kernel)
theorem dL_law_1149 : decode cL_law 1149 = .ok (.pop, 1) := o87 (by decide +kernel)
theorem dL_law_1150 : decode cL_law 1150 = .ok (.goto 210, 3) := o167 210 (by decide) (by decide +kernel)
theorem dL_law_1153 : decode cL_law 1153 = .ok (.aload_n 1, 1) := o43 (by decide +kernel)
theorem dL_law_1154 : decode cL_law 1154 = .ok (.invokevirtual 157, 3) := o182 (by decide) (by decide +kernel)
theorem dL_law_1157 : decode cL_law 1157 = .ok (.pop, 1) := o87 (by decide +kernel)
theorem dL_law_1158 : decode cL_law 1158 = .ok (.aload_n 2, 1) := o44 (by decide +kernel)
theorem dL_law_1159 : decode cL_law 1159 = .ok (.invokevirtual 160, 3) := o182 (by decide) (by decide +kernel)
theorem dL_law_1162 : decode cL_law 1162 = .ok (.pop, 1) := o87 (by decide +kernel)
theorem dL_law_1163 : decode cL_law 1163 = .ok (.goto 197, 3) := o167 197 (by decide) (by decide +kernel)
theorem dL_law_1166 : decode cL_law 1166 = .ok (.aload_n 1, 1) := o43 (by decide +kernel)
theorem dL_law_1167 : decode cL_law 1167 = .ok (.aload_n 0, 1) := o42 (by decide +kernel)
theorem dL_law_1168 : decode cL_law 1168 = .ok (.iload_n 3, 1) := o29 (by decide +kernel)
theorem dL_law_1169 : decode cL_law 1169 = .ok (.iconst 1, 1) := o4 (by decide +kernel)
theorem dL_law_1170 : decode cL_law 1170 = .ok (.iadd, 1) := o96 (by decide +kernel)
theorem dL_law_1171 : decode cL_law 1171 = .ok (.iaload, 1) := o46 (by decide +kernel)
theorem dL_law_1172 : decode cL_law 1172 = .ok (.invokevirtual 161, 3) := o182 (by decide) (by decide +kernel)
theorem dL_law_1175 : decode cL_law 1175 = .ok (.pop, 1) := o87 (by decide +kernel)
theorem dL_law_1176 : decode cL_law 1176 = .ok (.aload_n 2, 1) := o44 (by decide +kernel)
theorem dL_law_1177 : decode cL_law 1177 = .ok (.aload_n 0, 1) := o42 (by decide +kernel)
theorem dL_law_1178 : decode cL_law 1178 = .ok (.iload_n 3, 1) := o29 (by decide +kernel)
theorem dL_law_1179 : decode cL_law 1179 = .ok (.iconst 1, 1) := o4 (by decide +kernel)
theorem dL_law_1180 : decode cL_law 1180 = .ok (.iadd, 1) := o96 (by decide +kernel)
theorem dL_law_1181 : decode cL_law 1181 = .ok (.iaload, 1) := o46 (by decide +kernel)
theorem dL_law_1182 : decode cL_law 1182 = .ok (.invokevirtual 164, 3) := o182 (by decide) (by decide +kernel)
theorem dL_law_1185 : decode cL_law 1185 = .ok (.pop, 1) := o87 (by decide +kernel)
theorem dL_law_1186 : decode cL_law 1186 = .ok (.goto 174, 3) := o167 174 (by decide) (by decide +kernel)
theorem dL_law_1189 : decode cL_law 1189 = .ok (.aload_n 1, 1) := o43 (by decide +kernel)
theorem dL_law_1190 : decode cL_law 1190 = .ok (.aload_n 0, 1) := o42 (by decide +kernel)
theorem dL_law_1191 : decode cL_law 1191 = .ok (.iload_n 3, 1) := o29 (by decide +kernel)
theorem dL_law_1192 : decode cL_law 1192 = .ok (.iconst 1, 1) := o4 (by decide +kernel)
theorem dL_law_1193 : decode cL_law 1193 = .ok (.iadd, 1) := o96 (by decide +kernel)
theorem dL_law_1194 : decode cL_law 1194 = .ok (.iaload, 1) := o46 (by decide +kernel)
theorem dL_law_1195 : decode cL_law 1195 = .ok (.invokevirtual 165, 3) := o182 (by decide) (by decide +kernel)
theorem dL_law_1198 : decode cL_law 1198 = .ok (.pop, 1) := o87 (by decide +kernel)
theorem dL_law_1199 : decode cL_law 1199 = .ok (.aload_n 2, 1) := o44 (by decide +kernel)
theorem dL_law_1200 : decode cL_law 1200 = .ok (.aload_n 0, 1) := o42 (by decide +kernel)
theorem dL_law_1201 : decode cL_law 1201 = .ok (.iload_n 3, 1) := o29 (by decide +kernel)
theorem dL_law_1202 : decode cL_law 1202 = .ok (.iconst 1, 1) := o4 (by decide +kernel)
theorem dL_law_1203 : decode cL_law 1203 = .ok (.iadd, 1) := o96 (by decide +kernel)
theorem dL_law_1204 : decode cL_law 1204 = .ok (.iaload, 1) := o46 (by decide +kernel)
theorem dL_law_1205 : decode cL_law 1205 = .ok (.invokevirtual 168, 3) := o182 (by decide) (by decide +kernel)
theorem dL_law_1208 : decode cL_law 1208 = .ok (.pop, 1) := o87 (by decide +kernel)
theorem dL_law_1209 : decode cL_law 1209 = .ok (.goto 151, 3) := o167 151 (by decide) (by decide +kernel)
theorem dL_law_1212 : decode cL_law 1212 = .ok (.aload_n 1, 1) := o43 (by decide +kernel)
theorem dL_law_1213 : decode cL_law 1213 = .ok (.aload_n 0, 1) := o42 (by decide +kernel)
theorem dL_law_1214 : decode cL_law 1214 = .ok (.iload_n 3, 1) := o29 (by decide +kernel)
theorem dL_law_1215 : decode cL_law 1215 = .ok (.iconst 1, 1) := o4 (by decide +kernel)
theorem dL_law_1216 : decode cL_law 1216 = .ok (.iadd, 1) := o96 (by decide +kernel)
theorem dL_law_1217 : decode cL_law 1217 = .ok (.iaload, 1) := o46 (by decide +kernel)
theorem dL_law_1218 : decode cL_law 1218 = .ok (.aload_n 0, 1) := o42 (by decide +kernel)
theorem dL_law_1219 : decode cL_law 1219 = .ok (.iload_n 3, 1) := o29 (by decide +kernel)
theorem dL_law_1220 : decode cL_law 1220 = .ok (.iconst 2, 1) := o5 (by decide +kernel)
theorem dL_law_1221 : decode cL_law 1221 = .ok (.iadd, 1) := o96 (by decide +kernel)
theorem dL_law_1222 : decode cL_law 1222 = .ok (.iaload, 1) := o46 (by decide +kernel)
theorem dL_law_1223 : decode cL_law 1223 = .ok (.aload_n 0, 1) := o42 (by decide +kernel)
theorem dL_law_1224 : decode cL_law 1224 = .ok (.iload_n 3, 1) := o29 (by decide +kernel)
theorem dL_law_1225 : decode cL_law 1225 = .ok (.iconst 3, 1) := o6 (by decide +kernel)
theorem dL_law_1226 : decode cL_law 1226 = .ok (.iadd, 1) := o96 (by decide +kernel)
theorem dL_law_1227 : decode cL_law 1227 = .ok (.iaload, 1) := o46 (by decide +kernel)
theorem dL_law_1228 : decode cL_law 1228 = .ok (.invokevirtual 169, 3) := o182 (by decide) (by decide +kernel)
theorem dL_law_1231 : decode cL_law 1231 = .ok (.pop, 1) := o87 (by decide +kernel)
theorem dL_law_1232 : decode cL_law 1232 = .ok (.aload_n 2, 1) := o44 (by decide +kernel)
theorem dL_law_1233 : decode cL_law 1233 = .ok (.aload_n 0, 1) := o42 (by decide +kernel)
theorem dL_law_1234 : decode cL_law 1234 = .ok (.iload_n 3, 1) := o29 (by decide +kernel)
theorem dL_law_1235 : decode cL_law 1235 = .ok (.iconst 1, 1) := o4 (by decide +kernel)
theorem dL_law_1236 : decode cL_law 1236 = .ok (.iadd, 1) := o96 (by decide +kernel)
theorem dL_law_1237 : decode cL_law 1237 = .ok (.iaload, 1) := o46 (by decide +kernel)
theorem dL_law_1238 : decode cL_law 1238 = .ok (.aload_n 0, 1) := o42 (by decide +kernel)
theorem dL_law_1239 : decode cL_law 1239 = .ok (.iload_n 3, 1) := o29 (by decide +kernel)
theorem dL_law_1240 : decode cL_law 1240 = .ok (.iconst 2, 1) := o5 (by decide +kernel)
theorem dL_law_1241 : decode cL_law 1241 = .ok (.iadd, 1) := o96 (by decide +kernel)
theorem dL_law_1242 : decode cL_law 1242 = .ok (.iaload, 1) := o46 (by decide +kernel)
theorem dL_law_1243 : decode cL_law 1243 = .ok (.aload_n 0, 1) := o42 (by decide +kernel)
theorem dL_law_1244 : decode cL_law 1244 = .ok (.iload_n 3, 1) := o29 (by decide +kernel)
theorem dL_law_1245 : decode cL_law 1245 = .ok (.iconst 3, 1) := o6 (by decide +kernel)
theorem dL_law_1246 : decode cL_law 1246 = .ok (.iadd, 1) := o96 (by decide +kernel)
theorem dL_law_1247 : decode cL_law 1247 = .ok (.iaload, 1) := o46 (by decide +kernel)
theorem dL_law_1248 : decode cL_law 1248 = .ok (.invokevirtual 172, 3) := o182 (by decide) (by decide +kernel)
theorem dL_law_1251 : decode cL_law 1251 = .ok (.pop, 1) := by decide +kernel
theorem dL_law_1252 : decode cL_law 1252 = .ok (.goto 108, 3) := by decide +kernel
theorem dL_law_1255 : decode cL_law 1255 = .ok (.aload_n 1, 1) := by decide +kernel
theorem dL_law_1256 : decode cL_law 1256 = .ok (.aload_n 0, 1) := by decide +kernel
theorem dL_law_1257 : decode cL_law 1257 = .ok (.iload_n 3, 1) := by decide +kernel
theorem dL_law_1258 : decode cL_law 1258 = .ok (.iconst 1, 1) := by decide +kernel
theorem dL_law_1259 : decode cL_law 1259 = .ok (.iadd, 1) := by decide +kernel
theorem dL_law_1260 : decode cL_law 1260 = .ok (.iaload, 1) := by decide +kernel
theorem dL_law_1261 : decode cL_law 1261 = .ok (.invokevirtual 173, 3) := by decide +kernel
theorem dL_law_1264 : decode cL_law 1264 = .ok (.pop, 1) := by decide +kernel
theorem dL_law_1265 : decode cL_law 1265 = .ok (.aload_n 2, 1) := by decide +kernel
theorem dL_law_1266 : decode cL_law 1266 = .ok (.aload_n 0, 1) := by decide +kernel
theorem dL_law_1267 : decode cL_law 1267 = .ok (.iload_n 3, 1) := by decide +kernel
theorem dL_law_1268 : decode cL_law 1268 = .ok (.iconst 1, 1) := by decide +kernel
theorem dL_law_1269 : decode cL_law 1269 = .ok (.iadd, 1) := by decide +kernel
theorem dL_law_1270 : decode cL_law 1270 = .ok (.iaload, 1) := by decide +kernel
theorem dL_law_1271 : decode cL_law 1271 = .ok (.invokevirtual 176, 3) := by decide +kernel
theorem dL_law_1274 : decode cL_law 1274 = .ok (.pop, 1) := by decide +kernel
theorem dL_law_1275 : decode cL_law 1275 = .ok (.goto 85, 3) := by decide +kernel
theorem dL_law_1278 : decode cL_law 1278 = .ok (.aload_n 1, 1) := by decide +kernel
theorem dL_law_1279 : decode cL_law 1279 = .ok (.aload_n 0, 1) := by decide +kernel
theorem dL_law_1280 : decode cL_law 1280 = .ok (.iload_n 3, 1) := by decide +kernel
theorem dL_law_1281 : decode cL_law 1281 = .ok (.iconst 1, 1) := by decide +kernel
theorem dL_law_1282 : decode cL_law 1282 = .ok (.iadd, 1) := by decide +kernel
theorem dL_law_1283 : decode cL_law 1283 = .ok (.iaload, 1) := by decide +kernel
theorem dL_law_1284 : decode cL_law 1284 = .ok (.invokevirtual 177, 3) := by decide +kernel
theorem dL_law_1287 : decode cL_law 1287 = .ok (.pop, 1) := by decide +kernel
theorem dL_law_1288 : decode cL_law 1288 = .ok (.aload_n 2, 1) := by decide +kernel
theorem dL_law_1289 : decode cL_law 1289 = .ok (.aload_n 0, 1) := by decide +kernel
theorem dL_law_1290 : decode cL_law 1290 = .ok (.iload_n 3, 1) := by decide +kernel
theorem dL_law_1291 : decode cL_law 1291 = .ok (.iconst 1, 1) := by decide +kernel
theorem dL_law_1292 : decode cL_law 1292 = .ok (.iadd, 1) := by decide +kernel
theorem dL_law_1293 : decode cL_law 1293 = .ok (.iaload, 1) := by decide +kernel
theorem dL_law_1294 : decode cL_law 1294 = .ok (.invokevirtual 180, 3) := by decide +kernel
theorem dL_law_1297 : decode cL_law 1297 = .ok (.pop, 1) := by decide +kernel
theorem dL_law_1298 : decode cL_law 1298 = .ok (.goto 62, 3) := by decide +kernel
theorem dL_law_1301 : decode cL_law 1301 = .ok (.aload_n 1, 1) := by decide +kernel
theorem dL_law_1302 : decode cL_law 1302 = .ok (.aload_n 0, 1) := by decide +kernel
theorem dL_law_1303 : decode cL_law 1303 = .ok (.iload_n 3, 1) := by decide +kernel
theorem dL_law_1304 : decode cL_law 1304 = .ok (.iconst 1, 1) := by decide +kernel
theorem dL_law_1305 : decode cL_law 1305 = .ok (.iadd, 1) := by decide +kernel
theorem dL_law_1306 : decode cL_law 1306 = .ok (.iaload, 1) := by decide +kernel
theorem dL_law_1307 : decode cL_law 1307 = .ok (.invokevirtual 181, 3) := by decide +kernel
theorem dL_law_1310 : decode cL_law 1310 = .ok (.pop, 1) := by decide +kernel
theorem dL_law_1311 : decode cL_law 1311 = .ok (.aload_n 2, 1) := by decide +kernel
theorem dL_law_1312 : decode cL_law 1312 = .ok (.aload_n 0, 1) := by decide +kernel
theorem dL_law_1313 : decode cL_law 1313 = .ok (.iload_n 3, 1) := by decide +kernel
theorem dL_law_1314 : decode cL_law 1314 = .ok (.iconst 1, 1) := by decide +kernel
theorem dL_law_1315 : decode cL_law 1315 = .ok (.iadd, 1) := by decide +kernel
theorem dL_law_1316 : decode cL_law 1316 = .ok (.iaload, 1) := by decide +kernel
theorem dL_law_1317 : decode cL_law 1317 = .ok (.invokevirtual 184, 3) := by decide +kernel
theorem dL_law_1320 : decode cL_law 1320 = .ok (.pop, 1) := by decide +kernel
theorem dL_law_1321 : decode cL_law 1321 = .ok (.goto 39, 3) := by decide +kernel
theorem dL_law_1324 : decode cL_law 1324 = .ok (.aload_n 1, 1) := by decide +kernel
theorem dL_law_1325 : decode cL_law 1325 = .ok (.aload_n 0, 1) := by decide +kernel
theorem dL_law_1326 : decode cL_law 1326 = .ok (.iload_n 3, 1) := by decide +kernel
theorem dL_law_1327 : decode cL_law 1327 = .ok (.iconst 1, 1) := by decide +kernel
theorem dL_law_1328 : decode cL_law 1328 = .ok (.iadd, 1) := by decide +kernel
theorem dL_law_1329 : decode cL_law 1329 = .ok (.iaload, 1) := by decide +kernel
theorem dL_law_1330 : decode cL_law 1330 = .ok (.invokevirtual 185, 3) := by decide +kernel
theorem dL_law_1333 : decode cL_law 1333 = .ok (.pop, 1) := by decide +kernel
theorem dL_law_1334 : decode cL_law 1334 = .ok (.aload_n 2, 1) := by decide +kernel
theorem dL_law_1335 : decode cL_law 1335 = .ok (.aload_n 0, 1) := by decide +kernel
theorem dL_law_1336 : decode cL_law 1336 = .ok (.iload_n 3, 1) := by decide +kernel
theorem dL_law_1337 : decode cL_law 1337 = .ok (.iconst 1, 1) := by decide +kernel
theorem dL_law_1338 : decode cL_law 1338 = .ok (.iadd, 1) := by decide +kernel
theorem dL_law_1339 : decode cL_law 1339 = .ok (.iaload, 1) := by decide +kernel
theorem dL_law_1340 : decode cL_law 1340 = .ok (.invokevirtual 188, 3) := by decide +kernel
theorem dL_law_1343 : decode cL_law 1343 = .ok (.pop, 1) := by decide +kernel
theorem dL_law_1344 : decode cL_law 1344 = .ok (.goto 16, 3) := by decide +kernel
theorem dL_law_1347 : decode cL_law 1347 = .ok (.aload_n 1, 1) := by decide +kernel
theorem dL_law_1348 : decode cL_law 1348 = .ok (.invokevirtual 189, 3) := by decide +kernel
theorem dL_law_1351 : decode cL_law 1351 = .ok (.pop, 1) := by decide +kernel
theorem dL_law_1352 : decode cL_law 1352 = .ok (.aload_n 2, 1) := by decide +kernel
theorem dL_law_1353 : decode cL_law 1353 = .ok (.invokevirtual 192, 3) := by decide +kernel
theorem dL_law_1356 : decode cL_law 1356 = .ok (.pop, 1) := by decide +kernel
theorem dL_law_1357 : decode cL_law 1357 = .ok (.goto 3, 3) := by decide +kernel
theorem dL_law_1360 : decode cL_law 1360 = .ok (.iinc 3 6, 3) := by decide +kernel
theorem dL_law_1363 : decode cL_law 1363 = .ok (.goto (-1345), 3) := by decide +kernel
theorem dL_law_1366 : decode cL_law 1366 = .ok (.iconst 1, 1) := by decide +kernel
theorem dL_law_1367 : decode cL_law 1367 = .ok (.ireturn, 1) := by decide +kernel
