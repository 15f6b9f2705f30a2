-- the law's code, forty rows at once
def zLaw20 : List (Nat × Instr × Nat) := [(1146, .aload_n 0, 1), (1147, .iload_n 3, 1), (1148, .iconst 2, 1), (1149, .iadd, 1), (1150, .iaload, 1), (1151, .aload_n 0, 1), (1152, .iload_n 3, 1), (1153, .iconst 3, 1), (1154, .iadd, 1), (1155, .iaload, 1), (1156, .aload_n 0, 1), (1157, .iload_n 3, 1), (1158, .iconst 4, 1), (1159, .iadd, 1), (1160, .iaload, 1), (1161, .aload_n 0, 1), (1162, .iload_n 3, 1), (1163, .iconst 5, 1), (1164, .iadd, 1), (1165, .iaload, 1), (1166, .invokevirtual 138, 3), (1169, .if_icmp .eq 133, 3), (1172, .iconst 0, 1), (1173, .ireturn, 1), (1174, .aload_n 1, 1), (1175, .aload_n 0, 1), (1176, .iload_n 3, 1), (1177, .iconst 1, 1), (1178, .iadd, 1), (1179, .iaload, 1), (1180, .invokevirtual 139, 3), (1183, .aload_n 2, 1), (1184, .aload_n 0, 1), (1185, .iload_n 3, 1), (1186, .iconst 1, 1), (1187, .iadd, 1), (1188, .iaload, 1), (1189, .invokevirtual 142, 3), (1192, .if_icmp .eq 110, 3), (1195, .iconst 0, 1)]
theorem zLaw20_ok : zLaw20.all (fun e => match decode code e.1 with | .ok x => decide (x.1 = e.2.1 ∧ x.2 = e.2.2) | _ => false) = true := by decide +kernel
set_option maxRecDepth 100000 in
theorem dL_1146 : decode code 1146 = .ok (.aload_n 0, 1) := dLg zLaw20_ok (by decide +kernel)
set_option maxRecDepth 100000 in
theorem dL_1147 : decode code 1147 = .ok (.iload_n 3, 1) := dLg zLaw20_ok (by decide +kernel)
set_option maxRecDepth 100000 in
theorem dL_1148 : decode code 1148 = .ok (.iconst 2, 1) := dLg zLaw20_ok (by decide +kernel)
set_option maxRecDepth 100000 in
theorem dL_1149 : decode code 1149 = .ok (.iadd, 1) := dLg zLaw20_ok (by decide +kernel)
set_option maxRecDepth 100000 in
theorem dL_1150 : decode code 1150 = .ok (.iaload, 1) := dLg zLaw20_ok (by decide +kernel)
set_option maxRecDepth 100000 in
theorem dL_1151 : decode code 1151 = .ok (.aload_n 0, 1) := dLg zLaw20_ok (by decide +kernel)
set_option maxRecDepth 100000 in
theorem dL_1152 : decode code 1152 = .ok (.iload_n 3, 1) := dLg zLaw20_ok (by decide +kernel)
set_option maxRecDepth 100000 in
theorem dL_1153 : decode code 1153 = .ok (.iconst 3, 1) := dLg zLaw20_ok (by decide +kernel)
set_option maxRecDepth 100000 in
theorem dL_1154 : decode code 1154 = .ok (.iadd, 1) := dLg zLaw20_ok (by decide +kernel)
set_option maxRecDepth 100000 in
theorem dL_1155 : decode code 1155 = .ok (.iaload, 1) := dLg zLaw20_ok (by decide +kernel)
set_option maxRecDepth 100000 in
theorem dL_1156 : decode code 1156 = .ok (.aload_n 0, 1) := dLg zLaw20_ok (by decide +kernel)
set_option maxRecDepth 100000 in
theorem dL_1157 : decode code 1157 = .ok (.iload_n 3, 1) := dLg zLaw20_ok (by decide +kernel)
set_option maxRecDepth 100000 in
theorem dL_1158 : decode code 1158 = .ok (.iconst 4, 1) := dLg zLaw20_ok (by decide +kernel)
set_option maxRecDepth 100000 in
theorem dL_1159 : decode code 1159 = .ok (.iadd, 1) := dLg zLaw20_ok (by decide +kernel)
set_option maxRecDepth 100000 in
theorem dL_1160 : decode code 1160 = .ok (.iaload, 1) := dLg zLaw20_ok (by decide +kernel)
set_option maxRecDepth 100000 in
theorem dL_1161 : decode code 1161 = .ok (.aload_n 0, 1) := dLg zLaw20_ok (by decide +kernel)
set_option maxRecDepth 100000 in
theorem dL_1162 : decode code 1162 = .ok (.iload_n 3, 1) := dLg zLaw20_ok (by decide +kernel)
set_option maxRecDepth 100000 in
theorem dL_1163 : decode code 1163 = .ok (.iconst 5, 1) := dLg zLaw20_ok (by decide +kernel)
set_option maxRecDepth 100000 in
theorem dL_1164 : decode code 1164 = .ok (.iadd, 1) := dLg zLaw20_ok (by decide +kernel)
set_option maxRecDepth 100000 in
theorem dL_1165 : decode code 1165 = .ok (.iaload, 1) := dLg zLaw20_ok (by decide +kernel)
set_option maxRecDepth 100000 in
theorem dL_1166 : decode code 1166 = .ok (.invokevirtual 138, 3) := dLg zLaw20_ok (by decide +kernel)
set_option maxRecDepth 100000 in
theorem dL_1169 : decode code 1169 = .ok (.if_icmp .eq 133, 3) := dLg zLaw20_ok (by decide +kernel)
set_option maxRecDepth 100000 in
theorem dL_1172 : decode code 1172 = .ok (.iconst 0, 1) := dLg zLaw20_ok (by decide +kernel)
set_option maxRecDepth 100000 in
theorem dL_1173 : decode code 1173 = .ok (.ireturn, 1) := dLg zLaw20_ok (by decide +kernel)
set_option maxRecDepth 100000 in
theorem dL_1174 : decode code 1174 = .ok (.aload_n 1, 1) := dLg zLaw20_ok (by decide +kernel)
set_option maxRecDepth 100000 in
theorem dL_1175 : decode code 1175 = .ok (.aload_n 0, 1) := dLg zLaw20_ok (by decide +kernel)
set_option maxRecDepth 100000 in
theorem dL_1176 : decode code 1176 = .ok (.iload_n 3, 1) := dLg zLaw20_ok (by decide +kernel)
set_option maxRecDepth 100000 in
theorem dL_1177 : decode code 1177 = .ok (.iconst 1, 1) := dLg zLaw20_ok (by decide +kernel)
set_option maxRecDepth 100000 in
theorem dL_1178 : decode code 1178 = .ok (.iadd, 1) := dLg zLaw20_ok (by decide +kernel)
set_option maxRecDepth 100000 in
theorem dL_1179 : decode code 1179 = .ok (.iaload, 1) := dLg zLaw20_ok (by decide +kernel)
set_option maxRecDepth 100000 in
theorem dL_1180 : decode code 1180 = .ok (.invokevirtual 139, 3) := dLg zLaw20_ok (by decide +kernel)
set_option maxRecDepth 100000 in
theorem dL_1183 : decode code 1183 = .ok (.aload_n 2, 1) := dLg zLaw20_ok (by decide +kernel)
set_option maxRecDepth 100000 in
theorem dL_1184 : decode code 1184 = .ok (.aload_n 0, 1) := dLg zLaw20_ok (by decide +kernel)
set_option maxRecDepth 100000 in
theorem dL_1185 : decode code 1185 = .ok (.iload_n 3, 1) := dLg zLaw20_ok (by decide +kernel)
set_option maxRecDepth 100000 in
theorem dL_1186 : decode code 1186 = .ok (.iconst 1, 1) := dLg zLaw20_ok (by decide +kernel)
set_option maxRecDepth 100000 in
theorem dL_1187 : decode code 1187 = .ok (.iadd, 1) := dLg zLaw20_ok (by decide +kernel)
set_option maxRecDepth 100000 in
theorem dL_1188 : decode code 1188 = .ok (.iaload, 1) := dLg zLaw20_ok (by decide +kernel)
set_option maxRecDepth 100000 in
theorem dL_1189 : decode code 1189 = .ok (.invokevirtual 142, 3) := dLg zLaw20_ok (by decide +kernel)
set_option maxRecDepth 100000 in
theorem dL_1192 : decode code 1192 = .ok (.if_icmp .eq 110, 3) := dLg zLaw20_ok (by decide +kernel)
set_option maxRecDepth 100000 in
theorem dL_1195 : decode code 1195 = .ok (.iconst 0, 1) := dLg zLaw20_ok (by decide +kernel)
def zLaw21 : List (Nat × Instr × Nat) := [(1196, .ireturn, 1), (1197, .aload_n 1, 1), (1198, .aload_n 0, 1), (1199, .iload_n 3, 1), (1200, .iconst 1, 1), (1201, .iadd, 1), (1202, .iaload, 1), (1203, .invokevirtual 143, 3), (1206, .aload_n 2, 1), (1207, .aload_n 0, 1), (1208, .iload_n 3, 1), (1209, .iconst 1, 1), (1210, .iadd, 1), (1211, .iaload, 1), (1212, .invokevirtual 146, 3), (1215, .if_icmp .eq 87, 3), (1218, .iconst 0, 1), (1219, .ireturn, 1), (1220, .aload_n 1, 1), (1221, .aload_n 0, 1), (1222, .iload_n 3, 1), (1223, .iconst 1, 1), (1224, .iadd, 1), (1225, .iaload, 1), (1226, .aload_n 0, 1), (1227, .iload_n 3, 1), (1228, .iconst 2, 1), (1229, .iadd, 1), (1230, .iaload, 1), (1231, .invokevirtual 147, 3), (1234, .aload_n 2, 1), (1235, .aload_n 0, 1), (1236, .iload_n 3, 1), (1237, .iconst 1, 1), (1238, .iadd, 1), (1239, .iaload, 1), (1240, .aload_n 0, 1), (1241, .iload_n 3, 1), (1242, .iconst 2, 1), (1243, .iadd, 1)]
theorem zLaw21_ok : zLaw21.all (fun e => match decode code e.1 with | .ok x => decide (x.1 = e.2.1 ∧ x.2 = e.2.2) | _ => false) = true := by decide +kernel
set_option maxRecDepth 100000 in
theorem dL_1196 : decode code 1196 = .ok (.ireturn, 1) := dLg zLaw21_ok (by decide +kernel)
set_option maxRecDepth 100000 in
theorem dL_1197 : decode code 1197 = .ok (.aload_n 1, 1) := dLg zLaw21_ok (by decide +kernel)
set_option maxRecDepth 100000 in
theorem dL_1198 : decode code 1198 = .ok (.aload_n 0, 1) := dLg zLaw21_ok (by decide +kernel)
set_option maxRecDepth 100000 in
theorem dL_1199 : decode code 1199 = .ok (.iload_n 3, 1) := dLg zLaw21_ok (by decide +kernel)
set_option maxRecDepth 100000 in
theorem dL_1200 : decode code 1200 = .ok (.iconst 1, 1) := dLg zLaw21_ok (by decide +kernel)
set_option maxRecDepth 100000 in
theorem dL_1201 : decode code 1201 = .ok (.iadd, 1) := dLg zLaw21_ok (by decide +kernel)
set_option maxRecDepth 100000 in
theorem dL_1202 : decode code 1202 = .ok (.iaload, 1) := dLg zLaw21_ok (by decide +kernel)
set_option maxRecDepth 100000 in
theorem dL_1203 : decode code 1203 = .ok (.invokevirtual 143, 3) := dLg zLaw21_ok (by decide +kernel)
set_option maxRecDepth 100000 in
theorem dL_1206 : decode code 1206 = .ok (.aload_n 2, 1) := dLg zLaw21_ok (by decide +kernel)
set_option maxRecDepth 100000 in
theorem dL_1207 : decode code 1207 = .ok (.aload_n 0, 1) := dLg zLaw21_ok (by decide +kernel)
set_option maxRecDepth 100000 in
theorem dL_1208 : decode code 1208 = .ok (.iload_n 3, 1) := dLg zLaw21_ok (by decide +kernel)
set_option maxRecDepth 100000 in
theorem dL_1209 : decode code 1209 = .ok (.iconst 1, 1) := dLg zLaw21_ok (by decide +kernel)
set_option maxRecDepth 100000 in
theorem dL_1210 : decode code 1210 = .ok (.iadd, 1) := dLg zLaw21_ok (by decide +kernel)
set_option maxRecDepth 100000 in
theorem dL_1211 : decode code 1211 = .ok (.iaload, 1) := dLg zLaw21_ok (by decide +kernel)
set_option maxRecDepth 100000 in
theorem dL_1212 : decode code 1212 = .ok (.invokevirtual 146, 3) := dLg zLaw21_ok (by decide +kernel)
set_option maxRecDepth 100000 in
theorem dL_1215 : decode code 1215 = .ok (.if_icmp .eq 87, 3) := dLg zLaw21_ok (by decide +kernel)
set_option maxRecDepth 100000 in
theorem dL_1218 : decode code 1218 = .ok (.iconst 0, 1) := dLg zLaw21_ok (by decide +kernel)
set_option maxRecDepth 100000 in
theorem dL_1219 : decode code 1219 = .ok (.ireturn, 1) := dLg zLaw21_ok (by decide +kernel)
set_option maxRecDepth 100000 in
theorem dL_1220 : decode code 1220 = .ok (.aload_n 1, 1) := dLg zLaw21_ok (by decide +kernel)
set_option maxRecDepth 100000 in
theorem dL_1221 : decode code 1221 = .ok (.aload_n 0, 1) := dLg zLaw21_ok (by decide +kernel)
set_option maxRecDepth 100000 in
theorem dL_1222 : decode code 1222 = .ok (.iload_n 3, 1) := dLg zLaw21_ok (by decide +kernel)
set_option maxRecDepth 100000 in
theorem dL_1223 : decode code 1223 = .ok (.iconst 1, 1) := dLg zLaw21_ok (by decide +kernel)
set_option maxRecDepth 100000 in
theorem dL_1224 : decode code 1224 = .ok (.iadd, 1) := dLg zLaw21_ok (by decide +kernel)
set_option maxRecDepth 100000 in
theorem dL_1225 : decode code 1225 = .ok (.iaload, 1) := dLg zLaw21_ok (by decide +kernel)
set_option maxRecDepth 100000 in
theorem dL_1226 : decode code 1226 = .ok (.aload_n 0, 1) := dLg zLaw21_ok (by decide +kernel)
set_option maxRecDepth 100000 in
theorem dL_1227 : decode code 1227 = .ok (.iload_n 3, 1) := dLg zLaw21_ok (by decide +kernel)
set_option maxRecDepth 100000 in
theorem dL_1228 : decode code 1228 = .ok (.iconst 2, 1) := dLg zLaw21_ok (by decide +kernel)
set_option maxRecDepth 100000 in
theorem dL_1229 : decode code 1229 = .ok (.iadd, 1) := dLg zLaw21_ok (by decide +kernel)
set_option maxRecDepth 100000 in
theorem dL_1230 : decode code 1230 = .ok (.iaload, 1) := dLg zLaw21_ok (by decide +kernel)
set_option maxRecDepth 100000 in
theorem dL_1231 : decode code 1231 = .ok (.invokevirtual 147, 3) := dLg zLaw21_ok (by decide +kernel)
set_option maxRecDepth 100000 in
theorem dL_1234 : decode code 1234 = .ok (.aload_n 2, 1) := dLg zLaw21_ok (by decide +kernel)
set_option maxRecDepth 100000 in
theorem dL_1235 : decode code 1235 = .ok (.aload_n 0, 1) := dLg zLaw21_ok (by decide +kernel)
set_option maxRecDepth 100000 in
theorem dL_1236 : decode code 1236 = .ok (.iload_n 3, 1) := dLg zLaw21_ok (by decide +kernel)
set_option maxRecDepth 100000 in
theorem dL_1237 : decode code 1237 = .ok (.iconst 1, 1) := dLg zLaw21_ok (by decide +kernel)
set_option maxRecDepth 100000 in
theorem dL_1238 : decode code 1238 = .ok (.iadd, 1) := dLg zLaw21_ok (by decide +kernel)
set_option maxRecDepth 100000 in
theorem dL_1239 : decode code 1239 = .ok (.iaload, 1) := dLg zLaw21_ok (by decide +kernel)
set_option maxRecDepth 100000 in
theorem dL_1240 : decode code 1240 = .ok (.aload_n 0, 1) := dLg zLaw21_ok (by decide +kernel)
set_option maxRecDepth 100000 in
theorem dL_1241 : decode code 1241 = .ok (.iload_n 3, 1) := dLg zLaw21_ok (by decide +kernel)
set_option maxRecDepth 100000 in
theorem dL_1242 : decode code 1242 = .ok (.iconst 2, 1) := dLg zLaw21_ok (by decide +kernel)
set_option maxRecDepth 100000 in
theorem dL_1243 : decode code 1243 = .ok (.iadd, 1) := dLg zLaw21_ok (by decide +kernel)
def zLaw22 : List (Nat × Instr × Nat) := [(1244, .iaload, 1), (1245, .invokevirtual 150, 3), (1248, .if_icmp .eq 54, 3), (1251, .iconst 0, 1), (1252, .ireturn, 1), (1253, .aload_n 1, 1), (1254, .invokevirtual 151, 3), (1257, .aload_n 2, 1), (1258, .invokevirtual 155, 3), (1261, .if_icmp .eq 41, 3), (1264, .iconst 0, 1), (1265, .ireturn, 1), (1266, .aload_n 1, 1), (1267, .invokevirtual 156, 3), (1270, .aload_n 2, 1), (1271, .invokevirtual 159, 3), (1274, .if_icmp .eq 28, 3), (1277, .iconst 0, 1), (1278, .ireturn, 1), (1279, .aload_n 1, 1), (1280, .aload_n 0, 1), (1281, .iload_n 3, 1), (1282, .iconst 1, 1), (1283, .iadd, 1), (1284, .iaload, 1), (1285, .invokevirtual 160, 3), (1288, .aload_n 2, 1), (1289, .aload_n 0, 1), (1290, .iload_n 3, 1), (1291, .iconst 1, 1), (1292, .iadd, 1), (1293, .iaload, 1), (1294, .invokevirtual 163, 3), (1297, .if_icmp .eq 5, 3), (1300, .iconst 0, 1), (1301, .ireturn, 1), (1302, .iinc 3 6, 3), (1305, .goto (-1287), 3), (1308, .iconst 1, 1), (1309, .ireturn, 1)]
theorem zLaw22_ok : zLaw22.all (fun e => match decode code e.1 with | .ok x => decide (x.1 = e.2.1 ∧ x.2 = e.2.2) | _ => false) = true := by decide +kernel
set_option maxRecDepth 100000 in
theorem dL_1244 : decode code 1244 = .ok (.iaload, 1) := dLg zLaw22_ok (by decide +kernel)
set_option maxRecDepth 100000 in
theorem dL_1245 : decode code 1245 = .ok (.invokevirtual 150, 3) := dLg zLaw22_ok (by decide +kernel)
set_option maxRecDepth 100000 in
theorem dL_1248 : decode code 1248 = .ok (.if_icmp .eq 54, 3) := dLg zLaw22_ok (by decide +kernel)
set_option maxRecDepth 100000 in
theorem dL_1251 : decode code 1251 = .ok (.iconst 0, 1) := dLg zLaw22_ok (by decide +kernel)
set_option maxRecDepth 100000 in
theorem dL_1252 : decode code 1252 = .ok (.ireturn, 1) := dLg zLaw22_ok (by decide +kernel)
set_option maxRecDepth 100000 in
theorem dL_1253 : decode code 1253 = .ok (.aload_n 1, 1) := dLg zLaw22_ok (by decide +kernel)
set_option maxRecDepth 100000 in
theorem dL_1254 : decode code 1254 = .ok (.invokevirtual 151, 3) := dLg zLaw22_ok (by decide +kernel)
set_option maxRecDepth 100000 in
theorem dL_1257 : decode code 1257 = .ok (.aload_n 2, 1) := dLg zLaw22_ok (by decide +kernel)
set_option maxRecDepth 100000 in
theorem dL_1258 : decode code 1258 = .ok (.invokevirtual 155, 3) := dLg zLaw22_ok (by decide +kernel)
set_option maxRecDepth 100000 in
theorem dL_1261 : decode code 1261 = .ok (.if_icmp .eq 41, 3) := dLg zLaw22_ok (by decide +kernel)
set_option maxRecDepth 100000 in
theorem dL_1264 : decode code 1264 = .ok (.iconst 0, 1) := dLg zLaw22_ok (by decide +kernel)
set_option maxRecDepth 100000 in
theorem dL_1265 : decode code 1265 = .ok (.ireturn, 1) := dLg zLaw22_ok (by decide +kernel)
set_option maxRecDepth 100000 in
theorem dL_1266 : decode code 1266 = .ok (.aload_n 1, 1) := dLg zLaw22_ok (by decide +kernel)
set_option maxRecDepth 100000 in
theorem dL_1267 : decode code 1267 = .ok (.invokevirtual 156, 3) := dLg zLaw22_ok (by decide +kernel)
set_option maxRecDepth 100000 in
theorem dL_1270 : decode code 1270 = .ok (.aload_n 2, 1) := dLg zLaw22_ok (by decide +kernel)
set_option maxRecDepth 100000 in
theorem dL_1271 : decode code 1271 = .ok (.invokevirtual 159, 3) := dLg zLaw22_ok (by decide +kernel)
set_option maxRecDepth 100000 in
theorem dL_1274 : decode code 1274 = .ok (.if_icmp .eq 28, 3) := dLg zLaw22_ok (by decide +kernel)
set_option maxRecDepth 100000 in
theorem dL_1277 : decode code 1277 = .ok (.iconst 0, 1) := dLg zLaw22_ok (by decide +kernel)
set_option maxRecDepth 100000 in
theorem dL_1278 : decode code 1278 = .ok (.ireturn, 1) := dLg zLaw22_ok (by decide +kernel)
set_option maxRecDepth 100000 in
theorem dL_1279 : decode code 1279 = .ok (.aload_n 1, 1) := dLg zLaw22_ok (by decide +kernel)
set_option maxRecDepth 100000 in
theorem dL_1280 : decode code 1280 = .ok (.aload_n 0, 1) := dLg zLaw22_ok (by decide +kernel)
set_option maxRecDepth 100000 in
theorem dL_1281 : decode code 1281 = .ok (.iload_n 3, 1) := dLg zLaw22_ok (by decide +kernel)
set_option maxRecDepth 100000 in
theorem dL_1282 : decode code 1282 = .ok (.iconst 1, 1) := dLg zLaw22_ok (by decide +kernel)
set_option maxRecDepth 100000 in
theorem dL_1283 : decode code 1283 = .ok (.iadd, 1) := dLg zLaw22_ok (by decide +kernel)
set_option maxRecDepth 100000 in
theorem dL_1284 : decode code 1284 = .ok (.iaload, 1) := dLg zLaw22_ok (by decide +kernel)
set_option maxRecDepth 100000 in
theorem dL_1285 : decode code 1285 = .ok (.invokevirtual 160, 3) := dLg zLaw22_ok (by decide +kernel)
set_option maxRecDepth 100000 in
theorem dL_1288 : decode code 1288 = .ok (.aload_n 2, 1) := dLg zLaw22_ok (by decide +kernel)
set_option maxRecDepth 100000 in
theorem dL_1289 : decode code 1289 = .ok (.aload_n 0, 1) := dLg zLaw22_ok (by decide +kernel)
set_option maxRecDepth 100000 in
theorem dL_1290 : decode code 1290 = .ok (.iload_n 3, 1) := dLg zLaw22_ok (by decide +kernel)
set_option maxRecDepth 100000 in
theorem dL_1291 : decode code 1291 = .ok (.iconst 1, 1) := dLg zLaw22_ok (by decide +kernel)
set_option maxRecDepth 100000 in
theorem dL_1292 : decode code 1292 = .ok (.iadd, 1) := dLg zLaw22_ok (by decide +kernel)
set_option maxRecDepth 100000 in
theorem dL_1293 : decode code 1293 = .ok (.iaload, 1) := dLg zLaw22_ok (by decide +kernel)
set_option maxRecDepth 100000 in
theorem dL_1294 : decode code 1294 = .ok (.invokevirtual 163, 3) := dLg zLaw22_ok (by decide +kernel)
set_option maxRecDepth 100000 in
theorem dL_1297 : decode code 1297 = .ok (.if_icmp .eq 5, 3) := dLg zLaw22_ok (by decide +kernel)
set_option maxRecDepth 100000 in
theorem dL_1300 : decode code 1300 = .ok (.iconst 0, 1) := dLg zLaw22_ok (by decide +kernel)
set_option maxRecDepth 100000 in
theorem dL_1301 : decode code 1301 = .ok (.ireturn, 1) := dLg zLaw22_ok (by decide +kernel)
set_option maxRecDepth 100000 in
theorem dL_1302 : decode code 1302 = .ok (.iinc 3 6, 3) := dLg zLaw22_ok (by decide +kernel)
set_option maxRecDepth 100000 in
theorem dL_1305 : decode code 1305 = .ok (.goto (-1287), 3) := dLg zLaw22_ok (by decide +kernel)
set_option maxRecDepth 100000 in
theorem dL_1308 : decode code 1308 = .ok (.iconst 1, 1) := dLg zLaw22_ok (by decide +kernel)
set_option maxRecDepth 100000 in
theorem dL_1309 : decode code 1309 = .ok (.ireturn, 1) := dLg zLaw22_ok (by decide +kernel)
