theorem dL_law_1196 : decode cL_law 1196 = .ok (.aload_n 1, 1) := by decide +kernel
theorem dL_law_1197 : decode cL_law 1197 = .ok (.aload_n 0, 1) := by decide +kernel
theorem dL_law_1198 : decode cL_law 1198 = .ok (.iload 5, 2) := by decide +kernel
theorem dL_law_1200 : decode cL_law 1200 = .ok (.iconst 1, 1) := by decide +kernel
theorem dL_law_1201 : decode cL_law 1201 = .ok (.iadd, 1) := by decide +kernel
theorem dL_law_1202 : decode cL_law 1202 = .ok (.iaload, 1) := by decide +kernel
theorem dL_law_1203 : decode cL_law 1203 = .ok (.aload_n 0, 1) := by decide +kernel
theorem dL_law_1204 : decode cL_law 1204 = .ok (.iload 5, 2) := by decide +kernel
theorem dL_law_1206 : decode cL_law 1206 = .ok (.iconst 2, 1) := by decide +kernel
theorem dL_law_1207 : decode cL_law 1207 = .ok (.iadd, 1) := by decide +kernel
theorem dL_law_1208 : decode cL_law 1208 = .ok (.iaload, 1) := by decide +kernel
theorem dL_law_1209 : decode cL_law 1209 = .ok (.ifCond .eq 7, 3) := by decide +kernel
theorem dL_law_1216 : decode cL_law 1216 = .ok (.iconst 0, 1) := by decide +kernel
theorem dL_law_1217 : decode cL_law 1217 = .ok (.aload_n 3, 1) := by decide +kernel
set_option maxRecDepth 20000 in
theorem ggL_law_L_promised_c0 : GoodIn wsL_law [Cond.codeWith yL_promised cL_promised 5 (some .int) [(0, 10, 13, 13), (0, 10, 17, 77)]] := goodIn_r _ [882] (by decide +kernel) (by decide +kernel)
set_option maxRecDepth 20000 in
theorem ggL_law_L_promised_c1 : GoodIn wsL_law wsL_promised_r1 := goodIn_r _ [64, 883, 884, 885, 886, 2, 887, 888, 889, 17, 122, 373, 374, 375, 376, 70, 71, 114, 115, 116, 117, 23, 124, 125] (by decide +kernel) (by decide +kernel)
set_option maxRecDepth 20000 in
theorem ggL_law_L_promised_c2 : GoodIn wsL_law wsL_promised_r2 := goodIn_r _ [126, 16, 127, 78, 128, 129, 130, 131, 132, 133, 134, 135, 136, 137, 138, 139, 140, 141, 142, 143, 30, 890, 647, 648] (by decide +kernel) (by decide +kernel)
set_option maxRecDepth 20000 in
theorem ggL_law_L_promised_c3 : GoodIn wsL_law wsL_promised_r3 := goodIn_r _ [112, 649, 517, 518, 329, 330, 331] (by decide +kernel) (by decide +kernel)
set_option maxRecDepth 20000 in
theorem ggL_law_L_promised_c4 : GoodIn wsL_law wsX30 := goodIn_r _ [1172, 1173, 1174, 1175, 1176, 1177, 1178, 1179, 1180, 1181, 1182, 1183] (by decide +kernel) (by decide +kernel)
set_option maxRecDepth 20000 in
theorem ggL_law_L_promised_c5 : GoodIn wsL_law wsJx4a65c0 := goodIn_r _ [1196, 1197, 1198] (by decide +kernel) (by decide +kernel)
set_option maxRecDepth 20000 in
theorem ggL_law_L_promised_c6 : GoodIn wsL_law wsX00 := goodIn_r _ [1201, 1202, 1203, 1204, 1205, 1206, 1207, 1208, 1209, 1210, 1211, 1212, 1213, 1214, 1215, 1216, 1217, 1218, 1219] (by decide +kernel) (by decide +kernel)
set_option maxRecDepth 20000 in
theorem ggL_law_L_promised : GoodIn wsL_law wsL_promised := goodIn_ca (goodIn_ca (goodIn_ca (tw_gc ggL_law_L_promised_c0 (goodIn_app (goodIn_app (goodIn_app (goodIn_app ggL_law_L_promised_c1 (goodIn_app ggL_law_L_promised_c2 ggL_law_L_promised_c3)) ggL_law_L_promised_c4) ggL_law_L_promised_c5) ggL_law_L_promised_c6)) (goodIn_sub (fun _ h => List.mem_append_left _ (List.mem_append_left _ (List.mem_append_left _ (List.mem_append_left _ (List.mem_append_left _ (List.mem_append_left _ (List.mem_append_left _ (List.mem_append_right _ h)))))))) (by decide +kernel))) (goodIn_sub (fun _ h => List.mem_append_left _ (List.mem_append_right _ h)) (by decide +kernel))) (goodIn_sub (fun _ h => List.mem_append_left _ (List.mem_append_left _ (List.mem_append_left _ (List.mem_append_left _ (List.mem_append_left _ (List.mem_append_left _ (List.mem_append_right _ h))))))) (by decide +kernel))
set_option maxRecDepth 20000 in
theorem gL_law_L_promised : GoodIn wsL_law (va_wsS RL 180 yL_promised wsL_promised) := goodIn_app (goodIn_of _ (by decide +kernel)) ggL_law_L_promised
theorem dL_law_1218 : decode cL_law 1218 = .ok (.invokestatic 180, 3) := by decide +kernel
theorem dL_law_1221 : decode cL_law 1221 = .ok (.istore 6, 2) := by decide +kernel
theorem dL_law_1223 : decode cL_law 1223 = .ok (.aload_n 2, 1) := by decide +kernel
theorem dL_law_1224 : decode cL_law 1224 = .ok (.aload_n 0, 1) := by decide +kernel
theorem dL_law_1225 : decode cL_law 1225 = .ok (.iload 5, 2) := by decide +kernel
theorem dL_law_1227 : decode cL_law 1227 = .ok (.iconst 1, 1) := by decide +kernel
theorem dL_law_1228 : decode cL_law 1228 = .ok (.iadd, 1) := by decide +kernel
theorem dL_law_1229 : decode cL_law 1229 = .ok (.iaload, 1) := by decide +kernel
theorem dL_law_1230 : decode cL_law 1230 = .ok (.aload_n 0, 1) := by decide +kernel
theorem dL_law_1231 : decode cL_law 1231 = .ok (.iload 5, 2) := by decide +kernel
theorem dL_law_1233 : decode cL_law 1233 = .ok (.iconst 2, 1) := by decide +kernel
theorem dL_law_1234 : decode cL_law 1234 = .ok (.iadd, 1) := by decide +kernel
theorem dL_law_1235 : decode cL_law 1235 = .ok (.iaload, 1) := by decide +kernel
theorem dL_law_1236 : decode cL_law 1236 = .ok (.ifCond .eq 7, 3) := by decide +kernel
theorem dL_law_1243 : decode cL_law 1243 = .ok (.iconst 0, 1) := by decide +kernel
set_option maxRecDepth 20000 in
theorem ggL_law_X6_promised : GoodIn wsL_law wsX6_promised := goodIn_r _ [894, 56, 241, 242, 243, 5, 244, 51, 83, 84, 85, 86, 87, 88, 89, 90, 92, 93, 94, 95, 1184, 1185, 1186, 1187, 1188, 1189, 1190, 1191, 1192, 1193, 1194, 1195, 1220, 1221, 1222, 1223, 1224, 1225, 1226, 1227, 1228, 1229, 1230, 1231, 1232, 1233] (by decide +kernel) (by decide +kernel)
set_option maxRecDepth 20000 in
theorem gL_law_X6_promised : GoodIn wsL_law (wsV RL 183 RX6 yX6_promised wsX6_promised) := goodIn_app (goodIn_of _ (by decide +kernel)) ggL_law_X6_promised
theorem dL_law_1244 : decode cL_law 1244 = .ok (.invokevirtual 183, 3) := by decide +kernel
theorem dL_law_1247 : decode cL_law 1247 = .ok (.istore 7, 2) := by decide +kernel
theorem dL_law_1249 : decode cL_law 1249 = .ok (.aload_n 2, 1) := by decide +kernel
theorem dL_law_1250 : decode cL_law 1250 = .ok (.invokevirtual 127, 3) := by decide +kernel
theorem dL_law_1253 : decode cL_law 1253 = .ok (.iload 6, 2) := by decide +kernel
theorem dL_law_1255 : decode cL_law 1255 = .ok (.if_icmp .eq 5, 3) := by decide +kernel
theorem dL_law_1260 : decode cL_law 1260 = .ok (.iload 6, 2) := by decide +kernel
theorem dL_law_1262 : decode cL_law 1262 = .ok (.ifCond .ne 15, 3) := by decide +kernel
theorem dL_law_1277 : decode cL_law 1277 = .ok (.goto 779, 3) := by decide +kernel
theorem dL_law_1212 : decode cL_law 1212 = .ok (.iconst 1, 1) := by decide +kernel
theorem dL_law_1213 : decode cL_law 1213 = .ok (.goto 4, 3) := by decide +kernel
theorem dL_law_1239 : decode cL_law 1239 = .ok (.iconst 1, 1) := by decide +kernel
theorem dL_law_1240 : decode cL_law 1240 = .ok (.goto 4, 3) := by decide +kernel
theorem dL_law_1280 : decode cL_law 1280 = .ok (.aload_n 1, 1) := by decide +kernel
theorem dL_law_1281 : decode cL_law 1281 = .ok (.aload_n 0, 1) := by decide +kernel
theorem dL_law_1282 : decode cL_law 1282 = .ok (.iload 5, 2) := by decide +kernel
theorem dL_law_1284 : decode cL_law 1284 = .ok (.iconst 1, 1) := by decide +kernel
theorem dL_law_1285 : decode cL_law 1285 = .ok (.iadd, 1) := by decide +kernel
theorem dL_law_1286 : decode cL_law 1286 = .ok (.iaload, 1) := by decide +kernel
theorem dL_law_1287 : decode cL_law 1287 = .ok (.aload_n 0, 1) := by decide +kernel
theorem dL_law_1288 : decode cL_law 1288 = .ok (.iload 5, 2) := by decide +kernel
theorem dL_law_1290 : decode cL_law 1290 = .ok (.iconst 2, 1) := by decide +kernel
theorem dL_law_1291 : decode cL_law 1291 = .ok (.iadd, 1) := by decide +kernel
theorem dL_law_1292 : decode cL_law 1292 = .ok (.iaload, 1) := by decide +kernel
theorem dL_law_1293 : decode cL_law 1293 = .ok (.aload_n 0, 1) := by decide +kernel
theorem dL_law_1294 : decode cL_law 1294 = .ok (.iload 5, 2) := by decide +kernel
theorem dL_law_1296 : decode cL_law 1296 = .ok (.iconst 3, 1) := by decide +kernel
theorem dL_law_1297 : decode cL_law 1297 = .ok (.iadd, 1) := by decide +kernel
theorem dL_law_1298 : decode cL_law 1298 = .ok (.iaload, 1) := by decide +kernel
theorem dL_law_1299 : decode cL_law 1299 = .ok (.ifCond .eq 7, 3) := by decide +kernel
theorem dL_law_1306 : decode cL_law 1306 = .ok (.iconst 0, 1) := by decide +kernel
theorem dL_law_1307 : decode cL_law 1307 = .ok (.aload_n 3, 1) := by decide +kernel
set_option maxRecDepth 20000 in
theorem ggL_law_L_timeFor_c0 : GoodIn wsL_law [Cond.codeWith yL_timeFor cL_timeFor 6 (some .int) [(0, 12, 15, 35), (0, 12, 19, 13)]] := goodIn_r _ [897] (by decide +kernel) (by decide +kernel)
set_option maxRecDepth 20000 in
theorem ggL_law_L_timeFor_c1 : GoodIn wsL_law wsL_timeFor_r1 := goodIn_r _ [361, 64, 898, 899, 900, 2, 901, 367, 368, 369, 370, 371, 372, 17, 122, 124, 125, 126, 16, 127, 78, 128, 129, 130] (by decide +kernel) (by decide +kernel)
set_option maxRecDepth 20000 in
theorem ggL_law_L_timeFor_c2 : GoodIn wsL_law wsL_timeFor_r2 := goodIn_r _ [131, 132, 133, 134, 135, 136, 137, 138, 139, 140, 141, 142, 143, 30, 373, 374, 375, 376, 70, 71, 114, 115, 116, 117] (by decide +kernel) (by decide +kernel)
set_option maxRecDepth 20000 in
theorem ggL_law_L_timeFor_c3 : GoodIn wsL_law wsL_timeFor_r3 := goodIn_r _ [23, 503, 504, 505, 112, 506, 165, 151, 149, 507, 501, 201, 502, 508, 509, 510, 511, 512, 513, 514, 515, 516, 517, 518] (by decide +kernel) (by decide +kernel)
set_option maxRecDepth 20000 in
theorem ggL_law_L_timeFor_c4 : GoodIn wsL_law wsL_timeFor_r4 := goodIn_r _ [519, 520, 521, 522, 523, 524, 525, 526, 527, 528, 529, 330, 331] (by decide +kernel) (by decide +kernel)
set_option maxRecDepth 20000 in
theorem ggL_law_L_timeFor_c5 : GoodIn wsL_law wsX30 := goodIn_r _ [1172, 1173, 1174, 1175, 1176, 1177, 1178, 1179, 1180, 1181, 1182, 1183] (by decide +kernel) (by decide +kernel)
set_option maxRecDepth 20000 in
theorem ggL_law_L_timeFor_c6 : GoodIn wsL_law wsJx4a65c0 := goodIn_r _ [1196, 1197, 1198] (by decide +kernel) (by decide +kernel)
set_option maxRecDepth 20000 in
theorem ggL_law_L_timeFor_c7 : GoodIn wsL_law wsX00 := goodIn_r _ [1201, 1202, 1203, 1204, 1205, 1206, 1207, 1208, 1209, 1210, 1211, 1212, 1213, 1214, 1215, 1216, 1217, 1218, 1219] (by decide +kernel) (by decide +kernel)
set_option maxRecDepth 20000 in
theorem ggL_law_L_timeFor : GoodIn wsL_law wsL_timeFor := goodIn_ca (goodIn_ca (goodIn_ca (tw_gc ggL_law_L_timeFor_c0 (goodIn_app (goodIn_app (goodIn_app (goodIn_app ggL_law_L_timeFor_c1 (goodIn_app ggL_law_L_timeFor_c2 (goodIn_app ggL_law_L_timeFor_c3 ggL_law_L_timeFor_c4))) ggL_law_L_timeFor_c5) ggL_law_L_timeFor_c6) ggL_law_L_timeFor_c7)) (goodIn_sub (fun _ h => List.mem_append_left _ (List.mem_append_left _ (List.mem_append_left _ (List.mem_append_left _ (List.mem_append_left _ (List.mem_append_left _ (List.mem_append_left _ (List.mem_append_right _ h)))))))) (by decide +kernel))) (goodIn_sub (fun _ h => List.mem_append_left _ (List.mem_append_left _ (List.mem_append_left _ (List.mem_append_right _ h)))) (by decide +kernel))) (goodIn_sub (fun _ h => List.mem_append_left _ (List.mem_append_left _ (List.mem_append_left _ (List.mem_append_left _ (List.mem_append_left _ (List.mem_append_left _ (List.mem_append_right _ h))))))) (by decide +kernel))
set_option maxRecDepth 20000 in
theorem gL_law_L_timeFor : GoodIn wsL_law (va_wsS RL 184 yL_timeFor wsL_timeFor) := goodIn_app (goodIn_of _ (by decide +kernel)) ggL_law_L_timeFor
theorem dL_law_1308 : decode cL_law 1308 = .ok (.invokestatic 184, 3) := by decide +kernel
theorem dL_law_1311 : decode cL_law 1311 = .ok (.istore 6, 2) := by decide +kernel
theorem dL_law_1313 : decode cL_law 1313 = .ok (.aload_n 2, 1) := by decide +kernel
theorem dL_law_1314 : decode cL_law 1314 = .ok (.aload_n 0, 1) := by decide +kernel
theorem dL_law_1315 : decode cL_law 1315 = .ok (.iload 5, 2) := by decide +kernel
theorem dL_law_1317 : decode cL_law 1317 = .ok (.iconst 1, 1) := by decide +kernel
theorem dL_law_1318 : decode cL_law 1318 = .ok (.iadd, 1) := by decide +kernel
theorem dL_law_1319 : decode cL_law 1319 = .ok (.iaload, 1) := by decide +kernel
theorem dL_law_1320 : decode cL_law 1320 = .ok (.aload_n 0, 1) := by decide +kernel
theorem dL_law_1321 : decode cL_law 1321 = .ok (.iload 5, 2) := by decide +kernel
theorem dL_law_1323 : decode cL_law 1323 = .ok (.iconst 2, 1) := by decide +kernel
theorem dL_law_1324 : decode cL_law 1324 = .ok (.iadd, 1) := by decide +kernel
theorem dL_law_1325 : decode cL_law 1325 = .ok (.iaload, 1) := by decide +kernel
theorem dL_law_1326 : decode cL_law 1326 = .ok (.aload_n 0, 1) := by decide +kernel
theorem dL_law_1327 : decode cL_law 1327 = .ok (.iload 5, 2) := by decide +kernel
theorem dL_law_1329 : decode cL_law 1329 = .ok (.iconst 3, 1) := by decide +kernel
theorem dL_law_1330 : decode cL_law 1330 = .ok (.iadd, 1) := by decide +kernel
theorem dL_law_1331 : decode cL_law 1331 = .ok (.iaload, 1) := by decide +kernel
theorem dL_law_1332 : decode cL_law 1332 = .ok (.ifCond .eq 7, 3) := by decide +kernel
theorem dL_law_1339 : decode cL_law 1339 = .ok (.iconst 0, 1) := by decide +kernel
set_option maxRecDepth 20000 in
theorem ggL_law_X6_timeFor_c0 : GoodIn wsL_law [Cond.code yX6_timeFor cX6_timeFor 4 (some .int)] := goodIn_r _ [905] (by decide +kernel) (by decide +kernel)
set_option maxRecDepth 20000 in
theorem ggL_law_X6_timeFor_c1 : GoodIn wsL_law wsX6_timeFor_r1 := goodIn_r _ [54, 237, 381, 382, 383, 5, 384, 283, 125, 126, 16, 127, 78, 83, 84, 85, 86, 87, 88, 89, 90, 241, 242, 243] (by decide +kernel) (by decide +kernel)
set_option maxRecDepth 20000 in
theorem ggL_law_X6_timeFor_c2 : GoodIn wsL_law wsX6_timeFor_r2 := goodIn_r _ [244, 51, 385, 129, 130, 131, 132, 133, 134, 135, 136, 137, 138, 139, 140, 141, 142, 143, 30, 712, 713, 714, 240, 715] (by decide +kernel) (by decide +kernel)
set_option maxRecDepth 20000 in
theorem ggL_law_X6_timeFor_c3 : GoodIn wsL_law wsX6_timeFor_r3 := goodIn_r _ [295, 716, 501, 201, 502, 717, 278, 292, 718, 719, 720, 721, 279, 280, 246, 247, 248, 249, 250, 251, 252, 253, 254, 255] (by decide +kernel) (by decide +kernel)
set_option maxRecDepth 20000 in
theorem ggL_law_X6_timeFor_c4 : GoodIn wsL_law wsX6_timeFor_r4 := goodIn_r _ [256, 12, 13, 257, 258, 186, 259, 281, 261, 262, 263, 264, 282, 266, 267, 268, 269, 270, 271, 272, 273, 722, 723, 724] (by decide +kernel) (by decide +kernel)
set_option maxRecDepth 20000 in
theorem ggL_law_X6_timeFor_c5 : GoodIn wsL_law wsX6_timeFor_r5 := goodIn_r _ [725, 92, 93, 94, 95] (by decide +kernel) (by decide +kernel)
set_option maxRecDepth 20000 in
theorem ggL_law_X6_timeFor_c6 : GoodIn wsL_law wsX60 := goodIn_r _ [1184, 1185, 1186, 1187, 1188, 1189, 1190, 1191, 1192, 1193, 1194, 1195] (by decide +kernel) (by decide +kernel)
set_option maxRecDepth 20000 in
theorem ggL_law_X6_timeFor_c7 : GoodIn wsL_law wsJx4a65c0 := goodIn_r _ [1196, 1197, 1198] (by decide +kernel) (by decide +kernel)
set_option maxRecDepth 20000 in
theorem ggL_law_X6_timeFor_c8 : GoodIn wsL_law wsX40 := goodIn_r _ [1220, 1221, 1222, 1223, 1224, 1225, 1226, 1227, 1228, 1229, 1230, 1231, 1232, 1233] (by decide +kernel) (by decide +kernel)
set_option maxRecDepth 20000 in
theorem ggL_law_X6_timeFor_c9 : GoodIn wsL_law wsX50 := goodIn_r _ [1238, 1239, 1240, 1241, 1242, 1243, 1244, 1245] (by decide +kernel) (by decide +kernel)
set_option maxRecDepth 20000 in
theorem ggL_law_X6_timeFor_c10 : GoodIn wsL_law wsJx354110 := goodIn_r _ [1234, 1235, 1236, 1237] (by decide +kernel) (by decide +kernel)
set_option maxRecDepth 20000 in
theorem ggL_law_X6_timeFor : GoodIn wsL_law wsX6_timeFor := tw_gc ggL_law_X6_timeFor_c0 (goodIn_app (goodIn_app (goodIn_app (goodIn_app (goodIn_app (goodIn_app ggL_law_X6_timeFor_c1 (goodIn_app ggL_law_X6_timeFor_c2 (goodIn_app ggL_law_X6_timeFor_c3 (goodIn_app ggL_law_X6_timeFor_c4 ggL_law_X6_timeFor_c5)))) ggL_law_X6_timeFor_c6) ggL_law_X6_timeFor_c7) ggL_law_X6_timeFor_c8) ggL_law_X6_timeFor_c9) ggL_law_X6_timeFor_c10)
set_option maxRecDepth 20000 in
theorem gL_law_X6_timeFor : GoodIn wsL_law (wsV RL 187 RX6 yX6_timeFor wsX6_timeFor) := goodIn_app (goodIn_of _ (by decide +kernel)) ggL_law_X6_timeFor
theorem dL_law_1340 : decode cL_law 1340 = .ok (.invokevirtual 187, 3) := by decide +kernel
theorem dL_law_1343 : decode cL_law 1343 = .ok (.istore 7, 2) := by decide +kernel
theorem dL_law_1345 : decode cL_law 1345 = .ok (.aload_n 2, 1) := by decide +kernel
theorem dL_law_1346 : decode cL_law 1346 = .ok (.invokevirtual 127, 3) := by decide +kernel
theorem dL_law_1349 : decode cL_law 1349 = .ok (.iload 6, 2) := by decide +kernel
theorem dL_law_1351 : decode cL_law 1351 = .ok (.if_icmp .eq 5, 3) := by decide +kernel
theorem dL_law_1356 : decode cL_law 1356 = .ok (.iload 6, 2) := by decide +kernel
theorem dL_law_1358 : decode cL_law 1358 = .ok (.ifCond .ne 15, 3) := by decide +kernel
theorem dL_law_1373 : decode cL_law 1373 = .ok (.goto 683, 3) := by decide +kernel
theorem dL_law_1302 : decode cL_law 1302 = .ok (.iconst 1, 1) := by decide +kernel
theorem dL_law_1303 : decode cL_law 1303 = .ok (.goto 4, 3) := by decide +kernel
theorem dL_law_1335 : decode cL_law 1335 = .ok (.iconst 1, 1) := by decide +kernel
theorem dL_law_1336 : decode cL_law 1336 = .ok (.goto 4, 3) := by decide +kernel
set_option maxHeartbeats 4000000 in
set_option maxRecDepth 100000 in
theorem tw_case_16 {p : Program} {l : Launch} {e : Env} {s : State} {m : MethodId} {below : List Frame} {meth : Method} {c : Code} {b : Nat} {xs : Nat → Int32} (C0 : lw_At p s m meth c b 6 xs) (hst : l.stackTraces = false) {A : Nat → Prop} (hAe : A = fun q : Nat => s.heap.size ≤ q) (em kw kb : Nat) (D : va_G) (hF : tw_F em kw kb A s) (q_1 : Nat) (q_2 : Nat) (q_3 : Nat) (q_4 : Nat) (q_5 : Nat) (cA_6 : ClassId) (q_7 : Nat) (q_8 : Nat) (q_9 : Nat) (q_10 : Nat) (q_11 : Nat) (q_12 : Nat) (cA_13 : ClassId) (cA_14 : ClassId) (q_15 : Nat) (q_16 : Nat) (cA_17 : ClassId) (q_18 : Nat) (cA_19 : ClassId) (H : Heap) (locs : List Loc) (hK : va_K D vwCl [(cA_6, .int), (cA_13, .array (.object "TowerliftryModel$Car")), (cA_14, .object "TowerliftryModel$Car"), (cA_17, .long), (cA_19, .double)] s) (hP : va_P D vwCl [(q_1, .inr (7, [.ref q_2, .ref q_3, .ref q_4, .int 9, .int 99, .int 0, .int 0, .int 0, .int ((-1)), .int 0, .int 0, .long 0])), (q_2, .inr (3, [.int 0, .ref em, .int 0])), (q_3, .inr (3, [.int 0, .ref em, .int 0])), (q_4, .inr (5, [.ref q_5, .int 0])), (q_5, .inl (cA_6, 256, .inl ((fun _ => 0)))), (q_7, .inr (10, [.int 0, .int 9, .int 0, .int 99, .ref q_8, .ref q_9, .ref q_10, .int 0, .int 0, .int ((-1)), .ref q_15, .long 0])), (q_8, .inr (3, [.int 0, .ref em, .int 0])), (q_9, .inr (3, [.int 0, .ref em, .int 0])), (q_10, .inl (cA_13, 2, .inr (.inr (.inr (.inr ((tw_two q_11 q_12))))))), (q_11, .inl (cA_14, 24, .inr (.inr (.inr (.inr ((fun _ => none))))))), (q_12, .inl (cA_14, 24, .inr (.inr (.inr (.inr ((fun _ => none))))))), (q_15, .inr (3, [.int 0, .ref em, .int 0])), (q_16, .inl (cA_17, 1, .inr (.inl ((fun _ => 0))))), (q_18, .inl (cA_19, 1, .inr (.inr (.inr (.inl ((fun _ => 0)))))))] H) (hD : va_D A [(q_1, .inr (7, [.ref q_2, .ref q_3, .ref q_4, .int 9, .int 99, .int 0, .int 0, .int 0, .int ((-1)), .int 0, .int 0, .long 0])), (q_2, .inr (3, [.int 0, .ref em, .int 0])), (q_3, .inr (3, [.int 0, .ref em, .int 0])), (q_4, .inr (5, [.ref q_5, .int 0])), (q_5, .inl (cA_6, 256, .inl ((fun _ => 0)))), (q_7, .inr (10, [.int 0, .int 9, .int 0, .int 99, .ref q_8, .ref q_9, .ref q_10, .int 0, .int 0, .int ((-1)), .ref q_15, .long 0])), (q_8, .inr (3, [.int 0, .ref em, .int 0])), (q_9, .inr (3, [.int 0, .ref em, .int 0])), (q_10, .inl (cA_13, 2, .inr (.inr (.inr (.inr ((tw_two q_11 q_12))))))), (q_11, .inl (cA_14, 24, .inr (.inr (.inr (.inr ((fun _ => none))))))), (q_12, .inl (cA_14, 24, .inr (.inr (.inr (.inr ((fun _ => none))))))), (q_15, .inr (3, [.int 0, .ref em, .int 0])), (q_16, .inl (cA_17, 1, .inr (.inl ((fun _ => 0))))), (q_18, .inl (cA_19, 1, .inr (.inr (.inr (.inl ((fun _ => 0)))))))]) (hS : va_S A s.heap H locs) (ls : Array Slot) (hl : lv_has ls 9 [(5, .int 0), (4, .ref q_18), (3, .ref q_16), (2, .ref q_7), (1, .ref q_1), (0, .ref b)]) : W p l e room_1 s m #[Value.ref b] below meth c H locs 14 349 (lw_Z below #[Value.ref b] s) (F0 m 1196 ls []) := by
  obtain ⟨hx, hb, hr, hml, hown, hts0, hX, hbl, hlocks, hgv⟩ := id C0
  have hown : s.vm.findClass RL = some m.cls := hown
  have hts : ∀ w ∈ wsL_law, w.before #[Value.ref b] s = true := fun w h => hts0 w (wsL_law_in w h)
  have hA : ∀ q : Nat, s.heap.size ≤ q → A q := fun q h => by rw [hAe]; exact h
  have hbA : ¬ A b := by rw [hAe]; exact Nat.not_le.mpr hbl
  refine lv_aload_n hx hb dL_law_1196 rfl (lv_at hl 4 rfl) ?_
  refine lv_aload_n hx hb dL_law_1197 rfl (lv_at hl 5 rfl) ?_
  refine lv_iload hx hb dL_law_1198 (lv_at hl 0 rfl) ?_
  refine lv_iconst (v := 1) hx hb dL_law_1200 (by decide) ?_
  refine lv_iadd hx hb dL_law_1201 ?_
  refine lv_topi (fun z_1 ez_1 => ?_)
  have ez_1 : z_1 = (1 : Int32) := ez_1.trans (by decide)
  subst ez_1
  refine va_sld hx hb hX hbl hbA hS (by unfold vp_in; decide) dL_law_1202 ?_
  rw [show (1 : Int32).toNatClampNeg = 1 from by decide]
  refine lv_aload_n hx hb dL_law_1203 rfl (lv_at hl 5 rfl) ?_
  refine lv_iload hx hb dL_law_1204 (lv_at hl 0 rfl) ?_
  refine lv_iconst (v := 2) hx hb dL_law_1206 (by decide) ?_
  refine lv_iadd hx hb dL_law_1207 ?_
  refine lv_topi (fun z_2 ez_2 => ?_)
  have ez_2 : z_2 = (2 : Int32) := ez_2.trans (by decide)
  subst ez_2
  refine va_sld hx hb hX hbl hbA hS (by unfold vp_in; decide) dL_law_1208 ?_
  rw [show (2 : Int32).toNatClampNeg = 2 from by decide]
  refine lv_if_eq (tgt := 1216) hx hb dL_law_1209 (by decide) (fun c_3 => ?_) (fun c_3 => ?_)
  · refine lv_iconst (v := 0) hx hb dL_law_1216 (by decide) ?_
    refine lv_aload_n hx hb dL_law_1217 rfl (lv_at hl 2 rfl) ?_
    have hPc := hP.sub (ws' := [(q_1, .inr (7, [.ref q_2, .ref q_3, .ref q_4, .int 9, .int 99, .int 0, .int 0, .int 0, .int ((-1)), .int 0, .int 0, .long 0])), (q_2, .inr (3, [.int 0, .ref em, .int 0])), (q_16, .inl (cA_17, 1, .inr (.inl ((fun _ => 0)))))]) [0, 1, 12] rfl
    have hDc := hD.sub (ws' := [(q_1, .inr (7, [.ref q_2, .ref q_3, .ref q_4, .int 9, .int 99, .int 0, .int 0, .int 0, .int ((-1)), .int 0, .int 0, .long 0])), (q_2, .inr (3, [.int 0, .ref em, .int 0])), (q_16, .inl (cA_17, 1, .inr (.inl ((fun _ => 0)))))]) [0, 1, 12] (by decide) rfl
    have hKc := hK.sub (tys' := [(cA_17, .long)]) [3] rfl
    have hFc := va_free (wc := [(q_1, .inr (7, [.ref q_2, .ref q_3, .ref q_4, .int 9, .int 99, .int 0, .int 0, .int 0, .int ((-1)), .int 0, .int 0, .long 0])), (q_2, .inr (3, [.int 0, .ref em, .int 0])), (q_16, .inl (cA_17, 1, .inr (.inl ((fun _ => 0)))))]) hD hS hA [0, 1, 12] rfl
    refine va_calli (vx_runSW (As := [.ref q_1, .int ((xs 1)), .int 0, .ref q_16]) (rest := []) ⟨hx, hb, hml, hown, hts⟩ (c_L_promised l hst em kw kb D q_1 ((xs 1)) 0 q_16 q_2 q_3 q_4 cA_17 _) (vx_cwSW 4 hts gL_law_L_promised rfl rfl rfl (by decide +kernel) ⟨(Nat.le_of_ble_eq_true rfl), (Nat.le_of_ble_eq_true rfl)⟩) (tw_preS hF hS hFc hPc hKc hDc) rfl rfl hl.1 rfl (lv_room (Nat.le_of_ble_eq_true rfl)) dL_law_1218 ⟨(Nat.le_of_ble_eq_true rfl), (Nat.le_of_ble_eq_true rfl)⟩) hS (fun q _ h => hFc q h) hFc (fun r u t H locs ht hvm hw hB hz1 hk1 hS => ?_)
    rcases hw with hw | hw
    · obtain ⟨g_4, rfl, rfl⟩ := hw
      obtain ⟨hP, hD, hK⟩ := tw_join (wr := [(q_3, .inr (3, [.int 0, .ref em, .int 0])), (q_4, .inr (5, [.ref q_5, .int 0])), (q_5, .inl (cA_6, 256, .inl ((fun _ => 0)))), (q_7, .inr (10, [.int 0, .int 9, .int 0, .int 99, .ref q_8, .ref q_9, .ref q_10, .int 0, .int 0, .int ((-1)), .ref q_15, .long 0])), (q_8, .inr (3, [.int 0, .ref em, .int 0])), (q_9, .inr (3, [.int 0, .ref em, .int 0])), (q_10, .inl (cA_13, 2, .inr (.inr (.inr (.inr ((tw_two q_11 q_12))))))), (q_11, .inl (cA_14, 24, .inr (.inr (.inr (.inr ((fun _ => none))))))), (q_12, .inl (cA_14, 24, .inr (.inr (.inr (.inr ((fun _ => none))))))), (q_15, .inr (3, [.int 0, .ref em, .int 0])), (q_18, .inl (cA_19, 1, .inr (.inr (.inr (.inl ((fun _ => 0)))))))]) hP hD hK [0, 1, 12] [2, 3, 4, 5, 6, 7, 8, 9, 10, 11, 13] rfl rfl (by decide) (by decide) hk1 hFc ht hvm hB
      have hP : va_P D vwCl [(q_3, .inr (3, [.int 0, .ref em, .int 0])), (q_4, .inr (5, [.ref q_5, .int 0])), (q_5, .inl (cA_6, 256, .inl ((fun _ => 0)))), (q_7, .inr (10, [.int 0, .int 9, .int 0, .int 99, .ref q_8, .ref q_9, .ref q_10, .int 0, .int 0, .int ((-1)), .ref q_15, .long 0])), (q_8, .inr (3, [.int 0, .ref em, .int 0])), (q_9, .inr (3, [.int 0, .ref em, .int 0])), (q_10, .inl (cA_13, 2, .inr (.inr (.inr (.inr ((tw_two q_11 q_12))))))), (q_11, .inl (cA_14, 24, .inr (.inr (.inr (.inr ((fun _ => none))))))), (q_12, .inl (cA_14, 24, .inr (.inr (.inr (.inr ((fun _ => none))))))), (q_15, .inr (3, [.int 0, .ref em, .int 0])), (q_18, .inl (cA_19, 1, .inr (.inr (.inr (.inl ((fun _ => 0))))))), (q_16, .inl (cA_17, 1, .inr (.inl ((fun _ => 0)))))] _ := hP
      have hD : va_D A [(q_3, .inr (3, [.int 0, .ref em, .int 0])), (q_4, .inr (5, [.ref q_5, .int 0])), (q_5, .inl (cA_6, 256, .inl ((fun _ => 0)))), (q_7, .inr (10, [.int 0, .int 9, .int 0, .int 99, .ref q_8, .ref q_9, .ref q_10, .int 0, .int 0, .int ((-1)), .ref q_15, .long 0])), (q_8, .inr (3, [.int 0, .ref em, .int 0])), (q_9, .inr (3, [.int 0, .ref em, .int 0])), (q_10, .inl (cA_13, 2, .inr (.inr (.inr (.inr ((tw_two q_11 q_12))))))), (q_11, .inl (cA_14, 24, .inr (.inr (.inr (.inr ((fun _ => none))))))), (q_12, .inl (cA_14, 24, .inr (.inr (.inr (.inr ((fun _ => none))))))), (q_15, .inr (3, [.int 0, .ref em, .int 0])), (q_18, .inl (cA_19, 1, .inr (.inr (.inr (.inl ((fun _ => 0))))))), (q_16, .inl (cA_17, 1, .inr (.inl ((fun _ => 0)))))] := hD
      have hK : va_K D vwCl [(cA_6, .int), (cA_13, .array (.object "TowerliftryModel$Car")), (cA_14, .object "TowerliftryModel$Car"), (cA_17, .long), (cA_19, .double)] s := hK
      refine W.widen (k := 16) (n := 361) (Nat.le_refl _) (Nat.le_refl _) ?_
      refine W.eq (g2 := F0 m 1221 ls [.int 1]) rfl ?_
      refine lv_istore (lv' := [(6, .int 1), (5, .int 0), (4, .ref q_18), (3, .ref q_16), (2, .ref q_7), (1, .ref q_1), (0, .ref b)]) hx hb dL_law_1221 hl (by decide) rfl (fun ls hl => ?_)
      refine lv_aload_n hx hb dL_law_1223 rfl (lv_at hl 4 rfl) ?_
      refine lv_aload_n hx hb dL_law_1224 rfl (lv_at hl 6 rfl) ?_
      refine lv_iload hx hb dL_law_1225 (lv_at hl 1 rfl) ?_
      refine lv_iconst (v := 1) hx hb dL_law_1227 (by decide) ?_
      refine lv_iadd hx hb dL_law_1228 ?_
      refine lv_topi (fun z_5 ez_5 => ?_)
      have ez_5 : z_5 = (1 : Int32) := ez_5.trans (by decide)
      subst ez_5
      refine va_sld hx hb hX hbl hbA hS (by unfold vp_in; decide) dL_law_1229 ?_
      rw [show (1 : Int32).toNatClampNeg = 1 from by decide]
      refine lv_aload_n hx hb dL_law_1230 rfl (lv_at hl 6 rfl) ?_
      refine lv_iload hx hb dL_law_1231 (lv_at hl 1 rfl) ?_
      refine lv_iconst (v := 2) hx hb dL_law_1233 (by decide) ?_
      refine lv_iadd hx hb dL_law_1234 ?_
      refine lv_topi (fun z_6 ez_6 => ?_)
      have ez_6 : z_6 = (2 : Int32) := ez_6.trans (by decide)
      subst ez_6
      refine va_sld hx hb hX hbl hbA hS (by unfold vp_in; decide) dL_law_1235 ?_
      rw [show (2 : Int32).toNatClampNeg = 2 from by decide]
      refine lv_if_eq (tgt := 1243) hx hb dL_law_1236 (by decide) (fun c_7 => ?_) (fun c_7 => absurd c_7 (by first | exact c_3 | exact not_not_intro c_3))
      refine lv_iconst (v := 0) hx hb dL_law_1243 (by decide) ?_
      have hPc := hP.sub (ws' := [(q_7, .inr (10, [.int 0, .int 9, .int 0, .int 99, .ref q_8, .ref q_9, .ref q_10, .int 0, .int 0, .int ((-1)), .ref q_15, .long 0])), (q_10, .inl (cA_13, 2, .inr (.inr (.inr (.inr ((tw_two q_11 q_12))))))), (q_11, .inl (cA_14, 24, .inr (.inr (.inr (.inr ((fun _ => none))))))), (q_12, .inl (cA_14, 24, .inr (.inr (.inr (.inr ((fun _ => none)))))))]) [3, 6, 7, 8] rfl
      have hDc := hD.sub (ws' := [(q_7, .inr (10, [.int 0, .int 9, .int 0, .int 99, .ref q_8, .ref q_9, .ref q_10, .int 0, .int 0, .int ((-1)), .ref q_15, .long 0])), (q_10, .inl (cA_13, 2, .inr (.inr (.inr (.inr ((tw_two q_11 q_12))))))), (q_11, .inl (cA_14, 24, .inr (.inr (.inr (.inr ((fun _ => none))))))), (q_12, .inl (cA_14, 24, .inr (.inr (.inr (.inr ((fun _ => none)))))))]) [3, 6, 7, 8] (by decide) rfl
      have hKc := hK.sub (tys' := [(cA_13, .array (.object "TowerliftryModel$Car")), (cA_14, .object "TowerliftryModel$Car")]) [1, 2] rfl
      have hFc := va_free (wc := [(q_7, .inr (10, [.int 0, .int 9, .int 0, .int 99, .ref q_8, .ref q_9, .ref q_10, .int 0, .int 0, .int ((-1)), .ref q_15, .long 0])), (q_10, .inl (cA_13, 2, .inr (.inr (.inr (.inr ((tw_two q_11 q_12))))))), (q_11, .inl (cA_14, 24, .inr (.inr (.inr (.inr ((fun _ => none))))))), (q_12, .inl (cA_14, 24, .inr (.inr (.inr (.inr ((fun _ => none)))))))]) hD hS hA [3, 6, 7, 8] rfl
      refine va_calli (va_runV (As := [.int ((xs 1)), .int 0]) (rest := []) ⟨hx, hb, hml, hown, hts⟩ (c_X6_promised l hst em kw kb D q_7 ((xs 1)) 0 q_8 q_9 q_10 q_15 cA_13 q_11 cA_14 q_12 _) (cwV 2 hts gL_law_X6_promised rfl rfl rfl (by decide +kernel) ⟨(Nat.le_of_ble_eq_true rfl), (Nat.le_of_ble_eq_true rfl)⟩) (tw_preV hF hS hFc hPc hKc hDc (va_recv hKc hPc (ci := 10) (q0 := 0) rfl rfl)) rfl rfl hl.1 rfl (lv_room (Nat.le_of_ble_eq_true rfl)) dL_law_1244 ⟨(Nat.le_of_ble_eq_true rfl), (Nat.le_of_ble_eq_true rfl)⟩) hS (fun q _ h => hFc q h) hFc (fun r u t H locs ht hvm hw hB hz1 hk1 hS => ?_)
      rcases hw with hw | hw
      · obtain ⟨g_8, rfl, rfl⟩ := hw
        obtain ⟨hP, hD, hK⟩ := tw_join (wr := [(q_3, .inr (3, [.int 0, .ref em, .int 0])), (q_4, .inr (5, [.ref q_5, .int 0])), (q_5, .inl (cA_6, 256, .inl ((fun _ => 0)))), (q_8, .inr (3, [.int 0, .ref em, .int 0])), (q_9, .inr (3, [.int 0, .ref em, .int 0])), (q_15, .inr (3, [.int 0, .ref em, .int 0])), (q_18, .inl (cA_19, 1, .inr (.inr (.inr (.inl ((fun _ => 0))))))), (q_16, .inl (cA_17, 1, .inr (.inl ((fun _ => 0)))))]) hP hD hK [3, 6, 7, 8] [0, 1, 2, 4, 5, 9, 10, 11] rfl rfl (by decide) (by decide) hk1 hFc ht hvm hB
        have hP : va_P D vwCl [(q_3, .inr (3, [.int 0, .ref em, .int 0])), (q_4, .inr (5, [.ref q_5, .int 0])), (q_5, .inl (cA_6, 256, .inl ((fun _ => 0)))), (q_8, .inr (3, [.int 0, .ref em, .int 0])), (q_9, .inr (3, [.int 0, .ref em, .int 0])), (q_15, .inr (3, [.int 0, .ref em, .int 0])), (q_18, .inl (cA_19, 1, .inr (.inr (.inr (.inl ((fun _ => 0))))))), (q_16, .inl (cA_17, 1, .inr (.inl ((fun _ => 0))))), (q_7, .inr (10, [.int 1, .int 9, .int 0, .int 99, .ref q_8, .ref q_9, .ref q_10, .int 0, .int 0, .int ((-1)), .ref q_15, .long 0]))] _ := hP
        have hD : va_D A [(q_3, .inr (3, [.int 0, .ref em, .int 0])), (q_4, .inr (5, [.ref q_5, .int 0])), (q_5, .inl (cA_6, 256, .inl ((fun _ => 0)))), (q_8, .inr (3, [.int 0, .ref em, .int 0])), (q_9, .inr (3, [.int 0, .ref em, .int 0])), (q_15, .inr (3, [.int 0, .ref em, .int 0])), (q_18, .inl (cA_19, 1, .inr (.inr (.inr (.inl ((fun _ => 0))))))), (q_16, .inl (cA_17, 1, .inr (.inl ((fun _ => 0))))), (q_7, .inr (10, [.int 1, .int 9, .int 0, .int 99, .ref q_8, .ref q_9, .ref q_10, .int 0, .int 0, .int ((-1)), .ref q_15, .long 0]))] := hD
        have hK : va_K D vwCl [(cA_6, .int), (cA_13, .array (.object "TowerliftryModel$Car")), (cA_14, .object "TowerliftryModel$Car"), (cA_17, .long), (cA_19, .double)] s := hK
        refine W.widen (k := 16) (n := 361) (Nat.le_refl _) (Nat.le_refl _) ?_
        refine W.eq (g2 := F0 m 1247 ls [.int 0]) rfl ?_
        refine lv_istore (lv' := [(7, .int 0), (6, .int 1), (5, .int 0), (4, .ref q_18), (3, .ref q_16), (2, .ref q_7), (1, .ref q_1), (0, .ref b)]) hx hb dL_law_1247 hl (by decide) rfl (fun ls hl => ?_)
        refine lv_aload_n hx hb dL_law_1249 rfl (lv_at hl 5 rfl) ?_
        have hPc := hP.sub (ws' := [(q_7, .inr (10, [.int 1, .int 9, .int 0, .int 99, .ref q_8, .ref q_9, .ref q_10, .int 0, .int 0, .int ((-1)), .ref q_15, .long 0]))]) [8] rfl
        have hDc := hD.sub (ws' := [(q_7, .inr (10, [.int 1, .int 9, .int 0, .int 99, .ref q_8, .ref q_9, .ref q_10, .int 0, .int 0, .int ((-1)), .ref q_15, .long 0]))]) [8] (by decide) rfl
        have hKc := hK.sub (tys' := []) [] rfl
        have hFc := va_free (wc := [(q_7, .inr (10, [.int 1, .int 9, .int 0, .int 99, .ref q_8, .ref q_9, .ref q_10, .int 0, .int 0, .int ((-1)), .ref q_15, .long 0]))]) hD hS hA [8] rfl
        refine va_calli (va_runV (As := []) (rest := []) ⟨hx, hb, hml, hown, hts⟩ (c_X6_thrown l hst em kw kb D q_7 1 9 0 99 q_8 q_9 q_10 0 0 ((-1)) q_15 0 _) (cwV 0 hts gL_law_X6_thrown rfl rfl rfl (by decide +kernel) ⟨(Nat.le_of_ble_eq_true rfl), (Nat.le_of_ble_eq_true rfl)⟩) (tw_preV hF hS hFc hPc hKc hDc (va_recv hKc hPc (ci := 10) (q0 := 0) rfl rfl)) rfl rfl hl.1 rfl (lv_room (Nat.le_of_ble_eq_true rfl)) dL_law_1250 ⟨(Nat.le_of_ble_eq_true rfl), (Nat.le_of_ble_eq_true rfl)⟩) hS (fun q _ h => hFc q h) hFc (fun r u t H locs ht hvm hw hB hz1 hk1 hS => ?_)
        obtain ⟨rfl, rfl⟩ := hw
        obtain ⟨hP, hD, hK⟩ := tw_join (wr := [(q_3, .inr (3, [.int 0, .ref em, .int 0])), (q_4, .inr (5, [.ref q_5, .int 0])), (q_5, .inl (cA_6, 256, .inl ((fun _ => 0)))), (q_8, .inr (3, [.int 0, .ref em, .int 0])), (q_9, .inr (3, [.int 0, .ref em, .int 0])), (q_15, .inr (3, [.int 0, .ref em, .int 0])), (q_18, .inl (cA_19, 1, .inr (.inr (.inr (.inl ((fun _ => 0))))))), (q_16, .inl (cA_17, 1, .inr (.inl ((fun _ => 0)))))]) hP hD hK [8] [0, 1, 2, 3, 4, 5, 6, 7] rfl rfl (by decide) (by decide) hk1 hFc ht hvm hB
        have hP : va_P D vwCl [(q_3, .inr (3, [.int 0, .ref em, .int 0])), (q_4, .inr (5, [.ref q_5, .int 0])), (q_5, .inl (cA_6, 256, .inl ((fun _ => 0)))), (q_8, .inr (3, [.int 0, .ref em, .int 0])), (q_9, .inr (3, [.int 0, .ref em, .int 0])), (q_15, .inr (3, [.int 0, .ref em, .int 0])), (q_18, .inl (cA_19, 1, .inr (.inr (.inr (.inl ((fun _ => 0))))))), (q_16, .inl (cA_17, 1, .inr (.inl ((fun _ => 0))))), (q_7, .inr (10, [.int 1, .int 9, .int 0, .int 99, .ref q_8, .ref q_9, .ref q_10, .int 0, .int 0, .int ((-1)), .ref q_15, .long 0]))] _ := hP
        have hD : va_D A [(q_3, .inr (3, [.int 0, .ref em, .int 0])), (q_4, .inr (5, [.ref q_5, .int 0])), (q_5, .inl (cA_6, 256, .inl ((fun _ => 0)))), (q_8, .inr (3, [.int 0, .ref em, .int 0])), (q_9, .inr (3, [.int 0, .ref em, .int 0])), (q_15, .inr (3, [.int 0, .ref em, .int 0])), (q_18, .inl (cA_19, 1, .inr (.inr (.inr (.inl ((fun _ => 0))))))), (q_16, .inl (cA_17, 1, .inr (.inl ((fun _ => 0))))), (q_7, .inr (10, [.int 1, .int 9, .int 0, .int 99, .ref q_8, .ref q_9, .ref q_10, .int 0, .int 0, .int ((-1)), .ref q_15, .long 0]))] := hD
        have hK : va_K D vwCl [(cA_6, .int), (cA_13, .array (.object "TowerliftryModel$Car")), (cA_14, .object "TowerliftryModel$Car"), (cA_17, .long), (cA_19, .double)] s := hK
        refine W.widen (k := 16) (n := 361) (Nat.le_refl _) (Nat.le_refl _) ?_
        refine W.eq (g2 := F0 m 1253 ls [.int 1]) rfl ?_
        refine lv_iload hx hb dL_law_1253 (lv_at hl 1 rfl) ?_
        refine lv_icmp_eq (tgt := 1260) hx hb dL_law_1255 (by decide) (fun c9 => ?_) (fun c9 => absurd c9 (by decide))
        refine lv_iload hx hb dL_law_1260 (lv_at hl 1 rfl) ?_
        refine lv_if_ne (tgt := 1277) hx hb dL_law_1262 (by decide) (fun c9 => ?_) (fun c9 => absurd c9 (by decide))
        refine lv_goto (tgt := 2056) hx hb dL_law_1277 (by decide) ?_
        refine W.widen (k := 20000) (n := 60000) (Nat.le_of_ble_eq_true rfl) (Nat.le_of_ble_eq_true rfl) ?_
        exact tw_tail C0 hAe hS (lv_sub hl [2, 7] rfl)
      · obtain ⟨g_9, rfl, rfl⟩ := hw
        obtain ⟨hP, hD, hK⟩ := tw_join (wr := [(q_3, .inr (3, [.int 0, .ref em, .int 0])), (q_4, .inr (5, [.ref q_5, .int 0])), (q_5, .inl (cA_6, 256, .inl ((fun _ => 0)))), (q_8, .inr (3, [.int 0, .ref em, .int 0])), (q_9, .inr (3, [.int 0, .ref em, .int 0])), (q_15, .inr (3, [.int 0, .ref em, .int 0])), (q_18, .inl (cA_19, 1, .inr (.inr (.inr (.inl ((fun _ => 0))))))), (q_16, .inl (cA_17, 1, .inr (.inl ((fun _ => 0)))))]) hP hD hK [3, 6, 7, 8] [0, 1, 2, 4, 5, 9, 10, 11] rfl rfl (by decide) (by decide) hk1 hFc ht hvm hB
        have hP : va_P D vwCl [(q_3, .inr (3, [.int 0, .ref em, .int 0])), (q_4, .inr (5, [.ref q_5, .int 0])), (q_5, .inl (cA_6, 256, .inl ((fun _ => 0)))), (q_8, .inr (3, [.int 0, .ref em, .int 0])), (q_9, .inr (3, [.int 0, .ref em, .int 0])), (q_15, .inr (3, [.int 0, .ref em, .int 0])), (q_18, .inl (cA_19, 1, .inr (.inr (.inr (.inl ((fun _ => 0))))))), (q_16, .inl (cA_17, 1, .inr (.inl ((fun _ => 0))))), (q_7, .inr (10, [.int 2, .int 9, .int 0, .int 99, .ref q_8, .ref q_9, .ref q_10, .int 0, .int 0, .int ((-1)), .ref q_15, .long 0]))] _ := hP
        have hD : va_D A [(q_3, .inr (3, [.int 0, .ref em, .int 0])), (q_4, .inr (5, [.ref q_5, .int 0])), (q_5, .inl (cA_6, 256, .inl ((fun _ => 0)))), (q_8, .inr (3, [.int 0, .ref em, .int 0])), (q_9, .inr (3, [.int 0, .ref em, .int 0])), (q_15, .inr (3, [.int 0, .ref em, .int 0])), (q_18, .inl (cA_19, 1, .inr (.inr (.inr (.inl ((fun _ => 0))))))), (q_16, .inl (cA_17, 1, .inr (.inl ((fun _ => 0))))), (q_7, .inr (10, [.int 2, .int 9, .int 0, .int 99, .ref q_8, .ref q_9, .ref q_10, .int 0, .int 0, .int ((-1)), .ref q_15, .long 0]))] := hD
        have hK : va_K D vwCl [(cA_6, .int), (cA_13, .array (.object "TowerliftryModel$Car")), (cA_14, .object "TowerliftryModel$Car"), (cA_17, .long), (cA_19, .double)] s := hK
        refine W.widen (k := 16) (n := 361) (Nat.le_refl _) (Nat.le_refl _) ?_
        refine W.eq (g2 := F0 m 1247 ls [.int 0]) rfl ?_
        refine lv_istore (lv' := [(7, .int 0), (6, .int 1), (5, .int 0), (4, .ref q_18), (3, .ref q_16), (2, .ref q_7), (1, .ref q_1), (0, .ref b)]) hx hb dL_law_1247 hl (by decide) rfl (fun ls hl => ?_)
        refine lv_aload_n hx hb dL_law_1249 rfl (lv_at hl 5 rfl) ?_
        have hPc := hP.sub (ws' := [(q_7, .inr (10, [.int 2, .int 9, .int 0, .int 99, .ref q_8, .ref q_9, .ref q_10, .int 0, .int 0, .int ((-1)), .ref q_15, .long 0]))]) [8] rfl
        have hDc := hD.sub (ws' := [(q_7, .inr (10, [.int 2, .int 9, .int 0, .int 99, .ref q_8, .ref q_9, .ref q_10, .int 0, .int 0, .int ((-1)), .ref q_15, .long 0]))]) [8] (by decide) rfl
        have hKc := hK.sub (tys' := []) [] rfl
        have hFc := va_free (wc := [(q_7, .inr (10, [.int 2, .int 9, .int 0, .int 99, .ref q_8, .ref q_9, .ref q_10, .int 0, .int 0, .int ((-1)), .ref q_15, .long 0]))]) hD hS hA [8] rfl
        refine va_calli (va_runV (As := []) (rest := []) ⟨hx, hb, hml, hown, hts⟩ (c_X6_thrown l hst em kw kb D q_7 2 9 0 99 q_8 q_9 q_10 0 0 ((-1)) q_15 0 _) (cwV 0 hts gL_law_X6_thrown rfl rfl rfl (by decide +kernel) ⟨(Nat.le_of_ble_eq_true rfl), (Nat.le_of_ble_eq_true rfl)⟩) (tw_preV hF hS hFc hPc hKc hDc (va_recv hKc hPc (ci := 10) (q0 := 0) rfl rfl)) rfl rfl hl.1 rfl (lv_room (Nat.le_of_ble_eq_true rfl)) dL_law_1250 ⟨(Nat.le_of_ble_eq_true rfl), (Nat.le_of_ble_eq_true rfl)⟩) hS (fun q _ h => hFc q h) hFc (fun r u t H locs ht hvm hw hB hz1 hk1 hS => ?_)
        obtain ⟨rfl, rfl⟩ := hw
        obtain ⟨hP, hD, hK⟩ := tw_join (wr := [(q_3, .inr (3, [.int 0, .ref em, .int 0])), (q_4, .inr (5, [.ref q_5, .int 0])), (q_5, .inl (cA_6, 256, .inl ((fun _ => 0)))), (q_8, .inr (3, [.int 0, .ref em, .int 0])), (q_9, .inr (3, [.int 0, .ref em, .int 0])), (q_15, .inr (3, [.int 0, .ref em, .int 0])), (q_18, .inl (cA_19, 1, .inr (.inr (.inr (.inl ((fun _ => 0))))))), (q_16, .inl (cA_17, 1, .inr (.inl ((fun _ => 0)))))]) hP hD hK [8] [0, 1, 2, 3, 4, 5, 6, 7] rfl rfl (by decide) (by decide) hk1 hFc ht hvm hB
        have hP : va_P D vwCl [(q_3, .inr (3, [.int 0, .ref em, .int 0])), (q_4, .inr (5, [.ref q_5, .int 0])), (q_5, .inl (cA_6, 256, .inl ((fun _ => 0)))), (q_8, .inr (3, [.int 0, .ref em, .int 0])), (q_9, .inr (3, [.int 0, .ref em, .int 0])), (q_15, .inr (3, [.int 0, .ref em, .int 0])), (q_18, .inl (cA_19, 1, .inr (.inr (.inr (.inl ((fun _ => 0))))))), (q_16, .inl (cA_17, 1, .inr (.inl ((fun _ => 0))))), (q_7, .inr (10, [.int 2, .int 9, .int 0, .int 99, .ref q_8, .ref q_9, .ref q_10, .int 0, .int 0, .int ((-1)), .ref q_15, .long 0]))] _ := hP
        have hD : va_D A [(q_3, .inr (3, [.int 0, .ref em, .int 0])), (q_4, .inr (5, [.ref q_5, .int 0])), (q_5, .inl (cA_6, 256, .inl ((fun _ => 0)))), (q_8, .inr (3, [.int 0, .ref em, .int 0])), (q_9, .inr (3, [.int 0, .ref em, .int 0])), (q_15, .inr (3, [.int 0, .ref em, .int 0])), (q_18, .inl (cA_19, 1, .inr (.inr (.inr (.inl ((fun _ => 0))))))), (q_16, .inl (cA_17, 1, .inr (.inl ((fun _ => 0))))), (q_7, .inr (10, [.int 2, .int 9, .int 0, .int 99, .ref q_8, .ref q_9, .ref q_10, .int 0, .int 0, .int ((-1)), .ref q_15, .long 0]))] := hD
        have hK : va_K D vwCl [(cA_6, .int), (cA_13, .array (.object "TowerliftryModel$Car")), (cA_14, .object "TowerliftryModel$Car"), (cA_17, .long), (cA_19, .double)] s := hK
        refine W.widen (k := 16) (n := 361) (Nat.le_refl _) (Nat.le_refl _) ?_
        refine W.eq (g2 := F0 m 1253 ls [.int 2]) rfl ?_
        refine lv_iload hx hb dL_law_1253 (lv_at hl 1 rfl) ?_
        exfalso
        simp only [Int32.lt_iff_toInt_lt, Int32.le_iff_toInt_le, tw_eqi, tw_i0, tw_i1, tw_i2, tw_i3, tw_i4, tw_i9, tw_i10, tw_i23, tw_i97, tw_i99, tw_i100, tw_i101, tw_i105, tw_i114, tw_i115, tw_i119, tw_i122, tw_i200, tw_i255, tw_i999, tw_i2000] at c_3 g_4 g_9 <;> omega
    · obtain ⟨g_10, rfl, rfl⟩ := hw
      obtain ⟨hP, hD, hK⟩ := tw_join (wr := [(q_3, .inr (3, [.int 0, .ref em, .int 0])), (q_4, .inr (5, [.ref q_5, .int 0])), (q_5, .inl (cA_6, 256, .inl ((fun _ => 0)))), (q_7, .inr (10, [.int 0, .int 9, .int 0, .int 99, .ref q_8, .ref q_9, .ref q_10, .int 0, .int 0, .int ((-1)), .ref q_15, .long 0])), (q_8, .inr (3, [.int 0, .ref em, .int 0])), (q_9, .inr (3, [.int 0, .ref em, .int 0])), (q_10, .inl (cA_13, 2, .inr (.inr (.inr (.inr ((tw_two q_11 q_12))))))), (q_11, .inl (cA_14, 24, .inr (.inr (.inr (.inr ((fun _ => none))))))), (q_12, .inl (cA_14, 24, .inr (.inr (.inr (.inr ((fun _ => none))))))), (q_15, .inr (3, [.int 0, .ref em, .int 0])), (q_18, .inl (cA_19, 1, .inr (.inr (.inr (.inl ((fun _ => 0)))))))]) hP hD hK [0, 1, 12] [2, 3, 4, 5, 6, 7, 8, 9, 10, 11, 13] rfl rfl (by decide) (by decide) hk1 hFc ht hvm hB
      have hP : va_P D vwCl [(q_3, .inr (3, [.int 0, .ref em, .int 0])), (q_4, .inr (5, [.ref q_5, .int 0])), (q_5, .inl (cA_6, 256, .inl ((fun _ => 0)))), (q_7, .inr (10, [.int 0, .int 9, .int 0, .int 99, .ref q_8, .ref q_9, .ref q_10, .int 0, .int 0, .int ((-1)), .ref q_15, .long 0])), (q_8, .inr (3, [.int 0, .ref em, .int 0])), (q_9, .inr (3, [.int 0, .ref em, .int 0])), (q_10, .inl (cA_13, 2, .inr (.inr (.inr (.inr ((tw_two q_11 q_12))))))), (q_11, .inl (cA_14, 24, .inr (.inr (.inr (.inr ((fun _ => none))))))), (q_12, .inl (cA_14, 24, .inr (.inr (.inr (.inr ((fun _ => none))))))), (q_15, .inr (3, [.int 0, .ref em, .int 0])), (q_18, .inl (cA_19, 1, .inr (.inr (.inr (.inl ((fun _ => 0))))))), (q_16, .inl (cA_17, 1, .inr (.inl ((fun _ => 0)))))] _ := hP
      have hD : va_D A [(q_3, .inr (3, [.int 0, .ref em, .int 0])), (q_4, .inr (5, [.ref q_5, .int 0])), (q_5, .inl (cA_6, 256, .inl ((fun _ => 0)))), (q_7, .inr (10, [.int 0, .int 9, .int 0, .int 99, .ref q_8, .ref q_9, .ref q_10, .int 0, .int 0, .int ((-1)), .ref q_15, .long 0])), (q_8, .inr (3, [.int 0, .ref em, .int 0])), (q_9, .inr (3, [.int 0, .ref em, .int 0])), (q_10, .inl (cA_13, 2, .inr (.inr (.inr (.inr ((tw_two q_11 q_12))))))), (q_11, .inl (cA_14, 24, .inr (.inr (.inr (.inr ((fun _ => none))))))), (q_12, .inl (cA_14, 24, .inr (.inr (.inr (.inr ((fun _ => none))))))), (q_15, .inr (3, [.int 0, .ref em, .int 0])), (q_18, .inl (cA_19, 1, .inr (.inr (.inr (.inl ((fun _ => 0))))))), (q_16, .inl (cA_17, 1, .inr (.inl ((fun _ => 0)))))] := hD
      have hK : va_K D vwCl [(cA_6, .int), (cA_13, .array (.object "TowerliftryModel$Car")), (cA_14, .object "TowerliftryModel$Car"), (cA_17, .long), (cA_19, .double)] s := hK
      refine W.widen (k := 16) (n := 361) (Nat.le_refl _) (Nat.le_refl _) ?_
      refine W.eq (g2 := F0 m 1221 ls [.int 2]) rfl ?_
      refine lv_istore (lv' := [(6, .int 2), (5, .int 0), (4, .ref q_18), (3, .ref q_16), (2, .ref q_7), (1, .ref q_1), (0, .ref b)]) hx hb dL_law_1221 hl (by decide) rfl (fun ls hl => ?_)
      refine lv_aload_n hx hb dL_law_1223 rfl (lv_at hl 4 rfl) ?_
      refine lv_aload_n hx hb dL_law_1224 rfl (lv_at hl 6 rfl) ?_
      refine lv_iload hx hb dL_law_1225 (lv_at hl 1 rfl) ?_
      refine lv_iconst (v := 1) hx hb dL_law_1227 (by decide) ?_
      refine lv_iadd hx hb dL_law_1228 ?_
      refine lv_topi (fun z_11 ez_11 => ?_)
      have ez_11 : z_11 = (1 : Int32) := ez_11.trans (by decide)
      subst ez_11
      refine va_sld hx hb hX hbl hbA hS (by unfold vp_in; decide) dL_law_1229 ?_
      rw [show (1 : Int32).toNatClampNeg = 1 from by decide]
      refine lv_aload_n hx hb dL_law_1230 rfl (lv_at hl 6 rfl) ?_
      refine lv_iload hx hb dL_law_1231 (lv_at hl 1 rfl) ?_
      refine lv_iconst (v := 2) hx hb dL_law_1233 (by decide) ?_
      refine lv_iadd hx hb dL_law_1234 ?_
      refine lv_topi (fun z_12 ez_12 => ?_)
      have ez_12 : z_12 = (2 : Int32) := ez_12.trans (by decide)
      subst ez_12
      refine va_sld hx hb hX hbl hbA hS (by unfold vp_in; decide) dL_law_1235 ?_
      rw [show (2 : Int32).toNatClampNeg = 2 from by decide]
      refine lv_if_eq (tgt := 1243) hx hb dL_law_1236 (by decide) (fun c_13 => ?_) (fun c_13 => absurd c_13 (by first | exact c_3 | exact not_not_intro c_3))
      refine lv_iconst (v := 0) hx hb dL_law_1243 (by decide) ?_
      have hPc := hP.sub (ws' := [(q_7, .inr (10, [.int 0, .int 9, .int 0, .int 99, .ref q_8, .ref q_9, .ref q_10, .int 0, .int 0, .int ((-1)), .ref q_15, .long 0])), (q_10, .inl (cA_13, 2, .inr (.inr (.inr (.inr ((tw_two q_11 q_12))))))), (q_11, .inl (cA_14, 24, .inr (.inr (.inr (.inr ((fun _ => none))))))), (q_12, .inl (cA_14, 24, .inr (.inr (.inr (.inr ((fun _ => none)))))))]) [3, 6, 7, 8] rfl
      have hDc := hD.sub (ws' := [(q_7, .inr (10, [.int 0, .int 9, .int 0, .int 99, .ref q_8, .ref q_9, .ref q_10, .int 0, .int 0, .int ((-1)), .ref q_15, .long 0])), (q_10, .inl (cA_13, 2, .inr (.inr (.inr (.inr ((tw_two q_11 q_12))))))), (q_11, .inl (cA_14, 24, .inr (.inr (.inr (.inr ((fun _ => none))))))), (q_12, .inl (cA_14, 24, .inr (.inr (.inr (.inr ((fun _ => none)))))))]) [3, 6, 7, 8] (by decide) rfl
      have hKc := hK.sub (tys' := [(cA_13, .array (.object "TowerliftryModel$Car")), (cA_14, .object "TowerliftryModel$Car")]) [1, 2] rfl
      have hFc := va_free (wc := [(q_7, .inr (10, [.int 0, .int 9, .int 0, .int 99, .ref q_8, .ref q_9, .ref q_10, .int 0, .int 0, .int ((-1)), .ref q_15, .long 0])), (q_10, .inl (cA_13, 2, .inr (.inr (.inr (.inr ((tw_two q_11 q_12))))))), (q_11, .inl (cA_14, 24, .inr (.inr (.inr (.inr ((fun _ => none))))))), (q_12, .inl (cA_14, 24, .inr (.inr (.inr (.inr ((fun _ => none)))))))]) hD hS hA [3, 6, 7, 8] rfl
      refine va_calli (va_runV (As := [.int ((xs 1)), .int 0]) (rest := []) ⟨hx, hb, hml, hown, hts⟩ (c_X6_promised l hst em kw kb D q_7 ((xs 1)) 0 q_8 q_9 q_10 q_15 cA_13 q_11 cA_14 q_12 _) (cwV 2 hts gL_law_X6_promised rfl rfl rfl (by decide +kernel) ⟨(Nat.le_of_ble_eq_true rfl), (Nat.le_of_ble_eq_true rfl)⟩) (tw_preV hF hS hFc hPc hKc hDc (va_recv hKc hPc (ci := 10) (q0 := 0) rfl rfl)) rfl rfl hl.1 rfl (lv_room (Nat.le_of_ble_eq_true rfl)) dL_law_1244 ⟨(Nat.le_of_ble_eq_true rfl), (Nat.le_of_ble_eq_true rfl)⟩) hS (fun q _ h => hFc q h) hFc (fun r u t H locs ht hvm hw hB hz1 hk1 hS => ?_)
      rcases hw with hw | hw
      · obtain ⟨g_14, rfl, rfl⟩ := hw
        obtain ⟨hP, hD, hK⟩ := tw_join (wr := [(q_3, .inr (3, [.int 0, .ref em, .int 0])), (q_4, .inr (5, [.ref q_5, .int 0])), (q_5, .inl (cA_6, 256, .inl ((fun _ => 0)))), (q_8, .inr (3, [.int 0, .ref em, .int 0])), (q_9, .inr (3, [.int 0, .ref em, .int 0])), (q_15, .inr (3, [.int 0, .ref em, .int 0])), (q_18, .inl (cA_19, 1, .inr (.inr (.inr (.inl ((fun _ => 0))))))), (q_16, .inl (cA_17, 1, .inr (.inl ((fun _ => 0)))))]) hP hD hK [3, 6, 7, 8] [0, 1, 2, 4, 5, 9, 10, 11] rfl rfl (by decide) (by decide) hk1 hFc ht hvm hB
        have hP : va_P D vwCl [(q_3, .inr (3, [.int 0, .ref em, .int 0])), (q_4, .inr (5, [.ref q_5, .int 0])), (q_5, .inl (cA_6, 256, .inl ((fun _ => 0)))), (q_8, .inr (3, [.int 0, .ref em, .int 0])), (q_9, .inr (3, [.int 0, .ref em, .int 0])), (q_15, .inr (3, [.int 0, .ref em, .int 0])), (q_18, .inl (cA_19, 1, .inr (.inr (.inr (.inl ((fun _ => 0))))))), (q_16, .inl (cA_17, 1, .inr (.inl ((fun _ => 0))))), (q_7, .inr (10, [.int 1, .int 9, .int 0, .int 99, .ref q_8, .ref q_9, .ref q_10, .int 0, .int 0, .int ((-1)), .ref q_15, .long 0]))] _ := hP
        have hD : va_D A [(q_3, .inr (3, [.int 0, .ref em, .int 0])), (q_4, .inr (5, [.ref q_5, .int 0])), (q_5, .inl (cA_6, 256, .inl ((fun _ => 0)))), (q_8, .inr (3, [.int 0, .ref em, .int 0])), (q_9, .inr (3, [.int 0, .ref em, .int 0])), (q_15, .inr (3, [.int 0, .ref em, .int 0])), (q_18, .inl (cA_19, 1, .inr (.inr (.inr (.inl ((fun _ => 0))))))), (q_16, .inl (cA_17, 1, .inr (.inl ((fun _ => 0))))), (q_7, .inr (10, [.int 1, .int 9, .int 0, .int 99, .ref q_8, .ref q_9, .ref q_10, .int 0, .int 0, .int ((-1)), .ref q_15, .long 0]))] := hD
        have hK : va_K D vwCl [(cA_6, .int), (cA_13, .array (.object "TowerliftryModel$Car")), (cA_14, .object "TowerliftryModel$Car"), (cA_17, .long), (cA_19, .double)] s := hK
        refine W.widen (k := 16) (n := 361) (Nat.le_refl _) (Nat.le_refl _) ?_
        refine W.eq (g2 := F0 m 1247 ls [.int 0]) rfl ?_
        refine lv_istore (lv' := [(7, .int 0), (6, .int 2), (5, .int 0), (4, .ref q_18), (3, .ref q_16), (2, .ref q_7), (1, .ref q_1), (0, .ref b)]) hx hb dL_law_1247 hl (by decide) rfl (fun ls hl => ?_)
        refine lv_aload_n hx hb dL_law_1249 rfl (lv_at hl 5 rfl) ?_
        have hPc := hP.sub (ws' := [(q_7, .inr (10, [.int 1, .int 9, .int 0, .int 99, .ref q_8, .ref q_9, .ref q_10, .int 0, .int 0, .int ((-1)), .ref q_15, .long 0]))]) [8] rfl
        have hDc := hD.sub (ws' := [(q_7, .inr (10, [.int 1, .int 9, .int 0, .int 99, .ref q_8, .ref q_9, .ref q_10, .int 0, .int 0, .int ((-1)), .ref q_15, .long 0]))]) [8] (by decide) rfl
        have hKc := hK.sub (tys' := []) [] rfl
        have hFc := va_free (wc := [(q_7, .inr (10, [.int 1, .int 9, .int 0, .int 99, .ref q_8, .ref q_9, .ref q_10, .int 0, .int 0, .int ((-1)), .ref q_15, .long 0]))]) hD hS hA [8] rfl
        refine va_calli (va_runV (As := []) (rest := []) ⟨hx, hb, hml, hown, hts⟩ (c_X6_thrown l hst em kw kb D q_7 1 9 0 99 q_8 q_9 q_10 0 0 ((-1)) q_15 0 _) (cwV 0 hts gL_law_X6_thrown rfl rfl rfl (by decide +kernel) ⟨(Nat.le_of_ble_eq_true rfl), (Nat.le_of_ble_eq_true rfl)⟩) (tw_preV hF hS hFc hPc hKc hDc (va_recv hKc hPc (ci := 10) (q0 := 0) rfl rfl)) rfl rfl hl.1 rfl (lv_room (Nat.le_of_ble_eq_true rfl)) dL_law_1250 ⟨(Nat.le_of_ble_eq_true rfl), (Nat.le_of_ble_eq_true rfl)⟩) hS (fun q _ h => hFc q h) hFc (fun r u t H locs ht hvm hw hB hz1 hk1 hS => ?_)
        obtain ⟨rfl, rfl⟩ := hw
        obtain ⟨hP, hD, hK⟩ := tw_join (wr := [(q_3, .inr (3, [.int 0, .ref em, .int 0])), (q_4, .inr (5, [.ref q_5, .int 0])), (q_5, .inl (cA_6, 256, .inl ((fun _ => 0)))), (q_8, .inr (3, [.int 0, .ref em, .int 0])), (q_9, .inr (3, [.int 0, .ref em, .int 0])), (q_15, .inr (3, [.int 0, .ref em, .int 0])), (q_18, .inl (cA_19, 1, .inr (.inr (.inr (.inl ((fun _ => 0))))))), (q_16, .inl (cA_17, 1, .inr (.inl ((fun _ => 0)))))]) hP hD hK [8] [0, 1, 2, 3, 4, 5, 6, 7] rfl rfl (by decide) (by decide) hk1 hFc ht hvm hB
        have hP : va_P D vwCl [(q_3, .inr (3, [.int 0, .ref em, .int 0])), (q_4, .inr (5, [.ref q_5, .int 0])), (q_5, .inl (cA_6, 256, .inl ((fun _ => 0)))), (q_8, .inr (3, [.int 0, .ref em, .int 0])), (q_9, .inr (3, [.int 0, .ref em, .int 0])), (q_15, .inr (3, [.int 0, .ref em, .int 0])), (q_18, .inl (cA_19, 1, .inr (.inr (.inr (.inl ((fun _ => 0))))))), (q_16, .inl (cA_17, 1, .inr (.inl ((fun _ => 0))))), (q_7, .inr (10, [.int 1, .int 9, .int 0, .int 99, .ref q_8, .ref q_9, .ref q_10, .int 0, .int 0, .int ((-1)), .ref q_15, .long 0]))] _ := hP
        have hD : va_D A [(q_3, .inr (3, [.int 0, .ref em, .int 0])), (q_4, .inr (5, [.ref q_5, .int 0])), (q_5, .inl (cA_6, 256, .inl ((fun _ => 0)))), (q_8, .inr (3, [.int 0, .ref em, .int 0])), (q_9, .inr (3, [.int 0, .ref em, .int 0])), (q_15, .inr (3, [.int 0, .ref em, .int 0])), (q_18, .inl (cA_19, 1, .inr (.inr (.inr (.inl ((fun _ => 0))))))), (q_16, .inl (cA_17, 1, .inr (.inl ((fun _ => 0))))), (q_7, .inr (10, [.int 1, .int 9, .int 0, .int 99, .ref q_8, .ref q_9, .ref q_10, .int 0, .int 0, .int ((-1)), .ref q_15, .long 0]))] := hD
        have hK : va_K D vwCl [(cA_6, .int), (cA_13, .array (.object "TowerliftryModel$Car")), (cA_14, .object "TowerliftryModel$Car"), (cA_17, .long), (cA_19, .double)] s := hK
        refine W.widen (k := 16) (n := 361) (Nat.le_refl _) (Nat.le_refl _) ?_
        refine W.eq (g2 := F0 m 1253 ls [.int 1]) rfl ?_
        refine lv_iload hx hb dL_law_1253 (lv_at hl 1 rfl) ?_
        exfalso
        simp only [Int32.lt_iff_toInt_lt, Int32.le_iff_toInt_le, tw_eqi, tw_i0, tw_i1, tw_i2, tw_i3, tw_i4, tw_i9, tw_i10, tw_i23, tw_i97, tw_i99, tw_i100, tw_i101, tw_i105, tw_i114, tw_i115, tw_i119, tw_i122, tw_i200, tw_i255, tw_i999, tw_i2000] at c_3 g_10 g_14 <;> omega
      · obtain ⟨g_15, rfl, rfl⟩ := hw
        obtain ⟨hP, hD, hK⟩ := tw_join (wr := [(q_3, .inr (3, [.int 0, .ref em, .int 0])), (q_4, .inr (5, [.ref q_5, .int 0])), (q_5, .inl (cA_6, 256, .inl ((fun _ => 0)))), (q_8, .inr (3, [.int 0, .ref em, .int 0])), (q_9, .inr (3, [.int 0, .ref em, .int 0])), (q_15, .inr (3, [.int 0, .ref em, .int 0])), (q_18, .inl (cA_19, 1, .inr (.inr (.inr (.inl ((fun _ => 0))))))), (q_16, .inl (cA_17, 1, .inr (.inl ((fun _ => 0)))))]) hP hD hK [3, 6, 7, 8] [0, 1, 2, 4, 5, 9, 10, 11] rfl rfl (by decide) (by decide) hk1 hFc ht hvm hB
        have hP : va_P D vwCl [(q_3, .inr (3, [.int 0, .ref em, .int 0])), (q_4, .inr (5, [.ref q_5, .int 0])), (q_5, .inl (cA_6, 256, .inl ((fun _ => 0)))), (q_8, .inr (3, [.int 0, .ref em, .int 0])), (q_9, .inr (3, [.int 0, .ref em, .int 0])), (q_15, .inr (3, [.int 0, .ref em, .int 0])), (q_18, .inl (cA_19, 1, .inr (.inr (.inr (.inl ((fun _ => 0))))))), (q_16, .inl (cA_17, 1, .inr (.inl ((fun _ => 0))))), (q_7, .inr (10, [.int 2, .int 9, .int 0, .int 99, .ref q_8, .ref q_9, .ref q_10, .int 0, .int 0, .int ((-1)), .ref q_15, .long 0]))] _ := hP
        have hD : va_D A [(q_3, .inr (3, [.int 0, .ref em, .int 0])), (q_4, .inr (5, [.ref q_5, .int 0])), (q_5, .inl (cA_6, 256, .inl ((fun _ => 0)))), (q_8, .inr (3, [.int 0, .ref em, .int 0])), (q_9, .inr (3, [.int 0, .ref em, .int 0])), (q_15, .inr (3, [.int 0, .ref em, .int 0])), (q_18, .inl (cA_19, 1, .inr (.inr (.inr (.inl ((fun _ => 0))))))), (q_16, .inl (cA_17, 1, .inr (.inl ((fun _ => 0))))), (q_7, .inr (10, [.int 2, .int 9, .int 0, .int 99, .ref q_8, .ref q_9, .ref q_10, .int 0, .int 0, .int ((-1)), .ref q_15, .long 0]))] := hD
        have hK : va_K D vwCl [(cA_6, .int), (cA_13, .array (.object "TowerliftryModel$Car")), (cA_14, .object "TowerliftryModel$Car"), (cA_17, .long), (cA_19, .double)] s := hK
        refine W.widen (k := 16) (n := 361) (Nat.le_refl _) (Nat.le_refl _) ?_
        refine W.eq (g2 := F0 m 1247 ls [.int 0]) rfl ?_
        refine lv_istore (lv' := [(7, .int 0), (6, .int 2), (5, .int 0), (4, .ref q_18), (3, .ref q_16), (2, .ref q_7), (1, .ref q_1), (0, .ref b)]) hx hb dL_law_1247 hl (by decide) rfl (fun ls hl => ?_)
        refine lv_aload_n hx hb dL_law_1249 rfl (lv_at hl 5 rfl) ?_
        have hPc := hP.sub (ws' := [(q_7, .inr (10, [.int 2, .int 9, .int 0, .int 99, .ref q_8, .ref q_9, .ref q_10, .int 0, .int 0, .int ((-1)), .ref q_15, .long 0]))]) [8] rfl
        have hDc := hD.sub (ws' := [(q_7, .inr (10, [.int 2, .int 9, .int 0, .int 99, .ref q_8, .ref q_9, .ref q_10, .int 0, .int 0, .int ((-1)), .ref q_15, .long 0]))]) [8] (by decide) rfl
        have hKc := hK.sub (tys' := []) [] rfl
        have hFc := va_free (wc := [(q_7, .inr (10, [.int 2, .int 9, .int 0, .int 99, .ref q_8, .ref q_9, .ref q_10, .int 0, .int 0, .int ((-1)), .ref q_15, .long 0]))]) hD hS hA [8] rfl
        refine va_calli (va_runV (As := []) (rest := []) ⟨hx, hb, hml, hown, hts⟩ (c_X6_thrown l hst em kw kb D q_7 2 9 0 99 q_8 q_9 q_10 0 0 ((-1)) q_15 0 _) (cwV 0 hts gL_law_X6_thrown rfl rfl rfl (by decide +kernel) ⟨(Nat.le_of_ble_eq_true rfl), (Nat.le_of_ble_eq_true rfl)⟩) (tw_preV hF hS hFc hPc hKc hDc (va_recv hKc hPc (ci := 10) (q0 := 0) rfl rfl)) rfl rfl hl.1 rfl (lv_room (Nat.le_of_ble_eq_true rfl)) dL_law_1250 ⟨(Nat.le_of_ble_eq_true rfl), (Nat.le_of_ble_eq_true rfl)⟩) hS (fun q _ h => hFc q h) hFc (fun r u t H locs ht hvm hw hB hz1 hk1 hS => ?_)
        obtain ⟨rfl, rfl⟩ := hw
        obtain ⟨hP, hD, hK⟩ := tw_join (wr := [(q_3, .inr (3, [.int 0, .ref em, .int 0])), (q_4, .inr (5, [.ref q_5, .int 0])), (q_5, .inl (cA_6, 256, .inl ((fun _ => 0)))), (q_8, .inr (3, [.int 0, .ref em, .int 0])), (q_9, .inr (3, [.int 0, .ref em, .int 0])), (q_15, .inr (3, [.int 0, .ref em, .int 0])), (q_18, .inl (cA_19, 1, .inr (.inr (.inr (.inl ((fun _ => 0))))))), (q_16, .inl (cA_17, 1, .inr (.inl ((fun _ => 0)))))]) hP hD hK [8] [0, 1, 2, 3, 4, 5, 6, 7] rfl rfl (by decide) (by decide) hk1 hFc ht hvm hB
        have hP : va_P D vwCl [(q_3, .inr (3, [.int 0, .ref em, .int 0])), (q_4, .inr (5, [.ref q_5, .int 0])), (q_5, .inl (cA_6, 256, .inl ((fun _ => 0)))), (q_8, .inr (3, [.int 0, .ref em, .int 0])), (q_9, .inr (3, [.int 0, .ref em, .int 0])), (q_15, .inr (3, [.int 0, .ref em, .int 0])), (q_18, .inl (cA_19, 1, .inr (.inr (.inr (.inl ((fun _ => 0))))))), (q_16, .inl (cA_17, 1, .inr (.inl ((fun _ => 0))))), (q_7, .inr (10, [.int 2, .int 9, .int 0, .int 99, .ref q_8, .ref q_9, .ref q_10, .int 0, .int 0, .int ((-1)), .ref q_15, .long 0]))] _ := hP
        have hD : va_D A [(q_3, .inr (3, [.int 0, .ref em, .int 0])), (q_4, .inr (5, [.ref q_5, .int 0])), (q_5, .inl (cA_6, 256, .inl ((fun _ => 0)))), (q_8, .inr (3, [.int 0, .ref em, .int 0])), (q_9, .inr (3, [.int 0, .ref em, .int 0])), (q_15, .inr (3, [.int 0, .ref em, .int 0])), (q_18, .inl (cA_19, 1, .inr (.inr (.inr (.inl ((fun _ => 0))))))), (q_16, .inl (cA_17, 1, .inr (.inl ((fun _ => 0))))), (q_7, .inr (10, [.int 2, .int 9, .int 0, .int 99, .ref q_8, .ref q_9, .ref q_10, .int 0, .int 0, .int ((-1)), .ref q_15, .long 0]))] := hD
        have hK : va_K D vwCl [(cA_6, .int), (cA_13, .array (.object "TowerliftryModel$Car")), (cA_14, .object "TowerliftryModel$Car"), (cA_17, .long), (cA_19, .double)] s := hK
        refine W.widen (k := 16) (n := 361) (Nat.le_refl _) (Nat.le_refl _) ?_
        refine W.eq (g2 := F0 m 1253 ls [.int 2]) rfl ?_
        refine lv_iload hx hb dL_law_1253 (lv_at hl 1 rfl) ?_
        refine lv_icmp_eq (tgt := 1260) hx hb dL_law_1255 (by decide) (fun c9 => ?_) (fun c9 => absurd c9 (by decide))
        refine lv_iload hx hb dL_law_1260 (lv_at hl 1 rfl) ?_
        refine lv_if_ne (tgt := 1277) hx hb dL_law_1262 (by decide) (fun c9 => ?_) (fun c9 => absurd c9 (by decide))
        refine lv_goto (tgt := 2056) hx hb dL_law_1277 (by decide) ?_
        refine W.widen (k := 20000) (n := 60000) (Nat.le_of_ble_eq_true rfl) (Nat.le_of_ble_eq_true rfl) ?_
        exact tw_tail C0 hAe hS (lv_sub hl [2, 7] rfl)
  · refine lv_iconst (v := 1) hx hb dL_law_1212 (by decide) ?_
    refine lv_goto (tgt := 1217) hx hb dL_law_1213 (by decide) ?_
    refine lv_aload_n hx hb dL_law_1217 rfl (lv_at hl 2 rfl) ?_
    have hPc := hP.sub (ws' := [(q_1, .inr (7, [.ref q_2, .ref q_3, .ref q_4, .int 9, .int 99, .int 0, .int 0, .int 0, .int ((-1)), .int 0, .int 0, .long 0])), (q_2, .inr (3, [.int 0, .ref em, .int 0])), (q_16, .inl (cA_17, 1, .inr (.inl ((fun _ => 0)))))]) [0, 1, 12] rfl
    have hDc := hD.sub (ws' := [(q_1, .inr (7, [.ref q_2, .ref q_3, .ref q_4, .int 9, .int 99, .int 0, .int 0, .int 0, .int ((-1)), .int 0, .int 0, .long 0])), (q_2, .inr (3, [.int 0, .ref em, .int 0])), (q_16, .inl (cA_17, 1, .inr (.inl ((fun _ => 0)))))]) [0, 1, 12] (by decide) rfl
    have hKc := hK.sub (tys' := [(cA_17, .long)]) [3] rfl
    have hFc := va_free (wc := [(q_1, .inr (7, [.ref q_2, .ref q_3, .ref q_4, .int 9, .int 99, .int 0, .int 0, .int 0, .int ((-1)), .int 0, .int 0, .long 0])), (q_2, .inr (3, [.int 0, .ref em, .int 0])), (q_16, .inl (cA_17, 1, .inr (.inl ((fun _ => 0)))))]) hD hS hA [0, 1, 12] rfl
    refine va_calli (vx_runSW (As := [.ref q_1, .int ((xs 1)), .int 1, .ref q_16]) (rest := []) ⟨hx, hb, hml, hown, hts⟩ (c_L_promised l hst em kw kb D q_1 ((xs 1)) 1 q_16 q_2 q_3 q_4 cA_17 _) (vx_cwSW 4 hts gL_law_L_promised rfl rfl rfl (by decide +kernel) ⟨(Nat.le_of_ble_eq_true rfl), (Nat.le_of_ble_eq_true rfl)⟩) (tw_preS hF hS hFc hPc hKc hDc) rfl rfl hl.1 rfl (lv_room (Nat.le_of_ble_eq_true rfl)) dL_law_1218 ⟨(Nat.le_of_ble_eq_true rfl), (Nat.le_of_ble_eq_true rfl)⟩) hS (fun q _ h => hFc q h) hFc (fun r u t H locs ht hvm hw hB hz1 hk1 hS => ?_)
    rcases hw with hw | hw
    · obtain ⟨g_16, rfl, rfl⟩ := hw
      obtain ⟨hP, hD, hK⟩ := tw_join (wr := [(q_3, .inr (3, [.int 0, .ref em, .int 0])), (q_4, .inr (5, [.ref q_5, .int 0])), (q_5, .inl (cA_6, 256, .inl ((fun _ => 0)))), (q_7, .inr (10, [.int 0, .int 9, .int 0, .int 99, .ref q_8, .ref q_9, .ref q_10, .int 0, .int 0, .int ((-1)), .ref q_15, .long 0])), (q_8, .inr (3, [.int 0, .ref em, .int 0])), (q_9, .inr (3, [.int 0, .ref em, .int 0])), (q_10, .inl (cA_13, 2, .inr (.inr (.inr (.inr ((tw_two q_11 q_12))))))), (q_11, .inl (cA_14, 24, .inr (.inr (.inr (.inr ((fun _ => none))))))), (q_12, .inl (cA_14, 24, .inr (.inr (.inr (.inr ((fun _ => none))))))), (q_15, .inr (3, [.int 0, .ref em, .int 0])), (q_18, .inl (cA_19, 1, .inr (.inr (.inr (.inl ((fun _ => 0)))))))]) hP hD hK [0, 1, 12] [2, 3, 4, 5, 6, 7, 8, 9, 10, 11, 13] rfl rfl (by decide) (by decide) hk1 hFc ht hvm hB
      have hP : va_P D vwCl [(q_3, .inr (3, [.int 0, .ref em, .int 0])), (q_4, .inr (5, [.ref q_5, .int 0])), (q_5, .inl (cA_6, 256, .inl ((fun _ => 0)))), (q_7, .inr (10, [.int 0, .int 9, .int 0, .int 99, .ref q_8, .ref q_9, .ref q_10, .int 0, .int 0, .int ((-1)), .ref q_15, .long 0])), (q_8, .inr (3, [.int 0, .ref em, .int 0])), (q_9, .inr (3, [.int 0, .ref em, .int 0])), (q_10, .inl (cA_13, 2, .inr (.inr (.inr (.inr ((tw_two q_11 q_12))))))), (q_11, .inl (cA_14, 24, .inr (.inr (.inr (.inr ((fun _ => none))))))), (q_12, .inl (cA_14, 24, .inr (.inr (.inr (.inr ((fun _ => none))))))), (q_15, .inr (3, [.int 0, .ref em, .int 0])), (q_18, .inl (cA_19, 1, .inr (.inr (.inr (.inl ((fun _ => 0))))))), (q_16, .inl (cA_17, 1, .inr (.inl ((fun _ => 0)))))] _ := hP
      have hD : va_D A [(q_3, .inr (3, [.int 0, .ref em, .int 0])), (q_4, .inr (5, [.ref q_5, .int 0])), (q_5, .inl (cA_6, 256, .inl ((fun _ => 0)))), (q_7, .inr (10, [.int 0, .int 9, .int 0, .int 99, .ref q_8, .ref q_9, .ref q_10, .int 0, .int 0, .int ((-1)), .ref q_15, .long 0])), (q_8, .inr (3, [.int 0, .ref em, .int 0])), (q_9, .inr (3, [.int 0, .ref em, .int 0])), (q_10, .inl (cA_13, 2, .inr (.inr (.inr (.inr ((tw_two q_11 q_12))))))), (q_11, .inl (cA_14, 24, .inr (.inr (.inr (.inr ((fun _ => none))))))), (q_12, .inl (cA_14, 24, .inr (.inr (.inr (.inr ((fun _ => none))))))), (q_15, .inr (3, [.int 0, .ref em, .int 0])), (q_18, .inl (cA_19, 1, .inr (.inr (.inr (.inl ((fun _ => 0))))))), (q_16, .inl (cA_17, 1, .inr (.inl ((fun _ => 0)))))] := hD
      have hK : va_K D vwCl [(cA_6, .int), (cA_13, .array (.object "TowerliftryModel$Car")), (cA_14, .object "TowerliftryModel$Car"), (cA_17, .long), (cA_19, .double)] s := hK
      refine W.widen (k := 16) (n := 361) (Nat.le_refl _) (Nat.le_refl _) ?_
      refine W.eq (g2 := F0 m 1221 ls [.int 1]) rfl ?_
      refine lv_istore (lv' := [(6, .int 1), (5, .int 0), (4, .ref q_18), (3, .ref q_16), (2, .ref q_7), (1, .ref q_1), (0, .ref b)]) hx hb dL_law_1221 hl (by decide) rfl (fun ls hl => ?_)
      refine lv_aload_n hx hb dL_law_1223 rfl (lv_at hl 4 rfl) ?_
      refine lv_aload_n hx hb dL_law_1224 rfl (lv_at hl 6 rfl) ?_
      refine lv_iload hx hb dL_law_1225 (lv_at hl 1 rfl) ?_
      refine lv_iconst (v := 1) hx hb dL_law_1227 (by decide) ?_
      refine lv_iadd hx hb dL_law_1228 ?_
      refine lv_topi (fun z_17 ez_17 => ?_)
      have ez_17 : z_17 = (1 : Int32) := ez_17.trans (by decide)
      subst ez_17
      refine va_sld hx hb hX hbl hbA hS (by unfold vp_in; decide) dL_law_1229 ?_
      rw [show (1 : Int32).toNatClampNeg = 1 from by decide]
      refine lv_aload_n hx hb dL_law_1230 rfl (lv_at hl 6 rfl) ?_
      refine lv_iload hx hb dL_law_1231 (lv_at hl 1 rfl) ?_
      refine lv_iconst (v := 2) hx hb dL_law_1233 (by decide) ?_
      refine lv_iadd hx hb dL_law_1234 ?_
      refine lv_topi (fun z_18 ez_18 => ?_)
      have ez_18 : z_18 = (2 : Int32) := ez_18.trans (by decide)
      subst ez_18
      refine va_sld hx hb hX hbl hbA hS (by unfold vp_in; decide) dL_law_1235 ?_
      rw [show (2 : Int32).toNatClampNeg = 2 from by decide]
      refine lv_if_eq (tgt := 1243) hx hb dL_law_1236 (by decide) (fun c_19 => absurd c_19 (by first | exact c_3 | exact not_not_intro c_3)) (fun c_19 => ?_)
      refine lv_iconst (v := 1) hx hb dL_law_1239 (by decide) ?_
      refine lv_goto (tgt := 1244) hx hb dL_law_1240 (by decide) ?_
      have hPc := hP.sub (ws' := [(q_7, .inr (10, [.int 0, .int 9, .int 0, .int 99, .ref q_8, .ref q_9, .ref q_10, .int 0, .int 0, .int ((-1)), .ref q_15, .long 0])), (q_10, .inl (cA_13, 2, .inr (.inr (.inr (.inr ((tw_two q_11 q_12))))))), (q_11, .inl (cA_14, 24, .inr (.inr (.inr (.inr ((fun _ => none))))))), (q_12, .inl (cA_14, 24, .inr (.inr (.inr (.inr ((fun _ => none)))))))]) [3, 6, 7, 8] rfl
      have hDc := hD.sub (ws' := [(q_7, .inr (10, [.int 0, .int 9, .int 0, .int 99, .ref q_8, .ref q_9, .ref q_10, .int 0, .int 0, .int ((-1)), .ref q_15, .long 0])), (q_10, .inl (cA_13, 2, .inr (.inr (.inr (.inr ((tw_two q_11 q_12))))))), (q_11, .inl (cA_14, 24, .inr (.inr (.inr (.inr ((fun _ => none))))))), (q_12, .inl (cA_14, 24, .inr (.inr (.inr (.inr ((fun _ => none)))))))]) [3, 6, 7, 8] (by decide) rfl
      have hKc := hK.sub (tys' := [(cA_13, .array (.object "TowerliftryModel$Car")), (cA_14, .object "TowerliftryModel$Car")]) [1, 2] rfl
      have hFc := va_free (wc := [(q_7, .inr (10, [.int 0, .int 9, .int 0, .int 99, .ref q_8, .ref q_9, .ref q_10, .int 0, .int 0, .int ((-1)), .ref q_15, .long 0])), (q_10, .inl (cA_13, 2, .inr (.inr (.inr (.inr ((tw_two q_11 q_12))))))), (q_11, .inl (cA_14, 24, .inr (.inr (.inr (.inr ((fun _ => none))))))), (q_12, .inl (cA_14, 24, .inr (.inr (.inr (.inr ((fun _ => none)))))))]) hD hS hA [3, 6, 7, 8] rfl
      refine va_calli (va_runV (As := [.int ((xs 1)), .int 1]) (rest := []) ⟨hx, hb, hml, hown, hts⟩ (c_X6_promised l hst em kw kb D q_7 ((xs 1)) 1 q_8 q_9 q_10 q_15 cA_13 q_11 cA_14 q_12 _) (cwV 2 hts gL_law_X6_promised rfl rfl rfl (by decide +kernel) ⟨(Nat.le_of_ble_eq_true rfl), (Nat.le_of_ble_eq_true rfl)⟩) (tw_preV hF hS hFc hPc hKc hDc (va_recv hKc hPc (ci := 10) (q0 := 0) rfl rfl)) rfl rfl hl.1 rfl (lv_room (Nat.le_of_ble_eq_true rfl)) dL_law_1244 ⟨(Nat.le_of_ble_eq_true rfl), (Nat.le_of_ble_eq_true rfl)⟩) hS (fun q _ h => hFc q h) hFc (fun r u t H locs ht hvm hw hB hz1 hk1 hS => ?_)
      rcases hw with hw | hw
      · obtain ⟨g_20, rfl, rfl⟩ := hw
        obtain ⟨hP, hD, hK⟩ := tw_join (wr := [(q_3, .inr (3, [.int 0, .ref em, .int 0])), (q_4, .inr (5, [.ref q_5, .int 0])), (q_5, .inl (cA_6, 256, .inl ((fun _ => 0)))), (q_8, .inr (3, [.int 0, .ref em, .int 0])), (q_9, .inr (3, [.int 0, .ref em, .int 0])), (q_15, .inr (3, [.int 0, .ref em, .int 0])), (q_18, .inl (cA_19, 1, .inr (.inr (.inr (.inl ((fun _ => 0))))))), (q_16, .inl (cA_17, 1, .inr (.inl ((fun _ => 0)))))]) hP hD hK [3, 6, 7, 8] [0, 1, 2, 4, 5, 9, 10, 11] rfl rfl (by decide) (by decide) hk1 hFc ht hvm hB
        have hP : va_P D vwCl [(q_3, .inr (3, [.int 0, .ref em, .int 0])), (q_4, .inr (5, [.ref q_5, .int 0])), (q_5, .inl (cA_6, 256, .inl ((fun _ => 0)))), (q_8, .inr (3, [.int 0, .ref em, .int 0])), (q_9, .inr (3, [.int 0, .ref em, .int 0])), (q_15, .inr (3, [.int 0, .ref em, .int 0])), (q_18, .inl (cA_19, 1, .inr (.inr (.inr (.inl ((fun _ => 0))))))), (q_16, .inl (cA_17, 1, .inr (.inl ((fun _ => 0))))), (q_7, .inr (10, [.int 1, .int 9, .int 0, .int 99, .ref q_8, .ref q_9, .ref q_10, .int 0, .int 0, .int ((-1)), .ref q_15, .long 0]))] _ := hP
        have hD : va_D A [(q_3, .inr (3, [.int 0, .ref em, .int 0])), (q_4, .inr (5, [.ref q_5, .int 0])), (q_5, .inl (cA_6, 256, .inl ((fun _ => 0)))), (q_8, .inr (3, [.int 0, .ref em, .int 0])), (q_9, .inr (3, [.int 0, .ref em, .int 0])), (q_15, .inr (3, [.int 0, .ref em, .int 0])), (q_18, .inl (cA_19, 1, .inr (.inr (.inr (.inl ((fun _ => 0))))))), (q_16, .inl (cA_17, 1, .inr (.inl ((fun _ => 0))))), (q_7, .inr (10, [.int 1, .int 9, .int 0, .int 99, .ref q_8, .ref q_9, .ref q_10, .int 0, .int 0, .int ((-1)), .ref q_15, .long 0]))] := hD
        have hK : va_K D vwCl [(cA_6, .int), (cA_13, .array (.object "TowerliftryModel$Car")), (cA_14, .object "TowerliftryModel$Car"), (cA_17, .long), (cA_19, .double)] s := hK
        refine W.widen (k := 16) (n := 361) (Nat.le_refl _) (Nat.le_refl _) ?_
        refine W.eq (g2 := F0 m 1247 ls [.int 0]) rfl ?_
        refine lv_istore (lv' := [(7, .int 0), (6, .int 1), (5, .int 0), (4, .ref q_18), (3, .ref q_16), (2, .ref q_7), (1, .ref q_1), (0, .ref b)]) hx hb dL_law_1247 hl (by decide) rfl (fun ls hl => ?_)
        refine lv_aload_n hx hb dL_law_1249 rfl (lv_at hl 5 rfl) ?_
        have hPc := hP.sub (ws' := [(q_7, .inr (10, [.int 1, .int 9, .int 0, .int 99, .ref q_8, .ref q_9, .ref q_10, .int 0, .int 0, .int ((-1)), .ref q_15, .long 0]))]) [8] rfl
        have hDc := hD.sub (ws' := [(q_7, .inr (10, [.int 1, .int 9, .int 0, .int 99, .ref q_8, .ref q_9, .ref q_10, .int 0, .int 0, .int ((-1)), .ref q_15, .long 0]))]) [8] (by decide) rfl
        have hKc := hK.sub (tys' := []) [] rfl
        have hFc := va_free (wc := [(q_7, .inr (10, [.int 1, .int 9, .int 0, .int 99, .ref q_8, .ref q_9, .ref q_10, .int 0, .int 0, .int ((-1)), .ref q_15, .long 0]))]) hD hS hA [8] rfl
        refine va_calli (va_runV (As := []) (rest := []) ⟨hx, hb, hml, hown, hts⟩ (c_X6_thrown l hst em kw kb D q_7 1 9 0 99 q_8 q_9 q_10 0 0 ((-1)) q_15 0 _) (cwV 0 hts gL_law_X6_thrown rfl rfl rfl (by decide +kernel) ⟨(Nat.le_of_ble_eq_true rfl), (Nat.le_of_ble_eq_true rfl)⟩) (tw_preV hF hS hFc hPc hKc hDc (va_recv hKc hPc (ci := 10) (q0 := 0) rfl rfl)) rfl rfl hl.1 rfl (lv_room (Nat.le_of_ble_eq_true rfl)) dL_law_1250 ⟨(Nat.le_of_ble_eq_true rfl), (Nat.le_of_ble_eq_true rfl)⟩) hS (fun q _ h => hFc q h) hFc (fun r u t H locs ht hvm hw hB hz1 hk1 hS => ?_)
        obtain ⟨rfl, rfl⟩ := hw
        obtain ⟨hP, hD, hK⟩ := tw_join (wr := [(q_3, .inr (3, [.int 0, .ref em, .int 0])), (q_4, .inr (5, [.ref q_5, .int 0])), (q_5, .inl (cA_6, 256, .inl ((fun _ => 0)))), (q_8, .inr (3, [.int 0, .ref em, .int 0])), (q_9, .inr (3, [.int 0, .ref em, .int 0])), (q_15, .inr (3, [.int 0, .ref em, .int 0])), (q_18, .inl (cA_19, 1, .inr (.inr (.inr (.inl ((fun _ => 0))))))), (q_16, .inl (cA_17, 1, .inr (.inl ((fun _ => 0)))))]) hP hD hK [8] [0, 1, 2, 3, 4, 5, 6, 7] rfl rfl (by decide) (by decide) hk1 hFc ht hvm hB
        have hP : va_P D vwCl [(q_3, .inr (3, [.int 0, .ref em, .int 0])), (q_4, .inr (5, [.ref q_5, .int 0])), (q_5, .inl (cA_6, 256, .inl ((fun _ => 0)))), (q_8, .inr (3, [.int 0, .ref em, .int 0])), (q_9, .inr (3, [.int 0, .ref em, .int 0])), (q_15, .inr (3, [.int 0, .ref em, .int 0])), (q_18, .inl (cA_19, 1, .inr (.inr (.inr (.inl ((fun _ => 0))))))), (q_16, .inl (cA_17, 1, .inr (.inl ((fun _ => 0))))), (q_7, .inr (10, [.int 1, .int 9, .int 0, .int 99, .ref q_8, .ref q_9, .ref q_10, .int 0, .int 0, .int ((-1)), .ref q_15, .long 0]))] _ := hP
        have hD : va_D A [(q_3, .inr (3, [.int 0, .ref em, .int 0])), (q_4, .inr (5, [.ref q_5, .int 0])), (q_5, .inl (cA_6, 256, .inl ((fun _ => 0)))), (q_8, .inr (3, [.int 0, .ref em, .int 0])), (q_9, .inr (3, [.int 0, .ref em, .int 0])), (q_15, .inr (3, [.int 0, .ref em, .int 0])), (q_18, .inl (cA_19, 1, .inr (.inr (.inr (.inl ((fun _ => 0))))))), (q_16, .inl (cA_17, 1, .inr (.inl ((fun _ => 0))))), (q_7, .inr (10, [.int 1, .int 9, .int 0, .int 99, .ref q_8, .ref q_9, .ref q_10, .int 0, .int 0, .int ((-1)), .ref q_15, .long 0]))] := hD
        have hK : va_K D vwCl [(cA_6, .int), (cA_13, .array (.object "TowerliftryModel$Car")), (cA_14, .object "TowerliftryModel$Car"), (cA_17, .long), (cA_19, .double)] s := hK
        refine W.widen (k := 16) (n := 361) (Nat.le_refl _) (Nat.le_refl _) ?_
        refine W.eq (g2 := F0 m 1253 ls [.int 1]) rfl ?_
        refine lv_iload hx hb dL_law_1253 (lv_at hl 1 rfl) ?_
        refine lv_icmp_eq (tgt := 1260) hx hb dL_law_1255 (by decide) (fun c9 => ?_) (fun c9 => absurd c9 (by decide))
        refine lv_iload hx hb dL_law_1260 (lv_at hl 1 rfl) ?_
        refine lv_if_ne (tgt := 1277) hx hb dL_law_1262 (by decide) (fun c9 => ?_) (fun c9 => absurd c9 (by decide))
        refine lv_goto (tgt := 2056) hx hb dL_law_1277 (by decide) ?_
        refine W.widen (k := 20000) (n := 60000) (Nat.le_of_ble_eq_true rfl) (Nat.le_of_ble_eq_true rfl) ?_
        exact tw_tail C0 hAe hS (lv_sub hl [2, 7] rfl)
      · obtain ⟨g_21, rfl, rfl⟩ := hw
        obtain ⟨hP, hD, hK⟩ := tw_join (wr := [(q_3, .inr (3, [.int 0, .ref em, .int 0])), (q_4, .inr (5, [.ref q_5, .int 0])), (q_5, .inl (cA_6, 256, .inl ((fun _ => 0)))), (q_8, .inr (3, [.int 0, .ref em, .int 0])), (q_9, .inr (3, [.int 0, .ref em, .int 0])), (q_15, .inr (3, [.int 0, .ref em, .int 0])), (q_18, .inl (cA_19, 1, .inr (.inr (.inr (.inl ((fun _ => 0))))))), (q_16, .inl (cA_17, 1, .inr (.inl ((fun _ => 0)))))]) hP hD hK [3, 6, 7, 8] [0, 1, 2, 4, 5, 9, 10, 11] rfl rfl (by decide) (by decide) hk1 hFc ht hvm hB
        have hP : va_P D vwCl [(q_3, .inr (3, [.int 0, .ref em, .int 0])), (q_4, .inr (5, [.ref q_5, .int 0])), (q_5, .inl (cA_6, 256, .inl ((fun _ => 0)))), (q_8, .inr (3, [.int 0, .ref em, .int 0])), (q_9, .inr (3, [.int 0, .ref em, .int 0])), (q_15, .inr (3, [.int 0, .ref em, .int 0])), (q_18, .inl (cA_19, 1, .inr (.inr (.inr (.inl ((fun _ => 0))))))), (q_16, .inl (cA_17, 1, .inr (.inl ((fun _ => 0))))), (q_7, .inr (10, [.int 2, .int 9, .int 0, .int 99, .ref q_8, .ref q_9, .ref q_10, .int 0, .int 0, .int ((-1)), .ref q_15, .long 0]))] _ := hP
        have hD : va_D A [(q_3, .inr (3, [.int 0, .ref em, .int 0])), (q_4, .inr (5, [.ref q_5, .int 0])), (q_5, .inl (cA_6, 256, .inl ((fun _ => 0)))), (q_8, .inr (3, [.int 0, .ref em, .int 0])), (q_9, .inr (3, [.int 0, .ref em, .int 0])), (q_15, .inr (3, [.int 0, .ref em, .int 0])), (q_18, .inl (cA_19, 1, .inr (.inr (.inr (.inl ((fun _ => 0))))))), (q_16, .inl (cA_17, 1, .inr (.inl ((fun _ => 0))))), (q_7, .inr (10, [.int 2, .int 9, .int 0, .int 99, .ref q_8, .ref q_9, .ref q_10, .int 0, .int 0, .int ((-1)), .ref q_15, .long 0]))] := hD
        have hK : va_K D vwCl [(cA_6, .int), (cA_13, .array (.object "TowerliftryModel$Car")), (cA_14, .object "TowerliftryModel$Car"), (cA_17, .long), (cA_19, .double)] s := hK
        refine W.widen (k := 16) (n := 361) (Nat.le_refl _) (Nat.le_refl _) ?_
        refine W.eq (g2 := F0 m 1247 ls [.int 0]) rfl ?_
        refine lv_istore (lv' := [(7, .int 0), (6, .int 1), (5, .int 0), (4, .ref q_18), (3, .ref q_16), (2, .ref q_7), (1, .ref q_1), (0, .ref b)]) hx hb dL_law_1247 hl (by decide) rfl (fun ls hl => ?_)
        refine lv_aload_n hx hb dL_law_1249 rfl (lv_at hl 5 rfl) ?_
        have hPc := hP.sub (ws' := [(q_7, .inr (10, [.int 2, .int 9, .int 0, .int 99, .ref q_8, .ref q_9, .ref q_10, .int 0, .int 0, .int ((-1)), .ref q_15, .long 0]))]) [8] rfl
        have hDc := hD.sub (ws' := [(q_7, .inr (10, [.int 2, .int 9, .int 0, .int 99, .ref q_8, .ref q_9, .ref q_10, .int 0, .int 0, .int ((-1)), .ref q_15, .long 0]))]) [8] (by decide) rfl
        have hKc := hK.sub (tys' := []) [] rfl
        have hFc := va_free (wc := [(q_7, .inr (10, [.int 2, .int 9, .int 0, .int 99, .ref q_8, .ref q_9, .ref q_10, .int 0, .int 0, .int ((-1)), .ref q_15, .long 0]))]) hD hS hA [8] rfl
        refine va_calli (va_runV (As := []) (rest := []) ⟨hx, hb, hml, hown, hts⟩ (c_X6_thrown l hst em kw kb D q_7 2 9 0 99 q_8 q_9 q_10 0 0 ((-1)) q_15 0 _) (cwV 0 hts gL_law_X6_thrown rfl rfl rfl (by decide +kernel) ⟨(Nat.le_of_ble_eq_true rfl), (Nat.le_of_ble_eq_true rfl)⟩) (tw_preV hF hS hFc hPc hKc hDc (va_recv hKc hPc (ci := 10) (q0 := 0) rfl rfl)) rfl rfl hl.1 rfl (lv_room (Nat.le_of_ble_eq_true rfl)) dL_law_1250 ⟨(Nat.le_of_ble_eq_true rfl), (Nat.le_of_ble_eq_true rfl)⟩) hS (fun q _ h => hFc q h) hFc (fun r u t H locs ht hvm hw hB hz1 hk1 hS => ?_)
        obtain ⟨rfl, rfl⟩ := hw
        obtain ⟨hP, hD, hK⟩ := tw_join (wr := [(q_3, .inr (3, [.int 0, .ref em, .int 0])), (q_4, .inr (5, [.ref q_5, .int 0])), (q_5, .inl (cA_6, 256, .inl ((fun _ => 0)))), (q_8, .inr (3, [.int 0, .ref em, .int 0])), (q_9, .inr (3, [.int 0, .ref em, .int 0])), (q_15, .inr (3, [.int 0, .ref em, .int 0])), (q_18, .inl (cA_19, 1, .inr (.inr (.inr (.inl ((fun _ => 0))))))), (q_16, .inl (cA_17, 1, .inr (.inl ((fun _ => 0)))))]) hP hD hK [8] [0, 1, 2, 3, 4, 5, 6, 7] rfl rfl (by decide) (by decide) hk1 hFc ht hvm hB
        have hP : va_P D vwCl [(q_3, .inr (3, [.int 0, .ref em, .int 0])), (q_4, .inr (5, [.ref q_5, .int 0])), (q_5, .inl (cA_6, 256, .inl ((fun _ => 0)))), (q_8, .inr (3, [.int 0, .ref em, .int 0])), (q_9, .inr (3, [.int 0, .ref em, .int 0])), (q_15, .inr (3, [.int 0, .ref em, .int 0])), (q_18, .inl (cA_19, 1, .inr (.inr (.inr (.inl ((fun _ => 0))))))), (q_16, .inl (cA_17, 1, .inr (.inl ((fun _ => 0))))), (q_7, .inr (10, [.int 2, .int 9, .int 0, .int 99, .ref q_8, .ref q_9, .ref q_10, .int 0, .int 0, .int ((-1)), .ref q_15, .long 0]))] _ := hP
        have hD : va_D A [(q_3, .inr (3, [.int 0, .ref em, .int 0])), (q_4, .inr (5, [.ref q_5, .int 0])), (q_5, .inl (cA_6, 256, .inl ((fun _ => 0)))), (q_8, .inr (3, [.int 0, .ref em, .int 0])), (q_9, .inr (3, [.int 0, .ref em, .int 0])), (q_15, .inr (3, [.int 0, .ref em, .int 0])), (q_18, .inl (cA_19, 1, .inr (.inr (.inr (.inl ((fun _ => 0))))))), (q_16, .inl (cA_17, 1, .inr (.inl ((fun _ => 0))))), (q_7, .inr (10, [.int 2, .int 9, .int 0, .int 99, .ref q_8, .ref q_9, .ref q_10, .int 0, .int 0, .int ((-1)), .ref q_15, .long 0]))] := hD
        have hK : va_K D vwCl [(cA_6, .int), (cA_13, .array (.object "TowerliftryModel$Car")), (cA_14, .object "TowerliftryModel$Car"), (cA_17, .long), (cA_19, .double)] s := hK
        refine W.widen (k := 16) (n := 361) (Nat.le_refl _) (Nat.le_refl _) ?_
        refine W.eq (g2 := F0 m 1253 ls [.int 2]) rfl ?_
        refine lv_iload hx hb dL_law_1253 (lv_at hl 1 rfl) ?_
        exfalso
        simp only [Int32.lt_iff_toInt_lt, Int32.le_iff_toInt_le, tw_eqi, tw_i0, tw_i1, tw_i2, tw_i3, tw_i4, tw_i9, tw_i10, tw_i23, tw_i97, tw_i99, tw_i100, tw_i101, tw_i105, tw_i114, tw_i115, tw_i119, tw_i122, tw_i200, tw_i255, tw_i999, tw_i2000] at c_3 g_16 g_21 <;> omega
    · obtain ⟨g_22, rfl, rfl⟩ := hw
      obtain ⟨hP, hD, hK⟩ := tw_join (wr := [(q_3, .inr (3, [.int 0, .ref em, .int 0])), (q_4, .inr (5, [.ref q_5, .int 0])), (q_5, .inl (cA_6, 256, .inl ((fun _ => 0)))), (q_7, .inr (10, [.int 0, .int 9, .int 0, .int 99, .ref q_8, .ref q_9, .ref q_10, .int 0, .int 0, .int ((-1)), .ref q_15, .long 0])), (q_8, .inr (3, [.int 0, .ref em, .int 0])), (q_9, .inr (3, [.int 0, .ref em, .int 0])), (q_10, .inl (cA_13, 2, .inr (.inr (.inr (.inr ((tw_two q_11 q_12))))))), (q_11, .inl (cA_14, 24, .inr (.inr (.inr (.inr ((fun _ => none))))))), (q_12, .inl (cA_14, 24, .inr (.inr (.inr (.inr ((fun _ => none))))))), (q_15, .inr (3, [.int 0, .ref em, .int 0])), (q_18, .inl (cA_19, 1, .inr (.inr (.inr (.inl ((fun _ => 0)))))))]) hP hD hK [0, 1, 12] [2, 3, 4, 5, 6, 7, 8, 9, 10, 11, 13] rfl rfl (by decide) (by decide) hk1 hFc ht hvm hB
      have hP : va_P D vwCl [(q_3, .inr (3, [.int 0, .ref em, .int 0])), (q_4, .inr (5, [.ref q_5, .int 0])), (q_5, .inl (cA_6, 256, .inl ((fun _ => 0)))), (q_7, .inr (10, [.int 0, .int 9, .int 0, .int 99, .ref q_8, .ref q_9, .ref q_10, .int 0, .int 0, .int ((-1)), .ref q_15, .long 0])), (q_8, .inr (3, [.int 0, .ref em, .int 0])), (q_9, .inr (3, [.int 0, .ref em, .int 0])), (q_10, .inl (cA_13, 2, .inr (.inr (.inr (.inr ((tw_two q_11 q_12))))))), (q_11, .inl (cA_14, 24, .inr (.inr (.inr (.inr ((fun _ => none))))))), (q_12, .inl (cA_14, 24, .inr (.inr (.inr (.inr ((fun _ => none))))))), (q_15, .inr (3, [.int 0, .ref em, .int 0])), (q_18, .inl (cA_19, 1, .inr (.inr (.inr (.inl ((fun _ => 0))))))), (q_16, .inl (cA_17, 1, .inr (.inl ((fun _ => 0)))))] _ := hP
      have hD : va_D A [(q_3, .inr (3, [.int 0, .ref em, .int 0])), (q_4, .inr (5, [.ref q_5, .int 0])), (q_5, .inl (cA_6, 256, .inl ((fun _ => 0)))), (q_7, .inr (10, [.int 0, .int 9, .int 0, .int 99, .ref q_8, .ref q_9, .ref q_10, .int 0, .int 0, .int ((-1)), .ref q_15, .long 0])), (q_8, .inr (3, [.int 0, .ref em, .int 0])), (q_9, .inr (3, [.int 0, .ref em, .int 0])), (q_10, .inl (cA_13, 2, .inr (.inr (.inr (.inr ((tw_two q_11 q_12))))))), (q_11, .inl (cA_14, 24, .inr (.inr (.inr (.inr ((fun _ => none))))))), (q_12, .inl (cA_14, 24, .inr (.inr (.inr (.inr ((fun _ => none))))))), (q_15, .inr (3, [.int 0, .ref em, .int 0])), (q_18, .inl (cA_19, 1, .inr (.inr (.inr (.inl ((fun _ => 0))))))), (q_16, .inl (cA_17, 1, .inr (.inl ((fun _ => 0)))))] := hD
      have hK : va_K D vwCl [(cA_6, .int), (cA_13, .array (.object "TowerliftryModel$Car")), (cA_14, .object "TowerliftryModel$Car"), (cA_17, .long), (cA_19, .double)] s := hK
      refine W.widen (k := 16) (n := 361) (Nat.le_refl _) (Nat.le_refl _) ?_
      refine W.eq (g2 := F0 m 1221 ls [.int 2]) rfl ?_
      refine lv_istore (lv' := [(6, .int 2), (5, .int 0), (4, .ref q_18), (3, .ref q_16), (2, .ref q_7), (1, .ref q_1), (0, .ref b)]) hx hb dL_law_1221 hl (by decide) rfl (fun ls hl => ?_)
      refine lv_aload_n hx hb dL_law_1223 rfl (lv_at hl 4 rfl) ?_
      refine lv_aload_n hx hb dL_law_1224 rfl (lv_at hl 6 rfl) ?_
      refine lv_iload hx hb dL_law_1225 (lv_at hl 1 rfl) ?_
      refine lv_iconst (v := 1) hx hb dL_law_1227 (by decide) ?_
      refine lv_iadd hx hb dL_law_1228 ?_
      refine lv_topi (fun z_23 ez_23 => ?_)
      have ez_23 : z_23 = (1 : Int32) := ez_23.trans (by decide)
      subst ez_23
      refine va_sld hx hb hX hbl hbA hS (by unfold vp_in; decide) dL_law_1229 ?_
      rw [show (1 : Int32).toNatClampNeg = 1 from by decide]
      refine lv_aload_n hx hb dL_law_1230 rfl (lv_at hl 6 rfl) ?_
      refine lv_iload hx hb dL_law_1231 (lv_at hl 1 rfl) ?_
      refine lv_iconst (v := 2) hx hb dL_law_1233 (by decide) ?_
      refine lv_iadd hx hb dL_law_1234 ?_
      refine lv_topi (fun z_24 ez_24 => ?_)
      have ez_24 : z_24 = (2 : Int32) := ez_24.trans (by decide)
      subst ez_24
      refine va_sld hx hb hX hbl hbA hS (by unfold vp_in; decide) dL_law_1235 ?_
      rw [show (2 : Int32).toNatClampNeg = 2 from by decide]
      refine lv_if_eq (tgt := 1243) hx hb dL_law_1236 (by decide) (fun c_25 => absurd c_25 (by first | exact c_3 | exact not_not_intro c_3)) (fun c_25 => ?_)
      refine lv_iconst (v := 1) hx hb dL_law_1239 (by decide) ?_
      refine lv_goto (tgt := 1244) hx hb dL_law_1240 (by decide) ?_
      have hPc := hP.sub (ws' := [(q_7, .inr (10, [.int 0, .int 9, .int 0, .int 99, .ref q_8, .ref q_9, .ref q_10, .int 0, .int 0, .int ((-1)), .ref q_15, .long 0])), (q_10, .inl (cA_13, 2, .inr (.inr (.inr (.inr ((tw_two q_11 q_12))))))), (q_11, .inl (cA_14, 24, .inr (.inr (.inr (.inr ((fun _ => none))))))), (q_12, .inl (cA_14, 24, .inr (.inr (.inr (.inr ((fun _ => none)))))))]) [3, 6, 7, 8] rfl
      have hDc := hD.sub (ws' := [(q_7, .inr (10, [.int 0, .int 9, .int 0, .int 99, .ref q_8, .ref q_9, .ref q_10, .int 0, .int 0, .int ((-1)), .ref q_15, .long 0])), (q_10, .inl (cA_13, 2, .inr (.inr (.inr (.inr ((tw_two q_11 q_12))))))), (q_11, .inl (cA_14, 24, .inr (.inr (.inr (.inr ((fun _ => none))))))), (q_12, .inl (cA_14, 24, .inr (.inr (.inr (.inr ((fun _ => none)))))))]) [3, 6, 7, 8] (by decide) rfl
      have hKc := hK.sub (tys' := [(cA_13, .array (.object "TowerliftryModel$Car")), (cA_14, .object "TowerliftryModel$Car")]) [1, 2] rfl
      have hFc := va_free (wc := [(q_7, .inr (10, [.int 0, .int 9, .int 0, .int 99, .ref q_8, .ref q_9, .ref q_10, .int 0, .int 0, .int ((-1)), .ref q_15, .long 0])), (q_10, .inl (cA_13, 2, .inr (.inr (.inr (.inr ((tw_two q_11 q_12))))))), (q_11, .inl (cA_14, 24, .inr (.inr (.inr (.inr ((fun _ => none))))))), (q_12, .inl (cA_14, 24, .inr (.inr (.inr (.inr ((fun _ => none)))))))]) hD hS hA [3, 6, 7, 8] rfl
      refine va_calli (va_runV (As := [.int ((xs 1)), .int 1]) (rest := []) ⟨hx, hb, hml, hown, hts⟩ (c_X6_promised l hst em kw kb D q_7 ((xs 1)) 1 q_8 q_9 q_10 q_15 cA_13 q_11 cA_14 q_12 _) (cwV 2 hts gL_law_X6_promised rfl rfl rfl (by decide +kernel) ⟨(Nat.le_of_ble_eq_true rfl), (Nat.le_of_ble_eq_true rfl)⟩) (tw_preV hF hS hFc hPc hKc hDc (va_recv hKc hPc (ci := 10) (q0 := 0) rfl rfl)) rfl rfl hl.1 rfl (lv_room (Nat.le_of_ble_eq_true rfl)) dL_law_1244 ⟨(Nat.le_of_ble_eq_true rfl), (Nat.le_of_ble_eq_true rfl)⟩) hS (fun q _ h => hFc q h) hFc (fun r u t H locs ht hvm hw hB hz1 hk1 hS => ?_)
      rcases hw with hw | hw
      · obtain ⟨g_26, rfl, rfl⟩ := hw
        obtain ⟨hP, hD, hK⟩ := tw_join (wr := [(q_3, .inr (3, [.int 0, .ref em, .int 0])), (q_4, .inr (5, [.ref q_5, .int 0])), (q_5, .inl (cA_6, 256, .inl ((fun _ => 0)))), (q_8, .inr (3, [.int 0, .ref em, .int 0])), (q_9, .inr (3, [.int 0, .ref em, .int 0])), (q_15, .inr (3, [.int 0, .ref em, .int 0])), (q_18, .inl (cA_19, 1, .inr (.inr (.inr (.inl ((fun _ => 0))))))), (q_16, .inl (cA_17, 1, .inr (.inl ((fun _ => 0)))))]) hP hD hK [3, 6, 7, 8] [0, 1, 2, 4, 5, 9, 10, 11] rfl rfl (by decide) (by decide) hk1 hFc ht hvm hB
        have hP : va_P D vwCl [(q_3, .inr (3, [.int 0, .ref em, .int 0])), (q_4, .inr (5, [.ref q_5, .int 0])), (q_5, .inl (cA_6, 256, .inl ((fun _ => 0)))), (q_8, .inr (3, [.int 0, .ref em, .int 0])), (q_9, .inr (3, [.int 0, .ref em, .int 0])), (q_15, .inr (3, [.int 0, .ref em, .int 0])), (q_18, .inl (cA_19, 1, .inr (.inr (.inr (.inl ((fun _ => 0))))))), (q_16, .inl (cA_17, 1, .inr (.inl ((fun _ => 0))))), (q_7, .inr (10, [.int 1, .int 9, .int 0, .int 99, .ref q_8, .ref q_9, .ref q_10, .int 0, .int 0, .int ((-1)), .ref q_15, .long 0]))] _ := hP
        have hD : va_D A [(q_3, .inr (3, [.int 0, .ref em, .int 0])), (q_4, .inr (5, [.ref q_5, .int 0])), (q_5, .inl (cA_6, 256, .inl ((fun _ => 0)))), (q_8, .inr (3, [.int 0, .ref em, .int 0])), (q_9, .inr (3, [.int 0, .ref em, .int 0])), (q_15, .inr (3, [.int 0, .ref em, .int 0])), (q_18, .inl (cA_19, 1, .inr (.inr (.inr (.inl ((fun _ => 0))))))), (q_16, .inl (cA_17, 1, .inr (.inl ((fun _ => 0))))), (q_7, .inr (10, [.int 1, .int 9, .int 0, .int 99, .ref q_8, .ref q_9, .ref q_10, .int 0, .int 0, .int ((-1)), .ref q_15, .long 0]))] := hD
        have hK : va_K D vwCl [(cA_6, .int), (cA_13, .array (.object "TowerliftryModel$Car")), (cA_14, .object "TowerliftryModel$Car"), (cA_17, .long), (cA_19, .double)] s := hK
        refine W.widen (k := 16) (n := 361) (Nat.le_refl _) (Nat.le_refl _) ?_
        refine W.eq (g2 := F0 m 1247 ls [.int 0]) rfl ?_
        refine lv_istore (lv' := [(7, .int 0), (6, .int 2), (5, .int 0), (4, .ref q_18), (3, .ref q_16), (2, .ref q_7), (1, .ref q_1), (0, .ref b)]) hx hb dL_law_1247 hl (by decide) rfl (fun ls hl => ?_)
        refine lv_aload_n hx hb dL_law_1249 rfl (lv_at hl 5 rfl) ?_
        have hPc := hP.sub (ws' := [(q_7, .inr (10, [.int 1, .int 9, .int 0, .int 99, .ref q_8, .ref q_9, .ref q_10, .int 0, .int 0, .int ((-1)), .ref q_15, .long 0]))]) [8] rfl
        have hDc := hD.sub (ws' := [(q_7, .inr (10, [.int 1, .int 9, .int 0, .int 99, .ref q_8, .ref q_9, .ref q_10, .int 0, .int 0, .int ((-1)), .ref q_15, .long 0]))]) [8] (by decide) rfl
        have hKc := hK.sub (tys' := []) [] rfl
        have hFc := va_free (wc := [(q_7, .inr (10, [.int 1, .int 9, .int 0, .int 99, .ref q_8, .ref q_9, .ref q_10, .int 0, .int 0, .int ((-1)), .ref q_15, .long 0]))]) hD hS hA [8] rfl
        refine va_calli (va_runV (As := []) (rest := []) ⟨hx, hb, hml, hown, hts⟩ (c_X6_thrown l hst em kw kb D q_7 1 9 0 99 q_8 q_9 q_10 0 0 ((-1)) q_15 0 _) (cwV 0 hts gL_law_X6_thrown rfl rfl rfl (by decide +kernel) ⟨(Nat.le_of_ble_eq_true rfl), (Nat.le_of_ble_eq_true rfl)⟩) (tw_preV hF hS hFc hPc hKc hDc (va_recv hKc hPc (ci := 10) (q0 := 0) rfl rfl)) rfl rfl hl.1 rfl (lv_room (Nat.le_of_ble_eq_true rfl)) dL_law_1250 ⟨(Nat.le_of_ble_eq_true rfl), (Nat.le_of_ble_eq_true rfl)⟩) hS (fun q _ h => hFc q h) hFc (fun r u t H locs ht hvm hw hB hz1 hk1 hS => ?_)
        obtain ⟨rfl, rfl⟩ := hw
        obtain ⟨hP, hD, hK⟩ := tw_join (wr := [(q_3, .inr (3, [.int 0, .ref em, .int 0])), (q_4, .inr (5, [.ref q_5, .int 0])), (q_5, .inl (cA_6, 256, .inl ((fun _ => 0)))), (q_8, .inr (3, [.int 0, .ref em, .int 0])), (q_9, .inr (3, [.int 0, .ref em, .int 0])), (q_15, .inr (3, [.int 0, .ref em, .int 0])), (q_18, .inl (cA_19, 1, .inr (.inr (.inr (.inl ((fun _ => 0))))))), (q_16, .inl (cA_17, 1, .inr (.inl ((fun _ => 0)))))]) hP hD hK [8] [0, 1, 2, 3, 4, 5, 6, 7] rfl rfl (by decide) (by decide) hk1 hFc ht hvm hB
        have hP : va_P D vwCl [(q_3, .inr (3, [.int 0, .ref em, .int 0])), (q_4, .inr (5, [.ref q_5, .int 0])), (q_5, .inl (cA_6, 256, .inl ((fun _ => 0)))), (q_8, .inr (3, [.int 0, .ref em, .int 0])), (q_9, .inr (3, [.int 0, .ref em, .int 0])), (q_15, .inr (3, [.int 0, .ref em, .int 0])), (q_18, .inl (cA_19, 1, .inr (.inr (.inr (.inl ((fun _ => 0))))))), (q_16, .inl (cA_17, 1, .inr (.inl ((fun _ => 0))))), (q_7, .inr (10, [.int 1, .int 9, .int 0, .int 99, .ref q_8, .ref q_9, .ref q_10, .int 0, .int 0, .int ((-1)), .ref q_15, .long 0]))] _ := hP
        have hD : va_D A [(q_3, .inr (3, [.int 0, .ref em, .int 0])), (q_4, .inr (5, [.ref q_5, .int 0])), (q_5, .inl (cA_6, 256, .inl ((fun _ => 0)))), (q_8, .inr (3, [.int 0, .ref em, .int 0])), (q_9, .inr (3, [.int 0, .ref em, .int 0])), (q_15, .inr (3, [.int 0, .ref em, .int 0])), (q_18, .inl (cA_19, 1, .inr (.inr (.inr (.inl ((fun _ => 0))))))), (q_16, .inl (cA_17, 1, .inr (.inl ((fun _ => 0))))), (q_7, .inr (10, [.int 1, .int 9, .int 0, .int 99, .ref q_8, .ref q_9, .ref q_10, .int 0, .int 0, .int ((-1)), .ref q_15, .long 0]))] := hD
        have hK : va_K D vwCl [(cA_6, .int), (cA_13, .array (.object "TowerliftryModel$Car")), (cA_14, .object "TowerliftryModel$Car"), (cA_17, .long), (cA_19, .double)] s := hK
        refine W.widen (k := 16) (n := 361) (Nat.le_refl _) (Nat.le_refl _) ?_
        refine W.eq (g2 := F0 m 1253 ls [.int 1]) rfl ?_
        refine lv_iload hx hb dL_law_1253 (lv_at hl 1 rfl) ?_
        exfalso
        simp only [Int32.lt_iff_toInt_lt, Int32.le_iff_toInt_le, tw_eqi, tw_i0, tw_i1, tw_i2, tw_i3, tw_i4, tw_i9, tw_i10, tw_i23, tw_i97, tw_i99, tw_i100, tw_i101, tw_i105, tw_i114, tw_i115, tw_i119, tw_i122, tw_i200, tw_i255, tw_i999, tw_i2000] at c_3 g_22 g_26 <;> omega
      · obtain ⟨g_27, rfl, rfl⟩ := hw
        obtain ⟨hP, hD, hK⟩ := tw_join (wr := [(q_3, .inr (3, [.int 0, .ref em, .int 0])), (q_4, .inr (5, [.ref q_5, .int 0])), (q_5, .inl (cA_6, 256, .inl ((fun _ => 0)))), (q_8, .inr (3, [.int 0, .ref em, .int 0])), (q_9, .inr (3, [.int 0, .ref em, .int 0])), (q_15, .inr (3, [.int 0, .ref em, .int 0])), (q_18, .inl (cA_19, 1, .inr (.inr (.inr (.inl ((fun _ => 0))))))), (q_16, .inl (cA_17, 1, .inr (.inl ((fun _ => 0)))))]) hP hD hK [3, 6, 7, 8] [0, 1, 2, 4, 5, 9, 10, 11] rfl rfl (by decide) (by decide) hk1 hFc ht hvm hB
        have hP : va_P D vwCl [(q_3, .inr (3, [.int 0, .ref em, .int 0])), (q_4, .inr (5, [.ref q_5, .int 0])), (q_5, .inl (cA_6, 256, .inl ((fun _ => 0)))), (q_8, .inr (3, [.int 0, .ref em, .int 0])), (q_9, .inr (3, [.int 0, .ref em, .int 0])), (q_15, .inr (3, [.int 0, .ref em, .int 0])), (q_18, .inl (cA_19, 1, .inr (.inr (.inr (.inl ((fun _ => 0))))))), (q_16, .inl (cA_17, 1, .inr (.inl ((fun _ => 0))))), (q_7, .inr (10, [.int 2, .int 9, .int 0, .int 99, .ref q_8, .ref q_9, .ref q_10, .int 0, .int 0, .int ((-1)), .ref q_15, .long 0]))] _ := hP
        have hD : va_D A [(q_3, .inr (3, [.int 0, .ref em, .int 0])), (q_4, .inr (5, [.ref q_5, .int 0])), (q_5, .inl (cA_6, 256, .inl ((fun _ => 0)))), (q_8, .inr (3, [.int 0, .ref em, .int 0])), (q_9, .inr (3, [.int 0, .ref em, .int 0])), (q_15, .inr (3, [.int 0, .ref em, .int 0])), (q_18, .inl (cA_19, 1, .inr (.inr (.inr (.inl ((fun _ => 0))))))), (q_16, .inl (cA_17, 1, .inr (.inl ((fun _ => 0))))), (q_7, .inr (10, [.int 2, .int 9, .int 0, .int 99, .ref q_8, .ref q_9, .ref q_10, .int 0, .int 0, .int ((-1)), .ref q_15, .long 0]))] := hD
        have hK : va_K D vwCl [(cA_6, .int), (cA_13, .array (.object "TowerliftryModel$Car")), (cA_14, .object "TowerliftryModel$Car"), (cA_17, .long), (cA_19, .double)] s := hK
        refine W.widen (k := 16) (n := 361) (Nat.le_refl _) (Nat.le_refl _) ?_
        refine W.eq (g2 := F0 m 1247 ls [.int 0]) rfl ?_
        refine lv_istore (lv' := [(7, .int 0), (6, .int 2), (5, .int 0), (4, .ref q_18), (3, .ref q_16), (2, .ref q_7), (1, .ref q_1), (0, .ref b)]) hx hb dL_law_1247 hl (by decide) rfl (fun ls hl => ?_)
        refine lv_aload_n hx hb dL_law_1249 rfl (lv_at hl 5 rfl) ?_
        have hPc := hP.sub (ws' := [(q_7, .inr (10, [.int 2, .int 9, .int 0, .int 99, .ref q_8, .ref q_9, .ref q_10, .int 0, .int 0, .int ((-1)), .ref q_15, .long 0]))]) [8] rfl
        have hDc := hD.sub (ws' := [(q_7, .inr (10, [.int 2, .int 9, .int 0, .int 99, .ref q_8, .ref q_9, .ref q_10, .int 0, .int 0, .int ((-1)), .ref q_15, .long 0]))]) [8] (by decide) rfl
        have hKc := hK.sub (tys' := []) [] rfl
        have hFc := va_free (wc := [(q_7, .inr (10, [.int 2, .int 9, .int 0, .int 99, .ref q_8, .ref q_9, .ref q_10, .int 0, .int 0, .int ((-1)), .ref q_15, .long 0]))]) hD hS hA [8] rfl
        refine va_calli (va_runV (As := []) (rest := []) ⟨hx, hb, hml, hown, hts⟩ (c_X6_thrown l hst em kw kb D q_7 2 9 0 99 q_8 q_9 q_10 0 0 ((-1)) q_15 0 _) (cwV 0 hts gL_law_X6_thrown rfl rfl rfl (by decide +kernel) ⟨(Nat.le_of_ble_eq_true rfl), (Nat.le_of_ble_eq_true rfl)⟩) (tw_preV hF hS hFc hPc hKc hDc (va_recv hKc hPc (ci := 10) (q0 := 0) rfl rfl)) rfl rfl hl.1 rfl (lv_room (Nat.le_of_ble_eq_true rfl)) dL_law_1250 ⟨(Nat.le_of_ble_eq_true rfl), (Nat.le_of_ble_eq_true rfl)⟩) hS (fun q _ h => hFc q h) hFc (fun r u t H locs ht hvm hw hB hz1 hk1 hS => ?_)
        obtain ⟨rfl, rfl⟩ := hw
        obtain ⟨hP, hD, hK⟩ := tw_join (wr := [(q_3, .inr (3, [.int 0, .ref em, .int 0])), (q_4, .inr (5, [.ref q_5, .int 0])), (q_5, .inl (cA_6, 256, .inl ((fun _ => 0)))), (q_8, .inr (3, [.int 0, .ref em, .int 0])), (q_9, .inr (3, [.int 0, .ref em, .int 0])), (q_15, .inr (3, [.int 0, .ref em, .int 0])), (q_18, .inl (cA_19, 1, .inr (.inr (.inr (.inl ((fun _ => 0))))))), (q_16, .inl (cA_17, 1, .inr (.inl ((fun _ => 0)))))]) hP hD hK [8] [0, 1, 2, 3, 4, 5, 6, 7] rfl rfl (by decide) (by decide) hk1 hFc ht hvm hB
        have hP : va_P D vwCl [(q_3, .inr (3, [.int 0, .ref em, .int 0])), (q_4, .inr (5, [.ref q_5, .int 0])), (q_5, .inl (cA_6, 256, .inl ((fun _ => 0)))), (q_8, .inr (3, [.int 0, .ref em, .int 0])), (q_9, .inr (3, [.int 0, .ref em, .int 0])), (q_15, .inr (3, [.int 0, .ref em, .int 0])), (q_18, .inl (cA_19, 1, .inr (.inr (.inr (.inl ((fun _ => 0))))))), (q_16, .inl (cA_17, 1, .inr (.inl ((fun _ => 0))))), (q_7, .inr (10, [.int 2, .int 9, .int 0, .int 99, .ref q_8, .ref q_9, .ref q_10, .int 0, .int 0, .int ((-1)), .ref q_15, .long 0]))] _ := hP
        have hD : va_D A [(q_3, .inr (3, [.int 0, .ref em, .int 0])), (q_4, .inr (5, [.ref q_5, .int 0])), (q_5, .inl (cA_6, 256, .inl ((fun _ => 0)))), (q_8, .inr (3, [.int 0, .ref em, .int 0])), (q_9, .inr (3, [.int 0, .ref em, .int 0])), (q_15, .inr (3, [.int 0, .ref em, .int 0])), (q_18, .inl (cA_19, 1, .inr (.inr (.inr (.inl ((fun _ => 0))))))), (q_16, .inl (cA_17, 1, .inr (.inl ((fun _ => 0))))), (q_7, .inr (10, [.int 2, .int 9, .int 0, .int 99, .ref q_8, .ref q_9, .ref q_10, .int 0, .int 0, .int ((-1)), .ref q_15, .long 0]))] := hD
        have hK : va_K D vwCl [(cA_6, .int), (cA_13, .array (.object "TowerliftryModel$Car")), (cA_14, .object "TowerliftryModel$Car"), (cA_17, .long), (cA_19, .double)] s := hK
        refine W.widen (k := 16) (n := 361) (Nat.le_refl _) (Nat.le_refl _) ?_
        refine W.eq (g2 := F0 m 1253 ls [.int 2]) rfl ?_
        refine lv_iload hx hb dL_law_1253 (lv_at hl 1 rfl) ?_
        refine lv_icmp_eq (tgt := 1260) hx hb dL_law_1255 (by decide) (fun c9 => ?_) (fun c9 => absurd c9 (by decide))
        refine lv_iload hx hb dL_law_1260 (lv_at hl 1 rfl) ?_
        refine lv_if_ne (tgt := 1277) hx hb dL_law_1262 (by decide) (fun c9 => ?_) (fun c9 => absurd c9 (by decide))
        refine lv_goto (tgt := 2056) hx hb dL_law_1277 (by decide) ?_
        refine W.widen (k := 20000) (n := 60000) (Nat.le_of_ble_eq_true rfl) (Nat.le_of_ble_eq_true rfl) ?_
        exact tw_tail C0 hAe hS (lv_sub hl [2, 7] rfl)
set_option maxHeartbeats 4000000 in
set_option maxRecDepth 100000 in
theorem tw_case_17 {p : Program} {l : Launch} {e : Env} {s : State} {m : MethodId} {below : List Frame} {meth : Method} {c : Code} {b : Nat} {xs : Nat → Int32} (C0 : lw_At p s m meth c b 6 xs) (hst : l.stackTraces = false) {A : Nat → Prop} (hAe : A = fun q : Nat => s.heap.size ≤ q) (em kw kb : Nat) (D : va_G) (hF : tw_F em kw kb A s) (q_1 : Nat) (q_2 : Nat) (q_3 : Nat) (q_4 : Nat) (q_5 : Nat) (cA_6 : ClassId) (q_7 : Nat) (q_8 : Nat) (q_9 : Nat) (q_10 : Nat) (q_11 : Nat) (q_12 : Nat) (cA_13 : ClassId) (cA_14 : ClassId) (q_15 : Nat) (q_16 : Nat) (cA_17 : ClassId) (q_18 : Nat) (cA_19 : ClassId) (H : Heap) (locs : List Loc) (hK : va_K D vwCl [(cA_6, .int), (cA_13, .array (.object "TowerliftryModel$Car")), (cA_14, .object "TowerliftryModel$Car"), (cA_17, .long), (cA_19, .double)] s) (hP : va_P D vwCl [(q_1, .inr (7, [.ref q_2, .ref q_3, .ref q_4, .int 9, .int 99, .int 0, .int 0, .int 0, .int ((-1)), .int 0, .int 0, .long 0])), (q_2, .inr (3, [.int 0, .ref em, .int 0])), (q_3, .inr (3, [.int 0, .ref em, .int 0])), (q_4, .inr (5, [.ref q_5, .int 0])), (q_5, .inl (cA_6, 256, .inl ((fun _ => 0)))), (q_7, .inr (10, [.int 0, .int 9, .int 0, .int 99, .ref q_8, .ref q_9, .ref q_10, .int 0, .int 0, .int ((-1)), .ref q_15, .long 0])), (q_8, .inr (3, [.int 0, .ref em, .int 0])), (q_9, .inr (3, [.int 0, .ref em, .int 0])), (q_10, .inl (cA_13, 2, .inr (.inr (.inr (.inr ((tw_two q_11 q_12))))))), (q_11, .inl (cA_14, 24, .inr (.inr (.inr (.inr ((fun _ => none))))))), (q_12, .inl (cA_14, 24, .inr (.inr (.inr (.inr ((fun _ => none))))))), (q_15, .inr (3, [.int 0, .ref em, .int 0])), (q_16, .inl (cA_17, 1, .inr (.inl ((fun _ => 0))))), (q_18, .inl (cA_19, 1, .inr (.inr (.inr (.inl ((fun _ => 0)))))))] H) (hD : va_D A [(q_1, .inr (7, [.ref q_2, .ref q_3, .ref q_4, .int 9, .int 99, .int 0, .int 0, .int 0, .int ((-1)), .int 0, .int 0, .long 0])), (q_2, .inr (3, [.int 0, .ref em, .int 0])), (q_3, .inr (3, [.int 0, .ref em, .int 0])), (q_4, .inr (5, [.ref q_5, .int 0])), (q_5, .inl (cA_6, 256, .inl ((fun _ => 0)))), (q_7, .inr (10, [.int 0, .int 9, .int 0, .int 99, .ref q_8, .ref q_9, .ref q_10, .int 0, .int 0, .int ((-1)), .ref q_15, .long 0])), (q_8, .inr (3, [.int 0, .ref em, .int 0])), (q_9, .inr (3, [.int 0, .ref em, .int 0])), (q_10, .inl (cA_13, 2, .inr (.inr (.inr (.inr ((tw_two q_11 q_12))))))), (q_11, .inl (cA_14, 24, .inr (.inr (.inr (.inr ((fun _ => none))))))), (q_12, .inl (cA_14, 24, .inr (.inr (.inr (.inr ((fun _ => none))))))), (q_15, .inr (3, [.int 0, .ref em, .int 0])), (q_16, .inl (cA_17, 1, .inr (.inl ((fun _ => 0))))), (q_18, .inl (cA_19, 1, .inr (.inr (.inr (.inl ((fun _ => 0)))))))]) (hS : va_S A s.heap H locs) (ls : Array Slot) (hl : lv_has ls 9 [(5, .int 0), (4, .ref q_18), (3, .ref q_16), (2, .ref q_7), (1, .ref q_1), (0, .ref b)]) : W p l e room_1 s m #[Value.ref b] below meth c H locs 14 349 (lw_Z below #[Value.ref b] s) (F0 m 1280 ls []) := by
  obtain ⟨hx, hb, hr, hml, hown, hts0, hX, hbl, hlocks, hgv⟩ := id C0
  have hown : s.vm.findClass RL = some m.cls := hown
  have hts : ∀ w ∈ wsL_law, w.before #[Value.ref b] s = true := fun w h => hts0 w (wsL_law_in w h)
  have hA : ∀ q : Nat, s.heap.size ≤ q → A q := fun q h => by rw [hAe]; exact h
  have hbA : ¬ A b := by rw [hAe]; exact Nat.not_le.mpr hbl
  refine lv_aload_n hx hb dL_law_1280 rfl (lv_at hl 4 rfl) ?_
  refine lv_aload_n hx hb dL_law_1281 rfl (lv_at hl 5 rfl) ?_
  refine lv_iload hx hb dL_law_1282 (lv_at hl 0 rfl) ?_
  refine lv_iconst (v := 1) hx hb dL_law_1284 (by decide) ?_
  refine lv_iadd hx hb dL_law_1285 ?_
  refine lv_topi (fun z_1 ez_1 => ?_)
  have ez_1 : z_1 = (1 : Int32) := ez_1.trans (by decide)
  subst ez_1
  refine va_sld hx hb hX hbl hbA hS (by unfold vp_in; decide) dL_law_1286 ?_
  rw [show (1 : Int32).toNatClampNeg = 1 from by decide]
  refine lv_aload_n hx hb dL_law_1287 rfl (lv_at hl 5 rfl) ?_
  refine lv_iload hx hb dL_law_1288 (lv_at hl 0 rfl) ?_
  refine lv_iconst (v := 2) hx hb dL_law_1290 (by decide) ?_
  refine lv_iadd hx hb dL_law_1291 ?_
  refine lv_topi (fun z_2 ez_2 => ?_)
  have ez_2 : z_2 = (2 : Int32) := ez_2.trans (by decide)
  subst ez_2
  refine va_sld hx hb hX hbl hbA hS (by unfold vp_in; decide) dL_law_1292 ?_
  rw [show (2 : Int32).toNatClampNeg = 2 from by decide]
  refine lv_aload_n hx hb dL_law_1293 rfl (lv_at hl 5 rfl) ?_
  refine lv_iload hx hb dL_law_1294 (lv_at hl 0 rfl) ?_
  refine lv_iconst (v := 3) hx hb dL_law_1296 (by decide) ?_
  refine lv_iadd hx hb dL_law_1297 ?_
  refine lv_topi (fun z_3 ez_3 => ?_)
  have ez_3 : z_3 = (3 : Int32) := ez_3.trans (by decide)
  subst ez_3
  refine va_sld hx hb hX hbl hbA hS (by unfold vp_in; decide) dL_law_1298 ?_
  rw [show (3 : Int32).toNatClampNeg = 3 from by decide]
  refine lv_if_eq (tgt := 1306) hx hb dL_law_1299 (by decide) (fun c_4 => ?_) (fun c_4 => ?_)
  · refine lv_iconst (v := 0) hx hb dL_law_1306 (by decide) ?_
    refine lv_aload_n hx hb dL_law_1307 rfl (lv_at hl 2 rfl) ?_
    have hPc := hP.sub (ws' := [(q_1, .inr (7, [.ref q_2, .ref q_3, .ref q_4, .int 9, .int 99, .int 0, .int 0, .int 0, .int ((-1)), .int 0, .int 0, .long 0])), (q_2, .inr (3, [.int 0, .ref em, .int 0])), (q_16, .inl (cA_17, 1, .inr (.inl ((fun _ => 0)))))]) [0, 1, 12] rfl
    have hDc := hD.sub (ws' := [(q_1, .inr (7, [.ref q_2, .ref q_3, .ref q_4, .int 9, .int 99, .int 0, .int 0, .int 0, .int ((-1)), .int 0, .int 0, .long 0])), (q_2, .inr (3, [.int 0, .ref em, .int 0])), (q_16, .inl (cA_17, 1, .inr (.inl ((fun _ => 0)))))]) [0, 1, 12] (by decide) rfl
    have hKc := hK.sub (tys' := [(cA_17, .long)]) [3] rfl
    have hFc := va_free (wc := [(q_1, .inr (7, [.ref q_2, .ref q_3, .ref q_4, .int 9, .int 99, .int 0, .int 0, .int 0, .int ((-1)), .int 0, .int 0, .long 0])), (q_2, .inr (3, [.int 0, .ref em, .int 0])), (q_16, .inl (cA_17, 1, .inr (.inl ((fun _ => 0)))))]) hD hS hA [0, 1, 12] rfl
    refine va_calli (vx_runSW (As := [.ref q_1, .int ((xs 1)), .int ((xs 2)), .int 0, .ref q_16]) (rest := []) ⟨hx, hb, hml, hown, hts⟩ (c_L_timeFor l hst em kw kb D q_1 ((xs 1)) ((xs 2)) 0 q_16 q_2 q_3 q_4 cA_17 _) (vx_cwSW 5 hts gL_law_L_timeFor rfl rfl rfl (by decide +kernel) ⟨(Nat.le_of_ble_eq_true rfl), (Nat.le_of_ble_eq_true rfl)⟩) (tw_preS hF hS hFc hPc hKc hDc) rfl rfl hl.1 rfl (lv_room (Nat.le_of_ble_eq_true rfl)) dL_law_1308 ⟨(Nat.le_of_ble_eq_true rfl), (Nat.le_of_ble_eq_true rfl)⟩) hS (fun q _ h => hFc q h) hFc (fun r u t H locs ht hvm hw hB hz1 hk1 hS => ?_)
    obtain ⟨rfl, rfl⟩ := hw
    obtain ⟨hP, hD, hK⟩ := tw_join (wr := [(q_3, .inr (3, [.int 0, .ref em, .int 0])), (q_4, .inr (5, [.ref q_5, .int 0])), (q_5, .inl (cA_6, 256, .inl ((fun _ => 0)))), (q_7, .inr (10, [.int 0, .int 9, .int 0, .int 99, .ref q_8, .ref q_9, .ref q_10, .int 0, .int 0, .int ((-1)), .ref q_15, .long 0])), (q_8, .inr (3, [.int 0, .ref em, .int 0])), (q_9, .inr (3, [.int 0, .ref em, .int 0])), (q_10, .inl (cA_13, 2, .inr (.inr (.inr (.inr ((tw_two q_11 q_12))))))), (q_11, .inl (cA_14, 24, .inr (.inr (.inr (.inr ((fun _ => none))))))), (q_12, .inl (cA_14, 24, .inr (.inr (.inr (.inr ((fun _ => none))))))), (q_15, .inr (3, [.int 0, .ref em, .int 0])), (q_18, .inl (cA_19, 1, .inr (.inr (.inr (.inl ((fun _ => 0)))))))]) hP hD hK [0, 1, 12] [2, 3, 4, 5, 6, 7, 8, 9, 10, 11, 13] rfl rfl (by decide) (by decide) hk1 hFc ht hvm hB
    have hP : va_P D vwCl [(q_3, .inr (3, [.int 0, .ref em, .int 0])), (q_4, .inr (5, [.ref q_5, .int 0])), (q_5, .inl (cA_6, 256, .inl ((fun _ => 0)))), (q_7, .inr (10, [.int 0, .int 9, .int 0, .int 99, .ref q_8, .ref q_9, .ref q_10, .int 0, .int 0, .int ((-1)), .ref q_15, .long 0])), (q_8, .inr (3, [.int 0, .ref em, .int 0])), (q_9, .inr (3, [.int 0, .ref em, .int 0])), (q_10, .inl (cA_13, 2, .inr (.inr (.inr (.inr ((tw_two q_11 q_12))))))), (q_11, .inl (cA_14, 24, .inr (.inr (.inr (.inr ((fun _ => none))))))), (q_12, .inl (cA_14, 24, .inr (.inr (.inr (.inr ((fun _ => none))))))), (q_15, .inr (3, [.int 0, .ref em, .int 0])), (q_18, .inl (cA_19, 1, .inr (.inr (.inr (.inl ((fun _ => 0))))))), (q_16, .inl (cA_17, 1, .inr (.inl ((fun _ => 0)))))] _ := hP
    have hD : va_D A [(q_3, .inr (3, [.int 0, .ref em, .int 0])), (q_4, .inr (5, [.ref q_5, .int 0])), (q_5, .inl (cA_6, 256, .inl ((fun _ => 0)))), (q_7, .inr (10, [.int 0, .int 9, .int 0, .int 99, .ref q_8, .ref q_9, .ref q_10, .int 0, .int 0, .int ((-1)), .ref q_15, .long 0])), (q_8, .inr (3, [.int 0, .ref em, .int 0])), (q_9, .inr (3, [.int 0, .ref em, .int 0])), (q_10, .inl (cA_13, 2, .inr (.inr (.inr (.inr ((tw_two q_11 q_12))))))), (q_11, .inl (cA_14, 24, .inr (.inr (.inr (.inr ((fun _ => none))))))), (q_12, .inl (cA_14, 24, .inr (.inr (.inr (.inr ((fun _ => none))))))), (q_15, .inr (3, [.int 0, .ref em, .int 0])), (q_18, .inl (cA_19, 1, .inr (.inr (.inr (.inl ((fun _ => 0))))))), (q_16, .inl (cA_17, 1, .inr (.inl ((fun _ => 0)))))] := hD
    have hK : va_K D vwCl [(cA_6, .int), (cA_13, .array (.object "TowerliftryModel$Car")), (cA_14, .object "TowerliftryModel$Car"), (cA_17, .long), (cA_19, .double)] s := hK
    refine W.widen (k := 15) (n := 355) (Nat.le_refl _) (Nat.le_refl _) ?_
    refine W.eq (g2 := F0 m 1311 ls [.int 1]) rfl ?_
    refine lv_istore (lv' := [(6, .int 1), (5, .int 0), (4, .ref q_18), (3, .ref q_16), (2, .ref q_7), (1, .ref q_1), (0, .ref b)]) hx hb dL_law_1311 hl (by decide) rfl (fun ls hl => ?_)
    refine lv_aload_n hx hb dL_law_1313 rfl (lv_at hl 4 rfl) ?_
    refine lv_aload_n hx hb dL_law_1314 rfl (lv_at hl 6 rfl) ?_
    refine lv_iload hx hb dL_law_1315 (lv_at hl 1 rfl) ?_
    refine lv_iconst (v := 1) hx hb dL_law_1317 (by decide) ?_
    refine lv_iadd hx hb dL_law_1318 ?_
    refine lv_topi (fun z_5 ez_5 => ?_)
    have ez_5 : z_5 = (1 : Int32) := ez_5.trans (by decide)
    subst ez_5
    refine va_sld hx hb hX hbl hbA hS (by unfold vp_in; decide) dL_law_1319 ?_
    rw [show (1 : Int32).toNatClampNeg = 1 from by decide]
    refine lv_aload_n hx hb dL_law_1320 rfl (lv_at hl 6 rfl) ?_
    refine lv_iload hx hb dL_law_1321 (lv_at hl 1 rfl) ?_
    refine lv_iconst (v := 2) hx hb dL_law_1323 (by decide) ?_
    refine lv_iadd hx hb dL_law_1324 ?_
    refine lv_topi (fun z_6 ez_6 => ?_)
    have ez_6 : z_6 = (2 : Int32) := ez_6.trans (by decide)
    subst ez_6
    refine va_sld hx hb hX hbl hbA hS (by unfold vp_in; decide) dL_law_1325 ?_
    rw [show (2 : Int32).toNatClampNeg = 2 from by decide]
    refine lv_aload_n hx hb dL_law_1326 rfl (lv_at hl 6 rfl) ?_
    refine lv_iload hx hb dL_law_1327 (lv_at hl 1 rfl) ?_
    refine lv_iconst (v := 3) hx hb dL_law_1329 (by decide) ?_
    refine lv_iadd hx hb dL_law_1330 ?_
    refine lv_topi (fun z_7 ez_7 => ?_)
    have ez_7 : z_7 = (3 : Int32) := ez_7.trans (by decide)
    subst ez_7
    refine va_sld hx hb hX hbl hbA hS (by unfold vp_in; decide) dL_law_1331 ?_
    rw [show (3 : Int32).toNatClampNeg = 3 from by decide]
    refine lv_if_eq (tgt := 1339) hx hb dL_law_1332 (by decide) (fun c_8 => ?_) (fun c_8 => absurd c_8 (by first | exact c_4 | exact not_not_intro c_4))
    refine lv_iconst (v := 0) hx hb dL_law_1339 (by decide) ?_
    have hPc := hP.sub (ws' := [(q_7, .inr (10, [.int 0, .int 9, .int 0, .int 99, .ref q_8, .ref q_9, .ref q_10, .int 0, .int 0, .int ((-1)), .ref q_15, .long 0])), (q_8, .inr (3, [.int 0, .ref em, .int 0]))]) [3, 4] rfl
    have hDc := hD.sub (ws' := [(q_7, .inr (10, [.int 0, .int 9, .int 0, .int 99, .ref q_8, .ref q_9, .ref q_10, .int 0, .int 0, .int ((-1)), .ref q_15, .long 0])), (q_8, .inr (3, [.int 0, .ref em, .int 0]))]) [3, 4] (by decide) rfl
    have hKc := hK.sub (tys' := []) [] rfl
    have hFc := va_free (wc := [(q_7, .inr (10, [.int 0, .int 9, .int 0, .int 99, .ref q_8, .ref q_9, .ref q_10, .int 0, .int 0, .int ((-1)), .ref q_15, .long 0])), (q_8, .inr (3, [.int 0, .ref em, .int 0]))]) hD hS hA [3, 4] rfl
    refine va_calli (va_runV (As := [.int ((xs 1)), .int ((xs 2)), .int 0]) (rest := []) ⟨hx, hb, hml, hown, hts⟩ (c_X6_timeFor l hst em kw kb D q_7 ((xs 1)) ((xs 2)) 0 q_8 q_9 q_10 q_15 _) (cwV 3 hts gL_law_X6_timeFor rfl rfl rfl (by decide +kernel) ⟨(Nat.le_of_ble_eq_true rfl), (Nat.le_of_ble_eq_true rfl)⟩) (tw_preV hF hS hFc hPc hKc hDc (va_recv hKc hPc (ci := 10) (q0 := 0) rfl rfl)) rfl rfl hl.1 rfl (lv_room (Nat.le_of_ble_eq_true rfl)) dL_law_1340 ⟨(Nat.le_of_ble_eq_true rfl), (Nat.le_of_ble_eq_true rfl)⟩) hS (fun q _ h => hFc q h) hFc (fun r u t H locs ht hvm hw hB hz1 hk1 hS => ?_)
    obtain ⟨rfl, rfl⟩ := hw
    obtain ⟨hP, hD, hK⟩ := tw_join (wr := [(q_3, .inr (3, [.int 0, .ref em, .int 0])), (q_4, .inr (5, [.ref q_5, .int 0])), (q_5, .inl (cA_6, 256, .inl ((fun _ => 0)))), (q_9, .inr (3, [.int 0, .ref em, .int 0])), (q_10, .inl (cA_13, 2, .inr (.inr (.inr (.inr ((tw_two q_11 q_12))))))), (q_11, .inl (cA_14, 24, .inr (.inr (.inr (.inr ((fun _ => none))))))), (q_12, .inl (cA_14, 24, .inr (.inr (.inr (.inr ((fun _ => none))))))), (q_15, .inr (3, [.int 0, .ref em, .int 0])), (q_18, .inl (cA_19, 1, .inr (.inr (.inr (.inl ((fun _ => 0))))))), (q_16, .inl (cA_17, 1, .inr (.inl ((fun _ => 0)))))]) hP hD hK [3, 4] [0, 1, 2, 5, 6, 7, 8, 9, 10, 11] rfl rfl (by decide) (by decide) hk1 hFc ht hvm hB
    have hP : va_P D vwCl [(q_3, .inr (3, [.int 0, .ref em, .int 0])), (q_4, .inr (5, [.ref q_5, .int 0])), (q_5, .inl (cA_6, 256, .inl ((fun _ => 0)))), (q_9, .inr (3, [.int 0, .ref em, .int 0])), (q_10, .inl (cA_13, 2, .inr (.inr (.inr (.inr ((tw_two q_11 q_12))))))), (q_11, .inl (cA_14, 24, .inr (.inr (.inr (.inr ((fun _ => none))))))), (q_12, .inl (cA_14, 24, .inr (.inr (.inr (.inr ((fun _ => none))))))), (q_15, .inr (3, [.int 0, .ref em, .int 0])), (q_18, .inl (cA_19, 1, .inr (.inr (.inr (.inl ((fun _ => 0))))))), (q_16, .inl (cA_17, 1, .inr (.inl ((fun _ => 0))))), (q_7, .inr (10, [.int 1, .int 9, .int 0, .int 99, .ref q_8, .ref q_9, .ref q_10, .int 0, .int 0, .int ((-1)), .ref q_15, .long 0]))] _ := hP
    have hD : va_D A [(q_3, .inr (3, [.int 0, .ref em, .int 0])), (q_4, .inr (5, [.ref q_5, .int 0])), (q_5, .inl (cA_6, 256, .inl ((fun _ => 0)))), (q_9, .inr (3, [.int 0, .ref em, .int 0])), (q_10, .inl (cA_13, 2, .inr (.inr (.inr (.inr ((tw_two q_11 q_12))))))), (q_11, .inl (cA_14, 24, .inr (.inr (.inr (.inr ((fun _ => none))))))), (q_12, .inl (cA_14, 24, .inr (.inr (.inr (.inr ((fun _ => none))))))), (q_15, .inr (3, [.int 0, .ref em, .int 0])), (q_18, .inl (cA_19, 1, .inr (.inr (.inr (.inl ((fun _ => 0))))))), (q_16, .inl (cA_17, 1, .inr (.inl ((fun _ => 0))))), (q_7, .inr (10, [.int 1, .int 9, .int 0, .int 99, .ref q_8, .ref q_9, .ref q_10, .int 0, .int 0, .int ((-1)), .ref q_15, .long 0]))] := hD
    have hK : va_K D vwCl [(cA_6, .int), (cA_13, .array (.object "TowerliftryModel$Car")), (cA_14, .object "TowerliftryModel$Car"), (cA_17, .long), (cA_19, .double)] s := hK
    refine W.widen (k := 15) (n := 355) (Nat.le_refl _) (Nat.le_refl _) ?_
    refine W.eq (g2 := F0 m 1343 ls [.int 0]) rfl ?_
    refine lv_istore (lv' := [(7, .int 0), (6, .int 1), (5, .int 0), (4, .ref q_18), (3, .ref q_16), (2, .ref q_7), (1, .ref q_1), (0, .ref b)]) hx hb dL_law_1343 hl (by decide) rfl (fun ls hl => ?_)
    refine lv_aload_n hx hb dL_law_1345 rfl (lv_at hl 5 rfl) ?_
    have hPc := hP.sub (ws' := [(q_7, .inr (10, [.int 1, .int 9, .int 0, .int 99, .ref q_8, .ref q_9, .ref q_10, .int 0, .int 0, .int ((-1)), .ref q_15, .long 0]))]) [10] rfl
    have hDc := hD.sub (ws' := [(q_7, .inr (10, [.int 1, .int 9, .int 0, .int 99, .ref q_8, .ref q_9, .ref q_10, .int 0, .int 0, .int ((-1)), .ref q_15, .long 0]))]) [10] (by decide) rfl
    have hKc := hK.sub (tys' := []) [] rfl
    have hFc := va_free (wc := [(q_7, .inr (10, [.int 1, .int 9, .int 0, .int 99, .ref q_8, .ref q_9, .ref q_10, .int 0, .int 0, .int ((-1)), .ref q_15, .long 0]))]) hD hS hA [10] rfl
    refine va_calli (va_runV (As := []) (rest := []) ⟨hx, hb, hml, hown, hts⟩ (c_X6_thrown l hst em kw kb D q_7 1 9 0 99 q_8 q_9 q_10 0 0 ((-1)) q_15 0 _) (cwV 0 hts gL_law_X6_thrown rfl rfl rfl (by decide +kernel) ⟨(Nat.le_of_ble_eq_true rfl), (Nat.le_of_ble_eq_true rfl)⟩) (tw_preV hF hS hFc hPc hKc hDc (va_recv hKc hPc (ci := 10) (q0 := 0) rfl rfl)) rfl rfl hl.1 rfl (lv_room (Nat.le_of_ble_eq_true rfl)) dL_law_1346 ⟨(Nat.le_of_ble_eq_true rfl), (Nat.le_of_ble_eq_true rfl)⟩) hS (fun q _ h => hFc q h) hFc (fun r u t H locs ht hvm hw hB hz1 hk1 hS => ?_)
    obtain ⟨rfl, rfl⟩ := hw
    obtain ⟨hP, hD, hK⟩ := tw_join (wr := [(q_3, .inr (3, [.int 0, .ref em, .int 0])), (q_4, .inr (5, [.ref q_5, .int 0])), (q_5, .inl (cA_6, 256, .inl ((fun _ => 0)))), (q_9, .inr (3, [.int 0, .ref em, .int 0])), (q_10, .inl (cA_13, 2, .inr (.inr (.inr (.inr ((tw_two q_11 q_12))))))), (q_11, .inl (cA_14, 24, .inr (.inr (.inr (.inr ((fun _ => none))))))), (q_12, .inl (cA_14, 24, .inr (.inr (.inr (.inr ((fun _ => none))))))), (q_15, .inr (3, [.int 0, .ref em, .int 0])), (q_18, .inl (cA_19, 1, .inr (.inr (.inr (.inl ((fun _ => 0))))))), (q_16, .inl (cA_17, 1, .inr (.inl ((fun _ => 0)))))]) hP hD hK [10] [0, 1, 2, 3, 4, 5, 6, 7, 8, 9] rfl rfl (by decide) (by decide) hk1 hFc ht hvm hB
    have hP : va_P D vwCl [(q_3, .inr (3, [.int 0, .ref em, .int 0])), (q_4, .inr (5, [.ref q_5, .int 0])), (q_5, .inl (cA_6, 256, .inl ((fun _ => 0)))), (q_9, .inr (3, [.int 0, .ref em, .int 0])), (q_10, .inl (cA_13, 2, .inr (.inr (.inr (.inr ((tw_two q_11 q_12))))))), (q_11, .inl (cA_14, 24, .inr (.inr (.inr (.inr ((fun _ => none))))))), (q_12, .inl (cA_14, 24, .inr (.inr (.inr (.inr ((fun _ => none))))))), (q_15, .inr (3, [.int 0, .ref em, .int 0])), (q_18, .inl (cA_19, 1, .inr (.inr (.inr (.inl ((fun _ => 0))))))), (q_16, .inl (cA_17, 1, .inr (.inl ((fun _ => 0))))), (q_7, .inr (10, [.int 1, .int 9, .int 0, .int 99, .ref q_8, .ref q_9, .ref q_10, .int 0, .int 0, .int ((-1)), .ref q_15, .long 0]))] _ := hP
    have hD : va_D A [(q_3, .inr (3, [.int 0, .ref em, .int 0])), (q_4, .inr (5, [.ref q_5, .int 0])), (q_5, .inl (cA_6, 256, .inl ((fun _ => 0)))), (q_9, .inr (3, [.int 0, .ref em, .int 0])), (q_10, .inl (cA_13, 2, .inr (.inr (.inr (.inr ((tw_two q_11 q_12))))))), (q_11, .inl (cA_14, 24, .inr (.inr (.inr (.inr ((fun _ => none))))))), (q_12, .inl (cA_14, 24, .inr (.inr (.inr (.inr ((fun _ => none))))))), (q_15, .inr (3, [.int 0, .ref em, .int 0])), (q_18, .inl (cA_19, 1, .inr (.inr (.inr (.inl ((fun _ => 0))))))), (q_16, .inl (cA_17, 1, .inr (.inl ((fun _ => 0))))), (q_7, .inr (10, [.int 1, .int 9, .int 0, .int 99, .ref q_8, .ref q_9, .ref q_10, .int 0, .int 0, .int ((-1)), .ref q_15, .long 0]))] := hD
    have hK : va_K D vwCl [(cA_6, .int), (cA_13, .array (.object "TowerliftryModel$Car")), (cA_14, .object "TowerliftryModel$Car"), (cA_17, .long), (cA_19, .double)] s := hK
    refine W.widen (k := 15) (n := 355) (Nat.le_refl _) (Nat.le_refl _) ?_
    refine W.eq (g2 := F0 m 1349 ls [.int 1]) rfl ?_
    refine lv_iload hx hb dL_law_1349 (lv_at hl 1 rfl) ?_
    refine lv_icmp_eq (tgt := 1356) hx hb dL_law_1351 (by decide) (fun c9 => ?_) (fun c9 => absurd c9 (by decide))
    refine lv_iload hx hb dL_law_1356 (lv_at hl 1 rfl) ?_
    refine lv_if_ne (tgt := 1373) hx hb dL_law_1358 (by decide) (fun c9 => ?_) (fun c9 => absurd c9 (by decide))
    refine lv_goto (tgt := 2056) hx hb dL_law_1373 (by decide) ?_
    refine W.widen (k := 20000) (n := 60000) (Nat.le_of_ble_eq_true rfl) (Nat.le_of_ble_eq_true rfl) ?_
    exact tw_tail C0 hAe hS (lv_sub hl [2, 7] rfl)
  · refine lv_iconst (v := 1) hx hb dL_law_1302 (by decide) ?_
    refine lv_goto (tgt := 1307) hx hb dL_law_1303 (by decide) ?_
    refine lv_aload_n hx hb dL_law_1307 rfl (lv_at hl 2 rfl) ?_
    have hPc := hP.sub (ws' := [(q_1, .inr (7, [.ref q_2, .ref q_3, .ref q_4, .int 9, .int 99, .int 0, .int 0, .int 0, .int ((-1)), .int 0, .int 0, .long 0])), (q_2, .inr (3, [.int 0, .ref em, .int 0])), (q_16, .inl (cA_17, 1, .inr (.inl ((fun _ => 0)))))]) [0, 1, 12] rfl
    have hDc := hD.sub (ws' := [(q_1, .inr (7, [.ref q_2, .ref q_3, .ref q_4, .int 9, .int 99, .int 0, .int 0, .int 0, .int ((-1)), .int 0, .int 0, .long 0])), (q_2, .inr (3, [.int 0, .ref em, .int 0])), (q_16, .inl (cA_17, 1, .inr (.inl ((fun _ => 0)))))]) [0, 1, 12] (by decide) rfl
    have hKc := hK.sub (tys' := [(cA_17, .long)]) [3] rfl
    have hFc := va_free (wc := [(q_1, .inr (7, [.ref q_2, .ref q_3, .ref q_4, .int 9, .int 99, .int 0, .int 0, .int 0, .int ((-1)), .int 0, .int 0, .long 0])), (q_2, .inr (3, [.int 0, .ref em, .int 0])), (q_16, .inl (cA_17, 1, .inr (.inl ((fun _ => 0)))))]) hD hS hA [0, 1, 12] rfl
    refine va_calli (vx_runSW (As := [.ref q_1, .int ((xs 1)), .int ((xs 2)), .int 1, .ref q_16]) (rest := []) ⟨hx, hb, hml, hown, hts⟩ (c_L_timeFor l hst em kw kb D q_1 ((xs 1)) ((xs 2)) 1 q_16 q_2 q_3 q_4 cA_17 _) (vx_cwSW 5 hts gL_law_L_timeFor rfl rfl rfl (by decide +kernel) ⟨(Nat.le_of_ble_eq_true rfl), (Nat.le_of_ble_eq_true rfl)⟩) (tw_preS hF hS hFc hPc hKc hDc) rfl rfl hl.1 rfl (lv_room (Nat.le_of_ble_eq_true rfl)) dL_law_1308 ⟨(Nat.le_of_ble_eq_true rfl), (Nat.le_of_ble_eq_true rfl)⟩) hS (fun q _ h => hFc q h) hFc (fun r u t H locs ht hvm hw hB hz1 hk1 hS => ?_)
    obtain ⟨rfl, rfl⟩ := hw
    obtain ⟨hP, hD, hK⟩ := tw_join (wr := [(q_3, .inr (3, [.int 0, .ref em, .int 0])), (q_4, .inr (5, [.ref q_5, .int 0])), (q_5, .inl (cA_6, 256, .inl ((fun _ => 0)))), (q_7, .inr (10, [.int 0, .int 9, .int 0, .int 99, .ref q_8, .ref q_9, .ref q_10, .int 0, .int 0, .int ((-1)), .ref q_15, .long 0])), (q_8, .inr (3, [.int 0, .ref em, .int 0])), (q_9, .inr (3, [.int 0, .ref em, .int 0])), (q_10, .inl (cA_13, 2, .inr (.inr (.inr (.inr ((tw_two q_11 q_12))))))), (q_11, .inl (cA_14, 24, .inr (.inr (.inr (.inr ((fun _ => none))))))), (q_12, .inl (cA_14, 24, .inr (.inr (.inr (.inr ((fun _ => none))))))), (q_15, .inr (3, [.int 0, .ref em, .int 0])), (q_18, .inl (cA_19, 1, .inr (.inr (.inr (.inl ((fun _ => 0)))))))]) hP hD hK [0, 1, 12] [2, 3, 4, 5, 6, 7, 8, 9, 10, 11, 13] rfl rfl (by decide) (by decide) hk1 hFc ht hvm hB
    have hP : va_P D vwCl [(q_3, .inr (3, [.int 0, .ref em, .int 0])), (q_4, .inr (5, [.ref q_5, .int 0])), (q_5, .inl (cA_6, 256, .inl ((fun _ => 0)))), (q_7, .inr (10, [.int 0, .int 9, .int 0, .int 99, .ref q_8, .ref q_9, .ref q_10, .int 0, .int 0, .int ((-1)), .ref q_15, .long 0])), (q_8, .inr (3, [.int 0, .ref em, .int 0])), (q_9, .inr (3, [.int 0, .ref em, .int 0])), (q_10, .inl (cA_13, 2, .inr (.inr (.inr (.inr ((tw_two q_11 q_12))))))), (q_11, .inl (cA_14, 24, .inr (.inr (.inr (.inr ((fun _ => none))))))), (q_12, .inl (cA_14, 24, .inr (.inr (.inr (.inr ((fun _ => none))))))), (q_15, .inr (3, [.int 0, .ref em, .int 0])), (q_18, .inl (cA_19, 1, .inr (.inr (.inr (.inl ((fun _ => 0))))))), (q_16, .inl (cA_17, 1, .inr (.inl ((fun _ => 0)))))] _ := hP
    have hD : va_D A [(q_3, .inr (3, [.int 0, .ref em, .int 0])), (q_4, .inr (5, [.ref q_5, .int 0])), (q_5, .inl (cA_6, 256, .inl ((fun _ => 0)))), (q_7, .inr (10, [.int 0, .int 9, .int 0, .int 99, .ref q_8, .ref q_9, .ref q_10, .int 0, .int 0, .int ((-1)), .ref q_15, .long 0])), (q_8, .inr (3, [.int 0, .ref em, .int 0])), (q_9, .inr (3, [.int 0, .ref em, .int 0])), (q_10, .inl (cA_13, 2, .inr (.inr (.inr (.inr ((tw_two q_11 q_12))))))), (q_11, .inl (cA_14, 24, .inr (.inr (.inr (.inr ((fun _ => none))))))), (q_12, .inl (cA_14, 24, .inr (.inr (.inr (.inr ((fun _ => none))))))), (q_15, .inr (3, [.int 0, .ref em, .int 0])), (q_18, .inl (cA_19, 1, .inr (.inr (.inr (.inl ((fun _ => 0))))))), (q_16, .inl (cA_17, 1, .inr (.inl ((fun _ => 0)))))] := hD
    have hK : va_K D vwCl [(cA_6, .int), (cA_13, .array (.object "TowerliftryModel$Car")), (cA_14, .object "TowerliftryModel$Car"), (cA_17, .long), (cA_19, .double)] s := hK
    refine W.widen (k := 15) (n := 355) (Nat.le_refl _) (Nat.le_refl _) ?_
    refine W.eq (g2 := F0 m 1311 ls [.int 1]) rfl ?_
    refine lv_istore (lv' := [(6, .int 1), (5, .int 0), (4, .ref q_18), (3, .ref q_16), (2, .ref q_7), (1, .ref q_1), (0, .ref b)]) hx hb dL_law_1311 hl (by decide) rfl (fun ls hl => ?_)
    refine lv_aload_n hx hb dL_law_1313 rfl (lv_at hl 4 rfl) ?_
    refine lv_aload_n hx hb dL_law_1314 rfl (lv_at hl 6 rfl) ?_
    refine lv_iload hx hb dL_law_1315 (lv_at hl 1 rfl) ?_
    refine lv_iconst (v := 1) hx hb dL_law_1317 (by decide) ?_
    refine lv_iadd hx hb dL_law_1318 ?_
    refine lv_topi (fun z_9 ez_9 => ?_)
    have ez_9 : z_9 = (1 : Int32) := ez_9.trans (by decide)
    subst ez_9
    refine va_sld hx hb hX hbl hbA hS (by unfold vp_in; decide) dL_law_1319 ?_
    rw [show (1 : Int32).toNatClampNeg = 1 from by decide]
    refine lv_aload_n hx hb dL_law_1320 rfl (lv_at hl 6 rfl) ?_
    refine lv_iload hx hb dL_law_1321 (lv_at hl 1 rfl) ?_
    refine lv_iconst (v := 2) hx hb dL_law_1323 (by decide) ?_
    refine lv_iadd hx hb dL_law_1324 ?_
    refine lv_topi (fun z_10 ez_10 => ?_)
    have ez_10 : z_10 = (2 : Int32) := ez_10.trans (by decide)
    subst ez_10
    refine va_sld hx hb hX hbl hbA hS (by unfold vp_in; decide) dL_law_1325 ?_
    rw [show (2 : Int32).toNatClampNeg = 2 from by decide]
    refine lv_aload_n hx hb dL_law_1326 rfl (lv_at hl 6 rfl) ?_
    refine lv_iload hx hb dL_law_1327 (lv_at hl 1 rfl) ?_
    refine lv_iconst (v := 3) hx hb dL_law_1329 (by decide) ?_
    refine lv_iadd hx hb dL_law_1330 ?_
    refine lv_topi (fun z_11 ez_11 => ?_)
    have ez_11 : z_11 = (3 : Int32) := ez_11.trans (by decide)
    subst ez_11
    refine va_sld hx hb hX hbl hbA hS (by unfold vp_in; decide) dL_law_1331 ?_
    rw [show (3 : Int32).toNatClampNeg = 3 from by decide]
    refine lv_if_eq (tgt := 1339) hx hb dL_law_1332 (by decide) (fun c_12 => absurd c_12 (by first | exact c_4 | exact not_not_intro c_4)) (fun c_12 => ?_)
    refine lv_iconst (v := 1) hx hb dL_law_1335 (by decide) ?_
    refine lv_goto (tgt := 1340) hx hb dL_law_1336 (by decide) ?_
    have hPc := hP.sub (ws' := [(q_7, .inr (10, [.int 0, .int 9, .int 0, .int 99, .ref q_8, .ref q_9, .ref q_10, .int 0, .int 0, .int ((-1)), .ref q_15, .long 0])), (q_8, .inr (3, [.int 0, .ref em, .int 0]))]) [3, 4] rfl
    have hDc := hD.sub (ws' := [(q_7, .inr (10, [.int 0, .int 9, .int 0, .int 99, .ref q_8, .ref q_9, .ref q_10, .int 0, .int 0, .int ((-1)), .ref q_15, .long 0])), (q_8, .inr (3, [.int 0, .ref em, .int 0]))]) [3, 4] (by decide) rfl
    have hKc := hK.sub (tys' := []) [] rfl
    have hFc := va_free (wc := [(q_7, .inr (10, [.int 0, .int 9, .int 0, .int 99, .ref q_8, .ref q_9, .ref q_10, .int 0, .int 0, .int ((-1)), .ref q_15, .long 0])), (q_8, .inr (3, [.int 0, .ref em, .int 0]))]) hD hS hA [3, 4] rfl
    refine va_calli (va_runV (As := [.int ((xs 1)), .int ((xs 2)), .int 1]) (rest := []) ⟨hx, hb, hml, hown, hts⟩ (c_X6_timeFor l hst em kw kb D q_7 ((xs 1)) ((xs 2)) 1 q_8 q_9 q_10 q_15 _) (cwV 3 hts gL_law_X6_timeFor rfl rfl rfl (by decide +kernel) ⟨(Nat.le_of_ble_eq_true rfl), (Nat.le_of_ble_eq_true rfl)⟩) (tw_preV hF hS hFc hPc hKc hDc (va_recv hKc hPc (ci := 10) (q0 := 0) rfl rfl)) rfl rfl hl.1 rfl (lv_room (Nat.le_of_ble_eq_true rfl)) dL_law_1340 ⟨(Nat.le_of_ble_eq_true rfl), (Nat.le_of_ble_eq_true rfl)⟩) hS (fun q _ h => hFc q h) hFc (fun r u t H locs ht hvm hw hB hz1 hk1 hS => ?_)
    obtain ⟨rfl, rfl⟩ := hw
    obtain ⟨hP, hD, hK⟩ := tw_join (wr := [(q_3, .inr (3, [.int 0, .ref em, .int 0])), (q_4, .inr (5, [.ref q_5, .int 0])), (q_5, .inl (cA_6, 256, .inl ((fun _ => 0)))), (q_9, .inr (3, [.int 0, .ref em, .int 0])), (q_10, .inl (cA_13, 2, .inr (.inr (.inr (.inr ((tw_two q_11 q_12))))))), (q_11, .inl (cA_14, 24, .inr (.inr (.inr (.inr ((fun _ => none))))))), (q_12, .inl (cA_14, 24, .inr (.inr (.inr (.inr ((fun _ => none))))))), (q_15, .inr (3, [.int 0, .ref em, .int 0])), (q_18, .inl (cA_19, 1, .inr (.inr (.inr (.inl ((fun _ => 0))))))), (q_16, .inl (cA_17, 1, .inr (.inl ((fun _ => 0)))))]) hP hD hK [3, 4] [0, 1, 2, 5, 6, 7, 8, 9, 10, 11] rfl rfl (by decide) (by decide) hk1 hFc ht hvm hB
    have hP : va_P D vwCl [(q_3, .inr (3, [.int 0, .ref em, .int 0])), (q_4, .inr (5, [.ref q_5, .int 0])), (q_5, .inl (cA_6, 256, .inl ((fun _ => 0)))), (q_9, .inr (3, [.int 0, .ref em, .int 0])), (q_10, .inl (cA_13, 2, .inr (.inr (.inr (.inr ((tw_two q_11 q_12))))))), (q_11, .inl (cA_14, 24, .inr (.inr (.inr (.inr ((fun _ => none))))))), (q_12, .inl (cA_14, 24, .inr (.inr (.inr (.inr ((fun _ => none))))))), (q_15, .inr (3, [.int 0, .ref em, .int 0])), (q_18, .inl (cA_19, 1, .inr (.inr (.inr (.inl ((fun _ => 0))))))), (q_16, .inl (cA_17, 1, .inr (.inl ((fun _ => 0))))), (q_7, .inr (10, [.int 1, .int 9, .int 0, .int 99, .ref q_8, .ref q_9, .ref q_10, .int 0, .int 0, .int ((-1)), .ref q_15, .long 0]))] _ := hP
    have hD : va_D A [(q_3, .inr (3, [.int 0, .ref em, .int 0])), (q_4, .inr (5, [.ref q_5, .int 0])), (q_5, .inl (cA_6, 256, .inl ((fun _ => 0)))), (q_9, .inr (3, [.int 0, .ref em, .int 0])), (q_10, .inl (cA_13, 2, .inr (.inr (.inr (.inr ((tw_two q_11 q_12))))))), (q_11, .inl (cA_14, 24, .inr (.inr (.inr (.inr ((fun _ => none))))))), (q_12, .inl (cA_14, 24, .inr (.inr (.inr (.inr ((fun _ => none))))))), (q_15, .inr (3, [.int 0, .ref em, .int 0])), (q_18, .inl (cA_19, 1, .inr (.inr (.inr (.inl ((fun _ => 0))))))), (q_16, .inl (cA_17, 1, .inr (.inl ((fun _ => 0))))), (q_7, .inr (10, [.int 1, .int 9, .int 0, .int 99, .ref q_8, .ref q_9, .ref q_10, .int 0, .int 0, .int ((-1)), .ref q_15, .long 0]))] := hD
    have hK : va_K D vwCl [(cA_6, .int), (cA_13, .array (.object "TowerliftryModel$Car")), (cA_14, .object "TowerliftryModel$Car"), (cA_17, .long), (cA_19, .double)] s := hK
    refine W.widen (k := 15) (n := 355) (Nat.le_refl _) (Nat.le_refl _) ?_
    refine W.eq (g2 := F0 m 1343 ls [.int 0]) rfl ?_
    refine lv_istore (lv' := [(7, .int 0), (6, .int 1), (5, .int 0), (4, .ref q_18), (3, .ref q_16), (2, .ref q_7), (1, .ref q_1), (0, .ref b)]) hx hb dL_law_1343 hl (by decide) rfl (fun ls hl => ?_)
    refine lv_aload_n hx hb dL_law_1345 rfl (lv_at hl 5 rfl) ?_
    have hPc := hP.sub (ws' := [(q_7, .inr (10, [.int 1, .int 9, .int 0, .int 99, .ref q_8, .ref q_9, .ref q_10, .int 0, .int 0, .int ((-1)), .ref q_15, .long 0]))]) [10] rfl
    have hDc := hD.sub (ws' := [(q_7, .inr (10, [.int 1, .int 9, .int 0, .int 99, .ref q_8, .ref q_9, .ref q_10, .int 0, .int 0, .int ((-1)), .ref q_15, .long 0]))]) [10] (by decide) rfl
    have hKc := hK.sub (tys' := []) [] rfl
    have hFc := va_free (wc := [(q_7, .inr (10, [.int 1, .int 9, .int 0, .int 99, .ref q_8, .ref q_9, .ref q_10, .int 0, .int 0, .int ((-1)), .ref q_15, .long 0]))]) hD hS hA [10] rfl
    refine va_calli (va_runV (As := []) (rest := []) ⟨hx, hb, hml, hown, hts⟩ (c_X6_thrown l hst em kw kb D q_7 1 9 0 99 q_8 q_9 q_10 0 0 ((-1)) q_15 0 _) (cwV 0 hts gL_law_X6_thrown rfl rfl rfl (by decide +kernel) ⟨(Nat.le_of_ble_eq_true rfl), (Nat.le_of_ble_eq_true rfl)⟩) (tw_preV hF hS hFc hPc hKc hDc (va_recv hKc hPc (ci := 10) (q0 := 0) rfl rfl)) rfl rfl hl.1 rfl (lv_room (Nat.le_of_ble_eq_true rfl)) dL_law_1346 ⟨(Nat.le_of_ble_eq_true rfl), (Nat.le_of_ble_eq_true rfl)⟩) hS (fun q _ h => hFc q h) hFc (fun r u t H locs ht hvm hw hB hz1 hk1 hS => ?_)
    obtain ⟨rfl, rfl⟩ := hw
    obtain ⟨hP, hD, hK⟩ := tw_join (wr := [(q_3, .inr (3, [.int 0, .ref em, .int 0])), (q_4, .inr (5, [.ref q_5, .int 0])), (q_5, .inl (cA_6, 256, .inl ((fun _ => 0)))), (q_9, .inr (3, [.int 0, .ref em, .int 0])), (q_10, .inl (cA_13, 2, .inr (.inr (.inr (.inr ((tw_two q_11 q_12))))))), (q_11, .inl (cA_14, 24, .inr (.inr (.inr (.inr ((fun _ => none))))))), (q_12, .inl (cA_14, 24, .inr (.inr (.inr (.inr ((fun _ => none))))))), (q_15, .inr (3, [.int 0, .ref em, .int 0])), (q_18, .inl (cA_19, 1, .inr (.inr (.inr (.inl ((fun _ => 0))))))), (q_16, .inl (cA_17, 1, .inr (.inl ((fun _ => 0)))))]) hP hD hK [10] [0, 1, 2, 3, 4, 5, 6, 7, 8, 9] rfl rfl (by decide) (by decide) hk1 hFc ht hvm hB
    have hP : va_P D vwCl [(q_3, .inr (3, [.int 0, .ref em, .int 0])), (q_4, .inr (5, [.ref q_5, .int 0])), (q_5, .inl (cA_6, 256, .inl ((fun _ => 0)))), (q_9, .inr (3, [.int 0, .ref em, .int 0])), (q_10, .inl (cA_13, 2, .inr (.inr (.inr (.inr ((tw_two q_11 q_12))))))), (q_11, .inl (cA_14, 24, .inr (.inr (.inr (.inr ((fun _ => none))))))), (q_12, .inl (cA_14, 24, .inr (.inr (.inr (.inr ((fun _ => none))))))), (q_15, .inr (3, [.int 0, .ref em, .int 0])), (q_18, .inl (cA_19, 1, .inr (.inr (.inr (.inl ((fun _ => 0))))))), (q_16, .inl (cA_17, 1, .inr (.inl ((fun _ => 0))))), (q_7, .inr (10, [.int 1, .int 9, .int 0, .int 99, .ref q_8, .ref q_9, .ref q_10, .int 0, .int 0, .int ((-1)), .ref q_15, .long 0]))] _ := hP
    have hD : va_D A [(q_3, .inr (3, [.int 0, .ref em, .int 0])), (q_4, .inr (5, [.ref q_5, .int 0])), (q_5, .inl (cA_6, 256, .inl ((fun _ => 0)))), (q_9, .inr (3, [.int 0, .ref em, .int 0])), (q_10, .inl (cA_13, 2, .inr (.inr (.inr (.inr ((tw_two q_11 q_12))))))), (q_11, .inl (cA_14, 24, .inr (.inr (.inr (.inr ((fun _ => none))))))), (q_12, .inl (cA_14, 24, .inr (.inr (.inr (.inr ((fun _ => none))))))), (q_15, .inr (3, [.int 0, .ref em, .int 0])), (q_18, .inl (cA_19, 1, .inr (.inr (.inr (.inl ((fun _ => 0))))))), (q_16, .inl (cA_17, 1, .inr (.inl ((fun _ => 0))))), (q_7, .inr (10, [.int 1, .int 9, .int 0, .int 99, .ref q_8, .ref q_9, .ref q_10, .int 0, .int 0, .int ((-1)), .ref q_15, .long 0]))] := hD
    have hK : va_K D vwCl [(cA_6, .int), (cA_13, .array (.object "TowerliftryModel$Car")), (cA_14, .object "TowerliftryModel$Car"), (cA_17, .long), (cA_19, .double)] s := hK
    refine W.widen (k := 15) (n := 355) (Nat.le_refl _) (Nat.le_refl _) ?_
    refine W.eq (g2 := F0 m 1349 ls [.int 1]) rfl ?_
    refine lv_iload hx hb dL_law_1349 (lv_at hl 1 rfl) ?_
    refine lv_icmp_eq (tgt := 1356) hx hb dL_law_1351 (by decide) (fun c9 => ?_) (fun c9 => absurd c9 (by decide))
    refine lv_iload hx hb dL_law_1356 (lv_at hl 1 rfl) ?_
    refine lv_if_ne (tgt := 1373) hx hb dL_law_1358 (by decide) (fun c9 => ?_) (fun c9 => absurd c9 (by decide))
    refine lv_goto (tgt := 2056) hx hb dL_law_1373 (by decide) ?_
    refine W.widen (k := 20000) (n := 60000) (Nat.le_of_ble_eq_true rfl) (Nat.le_of_ble_eq_true rfl) ?_
    exact tw_tail C0 hAe hS (lv_sub hl [2, 7] rfl)
