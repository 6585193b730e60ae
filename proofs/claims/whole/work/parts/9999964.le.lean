theorem dW_1160 : decode code 1160 = .ok (.aload_n 1, 1) := by decide +kernel
theorem dW_1161 : decode code 1161 = .ok (.aload_n 0, 1) := by decide +kernel
theorem dW_1162 : decode code 1162 = .ok (.iload 4, 2) := by decide +kernel
theorem dW_1164 : decode code 1164 = .ok (.iconst 1, 1) := by decide +kernel
theorem dW_1165 : decode code 1165 = .ok (.iadd, 1) := by decide +kernel
theorem dW_1166 : decode code 1166 = .ok (.iaload, 1) := by decide +kernel
theorem dW_1167 : decode code 1167 = .ok (.aload_n 0, 1) := by decide +kernel
theorem dW_1168 : decode code 1168 = .ok (.iload 4, 2) := by decide +kernel
theorem dW_1170 : decode code 1170 = .ok (.iconst 2, 1) := by decide +kernel
theorem dW_1171 : decode code 1171 = .ok (.iadd, 1) := by decide +kernel
theorem dW_1172 : decode code 1172 = .ok (.iaload, 1) := by decide +kernel
theorem dW_1173 : decode code 1173 = .ok (.aload_n 3, 1) := by decide +kernel
theorem dW_1174 : decode code 1174 = .ok (.invokestatic 160, 3) := by decide +kernel
theorem dW_1177 : decode code 1177 = .ok (.istore 5, 2) := by decide +kernel
theorem dW_1179 : decode code 1179 = .ok (.aload_n 2, 1) := by decide +kernel
theorem dW_1180 : decode code 1180 = .ok (.aload_n 0, 1) := by decide +kernel
theorem dW_1181 : decode code 1181 = .ok (.iload 4, 2) := by decide +kernel
theorem dW_1183 : decode code 1183 = .ok (.iconst 1, 1) := by decide +kernel
theorem dW_1184 : decode code 1184 = .ok (.iadd, 1) := by decide +kernel
theorem dW_1185 : decode code 1185 = .ok (.iaload, 1) := by decide +kernel
theorem dW_1186 : decode code 1186 = .ok (.aload_n 0, 1) := by decide +kernel
theorem dW_1187 : decode code 1187 = .ok (.iload 4, 2) := by decide +kernel
theorem dW_1189 : decode code 1189 = .ok (.iconst 2, 1) := by decide +kernel
theorem dW_1190 : decode code 1190 = .ok (.iadd, 1) := by decide +kernel
theorem dW_1191 : decode code 1191 = .ok (.iaload, 1) := by decide +kernel
theorem dW_1192 : decode code 1192 = .ok (.invokevirtual 162, 3) := by decide +kernel
theorem dW_1195 : decode code 1195 = .ok (.istore 6, 2) := by decide +kernel
theorem dW_1197 : decode code 1197 = .ok (.aload_n 2, 1) := by decide +kernel
theorem dW_1198 : decode code 1198 = .ok (.invokevirtual 107, 3) := by decide +kernel
theorem dW_1201 : decode code 1201 = .ok (.iload 5, 2) := by decide +kernel
theorem dW_1203 : decode code 1203 = .ok (.if_icmp .eq 5, 3) := by decide +kernel
theorem dW_1208 : decode code 1208 = .ok (.iload 5, 2) := by decide +kernel
theorem dW_1210 : decode code 1210 = .ok (.ifCond .ne 15, 3) := by decide +kernel
theorem dW_1213 : decode code 1213 = .ok (.aload_n 3, 1) := by decide +kernel
theorem dW_1214 : decode code 1214 = .ok (.iconst 0, 1) := by decide +kernel
theorem dW_1215 : decode code 1215 = .ok (.laload, 1) := by decide +kernel
theorem dW_1216 : decode code 1216 = .ok (.iload 6, 2) := by decide +kernel
theorem dW_1218 : decode code 1218 = .ok (.i2l, 1) := by decide +kernel
theorem dW_1219 : decode code 1219 = .ok (.lcmp, 1) := by decide +kernel
theorem dW_1220 : decode code 1220 = .ok (.ifCond .eq 5, 3) := by decide +kernel
theorem dW_1225 : decode code 1225 = .ok (.goto 835, 3) := by decide +kernel
theorem dW_1228 : decode code 1228 = .ok (.aload_n 1, 1) := by decide +kernel
theorem dW_1229 : decode code 1229 = .ok (.aload_n 0, 1) := by decide +kernel
theorem dW_1230 : decode code 1230 = .ok (.iload 4, 2) := by decide +kernel
theorem dW_1232 : decode code 1232 = .ok (.iconst 1, 1) := by decide +kernel
theorem dW_1233 : decode code 1233 = .ok (.iadd, 1) := by decide +kernel
theorem dW_1234 : decode code 1234 = .ok (.iaload, 1) := by decide +kernel
theorem dW_1235 : decode code 1235 = .ok (.aload_n 0, 1) := by decide +kernel
theorem dW_1236 : decode code 1236 = .ok (.iload 4, 2) := by decide +kernel
theorem dW_1238 : decode code 1238 = .ok (.iconst 2, 1) := by decide +kernel
theorem dW_1239 : decode code 1239 = .ok (.iadd, 1) := by decide +kernel
theorem dW_1240 : decode code 1240 = .ok (.iaload, 1) := by decide +kernel
theorem dW_1241 : decode code 1241 = .ok (.aload_n 3, 1) := by decide +kernel
theorem dW_1242 : decode code 1242 = .ok (.invokestatic 163, 3) := by decide +kernel
theorem dW_1245 : decode code 1245 = .ok (.istore 5, 2) := by decide +kernel
theorem dW_1247 : decode code 1247 = .ok (.aload_n 2, 1) := by decide +kernel
theorem dW_1248 : decode code 1248 = .ok (.aload_n 0, 1) := by decide +kernel
theorem dW_1249 : decode code 1249 = .ok (.iload 4, 2) := by decide +kernel
theorem dW_1251 : decode code 1251 = .ok (.iconst 1, 1) := by decide +kernel
theorem dW_1252 : decode code 1252 = .ok (.iadd, 1) := by decide +kernel
theorem dW_1253 : decode code 1253 = .ok (.iaload, 1) := by decide +kernel
theorem dW_1254 : decode code 1254 = .ok (.aload_n 0, 1) := by decide +kernel
theorem dW_1255 : decode code 1255 = .ok (.iload 4, 2) := by decide +kernel
theorem dW_1257 : decode code 1257 = .ok (.iconst 2, 1) := by decide +kernel
theorem dW_1258 : decode code 1258 = .ok (.iadd, 1) := by decide +kernel
theorem dW_1259 : decode code 1259 = .ok (.iaload, 1) := by decide +kernel
theorem dW_1260 : decode code 1260 = .ok (.invokevirtual 165, 3) := by decide +kernel
theorem dW_1263 : decode code 1263 = .ok (.istore 6, 2) := by decide +kernel
theorem dW_1265 : decode code 1265 = .ok (.aload_n 2, 1) := by decide +kernel
theorem dW_1266 : decode code 1266 = .ok (.invokevirtual 107, 3) := by decide +kernel
theorem dW_1269 : decode code 1269 = .ok (.iload 5, 2) := by decide +kernel
theorem dW_1271 : decode code 1271 = .ok (.if_icmp .eq 5, 3) := by decide +kernel
theorem dW_1276 : decode code 1276 = .ok (.iload 5, 2) := by decide +kernel
theorem dW_1278 : decode code 1278 = .ok (.ifCond .ne 15, 3) := by decide +kernel
theorem dW_1281 : decode code 1281 = .ok (.aload_n 3, 1) := by decide +kernel
theorem dW_1282 : decode code 1282 = .ok (.iconst 0, 1) := by decide +kernel
theorem dW_1283 : decode code 1283 = .ok (.laload, 1) := by decide +kernel
theorem dW_1284 : decode code 1284 = .ok (.iload 6, 2) := by decide +kernel
theorem dW_1286 : decode code 1286 = .ok (.i2l, 1) := by decide +kernel
theorem dW_1287 : decode code 1287 = .ok (.lcmp, 1) := by decide +kernel
theorem dW_1288 : decode code 1288 = .ok (.ifCond .eq 5, 3) := by decide +kernel
theorem dW_1293 : decode code 1293 = .ok (.goto 767, 3) := by decide +kernel
theorem dW_1296 : decode code 1296 = .ok (.aload_n 1, 1) := by decide +kernel
theorem dW_1297 : decode code 1297 = .ok (.aload_n 0, 1) := by decide +kernel
theorem dW_1298 : decode code 1298 = .ok (.iload 4, 2) := by decide +kernel
theorem dW_1300 : decode code 1300 = .ok (.iconst 1, 1) := by decide +kernel
theorem dW_1301 : decode code 1301 = .ok (.iadd, 1) := by decide +kernel
theorem dW_1302 : decode code 1302 = .ok (.iaload, 1) := by decide +kernel
theorem dW_1303 : decode code 1303 = .ok (.aload_n 0, 1) := by decide +kernel
theorem dW_1304 : decode code 1304 = .ok (.iload 4, 2) := by decide +kernel
theorem dW_1306 : decode code 1306 = .ok (.iconst 2, 1) := by decide +kernel
theorem dW_1307 : decode code 1307 = .ok (.iadd, 1) := by decide +kernel
theorem dW_1308 : decode code 1308 = .ok (.iaload, 1) := by decide +kernel
theorem dW_1309 : decode code 1309 = .ok (.aload_n 3, 1) := by decide +kernel
theorem dW_1310 : decode code 1310 = .ok (.invokestatic 166, 3) := by decide +kernel
theorem dW_1313 : decode code 1313 = .ok (.istore 5, 2) := by decide +kernel
theorem dW_1315 : decode code 1315 = .ok (.aload_n 2, 1) := by decide +kernel
theorem dW_1316 : decode code 1316 = .ok (.aload_n 0, 1) := by decide +kernel
theorem dW_1317 : decode code 1317 = .ok (.iload 4, 2) := by decide +kernel
theorem dW_1319 : decode code 1319 = .ok (.iconst 1, 1) := by decide +kernel
theorem dW_1320 : decode code 1320 = .ok (.iadd, 1) := by decide +kernel
theorem dW_1321 : decode code 1321 = .ok (.iaload, 1) := by decide +kernel
theorem dW_1322 : decode code 1322 = .ok (.aload_n 0, 1) := by decide +kernel
theorem dW_1323 : decode code 1323 = .ok (.iload 4, 2) := by decide +kernel
theorem dW_1325 : decode code 1325 = .ok (.iconst 2, 1) := by decide +kernel
theorem dW_1326 : decode code 1326 = .ok (.iadd, 1) := by decide +kernel
theorem dW_1327 : decode code 1327 = .ok (.iaload, 1) := by decide +kernel
theorem dW_1328 : decode code 1328 = .ok (.invokevirtual 168, 3) := by decide +kernel
theorem dW_1331 : decode code 1331 = .ok (.istore 6, 2) := by decide +kernel
theorem dW_1333 : decode code 1333 = .ok (.aload_n 2, 1) := by decide +kernel
theorem dW_1334 : decode code 1334 = .ok (.invokevirtual 107, 3) := by decide +kernel
theorem dW_1337 : decode code 1337 = .ok (.iload 5, 2) := by decide +kernel
theorem dW_1339 : decode code 1339 = .ok (.if_icmp .eq 5, 3) := by decide +kernel
theorem dW_1344 : decode code 1344 = .ok (.iload 5, 2) := by decide +kernel
theorem dW_1346 : decode code 1346 = .ok (.ifCond .ne 15, 3) := by decide +kernel
theorem dW_1349 : decode code 1349 = .ok (.aload_n 3, 1) := by decide +kernel
theorem dW_1350 : decode code 1350 = .ok (.iconst 0, 1) := by decide +kernel
theorem dW_1351 : decode code 1351 = .ok (.laload, 1) := by decide +kernel
theorem dW_1352 : decode code 1352 = .ok (.iload 6, 2) := by decide +kernel
theorem dW_1354 : decode code 1354 = .ok (.i2l, 1) := by decide +kernel
theorem dW_1355 : decode code 1355 = .ok (.lcmp, 1) := by decide +kernel
theorem dW_1356 : decode code 1356 = .ok (.ifCond .eq 5, 3) := by decide +kernel
theorem dW_1361 : decode code 1361 = .ok (.goto 699, 3) := by decide +kernel
theorem dW_1364 : decode code 1364 = .ok (.aload_n 1, 1) := by decide +kernel
theorem dW_1365 : decode code 1365 = .ok (.aload_n 0, 1) := by decide +kernel
theorem dW_1366 : decode code 1366 = .ok (.iload 4, 2) := by decide +kernel
theorem dW_1368 : decode code 1368 = .ok (.iconst 1, 1) := by decide +kernel
theorem dW_1369 : decode code 1369 = .ok (.iadd, 1) := by decide +kernel
theorem dW_1370 : decode code 1370 = .ok (.iaload, 1) := by decide +kernel
theorem dW_1371 : decode code 1371 = .ok (.aload_n 0, 1) := by decide +kernel
theorem dW_1372 : decode code 1372 = .ok (.iload 4, 2) := by decide +kernel
theorem dW_1374 : decode code 1374 = .ok (.iconst 2, 1) := by decide +kernel
theorem dW_1375 : decode code 1375 = .ok (.iadd, 1) := by decide +kernel
theorem dW_1376 : decode code 1376 = .ok (.iaload, 1) := by decide +kernel
theorem dW_1377 : decode code 1377 = .ok (.aload_n 3, 1) := by decide +kernel
theorem dW_1378 : decode code 1378 = .ok (.invokestatic 169, 3) := by decide +kernel
theorem dW_1381 : decode code 1381 = .ok (.istore 5, 2) := by decide +kernel
theorem dW_1383 : decode code 1383 = .ok (.aload_n 2, 1) := by decide +kernel
theorem dW_1384 : decode code 1384 = .ok (.aload_n 0, 1) := by decide +kernel
theorem dW_1385 : decode code 1385 = .ok (.iload 4, 2) := by decide +kernel
theorem dW_1387 : decode code 1387 = .ok (.iconst 1, 1) := by decide +kernel
theorem dW_1388 : decode code 1388 = .ok (.iadd, 1) := by decide +kernel
theorem dW_1389 : decode code 1389 = .ok (.iaload, 1) := by decide +kernel
theorem dW_1390 : decode code 1390 = .ok (.aload_n 0, 1) := by decide +kernel
theorem dW_1391 : decode code 1391 = .ok (.iload 4, 2) := by decide +kernel
theorem dW_1393 : decode code 1393 = .ok (.iconst 2, 1) := by decide +kernel
theorem dW_1394 : decode code 1394 = .ok (.iadd, 1) := by decide +kernel
theorem dW_1395 : decode code 1395 = .ok (.iaload, 1) := by decide +kernel
theorem dW_1396 : decode code 1396 = .ok (.invokevirtual 171, 3) := by decide +kernel
theorem dW_1399 : decode code 1399 = .ok (.istore 6, 2) := by decide +kernel
theorem dW_1401 : decode code 1401 = .ok (.aload_n 2, 1) := by decide +kernel
theorem dW_1402 : decode code 1402 = .ok (.invokevirtual 107, 3) := by decide +kernel
theorem dW_1405 : decode code 1405 = .ok (.iload 5, 2) := by decide +kernel
theorem dW_1407 : decode code 1407 = .ok (.if_icmp .eq 5, 3) := by decide +kernel
theorem dW_1412 : decode code 1412 = .ok (.iload 5, 2) := by decide +kernel
theorem dW_1414 : decode code 1414 = .ok (.ifCond .ne 15, 3) := by decide +kernel
theorem dW_1417 : decode code 1417 = .ok (.aload_n 3, 1) := by decide +kernel
theorem dW_1418 : decode code 1418 = .ok (.iconst 0, 1) := by decide +kernel
theorem dW_1419 : decode code 1419 = .ok (.laload, 1) := by decide +kernel
theorem dW_1420 : decode code 1420 = .ok (.iload 6, 2) := by decide +kernel
theorem dW_1422 : decode code 1422 = .ok (.i2l, 1) := by decide +kernel
theorem dW_1423 : decode code 1423 = .ok (.lcmp, 1) := by decide +kernel
theorem dW_1424 : decode code 1424 = .ok (.ifCond .eq 5, 3) := by decide +kernel
theorem dW_1429 : decode code 1429 = .ok (.goto 631, 3) := by decide +kernel
section YLA
variable {x : yC} {l : Launch} {g : yG} {b L : Nat} {xs : Nat → Int32} {Q : State → Prop} {n : Nat} {σ : yM} {cells slots : Nat}
set_option maxHeartbeats 4000000 in
set_option maxRecDepth 100000 in
theorem zc_front (E : zE x l g b L xs) {N : Int} {A : aA} (G : zG N σ A) (hN0 : 0 ≤ N) (hN : N ≤ 400000000) (hn : 172 ≤ n) {i : Int} (hi : 0 ≤ i ∧ i + 6 ≤ (L : Int)) (hc : cells + 408 ≤ 601024) (hs : slots + 3660 ≤ 7293033) (k : zK x g b Q n N cells slots i) : yV x g 7 Q (SC g) n σ cells slots 1160 (zL g b i) [] := by
  obtain ⟨w, h, ⟨T, S, F, P, O, nf, df, nl, lg⟩, ⟨s, re, fo, ra, tu, we, sh⟩, H, ht, K, tl, tb, fa, r1, r2⟩ := A
  obtain ⟨hC, hM, hW⟩ := G
  have hF := E.1
  have ZN := hN0
  refine y_aload_n (pc := 1160) hF dW_1160 1 rfl ?_
  refine zl_arg (pc := 1161) E dW_1161 dW_1162 dW_1164 dW_1165 dW_1166 rfl rfl (by omega) ?_
  refine zl_arg (pc := 1167) E dW_1167 dW_1168 dW_1170 dW_1171 dW_1172 rfl rfl (by omega) ?_
  refine y_aload_n (pc := 1173) hF dW_1173 3 rfl ?_
  refine y_ci (cells' := cells + 4) (slots' := slots + 24) (y_rSL (pc := 1174) (na := 4) hF E.2.1 E.2.2.1 (tL_front E.2.2.2.1 hn _ _ _ _ _ _ _ _ _ _ _ _ _ _ _ _ _ _ _ _ _ _ _ _ _ _ _ hC hW (zA xs i 1) (zA xs i 2) (zA_r xs i 1) (zA_r xs i 2)) dW_1174 w_1073 w_1074 wl_front w_85 ⟨by decide, by decide, by decide +kernel⟩ rfl ⟨Nat.le_of_ble_eq_true rfl, Nat.le_of_ble_eq_true rfl⟩ ⟨by show cells + 4 ≤ 601024; omega, by show slots + 24 ≤ 7293033; omega⟩ (Nat.le_of_ble_eq_true rfl) rfl (rest := [])) rfl rfl (fun zk n1 σ1 z1 => ?_)
  refine y_istore (pc := 1177) (lv' := zL5 g b i zk) hF dW_1177 (by decide) rfl rfl ?_
  have hn1 := Nat.le_trans hn z1.1
  have zM := mV_cG hM z1.2.1
  refine y_aload_n (pc := 1179) hF dW_1179 2 rfl ?_
  refine zl_arg (pc := 1180) E dW_1180 dW_1181 dW_1183 dW_1184 dW_1185 rfl rfl (by omega) ?_
  refine zl_arg (pc := 1186) E dW_1186 dW_1187 dW_1189 dW_1190 dW_1191 rfl rfl (by omega) ?_
  refine y_ci (cells' := cells + 4) (slots' := slots + 24) (y_rV (pc := 1192) (rest := []) hF (tX11_front hn1 _ _ _ _ _ _ _ _ _ _ _ _ _ _ _ _ _ _ _ _ _ _ _ _ _ _ _ zM hW (zA xs i 1) (zA xs i 2) (zA_r xs i 1) (zA_r xs i 2)) dW_1192 (by omega) rfl rfl rfl w_1679 qX11_front rfl ⟨Nat.le_of_ble_eq_true rfl, Nat.le_of_ble_eq_true rfl⟩ ⟨by show cells + 4 ≤ 601024; omega, by show slots + 24 ≤ 7293033; omega⟩ (Nat.le_of_ble_eq_true rfl) rfl) rfl rfl (fun zb n2 σ2 z2 => ?_)
  refine y_istore (pc := 1195) (lv' := zL6 g b i zk zb) hF dW_1195 (by decide) rfl rfl ?_
  have hn2 := Nat.le_trans hn1 z2.1
  have hn3 := Nat.le_trans z1.1 z2.1
  have zt : ∃ A' : aA, zk = σ2 155 0 ∧ (0 ≤ zk ∧ zk ≤ 2) ∧ (zk = 0 → σ2 171 0 = wr zb) ∧ zG (N + 400) σ2 A' := by
    obtain ⟨_, zg, z1⟩ := z1
    obtain ⟨_, z2⟩ := z2
    rcases z1 with ⟨q, rfl, q2, q3⟩ | ⟨q, rfl, q3⟩
    · rcases z2 with ⟨p, p1, p2⟩ | ⟨p, p2⟩
      · exact ⟨_, p2.2.1.symm, (by decide), (fun _ => by rw [p2.1 171 (Or.inr rfl), q2, p1]), cV_mF q3 p2.1, p2.2.2, aW_up hW (by omega)⟩
      · exact absurd q p
    · rcases z2 with ⟨p, p1, p2⟩ | ⟨p, p2⟩
      · exact absurd p q
      · exact ⟨_, p2.2.1.symm, (by decide), (fun z => absurd z (by decide)), cV_mF q3 p2.1, p2.2.2, aW_up (aW_bA hW) (by omega)⟩
  obtain ⟨A', t1, t2, t3, t4⟩ := zt
  exact zl_tail (pc := 1197) E dW_1197 dW_1198 dW_1201 dW_1203 dW_1208 dW_1210 dW_1213 dW_1214 dW_1215 dW_1216 dW_1218 dW_1219 dW_1220 dW_1225 rfl t1 t2 t3 hn2 (by omega) (by omega) (y_wid (by omega) (by omega) (k n2 σ2 A' hn3 t4))
set_option maxHeartbeats 4000000 in
set_option maxRecDepth 100000 in
theorem zc_part (E : zE x l g b L xs) {N : Int} {A : aA} (G : zG N σ A) (hN0 : 0 ≤ N) (hN : N ≤ 400000000) (hn : 172 ≤ n) {i : Int} (hi : 0 ≤ i ∧ i + 6 ≤ (L : Int)) (hc : cells + 408 ≤ 601024) (hs : slots + 3660 ≤ 7293033) (k : zK x g b Q n N cells slots i) : yV x g 7 Q (SC g) n σ cells slots 1228 (zL g b i) [] := by
  obtain ⟨w, h, ⟨T, S, F, P, O, nf, df, nl, lg⟩, ⟨s, re, fo, ra, tu, we, sh⟩, H, ht, K, tl, tb, fa, r1, r2⟩ := A
  obtain ⟨hC, hM, hW⟩ := G
  have hF := E.1
  have ZN := hN0
  refine y_aload_n (pc := 1228) hF dW_1228 1 rfl ?_
  refine zl_arg (pc := 1229) E dW_1229 dW_1230 dW_1232 dW_1233 dW_1234 rfl rfl (by omega) ?_
  refine zl_arg (pc := 1235) E dW_1235 dW_1236 dW_1238 dW_1239 dW_1240 rfl rfl (by omega) ?_
  refine y_aload_n (pc := 1241) hF dW_1241 3 rfl ?_
  refine y_ci (cells' := cells + 4) (slots' := slots + 24) (y_rSL (pc := 1242) (na := 4) hF E.2.1 E.2.2.1 (tL_part E.2.2.2.1 hn _ _ _ _ _ _ _ _ _ _ _ _ _ _ _ _ _ _ _ _ _ _ _ _ _ _ _ hC hW (zA xs i 1) (zA xs i 2) (zA_r xs i 1) (zA_r xs i 2)) dW_1242 w_1084 w_1085 wl_part w_85 ⟨by decide, by decide, by decide +kernel⟩ rfl ⟨Nat.le_of_ble_eq_true rfl, Nat.le_of_ble_eq_true rfl⟩ ⟨by show cells + 4 ≤ 601024; omega, by show slots + 24 ≤ 7293033; omega⟩ (Nat.le_of_ble_eq_true rfl) rfl (rest := [])) rfl rfl (fun zk n1 σ1 z1 => ?_)
  refine y_istore (pc := 1245) (lv' := zL5 g b i zk) hF dW_1245 (by decide) rfl rfl ?_
  have hn1 := Nat.le_trans hn z1.1
  have zM := mV_cG hM z1.2.1
  refine y_aload_n (pc := 1247) hF dW_1247 2 rfl ?_
  refine zl_arg (pc := 1248) E dW_1248 dW_1249 dW_1251 dW_1252 dW_1253 rfl rfl (by omega) ?_
  refine zl_arg (pc := 1254) E dW_1254 dW_1255 dW_1257 dW_1258 dW_1259 rfl rfl (by omega) ?_
  refine y_ci (cells' := cells + 4) (slots' := slots + 24) (y_rV (pc := 1260) (rest := []) hF (tX11_part hn1 _ _ _ _ _ _ _ _ _ _ _ _ _ _ _ _ _ _ _ _ _ _ _ _ _ _ _ zM hW (zA xs i 1) (zA xs i 2) (zA_r xs i 1) (zA_r xs i 2)) dW_1260 (by omega) rfl rfl rfl w_1617 qX11_part rfl ⟨Nat.le_of_ble_eq_true rfl, Nat.le_of_ble_eq_true rfl⟩ ⟨by show cells + 4 ≤ 601024; omega, by show slots + 24 ≤ 7293033; omega⟩ (Nat.le_of_ble_eq_true rfl) rfl) rfl rfl (fun zb n2 σ2 z2 => ?_)
  refine y_istore (pc := 1263) (lv' := zL6 g b i zk zb) hF dW_1263 (by decide) rfl rfl ?_
  have hn2 := Nat.le_trans hn1 z2.1
  have hn3 := Nat.le_trans z1.1 z2.1
  have zt : ∃ A' : aA, zk = σ2 155 0 ∧ (0 ≤ zk ∧ zk ≤ 2) ∧ (zk = 0 → σ2 171 0 = wr zb) ∧ zG (N + 400) σ2 A' := by
    obtain ⟨_, zg, z1⟩ := z1
    obtain ⟨_, z2⟩ := z2
    rcases z1 with ⟨q, rfl, q2, q3⟩ | ⟨q, rfl, q3⟩ | ⟨q, q0, rfl, q3⟩
    · rcases z2 with ⟨p, p0, p1, p2⟩ | ⟨p, p2⟩ | ⟨p, p0, p2⟩
      · exact ⟨_, p2.2.1.symm, (by decide), (fun _ => by rw [p2.1 171 (Or.inr rfl), q2, p1]), cV_mF q3 p2.1, p2.2.2, aW_up hW (by omega)⟩
      · exact absurd q.1 p
      · exact absurd q.2 p0
    · rcases z2 with ⟨p, p0, p1, p2⟩ | ⟨p, p2⟩ | ⟨p, p0, p2⟩
      · exact absurd p q
      · exact ⟨_, p2.2.1.symm, (by decide), (fun z => absurd z (by decide)), cV_mF q3 p2.1, p2.2.2, aW_up (aW_bN hW) (by omega)⟩
      · exact absurd p q
    · rcases z2 with ⟨p, p0, p1, p2⟩ | ⟨p, p2⟩ | ⟨p, p0, p2⟩
      · exact absurd p0 q0
      · exact absurd q p
      · exact ⟨_, p2.2.1.symm, (by decide), (fun z => absurd z (by decide)), cV_mF q3 p2.1, p2.2.2, aW_up (aW_bA hW) (by omega)⟩
  obtain ⟨A', t1, t2, t3, t4⟩ := zt
  exact zl_tail (pc := 1265) E dW_1265 dW_1266 dW_1269 dW_1271 dW_1276 dW_1278 dW_1281 dW_1282 dW_1283 dW_1284 dW_1286 dW_1287 dW_1288 dW_1293 rfl t1 t2 t3 hn2 (by omega) (by omega) (y_wid (by omega) (by omega) (k n2 σ2 A' hn3 t4))
set_option maxHeartbeats 4000000 in
set_option maxRecDepth 100000 in
theorem zc_ring (E : zE x l g b L xs) {N : Int} {A : aA} (G : zG N σ A) (hN0 : 0 ≤ N) (hN : N ≤ 400000000) (hn : 172 ≤ n) {i : Int} (hi : 0 ≤ i ∧ i + 6 ≤ (L : Int)) (hc : cells + 408 ≤ 601024) (hs : slots + 3660 ≤ 7293033) (k : zK x g b Q n N cells slots i) : yV x g 7 Q (SC g) n σ cells slots 1296 (zL g b i) [] := by
  obtain ⟨w, h, ⟨T, S, F, P, O, nf, df, nl, lg⟩, ⟨s, re, fo, ra, tu, we, sh⟩, H, ht, K, tl, tb, fa, r1, r2⟩ := A
  obtain ⟨hC, hM, hW⟩ := G
  have hF := E.1
  have ZN := hN0
  refine y_aload_n (pc := 1296) hF dW_1296 1 rfl ?_
  refine zl_arg (pc := 1297) E dW_1297 dW_1298 dW_1300 dW_1301 dW_1302 rfl rfl (by omega) ?_
  refine zl_arg (pc := 1303) E dW_1303 dW_1304 dW_1306 dW_1307 dW_1308 rfl rfl (by omega) ?_
  refine y_aload_n (pc := 1309) hF dW_1309 3 rfl ?_
  refine y_ci (cells' := cells + 4) (slots' := slots + 24) (y_rSL (pc := 1310) (na := 4) hF E.2.1 E.2.2.1 (tL_ring E.2.2.2.1 hn _ _ _ _ _ _ _ _ _ _ _ _ _ _ _ _ _ _ _ _ _ _ _ _ _ _ _ hC hW (zA xs i 1) (zA xs i 2) (zA_r xs i 1) (zA_r xs i 2)) dW_1310 w_1097 w_1098 wl_ring w_85 ⟨by decide, by decide, by decide +kernel⟩ rfl ⟨Nat.le_of_ble_eq_true rfl, Nat.le_of_ble_eq_true rfl⟩ ⟨by show cells + 4 ≤ 601024; omega, by show slots + 24 ≤ 7293033; omega⟩ (Nat.le_of_ble_eq_true rfl) rfl (rest := [])) rfl rfl (fun zk n1 σ1 z1 => ?_)
  refine y_istore (pc := 1313) (lv' := zL5 g b i zk) hF dW_1313 (by decide) rfl rfl ?_
  have hn1 := Nat.le_trans hn z1.1
  have zM := mV_cG hM z1.2.1
  refine y_aload_n (pc := 1315) hF dW_1315 2 rfl ?_
  refine zl_arg (pc := 1316) E dW_1316 dW_1317 dW_1319 dW_1320 dW_1321 rfl rfl (by omega) ?_
  refine zl_arg (pc := 1322) E dW_1322 dW_1323 dW_1325 dW_1326 dW_1327 rfl rfl (by omega) ?_
  refine y_ci (cells' := cells + 4) (slots' := slots + 24) (y_rV (pc := 1328) (rest := []) hF (tX11_ring hn1 _ _ _ _ _ _ _ _ _ _ _ _ _ _ _ _ _ _ _ _ _ _ _ _ _ _ _ zM hW (zA xs i 1) (zA xs i 2) (zA_r xs i 1) (zA_r xs i 2)) dW_1328 (by omega) rfl rfl rfl w_1637 qX11_ring rfl ⟨Nat.le_of_ble_eq_true rfl, Nat.le_of_ble_eq_true rfl⟩ ⟨by show cells + 4 ≤ 601024; omega, by show slots + 24 ≤ 7293033; omega⟩ (Nat.le_of_ble_eq_true rfl) rfl) rfl rfl (fun zb n2 σ2 z2 => ?_)
  refine y_istore (pc := 1331) (lv' := zL6 g b i zk zb) hF dW_1331 (by decide) rfl rfl ?_
  have hn2 := Nat.le_trans hn1 z2.1
  have hn3 := Nat.le_trans z1.1 z2.1
  have zt : ∃ A' : aA, zk = σ2 155 0 ∧ (0 ≤ zk ∧ zk ≤ 2) ∧ (zk = 0 → σ2 171 0 = wr zb) ∧ zG (N + 400) σ2 A' := by
    obtain ⟨_, zg, z1⟩ := z1
    obtain ⟨_, z2⟩ := z2
    rcases z1 with ⟨q, rfl, q2, q3⟩ | ⟨q, rfl, q3⟩ | ⟨q, q0, rfl, q3⟩
    · rcases z2 with ⟨p, p0, p1, p2⟩ | ⟨p, p2⟩ | ⟨p, p0, p2⟩
      · exact ⟨_, p2.2.1.symm, (by decide), (fun _ => by rw [p2.1 171 (Or.inr rfl), q2, p1]), cV_mF q3 p2.1, p2.2.2, aW_up hW (by omega)⟩
      · exact absurd q.1 p
      · exact absurd q.2 p0
    · rcases z2 with ⟨p, p0, p1, p2⟩ | ⟨p, p2⟩ | ⟨p, p0, p2⟩
      · exact absurd p q
      · exact ⟨_, p2.2.1.symm, (by decide), (fun z => absurd z (by decide)), cV_mF q3 p2.1, p2.2.2, aW_up (aW_bN hW) (by omega)⟩
      · exact absurd p q
    · rcases z2 with ⟨p, p0, p1, p2⟩ | ⟨p, p2⟩ | ⟨p, p0, p2⟩
      · exact absurd p0 q0
      · exact absurd q p
      · exact ⟨_, p2.2.1.symm, (by decide), (fun z => absurd z (by decide)), cV_mF q3 p2.1, p2.2.2, aW_up (aW_bA hW) (by omega)⟩
  obtain ⟨A', t1, t2, t3, t4⟩ := zt
  exact zl_tail (pc := 1333) E dW_1333 dW_1334 dW_1337 dW_1339 dW_1344 dW_1346 dW_1349 dW_1350 dW_1351 dW_1352 dW_1354 dW_1355 dW_1356 dW_1361 rfl t1 t2 t3 hn2 (by omega) (by omega) (y_wid (by omega) (by omega) (k n2 σ2 A' hn3 t4))
set_option maxHeartbeats 4000000 in
set_option maxRecDepth 100000 in
theorem zc_log (E : zE x l g b L xs) {N : Int} {A : aA} (G : zG N σ A) (hN0 : 0 ≤ N) (hN : N ≤ 400000000) (hn : 172 ≤ n) {i : Int} (hi : 0 ≤ i ∧ i + 6 ≤ (L : Int)) (hc : cells + 408 ≤ 601024) (hs : slots + 3660 ≤ 7293033) (k : zK x g b Q n N cells slots i) : yV x g 7 Q (SC g) n σ cells slots 1364 (zL g b i) [] := by
  obtain ⟨w, h, ⟨T, S, F, P, O, nf, df, nl, lg⟩, ⟨s, re, fo, ra, tu, we, sh⟩, H, ht, K, tl, tb, fa, r1, r2⟩ := A
  obtain ⟨hC, hM, hW⟩ := G
  have hF := E.1
  have ZN := hN0
  refine y_aload_n (pc := 1364) hF dW_1364 1 rfl ?_
  refine zl_arg (pc := 1365) E dW_1365 dW_1366 dW_1368 dW_1369 dW_1370 rfl rfl (by omega) ?_
  refine zl_arg (pc := 1371) E dW_1371 dW_1372 dW_1374 dW_1375 dW_1376 rfl rfl (by omega) ?_
  refine y_aload_n (pc := 1377) hF dW_1377 3 rfl ?_
  refine y_ci (cells' := cells + 4) (slots' := slots + 24) (y_rSL (pc := 1378) (na := 4) hF E.2.1 E.2.2.1 (tL_log E.2.2.2.1 hn _ _ _ _ _ _ _ _ _ _ _ _ _ _ _ _ _ _ _ _ _ _ _ _ _ _ _ hC hW (zA xs i 1) (zA xs i 2) (zA_r xs i 1) (zA_r xs i 2)) dW_1378 w_1109 w_1110 wl_log w_85 ⟨by decide, by decide, by decide +kernel⟩ rfl ⟨Nat.le_of_ble_eq_true rfl, Nat.le_of_ble_eq_true rfl⟩ ⟨by show cells + 4 ≤ 601024; omega, by show slots + 24 ≤ 7293033; omega⟩ (Nat.le_of_ble_eq_true rfl) rfl (rest := [])) rfl rfl (fun zk n1 σ1 z1 => ?_)
  refine y_istore (pc := 1381) (lv' := zL5 g b i zk) hF dW_1381 (by decide) rfl rfl ?_
  have hn1 := Nat.le_trans hn z1.1
  have zM := mV_cG hM z1.2.1
  refine y_aload_n (pc := 1383) hF dW_1383 2 rfl ?_
  refine zl_arg (pc := 1384) E dW_1384 dW_1385 dW_1387 dW_1388 dW_1389 rfl rfl (by omega) ?_
  refine zl_arg (pc := 1390) E dW_1390 dW_1391 dW_1393 dW_1394 dW_1395 rfl rfl (by omega) ?_
  refine y_ci (cells' := cells + 4) (slots' := slots + 24) (y_rV (pc := 1396) (rest := []) hF (tX11_log hn1 _ _ _ _ _ _ _ _ _ _ _ _ _ _ _ _ _ _ _ _ _ _ _ _ _ _ _ zM hW (zA xs i 1) (zA xs i 2) (zA_r xs i 1) (zA_r xs i 2)) dW_1396 (by omega) rfl rfl rfl w_1687 qX11_log rfl ⟨Nat.le_of_ble_eq_true rfl, Nat.le_of_ble_eq_true rfl⟩ ⟨by show cells + 4 ≤ 601024; omega, by show slots + 24 ≤ 7293033; omega⟩ (Nat.le_of_ble_eq_true rfl) rfl) rfl rfl (fun zb n2 σ2 z2 => ?_)
  refine y_istore (pc := 1399) (lv' := zL6 g b i zk zb) hF dW_1399 (by decide) rfl rfl ?_
  have hn2 := Nat.le_trans hn1 z2.1
  have hn3 := Nat.le_trans z1.1 z2.1
  have zt : ∃ A' : aA, zk = σ2 155 0 ∧ (0 ≤ zk ∧ zk ≤ 2) ∧ (zk = 0 → σ2 171 0 = wr zb) ∧ zG (N + 400) σ2 A' := by
    obtain ⟨_, zg, z1⟩ := z1
    obtain ⟨_, z2⟩ := z2
    rcases z1 with ⟨q, rfl, q2, q3⟩ | ⟨q, rfl, q3⟩ | ⟨q, q0, rfl, q3⟩
    · rcases z2 with ⟨p, p0, p1, p2⟩ | ⟨p, p2⟩ | ⟨p, p0, p2⟩
      · exact ⟨_, p2.2.1.symm, (by decide), (fun _ => by rw [p2.1 171 (Or.inr rfl), q2, p1]), cV_mF q3 p2.1, p2.2.2, aW_up hW (by omega)⟩
      · exact absurd q.1 p
      · exact absurd q.2 p0
    · rcases z2 with ⟨p, p0, p1, p2⟩ | ⟨p, p2⟩ | ⟨p, p0, p2⟩
      · exact absurd p q
      · exact ⟨_, p2.2.1.symm, (by decide), (fun z => absurd z (by decide)), cV_mF q3 p2.1, p2.2.2, aW_up (aW_bN hW) (by omega)⟩
      · exact absurd p q
    · rcases z2 with ⟨p, p0, p1, p2⟩ | ⟨p, p2⟩ | ⟨p, p0, p2⟩
      · exact absurd p0 q0
      · exact absurd q p
      · exact ⟨_, p2.2.1.symm, (by decide), (fun z => absurd z (by decide)), cV_mF q3 p2.1, p2.2.2, aW_up (aW_bA hW) (by omega)⟩
  obtain ⟨A', t1, t2, t3, t4⟩ := zt
  exact zl_tail (pc := 1401) E dW_1401 dW_1402 dW_1405 dW_1407 dW_1412 dW_1414 dW_1417 dW_1418 dW_1419 dW_1420 dW_1422 dW_1423 dW_1424 dW_1429 rfl t1 t2 t3 hn2 (by omega) (by omega) (y_wid (by omega) (by omega) (k n2 σ2 A' hn3 t4))
end YLA
