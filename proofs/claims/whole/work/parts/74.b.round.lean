-- ===== the rounds of the law's loop =====
section C74
variable {p : Program} {l : Launch} {e : Env} {s : State} {m : MethodId} {args : Array Value} {below : List Frame} {meth : Method} {c : Code} {H : Heap} {locs : List Loc} {cells slots : Nat} {Q : State → Prop}
variable {ls : Array Slot} {D : va_G} {A : Nat → Prop} {cA : Nat → ClassId} {ad adF adW tt a : Nat → Nat} {ao ao2 : Nat} {ad2 a2 : Nat → Nat} {bb L : Nat} {xs : Nat → Int32}
variable {C : Nat} {b : SBb} {g : Nat → Int64} {gd : Nat → UInt64} {σ s' : St} {T : List Nat}
set_option maxHeartbeats 4000000 in
set_option maxRecDepth 100000 in
theorem lawc_16 (K : LC p l s m args meth c D A cA ad adF adW tt bb L xs) (hC : C < 512) (hi : 4 * C + 4 ≤ L) (Nx : LGo p l e s m args below meth c Q D A cA ad a ao ao2 ad2 a2 bb (C + 1)) (hG : GG σ s' C T) (hB : SBT T b) (hP : va_P D vwCl (LW cA ad a ao g T.length b ao2 gd ad2 a2 σ s') H) (hD : va_D A (LW cA ad a ao g T.length b ao2 gd ad2 a2 σ s')) (hS : va_S A s.heap H locs) (hc1 : cells ≤ 254 + 70 * C) (hc2 : slots ≤ 4842 + 680 * C) (hl : lv_has ls 9 (LL bb (a 209) (a2 0) ao ao2 (nI (4 * C)))) : W p l e room_1 s m args below meth c H locs cells slots Q (F0 m 1131 ls []) := by
  have hx := K.1.1
  have hb := K.1.2.1
  obtain ⟨c1, r, σ1, r', s2, e1, e2, hc, h13, hr, hG2⟩ := ca_isWaiting (m := 2000) (Nat.le_refl 2000) hC hG (xs (4 * C + 1))
  refine lv_aload_n hx hb dL_law_1131 rfl (lv_at hl 2 rfl) ?_
  refine la_ld (j := 1) (n := 1) K hS (lv_at hl 1 rfl) (lv_at hl 0 rfl) hi (by decide) rfl dL_law_1132 dL_law_1133 dL_law_1135 dL_law_1136 dL_law_1137 ?_
  refine lv_aload_n hx hb dL_law_1138 rfl (lv_at hl 4 rfl) ?_
  refine la_wr (nA := 3) (As := [.ref (a 209), .int ((xs (4 * C + 1))), .ref ao]) K hC (mL_isWaiting l K.2.1 D cA ad adF adW tt a _ _ stg_E stg_X stg_N 2000 ((xs (4 * C + 1))) σ c1 r σ1 ao g e1 (by simpa using hc)) hP hD hS q5_218 q5_219 q1_0 q5_220 (by decide +kernel) (by decide) hc1 hc2 rfl rfl hl dL_law_1139 dL_law_1142 (fun H locs ls hP hD hS hl => ?_)
  refine lv_aload_n hx hb dL_law_1144 rfl (lv_at hl 4 rfl) ?_
  refine la_ld (j := 1) (n := 1) K hS (lv_at hl 2 rfl) (lv_at hl 1 rfl) hi (by decide) rfl dL_law_1145 dL_law_1146 dL_law_1148 dL_law_1149 dL_law_1150 ?_
  refine la_mi (nA := 1) (As := [.int ((xs (4 * C + 1)))]) K (mX12_isWaiting l D cA ad2 a2 [] 2000 ((xs (4 * C + 1))) s' r' s2 e2) hP hD hS q8_162 q8_163 q8_164 q1_16 q8_165 (by decide +kernel) (by decide) (by omega) (by omega) rfl hl.1 [] rfl (Nat.le_of_ble_eq_true rfl) dL_law_1151 (fun H locs hP hD hS => ?_)
  refine lv_istore (lv' := (7, .int r') :: (6, .int (hix [3] c1)) :: LL bb (a 209) (a2 0) ao ao2 (nI (4 * C))) hx hb dL_law_1154 hl (by decide) rfl (fun ls hl => ?_)
  exact la_tailB K hC Nx hG2 hB h13 (la_finB (by decide) hc hr) hP hD hS (by omega) (by omega) hl dL_law_1156 dL_law_1157 dL_law_1160 dL_law_1162 dL_law_1167 dL_law_1169 dL_law_1172 dL_law_1173 dL_law_1174 dL_law_1175 dL_law_1177 dL_law_1180 dL_law_1181 dL_law_1184 dL_law_1185 dL_law_1186 dL_law_1191 (by decide)
set_option maxHeartbeats 4000000 in
set_option maxRecDepth 100000 in
theorem lawc_17 (K : LC p l s m args meth c D A cA ad adF adW tt bb L xs) (hC : C < 512) (hi : 4 * C + 4 ≤ L) (Nx : LGo p l e s m args below meth c Q D A cA ad a ao ao2 ad2 a2 bb (C + 1)) (hG : GG σ s' C T) (hB : SBT T b) (hP : va_P D vwCl (LW cA ad a ao g T.length b ao2 gd ad2 a2 σ s') H) (hD : va_D A (LW cA ad a ao g T.length b ao2 gd ad2 a2 σ s')) (hS : va_S A s.heap H locs) (hc1 : cells ≤ 254 + 70 * C) (hc2 : slots ≤ 4842 + 680 * C) (hl : lv_has ls 9 (LL bb (a 209) (a2 0) ao ao2 (nI (4 * C)))) : W p l e room_1 s m args below meth c H locs cells slots Q (F0 m 1194 ls []) := by
  have hx := K.1.1
  have hb := K.1.2.1
  obtain ⟨c1, r, σ1, r', s2, e1, e2, hc, h13, hr, hG2⟩ := ca_wheelOf (m := 2000) (Nat.le_refl 2000) hC hG (xs (4 * C + 1))
  refine lv_aload_n hx hb dL_law_1194 rfl (lv_at hl 2 rfl) ?_
  refine la_ld (j := 1) (n := 1) K hS (lv_at hl 1 rfl) (lv_at hl 0 rfl) hi (by decide) rfl dL_law_1195 dL_law_1196 dL_law_1198 dL_law_1199 dL_law_1200 ?_
  refine lv_aload_n hx hb dL_law_1201 rfl (lv_at hl 4 rfl) ?_
  refine la_wr (nA := 3) (As := [.ref (a 209), .int ((xs (4 * C + 1))), .ref ao]) K hC (mL_wheelOf l K.2.1 D cA ad adF adW tt a _ _ stg_E stg_X stg_N 2000 ((xs (4 * C + 1))) σ c1 r σ1 ao g e1 (by simpa using hc)) hP hD hS q5_225 q5_226 q1_0 q5_227 (by decide +kernel) (by decide) hc1 hc2 rfl rfl hl dL_law_1202 dL_law_1205 (fun H locs ls hP hD hS hl => ?_)
  refine lv_aload_n hx hb dL_law_1207 rfl (lv_at hl 4 rfl) ?_
  refine la_ld (j := 1) (n := 1) K hS (lv_at hl 2 rfl) (lv_at hl 1 rfl) hi (by decide) rfl dL_law_1208 dL_law_1209 dL_law_1211 dL_law_1212 dL_law_1213 ?_
  refine la_mi (nA := 1) (As := [.int ((xs (4 * C + 1)))]) K (mX12_wheelOf l D cA ad2 a2 [] 2000 ((xs (4 * C + 1))) s' r' s2 e2) hP hD hS q8_166 q8_167 q8_168 q1_16 q8_169 (by decide +kernel) (by decide) (by omega) (by omega) rfl hl.1 [] rfl (Nat.le_of_ble_eq_true rfl) dL_law_1214 (fun H locs hP hD hS => ?_)
  refine lv_istore (lv' := (7, .int r') :: (6, .int (hix [3] c1)) :: LL bb (a 209) (a2 0) ao ao2 (nI (4 * C))) hx hb dL_law_1217 hl (by decide) rfl (fun ls hl => ?_)
  exact la_tail K hC Nx hG2 hB h13 (la_fin (by decide) hc hr) hP hD hS (by omega) (by omega) hl dL_law_1219 dL_law_1220 dL_law_1223 dL_law_1225 dL_law_1230 dL_law_1232 dL_law_1235 dL_law_1236 dL_law_1237 dL_law_1238 dL_law_1240 dL_law_1241 dL_law_1242 dL_law_1247 (by decide)
set_option maxHeartbeats 4000000 in
set_option maxRecDepth 100000 in
theorem lawc_18 (K : LC p l s m args meth c D A cA ad adF adW tt bb L xs) (hC : C < 512) (hi : 4 * C + 4 ≤ L) (Nx : LGo p l e s m args below meth c Q D A cA ad a ao ao2 ad2 a2 bb (C + 1)) (hG : GG σ s' C T) (hB : SBT T b) (hP : va_P D vwCl (LW cA ad a ao g T.length b ao2 gd ad2 a2 σ s') H) (hD : va_D A (LW cA ad a ao g T.length b ao2 gd ad2 a2 σ s')) (hS : va_S A s.heap H locs) (hc1 : cells ≤ 254 + 70 * C) (hc2 : slots ≤ 4842 + 680 * C) (hl : lv_has ls 9 (LL bb (a 209) (a2 0) ao ao2 (nI (4 * C)))) : W p l e room_1 s m args below meth c H locs cells slots Q (F0 m 1250 ls []) := by
  have hx := K.1.1
  have hb := K.1.2.1
  obtain ⟨c1, r, σ1, r', s2, e1, e2, hc, h13, hr, hG2⟩ := ca_noiseOn hG hC (xs (4 * C + 1))
  refine lv_aload_n hx hb dL_law_1250 rfl (lv_at hl 2 rfl) ?_
  refine la_ld (j := 1) (n := 1) K hS (lv_at hl 1 rfl) (lv_at hl 0 rfl) hi (by decide) rfl dL_law_1251 dL_law_1252 dL_law_1254 dL_law_1255 dL_law_1256 ?_
  refine lv_aload_n hx hb dL_law_1257 rfl (lv_at hl 4 rfl) ?_
  refine la_wr (nA := 3) (As := [.ref (a 209), .int ((xs (4 * C + 1))), .ref ao]) K hC (mL_noiseOn l K.2.1 D cA ad adF adW tt a _ _ stg_E stg_X stg_N ((xs (4 * C + 1))) σ c1 r σ1 ao g e1 (by simpa using hc)) hP hD hS q5_236 q5_237 q1_0 q5_238 (by decide +kernel) (by decide) hc1 hc2 rfl rfl hl dL_law_1258 dL_law_1261 (fun H locs ls hP hD hS hl => ?_)
  refine lv_aload_n hx hb dL_law_1263 rfl (lv_at hl 4 rfl) ?_
  refine la_ld (j := 1) (n := 1) K hS (lv_at hl 2 rfl) (lv_at hl 1 rfl) hi (by decide) rfl dL_law_1264 dL_law_1265 dL_law_1267 dL_law_1268 dL_law_1269 ?_
  refine la_mi (nA := 1) (As := [.int ((xs (4 * C + 1)))]) K (mX12_noiseOn l D cA ad2 a2 [] ((xs (4 * C + 1))) s' r' s2 e2) hP hD hS q8_170 q8_171 q8_172 q1_16 q8_173 (by decide +kernel) (by decide) (by omega) (by omega) rfl hl.1 [] rfl (Nat.le_of_ble_eq_true rfl) dL_law_1270 (fun H locs hP hD hS => ?_)
  refine lv_istore (lv' := (7, .int r') :: (6, .int (hix [2, 3] c1)) :: LL bb (a 209) (a2 0) ao ao2 (nI (4 * C))) hx hb dL_law_1273 hl (by decide) rfl (fun ls hl => ?_)
  exact la_tail K hC Nx hG2 hB h13 (la_fin (by decide) hc hr) hP hD hS (by omega) (by omega) hl dL_law_1275 dL_law_1276 dL_law_1279 dL_law_1281 dL_law_1286 dL_law_1288 dL_law_1291 dL_law_1292 dL_law_1293 dL_law_1294 dL_law_1296 dL_law_1297 dL_law_1298 dL_law_1303 (by decide)
set_option maxHeartbeats 4000000 in
set_option maxRecDepth 100000 in
theorem lawc_19 (K : LC p l s m args meth c D A cA ad adF adW tt bb L xs) (hC : C < 512) (hi : 4 * C + 4 ≤ L) (Nx : LGo p l e s m args below meth c Q D A cA ad a ao ao2 ad2 a2 bb (C + 1)) (hG : GG σ s' C T) (hB : SBT T b) (hP : va_P D vwCl (LW cA ad a ao g T.length b ao2 gd ad2 a2 σ s') H) (hD : va_D A (LW cA ad a ao g T.length b ao2 gd ad2 a2 σ s')) (hS : va_S A s.heap H locs) (hc1 : cells ≤ 254 + 70 * C) (hc2 : slots ≤ 4842 + 680 * C) (hl : lv_has ls 9 (LL bb (a 209) (a2 0) ao ao2 (nI (4 * C)))) : W p l e room_1 s m args below meth c H locs cells slots Q (F0 m 1306 ls []) := by
  have hx := K.1.1
  have hb := K.1.2.1
  obtain ⟨c1, r, σ1, r', s2, e1, e2, hc, h13, hr, hG2⟩ := ca_gear hG (xs (4 * C + 1))
  refine lv_aload_n hx hb dL_law_1306 rfl (lv_at hl 2 rfl) ?_
  refine la_ld (j := 1) (n := 1) K hS (lv_at hl 1 rfl) (lv_at hl 0 rfl) hi (by decide) rfl dL_law_1307 dL_law_1308 dL_law_1310 dL_law_1311 dL_law_1312 ?_
  refine lv_aload_n hx hb dL_law_1313 rfl (lv_at hl 4 rfl) ?_
  refine la_wr (nA := 3) (As := [.ref (a 209), .int ((xs (4 * C + 1))), .ref ao]) K hC (mL_gear l K.2.1 D cA ad adF adW tt a _ _ stg_E stg_X stg_N ((xs (4 * C + 1))) σ c1 r σ1 ao g e1 (by simpa using hc)) hP hD hS q6_9 q6_10 q1_0 q6_11 (by decide +kernel) (by decide) hc1 hc2 rfl rfl hl dL_law_1314 dL_law_1317 (fun H locs ls hP hD hS hl => ?_)
  refine lv_aload_n hx hb dL_law_1319 rfl (lv_at hl 4 rfl) ?_
  refine la_ld (j := 1) (n := 1) K hS (lv_at hl 2 rfl) (lv_at hl 1 rfl) hi (by decide) rfl dL_law_1320 dL_law_1321 dL_law_1323 dL_law_1324 dL_law_1325 ?_
  refine la_mi (nA := 1) (As := [.int ((xs (4 * C + 1)))]) K (mX12_gear l D cA ad2 a2 [] ((xs (4 * C + 1))) s' r' s2 e2) hP hD hS q8_174 q8_175 q8_176 q1_16 q8_177 (by decide +kernel) (by decide) (by omega) (by omega) rfl hl.1 [] rfl (Nat.le_of_ble_eq_true rfl) dL_law_1326 (fun H locs hP hD hS => ?_)
  refine lv_istore (lv' := (7, .int r') :: (6, .int (hix [2] c1)) :: LL bb (a 209) (a2 0) ao ao2 (nI (4 * C))) hx hb dL_law_1329 hl (by decide) rfl (fun ls hl => ?_)
  exact la_tail K hC Nx hG2 hB h13 (la_fin (by decide) hc hr) hP hD hS (by omega) (by omega) hl dL_law_1331 dL_law_1332 dL_law_1335 dL_law_1337 dL_law_1342 dL_law_1344 dL_law_1347 dL_law_1348 dL_law_1349 dL_law_1350 dL_law_1352 dL_law_1353 dL_law_1354 dL_law_1359 (by decide)
set_option maxHeartbeats 4000000 in
set_option maxRecDepth 100000 in
theorem lawc_20 (K : LC p l s m args meth c D A cA ad adF adW tt bb L xs) (hC : C < 512) (hi : 4 * C + 4 ≤ L) (Nx : LGo p l e s m args below meth c Q D A cA ad a ao ao2 ad2 a2 bb (C + 1)) (hG : GG σ s' C T) (hB : SBT T b) (hP : va_P D vwCl (LW cA ad a ao g T.length b ao2 gd ad2 a2 σ s') H) (hD : va_D A (LW cA ad a ao g T.length b ao2 gd ad2 a2 σ s')) (hS : va_S A s.heap H locs) (hc1 : cells ≤ 254 + 70 * C) (hc2 : slots ≤ 4842 + 680 * C) (hl : lv_has ls 9 (LL bb (a 209) (a2 0) ao ao2 (nI (4 * C)))) : W p l e room_1 s m args below meth c H locs cells slots Q (F0 m 1362 ls []) := by
  have hx := K.1.1
  have hb := K.1.2.1
  obtain ⟨c1, r, σ1, r', s2, e1, e2, hc, h13, hr, hG2⟩ := ca_wear hG (xs (4 * C + 1))
  refine lv_aload_n hx hb dL_law_1362 rfl (lv_at hl 2 rfl) ?_
  refine la_ld (j := 1) (n := 1) K hS (lv_at hl 1 rfl) (lv_at hl 0 rfl) hi (by decide) rfl dL_law_1363 dL_law_1364 dL_law_1366 dL_law_1367 dL_law_1368 ?_
  refine lv_aload_n hx hb dL_law_1369 rfl (lv_at hl 4 rfl) ?_
  refine la_wr (nA := 3) (As := [.ref (a 209), .int ((xs (4 * C + 1))), .ref ao]) K hC (mL_wear l K.2.1 D cA ad adF adW tt a _ _ stg_E stg_X stg_N ((xs (4 * C + 1))) σ c1 r σ1 ao g e1 (by simpa using hc)) hP hD hS q6_16 q6_17 q1_0 q6_18 (by decide +kernel) (by decide) hc1 hc2 rfl rfl hl dL_law_1370 dL_law_1373 (fun H locs ls hP hD hS hl => ?_)
  refine lv_aload_n hx hb dL_law_1375 rfl (lv_at hl 4 rfl) ?_
  refine la_ld (j := 1) (n := 1) K hS (lv_at hl 2 rfl) (lv_at hl 1 rfl) hi (by decide) rfl dL_law_1376 dL_law_1377 dL_law_1379 dL_law_1380 dL_law_1381 ?_
  refine la_mi (nA := 1) (As := [.int ((xs (4 * C + 1)))]) K (mX12_wear l D cA ad2 a2 [] ((xs (4 * C + 1))) s' r' s2 e2) hP hD hS q8_182 q8_183 q8_184 q1_16 q8_185 (by decide +kernel) (by decide) (by omega) (by omega) rfl hl.1 [] rfl (Nat.le_of_ble_eq_true rfl) dL_law_1382 (fun H locs hP hD hS => ?_)
  refine lv_istore (lv' := (7, .int r') :: (6, .int (hix [2] c1)) :: LL bb (a 209) (a2 0) ao ao2 (nI (4 * C))) hx hb dL_law_1385 hl (by decide) rfl (fun ls hl => ?_)
  exact la_tail K hC Nx hG2 hB h13 (la_fin (by decide) hc hr) hP hD hS (by omega) (by omega) hl dL_law_1387 dL_law_1388 dL_law_1391 dL_law_1393 dL_law_1398 dL_law_1400 dL_law_1403 dL_law_1404 dL_law_1405 dL_law_1406 dL_law_1408 dL_law_1409 dL_law_1410 dL_law_1415 (by decide)
set_option maxHeartbeats 4000000 in
set_option maxRecDepth 100000 in
theorem lawc_21 (K : LC p l s m args meth c D A cA ad adF adW tt bb L xs) (hC : C < 512) (hi : 4 * C + 4 ≤ L) (Nx : LGo p l e s m args below meth c Q D A cA ad a ao ao2 ad2 a2 bb (C + 1)) (hG : GG σ s' C T) (hB : SBT T b) (hP : va_P D vwCl (LW cA ad a ao g T.length b ao2 gd ad2 a2 σ s') H) (hD : va_D A (LW cA ad a ao g T.length b ao2 gd ad2 a2 σ s')) (hS : va_S A s.heap H locs) (hc1 : cells ≤ 254 + 70 * C) (hc2 : slots ≤ 4842 + 680 * C) (hl : lv_has ls 9 (LL bb (a 209) (a2 0) ao ao2 (nI (4 * C)))) : W p l e room_1 s m args below meth c H locs cells slots Q (F0 m 1418 ls []) := by
  have hx := K.1.1
  have hb := K.1.2.1
  obtain ⟨c1, r, σ1, r', s2, e1, e2, hc, h13, hr, hG2⟩ := ca_isJammed hG (xs (4 * C + 1))
  refine lv_aload_n hx hb dL_law_1418 rfl (lv_at hl 2 rfl) ?_
  refine la_ld (j := 1) (n := 1) K hS (lv_at hl 1 rfl) (lv_at hl 0 rfl) hi (by decide) rfl dL_law_1419 dL_law_1420 dL_law_1422 dL_law_1423 dL_law_1424 ?_
  refine lv_aload_n hx hb dL_law_1425 rfl (lv_at hl 4 rfl) ?_
  refine la_wr (nA := 3) (As := [.ref (a 209), .int ((xs (4 * C + 1))), .ref ao]) K hC (mL_isJammed l K.2.1 D cA ad adF adW tt a _ _ stg_E stg_X stg_N ((xs (4 * C + 1))) σ c1 r σ1 ao g e1 (by simpa using hc)) hP hD hS q6_23 q6_24 q1_0 q6_25 (by decide +kernel) (by decide) hc1 hc2 rfl rfl hl dL_law_1426 dL_law_1429 (fun H locs ls hP hD hS hl => ?_)
  refine lv_aload_n hx hb dL_law_1431 rfl (lv_at hl 4 rfl) ?_
  refine la_ld (j := 1) (n := 1) K hS (lv_at hl 2 rfl) (lv_at hl 1 rfl) hi (by decide) rfl dL_law_1432 dL_law_1433 dL_law_1435 dL_law_1436 dL_law_1437 ?_
  refine la_mi (nA := 1) (As := [.int ((xs (4 * C + 1)))]) K (mX12_isJammed l D cA ad2 a2 [] ((xs (4 * C + 1))) s' r' s2 e2) hP hD hS q8_186 q8_187 q8_188 q1_16 q8_189 (by decide +kernel) (by decide) (by omega) (by omega) rfl hl.1 [] rfl (Nat.le_of_ble_eq_true rfl) dL_law_1438 (fun H locs hP hD hS => ?_)
  refine lv_istore (lv' := (7, .int r') :: (6, .int (hix [2] c1)) :: LL bb (a 209) (a2 0) ao ao2 (nI (4 * C))) hx hb dL_law_1441 hl (by decide) rfl (fun ls hl => ?_)
  exact la_tailB K hC Nx hG2 hB h13 (la_finB (by decide) hc hr) hP hD hS (by omega) (by omega) hl dL_law_1443 dL_law_1444 dL_law_1447 dL_law_1449 dL_law_1454 dL_law_1456 dL_law_1459 dL_law_1460 dL_law_1461 dL_law_1462 dL_law_1464 dL_law_1467 dL_law_1468 dL_law_1471 dL_law_1472 dL_law_1473 dL_law_1478 (by decide)
set_option maxHeartbeats 4000000 in
set_option maxRecDepth 100000 in
theorem lawc_22 (K : LC p l s m args meth c D A cA ad adF adW tt bb L xs) (hC : C < 512) (hi : 4 * C + 4 ≤ L) (Nx : LGo p l e s m args below meth c Q D A cA ad a ao ao2 ad2 a2 bb (C + 1)) (hG : GG σ s' C T) (hB : SBT T b) (hP : va_P D vwCl (LW cA ad a ao g T.length b ao2 gd ad2 a2 σ s') H) (hD : va_D A (LW cA ad a ao g T.length b ao2 gd ad2 a2 σ s')) (hS : va_S A s.heap H locs) (hc1 : cells ≤ 254 + 70 * C) (hc2 : slots ≤ 4842 + 680 * C) (hl : lv_has ls 9 (LL bb (a 209) (a2 0) ao ao2 (nI (4 * C)))) : W p l e room_1 s m args below meth c H locs cells slots Q (F0 m 1481 ls []) := by
  have hx := K.1.1
  have hb := K.1.2.1
  obtain ⟨c1, r, σ1, r', s2, e1, e2, hc, h13, hr, hG2⟩ := ca_mesh hG (xs (4 * C + 1))
  refine lv_aload_n hx hb dL_law_1481 rfl (lv_at hl 2 rfl) ?_
  refine la_ld (j := 1) (n := 1) K hS (lv_at hl 1 rfl) (lv_at hl 0 rfl) hi (by decide) rfl dL_law_1482 dL_law_1483 dL_law_1485 dL_law_1486 dL_law_1487 ?_
  refine lv_aload_n hx hb dL_law_1488 rfl (lv_at hl 4 rfl) ?_
  refine la_wr (nA := 3) (As := [.ref (a 209), .int ((xs (4 * C + 1))), .ref ao]) K hC (mL_mesh l K.2.1 D cA ad adF adW tt a _ _ stg_E stg_X stg_N ((xs (4 * C + 1))) σ c1 r σ1 ao g e1 (by simpa using hc)) hP hD hS q6_30 q6_31 q1_0 q6_32 (by decide +kernel) (by decide) hc1 hc2 rfl rfl hl dL_law_1489 dL_law_1492 (fun H locs ls hP hD hS hl => ?_)
  refine lv_aload_n hx hb dL_law_1494 rfl (lv_at hl 4 rfl) ?_
  refine la_ld (j := 1) (n := 1) K hS (lv_at hl 2 rfl) (lv_at hl 1 rfl) hi (by decide) rfl dL_law_1495 dL_law_1496 dL_law_1498 dL_law_1499 dL_law_1500 ?_
  refine la_mi (nA := 1) (As := [.int ((xs (4 * C + 1)))]) K (mX12_mesh l D cA ad2 a2 [] ((xs (4 * C + 1))) s' r' s2 e2) hP hD hS q8_190 q8_191 q8_192 q1_16 q8_193 (by decide +kernel) (by decide) (by omega) (by omega) rfl hl.1 [] rfl (Nat.le_of_ble_eq_true rfl) dL_law_1501 (fun H locs hP hD hS => ?_)
  refine lv_istore (lv' := (7, .int r') :: (6, .int (hix [1] c1)) :: LL bb (a 209) (a2 0) ao ao2 (nI (4 * C))) hx hb dL_law_1504 hl (by decide) rfl (fun ls hl => ?_)
  exact la_tail K hC Nx hG2 hB h13 (la_fin (by decide) hc hr) hP hD hS (by omega) (by omega) hl dL_law_1506 dL_law_1507 dL_law_1510 dL_law_1512 dL_law_1517 dL_law_1519 dL_law_1522 dL_law_1523 dL_law_1524 dL_law_1525 dL_law_1527 dL_law_1528 dL_law_1529 dL_law_1534 (by decide)
set_option maxHeartbeats 4000000 in
set_option maxRecDepth 100000 in
theorem lawc_23 (K : LC p l s m args meth c D A cA ad adF adW tt bb L xs) (hC : C < 512) (hi : 4 * C + 4 ≤ L) (Nx : LGo p l e s m args below meth c Q D A cA ad a ao ao2 ad2 a2 bb (C + 1)) (hG : GG σ s' C T) (hB : SBT T b) (hP : va_P D vwCl (LW cA ad a ao g T.length b ao2 gd ad2 a2 σ s') H) (hD : va_D A (LW cA ad a ao g T.length b ao2 gd ad2 a2 σ s')) (hS : va_S A s.heap H locs) (hc1 : cells ≤ 254 + 70 * C) (hc2 : slots ≤ 4842 + 680 * C) (hl : lv_has ls 9 (LL bb (a 209) (a2 0) ao ao2 (nI (4 * C)))) : W p l e room_1 s m args below meth c H locs cells slots Q (F0 m 1537 ls []) := by
  have hx := K.1.1
  have hb := K.1.2.1
  obtain ⟨c1, r, σ1, r', s2, e1, e2, hc, h13, hr, hG2⟩ := ca_isBandGround hG (xs (4 * C + 1))
  refine lv_aload_n hx hb dL_law_1537 rfl (lv_at hl 2 rfl) ?_
  refine la_ld (j := 1) (n := 1) K hS (lv_at hl 1 rfl) (lv_at hl 0 rfl) hi (by decide) rfl dL_law_1538 dL_law_1539 dL_law_1541 dL_law_1542 dL_law_1543 ?_
  refine lv_aload_n hx hb dL_law_1544 rfl (lv_at hl 4 rfl) ?_
  refine la_wr (nA := 3) (As := [.ref (a 209), .int ((xs (4 * C + 1))), .ref ao]) K hC (mL_isBandGround l K.2.1 D cA ad adF adW tt a _ _ stg_E stg_X stg_N ((xs (4 * C + 1))) σ c1 r σ1 ao g e1 (by simpa using hc)) hP hD hS q6_42 q6_43 q1_0 q6_44 (by decide +kernel) (by decide) hc1 hc2 rfl rfl hl dL_law_1545 dL_law_1548 (fun H locs ls hP hD hS hl => ?_)
  refine lv_aload_n hx hb dL_law_1550 rfl (lv_at hl 4 rfl) ?_
  refine la_ld (j := 1) (n := 1) K hS (lv_at hl 2 rfl) (lv_at hl 1 rfl) hi (by decide) rfl dL_law_1551 dL_law_1552 dL_law_1554 dL_law_1555 dL_law_1556 ?_
  refine la_mi (nA := 1) (As := [.int ((xs (4 * C + 1)))]) K (mX12_isBandGround l D cA ad2 a2 [] ((xs (4 * C + 1))) s' r' s2 e2) hP hD hS q8_198 q8_199 q8_200 q1_16 q8_201 (by decide +kernel) (by decide) (by omega) (by omega) rfl hl.1 [] rfl (Nat.le_of_ble_eq_true rfl) dL_law_1557 (fun H locs hP hD hS => ?_)
  refine lv_istore (lv' := (7, .int r') :: (6, .int (hix [1] c1)) :: LL bb (a 209) (a2 0) ao ao2 (nI (4 * C))) hx hb dL_law_1560 hl (by decide) rfl (fun ls hl => ?_)
  exact la_tailB K hC Nx hG2 hB h13 (la_finB (by decide) hc hr) hP hD hS (by omega) (by omega) hl dL_law_1562 dL_law_1563 dL_law_1566 dL_law_1568 dL_law_1573 dL_law_1575 dL_law_1578 dL_law_1579 dL_law_1580 dL_law_1581 dL_law_1583 dL_law_1586 dL_law_1587 dL_law_1590 dL_law_1591 dL_law_1592 dL_law_1597 (by decide)
set_option maxHeartbeats 4000000 in
set_option maxRecDepth 100000 in
theorem lawc_24 (K : LC p l s m args meth c D A cA ad adF adW tt bb L xs) (hC : C < 512) (hi : 4 * C + 4 ≤ L) (Nx : LGo p l e s m args below meth c Q D A cA ad a ao ao2 ad2 a2 bb (C + 1)) (hG : GG σ s' C T) (hB : SBT T b) (hP : va_P D vwCl (LW cA ad a ao g T.length b ao2 gd ad2 a2 σ s') H) (hD : va_D A (LW cA ad a ao g T.length b ao2 gd ad2 a2 σ s')) (hS : va_S A s.heap H locs) (hc1 : cells ≤ 254 + 70 * C) (hc2 : slots ≤ 4842 + 680 * C) (hl : lv_has ls 9 (LL bb (a 209) (a2 0) ao ao2 (nI (4 * C)))) : W p l e room_1 s m args below meth c H locs cells slots Q (F0 m 1600 ls []) := by
  have hx := K.1.1
  have hb := K.1.2.1
  obtain ⟨r, σ1, s2, e1, e2, hG2⟩ := ca_groundBands (m := 2000) (Nat.le_refl 2000) hG
  refine lv_aload_n hx hb dL_law_1600 rfl (lv_at hl 2 rfl) ?_
  refine la_x (nA := 0) (As := []) K (mX11_groundBands l D cA ad adF adW tt a _ _ stg_E 2000 σ r σ1 e1) hP hD hS q2_100 q2_101 q2_102 q1_1 q2_103 (by decide +kernel) (by decide) (by omega) (by omega) rfl hl.1 [] rfl (Nat.le_of_ble_eq_true rfl) dL_law_1601 (fun H locs hP hD hS => ?_)
  refine lv_aload_n hx hb dL_law_1604 rfl (lv_at hl 3 rfl) ?_
  refine la_mi (nA := 0) (As := []) K (mX12_groundBands l D cA ad2 a2 [] 2000 s' r s2 e2) hP hD hS q8_202 q8_203 q8_204 q1_16 q8_205 (by decide +kernel) (by decide) (by omega) (by omega) rfl hl.1 [.int r] rfl (Nat.le_of_ble_eq_true rfl) dL_law_1605 (fun H locs hP hD hS => ?_)
  refine lv_icmp_eq (tgt := 3090) hx hb dL_law_1608 (by decide) (fun _ => ?_) (fun h => absurd rfl h)
  exact la_end K Nx hG2 hB hP hD hS (by omega) (by omega) hl
set_option maxHeartbeats 4000000 in
set_option maxRecDepth 100000 in
theorem lawc_25 (K : LC p l s m args meth c D A cA ad adF adW tt bb L xs) (hC : C < 512) (hi : 4 * C + 4 ≤ L) (Nx : LGo p l e s m args below meth c Q D A cA ad a ao ao2 ad2 a2 bb (C + 1)) (hG : GG σ s' C T) (hB : SBT T b) (hP : va_P D vwCl (LW cA ad a ao g T.length b ao2 gd ad2 a2 σ s') H) (hD : va_D A (LW cA ad a ao g T.length b ao2 gd ad2 a2 σ s')) (hS : va_S A s.heap H locs) (hc1 : cells ≤ 254 + 70 * C) (hc2 : slots ≤ 4842 + 680 * C) (hl : lv_has ls 9 (LL bb (a 209) (a2 0) ao ao2 (nI (4 * C)))) : W p l e room_1 s m args below meth c H locs cells slots Q (F0 m 1613 ls []) := by
  have hx := K.1.1
  have hb := K.1.2.1
  obtain ⟨c1, r, σ1, r', s2, e1, e2, hc, h13, hr, hG2⟩ := ca_flour hG (xs (4 * C + 1))
  refine lv_aload_n hx hb dL_law_1613 rfl (lv_at hl 2 rfl) ?_
  refine la_ld (j := 1) (n := 1) K hS (lv_at hl 1 rfl) (lv_at hl 0 rfl) hi (by decide) rfl dL_law_1614 dL_law_1615 dL_law_1617 dL_law_1618 dL_law_1619 ?_
  refine lv_aload_n hx hb dL_law_1620 rfl (lv_at hl 4 rfl) ?_
  refine la_wr (nA := 3) (As := [.ref (a 209), .int ((xs (4 * C + 1))), .ref ao]) K hC (mL_flour l K.2.1 D cA ad adF adW tt a _ _ stg_E stg_X stg_N ((xs (4 * C + 1))) σ c1 r σ1 ao g e1 (by simpa using hc)) hP hD hS q6_49 q6_50 q1_0 q6_51 (by decide +kernel) (by decide) hc1 hc2 rfl rfl hl dL_law_1621 dL_law_1624 (fun H locs ls hP hD hS hl => ?_)
  refine lv_aload_n hx hb dL_law_1626 rfl (lv_at hl 4 rfl) ?_
  refine la_ld (j := 1) (n := 1) K hS (lv_at hl 2 rfl) (lv_at hl 1 rfl) hi (by decide) rfl dL_law_1627 dL_law_1628 dL_law_1630 dL_law_1631 dL_law_1632 ?_
  refine la_mi (nA := 1) (As := [.int ((xs (4 * C + 1)))]) K (mX12_flour l D cA ad2 a2 [] ((xs (4 * C + 1))) s' r' s2 e2) hP hD hS q8_206 q8_207 q8_208 q1_16 q8_209 (by decide +kernel) (by decide) (by omega) (by omega) rfl hl.1 [] rfl (Nat.le_of_ble_eq_true rfl) dL_law_1633 (fun H locs hP hD hS => ?_)
  refine lv_istore (lv' := (7, .int r') :: (6, .int (hix [1] c1)) :: LL bb (a 209) (a2 0) ao ao2 (nI (4 * C))) hx hb dL_law_1636 hl (by decide) rfl (fun ls hl => ?_)
  exact la_tail K hC Nx hG2 hB h13 (la_fin (by decide) hc hr) hP hD hS (by omega) (by omega) hl dL_law_1638 dL_law_1639 dL_law_1642 dL_law_1644 dL_law_1649 dL_law_1651 dL_law_1654 dL_law_1655 dL_law_1656 dL_law_1657 dL_law_1659 dL_law_1660 dL_law_1661 dL_law_1666 (by decide)
set_option maxHeartbeats 4000000 in
set_option maxRecDepth 100000 in
theorem lawc_26 (K : LC p l s m args meth c D A cA ad adF adW tt bb L xs) (hC : C < 512) (hi : 4 * C + 4 ≤ L) (Nx : LGo p l e s m args below meth c Q D A cA ad a ao ao2 ad2 a2 bb (C + 1)) (hG : GG σ s' C T) (hB : SBT T b) (hP : va_P D vwCl (LW cA ad a ao g T.length b ao2 gd ad2 a2 σ s') H) (hD : va_D A (LW cA ad a ao g T.length b ao2 gd ad2 a2 σ s')) (hS : va_S A s.heap H locs) (hc1 : cells ≤ 254 + 70 * C) (hc2 : slots ≤ 4842 + 680 * C) (hl : lv_has ls 9 (LL bb (a 209) (a2 0) ao ao2 (nI (4 * C)))) : W p l e room_1 s m args below meth c H locs cells slots Q (F0 m 1669 ls []) := by
  have hx := K.1.1
  have hb := K.1.2.1
  obtain ⟨c1, r, σ1, r', s2, e1, e2, hc, h13, hr, hG2⟩ := ca_flourByRecords (m := 2000) (Nat.le_refl 2000) hG (xs (4 * C + 1))
  refine lv_aload_n hx hb dL_law_1669 rfl (lv_at hl 2 rfl) ?_
  refine la_ld (j := 1) (n := 1) K hS (lv_at hl 1 rfl) (lv_at hl 0 rfl) hi (by decide) rfl dL_law_1670 dL_law_1671 dL_law_1673 dL_law_1674 dL_law_1675 ?_
  refine lv_aload_n hx hb dL_law_1676 rfl (lv_at hl 4 rfl) ?_
  refine la_wr (nA := 3) (As := [.ref (a 209), .int ((xs (4 * C + 1))), .ref ao]) K hC (mL_flourByRecords l K.2.1 D cA ad adF adW tt a _ _ stg_E stg_X stg_N 2000 ((xs (4 * C + 1))) σ c1 r σ1 ao g e1 (by simpa using hc)) hP hD hS q6_61 q6_62 q1_0 q6_63 (by decide +kernel) (by decide) hc1 hc2 rfl rfl hl dL_law_1677 dL_law_1680 (fun H locs ls hP hD hS hl => ?_)
  refine lv_aload_n hx hb dL_law_1682 rfl (lv_at hl 4 rfl) ?_
  refine la_ld (j := 1) (n := 1) K hS (lv_at hl 2 rfl) (lv_at hl 1 rfl) hi (by decide) rfl dL_law_1683 dL_law_1684 dL_law_1686 dL_law_1687 dL_law_1688 ?_
  refine la_mi (nA := 1) (As := [.int ((xs (4 * C + 1)))]) K (mX12_flourByRecords l D cA ad2 a2 [] ((xs (4 * C + 1))) s' r' s2 e2) hP hD hS q8_210 q8_211 q8_212 q1_16 q8_213 (by decide +kernel) (by decide) (by omega) (by omega) rfl hl.1 [] rfl (Nat.le_of_ble_eq_true rfl) dL_law_1689 (fun H locs hP hD hS => ?_)
  refine lv_istore (lv' := (7, .int r') :: (6, .int (hix [1] c1)) :: LL bb (a 209) (a2 0) ao ao2 (nI (4 * C))) hx hb dL_law_1692 hl (by decide) rfl (fun ls hl => ?_)
  exact la_tail K hC Nx hG2 hB h13 (la_fin (by decide) hc hr) hP hD hS (by omega) (by omega) hl dL_law_1694 dL_law_1695 dL_law_1698 dL_law_1700 dL_law_1705 dL_law_1707 dL_law_1710 dL_law_1711 dL_law_1712 dL_law_1713 dL_law_1715 dL_law_1716 dL_law_1717 dL_law_1722 (by decide)
set_option maxHeartbeats 4000000 in
set_option maxRecDepth 100000 in
theorem lawc_27 (K : LC p l s m args meth c D A cA ad adF adW tt bb L xs) (hC : C < 512) (hi : 4 * C + 4 ≤ L) (Nx : LGo p l e s m args below meth c Q D A cA ad a ao ao2 ad2 a2 bb (C + 1)) (hG : GG σ s' C T) (hB : SBT T b) (hP : va_P D vwCl (LW cA ad a ao g T.length b ao2 gd ad2 a2 σ s') H) (hD : va_D A (LW cA ad a ao g T.length b ao2 gd ad2 a2 σ s')) (hS : va_S A s.heap H locs) (hc1 : cells ≤ 254 + 70 * C) (hc2 : slots ≤ 4842 + 680 * C) (hl : lv_has ls 9 (LL bb (a 209) (a2 0) ao ao2 (nI (4 * C)))) : W p l e room_1 s m args below meth c H locs cells slots Q (F0 m 1725 ls []) := by
  have hx := K.1.1
  have hb := K.1.2.1
  obtain ⟨c1, r, σ1, r', s2, e1, e2, hc, h13, hr, hG2⟩ := ca_fullSacks hG (xs (4 * C + 1))
  refine lv_aload_n hx hb dL_law_1725 rfl (lv_at hl 2 rfl) ?_
  refine la_ld (j := 1) (n := 1) K hS (lv_at hl 1 rfl) (lv_at hl 0 rfl) hi (by decide) rfl dL_law_1726 dL_law_1727 dL_law_1729 dL_law_1730 dL_law_1731 ?_
  refine lv_aload_n hx hb dL_law_1732 rfl (lv_at hl 4 rfl) ?_
  refine la_wr (nA := 3) (As := [.ref (a 209), .int ((xs (4 * C + 1))), .ref ao]) K hC (mL_fullSacks l K.2.1 D cA ad adF adW tt a _ _ stg_E stg_X stg_N ((xs (4 * C + 1))) σ c1 r σ1 ao g e1 (by simpa using hc)) hP hD hS q6_68 q6_69 q1_0 q6_70 (by decide +kernel) (by decide) hc1 hc2 rfl rfl hl dL_law_1733 dL_law_1736 (fun H locs ls hP hD hS hl => ?_)
  refine lv_aload_n hx hb dL_law_1738 rfl (lv_at hl 4 rfl) ?_
  refine la_ld (j := 1) (n := 1) K hS (lv_at hl 2 rfl) (lv_at hl 1 rfl) hi (by decide) rfl dL_law_1739 dL_law_1740 dL_law_1742 dL_law_1743 dL_law_1744 ?_
  refine la_mi (nA := 1) (As := [.int ((xs (4 * C + 1)))]) K (mX12_fullSacks l D cA ad2 a2 [] ((xs (4 * C + 1))) s' r' s2 e2) hP hD hS q8_215 q8_216 q8_217 q1_16 q8_218 (by decide +kernel) (by decide) (by omega) (by omega) rfl hl.1 [] rfl (Nat.le_of_ble_eq_true rfl) dL_law_1745 (fun H locs hP hD hS => ?_)
  refine lv_istore (lv' := (7, .int r') :: (6, .int (hix [1] c1)) :: LL bb (a 209) (a2 0) ao ao2 (nI (4 * C))) hx hb dL_law_1748 hl (by decide) rfl (fun ls hl => ?_)
  exact la_tail K hC Nx hG2 hB h13 (la_fin (by decide) hc hr) hP hD hS (by omega) (by omega) hl dL_law_1750 dL_law_1751 dL_law_1754 dL_law_1756 dL_law_1761 dL_law_1763 dL_law_1766 dL_law_1767 dL_law_1768 dL_law_1769 dL_law_1771 dL_law_1772 dL_law_1773 dL_law_1778 (by decide)
set_option maxHeartbeats 4000000 in
set_option maxRecDepth 100000 in
theorem lawc_28 (K : LC p l s m args meth c D A cA ad adF adW tt bb L xs) (hC : C < 512) (hi : 4 * C + 4 ≤ L) (Nx : LGo p l e s m args below meth c Q D A cA ad a ao ao2 ad2 a2 bb (C + 1)) (hG : GG σ s' C T) (hB : SBT T b) (hP : va_P D vwCl (LW cA ad a ao g T.length b ao2 gd ad2 a2 σ s') H) (hD : va_D A (LW cA ad a ao g T.length b ao2 gd ad2 a2 σ s')) (hS : va_S A s.heap H locs) (hc1 : cells ≤ 254 + 70 * C) (hc2 : slots ≤ 4842 + 680 * C) (hl : lv_has ls 9 (LL bb (a 209) (a2 0) ao ao2 (nI (4 * C)))) : W p l e room_1 s m args below meth c H locs cells slots Q (F0 m 1781 ls []) := by
  have hx := K.1.1
  have hb := K.1.2.1
  obtain ⟨c1, r, σ1, r', s2, e1, e2, hc, h13, hr, hG2⟩ := ca_openSack hG (xs (4 * C + 1))
  refine lv_aload_n hx hb dL_law_1781 rfl (lv_at hl 2 rfl) ?_
  refine la_ld (j := 1) (n := 1) K hS (lv_at hl 1 rfl) (lv_at hl 0 rfl) hi (by decide) rfl dL_law_1782 dL_law_1783 dL_law_1785 dL_law_1786 dL_law_1787 ?_
  refine lv_aload_n hx hb dL_law_1788 rfl (lv_at hl 4 rfl) ?_
  refine la_wr (nA := 3) (As := [.ref (a 209), .int ((xs (4 * C + 1))), .ref ao]) K hC (mL_openSack l K.2.1 D cA ad adF adW tt a _ _ stg_E stg_X stg_N ((xs (4 * C + 1))) σ c1 r σ1 ao g e1 (by simpa using hc)) hP hD hS q6_75 q6_76 q1_0 q6_77 (by decide +kernel) (by decide) hc1 hc2 rfl rfl hl dL_law_1789 dL_law_1792 (fun H locs ls hP hD hS hl => ?_)
  refine lv_aload_n hx hb dL_law_1794 rfl (lv_at hl 4 rfl) ?_
  refine la_ld (j := 1) (n := 1) K hS (lv_at hl 2 rfl) (lv_at hl 1 rfl) hi (by decide) rfl dL_law_1795 dL_law_1796 dL_law_1798 dL_law_1799 dL_law_1800 ?_
  refine la_mi (nA := 1) (As := [.int ((xs (4 * C + 1)))]) K (mX12_openSack l D cA ad2 a2 [] ((xs (4 * C + 1))) s' r' s2 e2) hP hD hS q8_219 q8_220 q8_221 q1_16 q8_222 (by decide +kernel) (by decide) (by omega) (by omega) rfl hl.1 [] rfl (Nat.le_of_ble_eq_true rfl) dL_law_1801 (fun H locs hP hD hS => ?_)
  refine lv_istore (lv' := (7, .int r') :: (6, .int (hix [1] c1)) :: LL bb (a 209) (a2 0) ao ao2 (nI (4 * C))) hx hb dL_law_1804 hl (by decide) rfl (fun ls hl => ?_)
  exact la_tail K hC Nx hG2 hB h13 (la_fin (by decide) hc hr) hP hD hS (by omega) (by omega) hl dL_law_1806 dL_law_1807 dL_law_1810 dL_law_1812 dL_law_1817 dL_law_1819 dL_law_1822 dL_law_1823 dL_law_1824 dL_law_1825 dL_law_1827 dL_law_1828 dL_law_1829 dL_law_1834 (by decide)
set_option maxHeartbeats 4000000 in
set_option maxRecDepth 100000 in
theorem lawc_29 (K : LC p l s m args meth c D A cA ad adF adW tt bb L xs) (hC : C < 512) (hi : 4 * C + 4 ≤ L) (Nx : LGo p l e s m args below meth c Q D A cA ad a ao ao2 ad2 a2 bb (C + 1)) (hG : GG σ s' C T) (hB : SBT T b) (hP : va_P D vwCl (LW cA ad a ao g T.length b ao2 gd ad2 a2 σ s') H) (hD : va_D A (LW cA ad a ao g T.length b ao2 gd ad2 a2 σ s')) (hS : va_S A s.heap H locs) (hc1 : cells ≤ 254 + 70 * C) (hc2 : slots ≤ 4842 + 680 * C) (hl : lv_has ls 9 (LL bb (a 209) (a2 0) ao ao2 (nI (4 * C)))) : W p l e room_1 s m args below meth c H locs cells slots Q (F0 m 1837 ls []) := by
  have hx := K.1.1
  have hb := K.1.2.1
  obtain ⟨c1, r, σ1, r', s2, e1, e2, hc, h13, hr, hG2⟩ := ca_shippedSacks hG (xs (4 * C + 1))
  refine lv_aload_n hx hb dL_law_1837 rfl (lv_at hl 2 rfl) ?_
  refine la_ld (j := 1) (n := 1) K hS (lv_at hl 1 rfl) (lv_at hl 0 rfl) hi (by decide) rfl dL_law_1838 dL_law_1839 dL_law_1841 dL_law_1842 dL_law_1843 ?_
  refine lv_aload_n hx hb dL_law_1844 rfl (lv_at hl 4 rfl) ?_
  refine la_wr (nA := 3) (As := [.ref (a 209), .int ((xs (4 * C + 1))), .ref ao]) K hC (mL_shippedSacks l K.2.1 D cA ad adF adW tt a _ _ stg_E stg_X stg_N ((xs (4 * C + 1))) σ c1 r σ1 ao g e1 (by simpa using hc)) hP hD hS q6_82 q6_83 q1_0 q6_84 (by decide +kernel) (by decide) hc1 hc2 rfl rfl hl dL_law_1845 dL_law_1848 (fun H locs ls hP hD hS hl => ?_)
  refine lv_aload_n hx hb dL_law_1850 rfl (lv_at hl 4 rfl) ?_
  refine la_ld (j := 1) (n := 1) K hS (lv_at hl 2 rfl) (lv_at hl 1 rfl) hi (by decide) rfl dL_law_1851 dL_law_1852 dL_law_1854 dL_law_1855 dL_law_1856 ?_
  refine la_mi (nA := 1) (As := [.int ((xs (4 * C + 1)))]) K (mX12_shippedSacks l D cA ad2 a2 [] ((xs (4 * C + 1))) s' r' s2 e2) hP hD hS q8_223 q8_224 q8_225 q1_16 q8_226 (by decide +kernel) (by decide) (by omega) (by omega) rfl hl.1 [] rfl (Nat.le_of_ble_eq_true rfl) dL_law_1857 (fun H locs hP hD hS => ?_)
  refine lv_istore (lv' := (7, .int r') :: (6, .int (hix [1] c1)) :: LL bb (a 209) (a2 0) ao ao2 (nI (4 * C))) hx hb dL_law_1860 hl (by decide) rfl (fun ls hl => ?_)
  exact la_tail K hC Nx hG2 hB h13 (la_fin (by decide) hc hr) hP hD hS (by omega) (by omega) hl dL_law_1862 dL_law_1863 dL_law_1866 dL_law_1868 dL_law_1873 dL_law_1875 dL_law_1878 dL_law_1879 dL_law_1880 dL_law_1881 dL_law_1883 dL_law_1884 dL_law_1885 dL_law_1890 (by decide)
set_option maxHeartbeats 4000000 in
set_option maxRecDepth 100000 in
theorem lawc_30 (K : LC p l s m args meth c D A cA ad adF adW tt bb L xs) (hC : C < 512) (hi : 4 * C + 4 ≤ L) (Nx : LGo p l e s m args below meth c Q D A cA ad a ao ao2 ad2 a2 bb (C + 1)) (hG : GG σ s' C T) (hB : SBT T b) (hP : va_P D vwCl (LW cA ad a ao g T.length b ao2 gd ad2 a2 σ s') H) (hD : va_D A (LW cA ad a ao g T.length b ao2 gd ad2 a2 σ s')) (hS : va_S A s.heap H locs) (hc1 : cells ≤ 254 + 70 * C) (hc2 : slots ≤ 4842 + 680 * C) (hl : lv_has ls 9 (LL bb (a 209) (a2 0) ao ao2 (nI (4 * C)))) : W p l e room_1 s m args below meth c H locs cells slots Q (F0 m 1893 ls []) := by
  have hx := K.1.1
  have hb := K.1.2.1
  obtain ⟨c1, r, σ1, r', s2, e1, e2, hc, h13, hr, hG2⟩ := ca_recorded hG (xs (4 * C + 1)) (xs (4 * C + 2))
  refine lv_aload_n hx hb dL_law_1893 rfl (lv_at hl 2 rfl) ?_
  refine la_ld (j := 1) (n := 1) K hS (lv_at hl 1 rfl) (lv_at hl 0 rfl) hi (by decide) rfl dL_law_1894 dL_law_1895 dL_law_1897 dL_law_1898 dL_law_1899 ?_
  refine la_ld (j := 2) (n := 2) K hS (lv_at hl 1 rfl) (lv_at hl 0 rfl) hi (by decide) rfl dL_law_1900 dL_law_1901 dL_law_1903 dL_law_1904 dL_law_1905 ?_
  refine lv_aload_n hx hb dL_law_1906 rfl (lv_at hl 4 rfl) ?_
  refine la_wr (nA := 4) (As := [.ref (a 209), .int ((xs (4 * C + 1))), .int ((xs (4 * C + 2))), .ref ao]) K hC (mL_recorded l K.2.1 D cA ad adF adW tt a _ _ stg_E stg_X stg_N ((xs (4 * C + 1))) ((xs (4 * C + 2))) σ c1 r σ1 ao g e1 (by simpa using hc)) hP hD hS q6_89 q6_90 q1_0 q6_91 (by decide +kernel) (by decide) hc1 hc2 rfl rfl hl dL_law_1907 dL_law_1910 (fun H locs ls hP hD hS hl => ?_)
  refine lv_aload_n hx hb dL_law_1912 rfl (lv_at hl 4 rfl) ?_
  refine la_ld (j := 1) (n := 1) K hS (lv_at hl 2 rfl) (lv_at hl 1 rfl) hi (by decide) rfl dL_law_1913 dL_law_1914 dL_law_1916 dL_law_1917 dL_law_1918 ?_
  refine la_ld (j := 2) (n := 2) K hS (lv_at hl 2 rfl) (lv_at hl 1 rfl) hi (by decide) rfl dL_law_1919 dL_law_1920 dL_law_1922 dL_law_1923 dL_law_1924 ?_
  refine la_mi (nA := 2) (As := [.int ((xs (4 * C + 1))), .int ((xs (4 * C + 2)))]) K (mX12_recorded l D cA ad2 a2 [] ((xs (4 * C + 1))) ((xs (4 * C + 2))) s' r' s2 e2) hP hD hS q8_227 q8_228 q8_229 q1_16 q8_230 (by decide +kernel) (by decide) (by omega) (by omega) rfl hl.1 [] rfl (Nat.le_of_ble_eq_true rfl) dL_law_1925 (fun H locs hP hD hS => ?_)
  refine lv_istore (lv' := (7, .int r') :: (6, .int (hix [1] c1)) :: LL bb (a 209) (a2 0) ao ao2 (nI (4 * C))) hx hb dL_law_1928 hl (by decide) rfl (fun ls hl => ?_)
  exact la_tail K hC Nx hG2 hB h13 (la_fin (by decide) hc hr) hP hD hS (by omega) (by omega) hl dL_law_1930 dL_law_1931 dL_law_1934 dL_law_1936 dL_law_1941 dL_law_1943 dL_law_1946 dL_law_1947 dL_law_1948 dL_law_1949 dL_law_1951 dL_law_1952 dL_law_1953 dL_law_1958 (by decide)
set_option maxHeartbeats 4000000 in
set_option maxRecDepth 100000 in
theorem lawc_31 (K : LC p l s m args meth c D A cA ad adF adW tt bb L xs) (hC : C < 512) (hi : 4 * C + 4 ≤ L) (Nx : LGo p l e s m args below meth c Q D A cA ad a ao ao2 ad2 a2 bb (C + 1)) (hG : GG σ s' C T) (hB : SBT T b) (hP : va_P D vwCl (LW cA ad a ao g T.length b ao2 gd ad2 a2 σ s') H) (hD : va_D A (LW cA ad a ao g T.length b ao2 gd ad2 a2 σ s')) (hS : va_S A s.heap H locs) (hc1 : cells ≤ 254 + 70 * C) (hc2 : slots ≤ 4842 + 680 * C) (hl : lv_has ls 9 (LL bb (a 209) (a2 0) ao ao2 (nI (4 * C)))) : W p l e room_1 s m args below meth c H locs cells slots Q (F0 m 1961 ls []) := by
  have hx := K.1.1
  have hb := K.1.2.1
  obtain ⟨r, σ1, s2, e1, e2, hG2⟩ := ca_groundTotal hG
  refine lv_aload_n hx hb dL_law_1961 rfl (lv_at hl 2 rfl) ?_
  refine la_x (nA := 0) (As := []) K (mX11_groundTotal l D cA ad adF adW tt a _ _ stg_E σ r σ1 e1) hP hD hS q2_108 q2_109 q2_110 q1_1 q2_111 (by decide +kernel) (by decide) (by omega) (by omega) rfl hl.1 [] rfl (Nat.le_of_ble_eq_true rfl) dL_law_1962 (fun H locs hP hD hS => ?_)
  refine lv_aload_n hx hb dL_law_1965 rfl (lv_at hl 3 rfl) ?_
  refine la_mi (nA := 0) (As := []) K (mX12_groundTotal l D cA ad2 a2 [] s' r s2 e2) hP hD hS q8_231 q8_232 q8_233 q1_16 q8_234 (by decide +kernel) (by decide) (by omega) (by omega) rfl hl.1 [.int r] rfl (Nat.le_of_ble_eq_true rfl) dL_law_1966 (fun H locs hP hD hS => ?_)
  refine lv_icmp_eq (tgt := 3090) hx hb dL_law_1969 (by decide) (fun _ => ?_) (fun h => absurd rfl h)
  exact la_end K Nx hG2 hB hP hD hS (by omega) (by omega) hl
end C74
