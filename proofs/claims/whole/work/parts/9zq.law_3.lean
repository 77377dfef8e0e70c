/-! the law's body: its cases, on -/
section TQLAW
variable {p : Program} {l : Launch} {e : Env} {s : State} {m : MethodId} {args : Array Value} {below : List Frame} {meth : Method} {c : Code} {H : Heap} {locs : List Loc} {Q : State → Prop}
variable {ls : Array Slot} {D : va_G} {cy : Nat → ClassId} {z A0 : Nat} {H0 : Heap} {ad : Nat → Nat → Nat} {N : tq_Nn} {S M : tq_St} {b L i : Nat} {xs : Nat → Int32} {I : tq_Nn → tq_St → tq_St → Prop}
set_option maxHeartbeats 4000000 in
set_option maxRecDepth 100000 in
theorem tqL_c30 (C : tq_At p s m meth c args cL_law 4 (some .boolean) tqL_T RL D cy z ad) (hX : va_X b L xs s s.heap) (hbl : b < s.heap.size) (hbz : ¬ z ≤ b) (hi : i + 6 ≤ L) (hL : L ≤ 3072) (h : wpX11_bill N (fun S1 r => wpX12_bill (fun M1 r1 => r = r1 ∧ I N S1 M1) M (xs (i + 1)) (xs (i + 2))) S (xs (i + 1)) (xs (i + 2))) (hN : tq_nb z A0 s N) (hW : tq_wd D cy z H0 ad N (tq_mix S M) H) (hS : va_S (fun q => z ≤ q) s.heap H locs) (hl : lv_has ls 4 [(0, .ref b), (1, .ref (ad 1 0)), (2, .ref (ad 64 0)), (3, .int (Int32.ofNat i))])
    (kk : ∀ (N1 : tq_Nn) (S1 M1 : tq_St) (H1 : Heap) (locs1 : List Loc), I N1 S1 M1 → tq_nb z A0 s N1 → tq_wd D cy z H0 ad N1 (tq_mix S1 M1) H1 → va_S (fun q => z ≤ q) s.heap H1 locs1 → tq_Wb p l e 2048 84000 s m args below meth c z A0 N1 H1 locs1 Q (F0 m 1988 ls [])) : tq_Wb p l e 2048 84000 s m args below meth c z A0 N H locs Q (F0 m 1228 ls []) := by
  obtain ⟨hx, hb, hr, hml, hown, hts, hlocks, hK, hG⟩ := C
  refine lv_aload_n hx hb dL_law_1228 rfl (lv_at hl 1 rfl) ?_
  refine tqL_arg (k := 1) hx hb hX hbl hbz hS hl hi hL (by decide) (by decide) dL_law_1229 dL_law_1230 dL_law_1231 dL_law_1232 dL_law_1233 ?_
  refine tqL_arg (k := 2) hx hb hX hbl hbz hS hl hi hL (by decide) (by decide) dL_law_1234 dL_law_1235 dL_law_1236 dL_law_1237 dL_law_1238 ?_
  refine tqc_callVi (C := "TwoSeas") (As := [.int (xs (i + 1)), .int (xs (i + 2))]) (rest := []) (kX11_bill h) ⟨hx, hb, hml, hown, hts⟩ (cwV 2 hts (tq_goodV tw_1236 tw_1237 tw_1238 tw_115 tw_1239) rfl rfl rfl (by decide +kernel) ⟨(Nat.le_of_ble_eq_true rfl), (Nat.le_of_ble_eq_true rfl)⟩) (tq_recvC hK hW (by decide) (tq_mk_1 (by decide)) rfl) hK hG hW hS rfl hl.1 rfl (Nat.le_of_ble_eq_true rfl) dL_law_1239 hN.f (fun r S1 H locs h hW hS => ?_)
  refine lv_aload_n hx hb dL_law_1242 rfl (lv_at hl 2 rfl) ?_
  refine tqL_arg (k := 1) hx hb hX hbl hbz hS hl hi hL (by decide) (by decide) dL_law_1243 dL_law_1244 dL_law_1245 dL_law_1246 dL_law_1247 ?_
  refine tqL_arg (k := 2) hx hb hX hbl hbz hS hl hi hL (by decide) (by decide) dL_law_1248 dL_law_1249 dL_law_1250 dL_law_1251 dL_law_1252 ?_
  refine tq_callVi (As := [.int (xs (i + 1)), .int (xs (i + 2))]) (rest := [.int r]) (kX12_bill h) ⟨hx, hb, hml, hown, hts⟩ (cwV 2 hts (tq_goodV tw_2002 tw_2003 tw_2004 tw_125 tw_2005) rfl rfl rfl (by decide +kernel) ⟨(Nat.le_of_ble_eq_true rfl), (Nat.le_of_ble_eq_true rfl)⟩) hK hG hW hS rfl hl.1 rfl (Nat.le_of_ble_eq_true rfl) dL_law_1253 hN.f (fun r1 M1 H locs h hW hS => ?_)
  exact lv_icmp_eq (tgt := 1988) hx hb dL_law_1256 (by decide) (fun _ => kk _ _ _ _ _ h.2 hN hW hS) (fun q => absurd h.1 q)
set_option maxHeartbeats 4000000 in
set_option maxRecDepth 100000 in
theorem tqL_c31 (C : tq_At p s m meth c args cL_law 4 (some .boolean) tqL_T RL D cy z ad) (hX : va_X b L xs s s.heap) (hbl : b < s.heap.size) (hbz : ¬ z ≤ b) (hi : i + 6 ≤ L) (hL : L ≤ 3072) (h : wpX11_refuse N (fun S1 r => wpX12_refuse (fun M1 r1 => r = r1 ∧ I N S1 M1) M (xs (i + 1))) S (xs (i + 1))) (hN : tq_nb z A0 s N) (hW : tq_wd D cy z H0 ad N (tq_mix S M) H) (hS : va_S (fun q => z ≤ q) s.heap H locs) (hl : lv_has ls 4 [(0, .ref b), (1, .ref (ad 1 0)), (2, .ref (ad 64 0)), (3, .int (Int32.ofNat i))])
    (kk : ∀ (N1 : tq_Nn) (S1 M1 : tq_St) (H1 : Heap) (locs1 : List Loc), I N1 S1 M1 → tq_nb z A0 s N1 → tq_wd D cy z H0 ad N1 (tq_mix S1 M1) H1 → va_S (fun q => z ≤ q) s.heap H1 locs1 → tq_Wb p l e 2048 84000 s m args below meth c z A0 N1 H1 locs1 Q (F0 m 1988 ls [])) : tq_Wb p l e 2048 84000 s m args below meth c z A0 N H locs Q (F0 m 1261 ls []) := by
  obtain ⟨hx, hb, hr, hml, hown, hts, hlocks, hK, hG⟩ := C
  refine lv_aload_n hx hb dL_law_1261 rfl (lv_at hl 1 rfl) ?_
  refine tqL_arg (k := 1) hx hb hX hbl hbz hS hl hi hL (by decide) (by decide) dL_law_1262 dL_law_1263 dL_law_1264 dL_law_1265 dL_law_1266 ?_
  refine tqc_callVi (C := "TwoSeas") (As := [.int (xs (i + 1))]) (rest := []) (kX11_refuse h) ⟨hx, hb, hml, hown, hts⟩ (cwV 1 hts (tq_goodV tw_1240 tw_1241 tw_1242 tw_115 tw_1243) rfl rfl rfl (by decide +kernel) ⟨(Nat.le_of_ble_eq_true rfl), (Nat.le_of_ble_eq_true rfl)⟩) (tq_recvC hK hW (by decide) (tq_mk_1 (by decide)) rfl) hK hG hW hS rfl hl.1 rfl (Nat.le_of_ble_eq_true rfl) dL_law_1267 hN.f (fun r S1 H locs h hW hS => ?_)
  refine lv_aload_n hx hb dL_law_1270 rfl (lv_at hl 2 rfl) ?_
  refine tqL_arg (k := 1) hx hb hX hbl hbz hS hl hi hL (by decide) (by decide) dL_law_1271 dL_law_1272 dL_law_1273 dL_law_1274 dL_law_1275 ?_
  refine tq_callVi (As := [.int (xs (i + 1))]) (rest := [.int r]) (kX12_refuse h) ⟨hx, hb, hml, hown, hts⟩ (cwV 1 hts (tq_goodV tw_2006 tw_2007 tw_2008 tw_125 tw_2009) rfl rfl rfl (by decide +kernel) ⟨(Nat.le_of_ble_eq_true rfl), (Nat.le_of_ble_eq_true rfl)⟩) hK hG hW hS rfl hl.1 rfl (Nat.le_of_ble_eq_true rfl) dL_law_1276 hN.f (fun r1 M1 H locs h hW hS => ?_)
  exact lv_icmp_eq (tgt := 1988) hx hb dL_law_1279 (by decide) (fun _ => kk _ _ _ _ _ h.2 hN hW hS) (fun q => absurd h.1 q)
set_option maxHeartbeats 4000000 in
set_option maxRecDepth 100000 in
theorem tqL_c32 (C : tq_At p s m meth c args cL_law 4 (some .boolean) tqL_T RL D cy z ad) (hX : va_X b L xs s s.heap) (hbl : b < s.heap.size) (hbz : ¬ z ≤ b) (hi : i + 6 ≤ L) (hL : L ≤ 3072) (h : wpX11_council (fun N1 S1 r => wpX12_council (fun M1 r1 => r = r1 ∧ I N1 S1 M1) M (xs (i + 1)) (xs (i + 2)) (xs (i + 3)) (xs (i + 4)) (xs (i + 5))) N S (xs (i + 1)) (xs (i + 2)) (xs (i + 3)) (xs (i + 4)) (xs (i + 5))) (hN : tq_nb z A0 s N) (hW : tq_wd D cy z H0 ad N (tq_mix S M) H) (hS : va_S (fun q => z ≤ q) s.heap H locs) (hl : lv_has ls 4 [(0, .ref b), (1, .ref (ad 1 0)), (2, .ref (ad 64 0)), (3, .int (Int32.ofNat i))])
    (kk : ∀ (N1 : tq_Nn) (S1 M1 : tq_St) (H1 : Heap) (locs1 : List Loc), I N1 S1 M1 → tq_nb z A0 s N1 → tq_wd D cy z H0 ad N1 (tq_mix S1 M1) H1 → va_S (fun q => z ≤ q) s.heap H1 locs1 → tq_Wb p l e 2048 84000 s m args below meth c z A0 N1 H1 locs1 Q (F0 m 1988 ls [])) : tq_Wb p l e 2048 84000 s m args below meth c z A0 N H locs Q (F0 m 1284 ls []) := by
  obtain ⟨hx, hb, hr, hml, hown, hts, hlocks, hK, hG⟩ := C
  refine lv_aload_n hx hb dL_law_1284 rfl (lv_at hl 1 rfl) ?_
  refine tqL_arg (k := 1) hx hb hX hbl hbz hS hl hi hL (by decide) (by decide) dL_law_1285 dL_law_1286 dL_law_1287 dL_law_1288 dL_law_1289 ?_
  refine tqL_arg (k := 2) hx hb hX hbl hbz hS hl hi hL (by decide) (by decide) dL_law_1290 dL_law_1291 dL_law_1292 dL_law_1293 dL_law_1294 ?_
  refine tqL_arg (k := 3) hx hb hX hbl hbz hS hl hi hL (by decide) (by decide) dL_law_1295 dL_law_1296 dL_law_1297 dL_law_1298 dL_law_1299 ?_
  refine tqL_arg (k := 4) hx hb hX hbl hbz hS hl hi hL (by decide) (by decide) dL_law_1300 dL_law_1301 dL_law_1302 dL_law_1303 dL_law_1304 ?_
  refine tqL_arg (k := 5) hx hb hX hbl hbz hS hl hi hL (by decide) (by decide) dL_law_1305 dL_law_1306 dL_law_1307 dL_law_1308 dL_law_1309 ?_
  refine tqb_callVi (C := "TwoSeas") (As := [.int (xs (i + 1)), .int (xs (i + 2)), .int (xs (i + 3)), .int (xs (i + 4)), .int (xs (i + 5))]) (rest := []) (kX11_council h) ⟨hx, hb, hml, hown, hts⟩ (cwV 5 hts (tq_goodV tw_1244 tw_1245 tw_1246 tw_115 tw_1247) rfl rfl rfl (by decide +kernel) ⟨(Nat.le_of_ble_eq_true rfl), (Nat.le_of_ble_eq_true rfl)⟩) (tq_recvC hK hW (by decide) (tq_mk_1 (by decide)) rfl) hK hG hW hS rfl hl.1 rfl (Nat.le_of_ble_eq_true rfl) dL_law_1310 hN (fun r N1 S1 H locs h hN hW hS => ?_)
  refine lv_aload_n hx hb dL_law_1313 rfl (lv_at hl 2 rfl) ?_
  refine tqL_arg (k := 1) hx hb hX hbl hbz hS hl hi hL (by decide) (by decide) dL_law_1314 dL_law_1315 dL_law_1316 dL_law_1317 dL_law_1318 ?_
  refine tqL_arg (k := 2) hx hb hX hbl hbz hS hl hi hL (by decide) (by decide) dL_law_1319 dL_law_1320 dL_law_1321 dL_law_1322 dL_law_1323 ?_
  refine tqL_arg (k := 3) hx hb hX hbl hbz hS hl hi hL (by decide) (by decide) dL_law_1324 dL_law_1325 dL_law_1326 dL_law_1327 dL_law_1328 ?_
  refine tqL_arg (k := 4) hx hb hX hbl hbz hS hl hi hL (by decide) (by decide) dL_law_1329 dL_law_1330 dL_law_1331 dL_law_1332 dL_law_1333 ?_
  refine tqL_arg (k := 5) hx hb hX hbl hbz hS hl hi hL (by decide) (by decide) dL_law_1334 dL_law_1335 dL_law_1336 dL_law_1337 dL_law_1338 ?_
  refine tq_callVi (As := [.int (xs (i + 1)), .int (xs (i + 2)), .int (xs (i + 3)), .int (xs (i + 4)), .int (xs (i + 5))]) (rest := [.int r]) (kX12_council h) ⟨hx, hb, hml, hown, hts⟩ (cwV 5 hts (tq_goodV tw_2010 tw_2011 tw_2012 tw_125 tw_2013) rfl rfl rfl (by decide +kernel) ⟨(Nat.le_of_ble_eq_true rfl), (Nat.le_of_ble_eq_true rfl)⟩) hK hG hW hS rfl hl.1 rfl (Nat.le_of_ble_eq_true rfl) dL_law_1339 hN.f (fun r1 M1 H locs h hW hS => ?_)
  exact lv_icmp_eq (tgt := 1988) hx hb dL_law_1342 (by decide) (fun _ => kk _ _ _ _ _ h.2 hN hW hS) (fun q => absurd h.1 q)
set_option maxHeartbeats 4000000 in
set_option maxRecDepth 100000 in
theorem tqL_c33 (C : tq_At p s m meth c args cL_law 4 (some .boolean) tqL_T RL D cy z ad) (hX : va_X b L xs s s.heap) (hbl : b < s.heap.size) (hbz : ¬ z ≤ b) (hi : i + 6 ≤ L) (hL : L ≤ 3072) (h : wpX11_wants N (fun S1 r => wpX12_wants (fun M1 r1 => r = r1 ∧ I N S1 M1) M (xs (i + 1)) (xs (i + 2)) (xs (i + 3)) (xs (i + 4))) S (xs (i + 1)) (xs (i + 2)) (xs (i + 3)) (xs (i + 4))) (hN : tq_nb z A0 s N) (hW : tq_wd D cy z H0 ad N (tq_mix S M) H) (hS : va_S (fun q => z ≤ q) s.heap H locs) (hl : lv_has ls 4 [(0, .ref b), (1, .ref (ad 1 0)), (2, .ref (ad 64 0)), (3, .int (Int32.ofNat i))])
    (kk : ∀ (N1 : tq_Nn) (S1 M1 : tq_St) (H1 : Heap) (locs1 : List Loc), I N1 S1 M1 → tq_nb z A0 s N1 → tq_wd D cy z H0 ad N1 (tq_mix S1 M1) H1 → va_S (fun q => z ≤ q) s.heap H1 locs1 → tq_Wb p l e 2048 84000 s m args below meth c z A0 N1 H1 locs1 Q (F0 m 1988 ls [])) : tq_Wb p l e 2048 84000 s m args below meth c z A0 N H locs Q (F0 m 1347 ls []) := by
  obtain ⟨hx, hb, hr, hml, hown, hts, hlocks, hK, hG⟩ := C
  refine lv_aload_n hx hb dL_law_1347 rfl (lv_at hl 1 rfl) ?_
  refine tqL_arg (k := 1) hx hb hX hbl hbz hS hl hi hL (by decide) (by decide) dL_law_1348 dL_law_1349 dL_law_1350 dL_law_1351 dL_law_1352 ?_
  refine tqL_arg (k := 2) hx hb hX hbl hbz hS hl hi hL (by decide) (by decide) dL_law_1353 dL_law_1354 dL_law_1355 dL_law_1356 dL_law_1357 ?_
  refine tqL_arg (k := 3) hx hb hX hbl hbz hS hl hi hL (by decide) (by decide) dL_law_1358 dL_law_1359 dL_law_1360 dL_law_1361 dL_law_1362 ?_
  refine tqL_arg (k := 4) hx hb hX hbl hbz hS hl hi hL (by decide) (by decide) dL_law_1363 dL_law_1364 dL_law_1365 dL_law_1366 dL_law_1367 ?_
  refine tqc_callVi (C := "TwoSeas") (As := [.int (xs (i + 1)), .int (xs (i + 2)), .int (xs (i + 3)), .int (xs (i + 4))]) (rest := []) (kX11_wants h) ⟨hx, hb, hml, hown, hts⟩ (cwV 4 hts (tq_goodV tw_1270 tw_1271 tw_1272 tw_115 tw_1273) rfl rfl rfl (by decide +kernel) ⟨(Nat.le_of_ble_eq_true rfl), (Nat.le_of_ble_eq_true rfl)⟩) (tq_recvC hK hW (by decide) (tq_mk_1 (by decide)) rfl) hK hG hW hS rfl hl.1 rfl (Nat.le_of_ble_eq_true rfl) dL_law_1368 hN.f (fun r S1 H locs h hW hS => ?_)
  refine lv_aload_n hx hb dL_law_1371 rfl (lv_at hl 2 rfl) ?_
  refine tqL_arg (k := 1) hx hb hX hbl hbz hS hl hi hL (by decide) (by decide) dL_law_1372 dL_law_1373 dL_law_1374 dL_law_1375 dL_law_1376 ?_
  refine tqL_arg (k := 2) hx hb hX hbl hbz hS hl hi hL (by decide) (by decide) dL_law_1377 dL_law_1378 dL_law_1379 dL_law_1380 dL_law_1381 ?_
  refine tqL_arg (k := 3) hx hb hX hbl hbz hS hl hi hL (by decide) (by decide) dL_law_1382 dL_law_1383 dL_law_1384 dL_law_1385 dL_law_1386 ?_
  refine tqL_arg (k := 4) hx hb hX hbl hbz hS hl hi hL (by decide) (by decide) dL_law_1387 dL_law_1388 dL_law_1389 dL_law_1390 dL_law_1391 ?_
  refine tq_callVi (As := [.int (xs (i + 1)), .int (xs (i + 2)), .int (xs (i + 3)), .int (xs (i + 4))]) (rest := [.int r]) (kX12_wants h) ⟨hx, hb, hml, hown, hts⟩ (cwV 4 hts (tq_goodV tw_2031 tw_2032 tw_2033 tw_125 tw_2034) rfl rfl rfl (by decide +kernel) ⟨(Nat.le_of_ble_eq_true rfl), (Nat.le_of_ble_eq_true rfl)⟩) hK hG hW hS rfl hl.1 rfl (Nat.le_of_ble_eq_true rfl) dL_law_1392 hN.f (fun r1 M1 H locs h hW hS => ?_)
  exact lv_icmp_eq (tgt := 1988) hx hb dL_law_1395 (by decide) (fun _ => kk _ _ _ _ _ h.2 hN hW hS) (fun q => absurd h.1 q)
set_option maxHeartbeats 4000000 in
set_option maxRecDepth 100000 in
theorem tqL_c34 (C : tq_At p s m meth c args cL_law 4 (some .boolean) tqL_T RL D cy z ad) (hX : va_X b L xs s s.heap) (hbl : b < s.heap.size) (hbz : ¬ z ≤ b) (hi : i + 6 ≤ L) (hL : L ≤ 3072) (h : wpX11_sale N (fun S1 r => wpX12_sale (fun M1 r1 => r = r1 ∧ I N S1 M1) M (xs (i + 1)) (xs (i + 2))) S (xs (i + 1)) (xs (i + 2))) (hN : tq_nb z A0 s N) (hW : tq_wd D cy z H0 ad N (tq_mix S M) H) (hS : va_S (fun q => z ≤ q) s.heap H locs) (hl : lv_has ls 4 [(0, .ref b), (1, .ref (ad 1 0)), (2, .ref (ad 64 0)), (3, .int (Int32.ofNat i))])
    (kk : ∀ (N1 : tq_Nn) (S1 M1 : tq_St) (H1 : Heap) (locs1 : List Loc), I N1 S1 M1 → tq_nb z A0 s N1 → tq_wd D cy z H0 ad N1 (tq_mix S1 M1) H1 → va_S (fun q => z ≤ q) s.heap H1 locs1 → tq_Wb p l e 2048 84000 s m args below meth c z A0 N1 H1 locs1 Q (F0 m 1988 ls [])) : tq_Wb p l e 2048 84000 s m args below meth c z A0 N H locs Q (F0 m 1400 ls []) := by
  obtain ⟨hx, hb, hr, hml, hown, hts, hlocks, hK, hG⟩ := C
  refine lv_aload_n hx hb dL_law_1400 rfl (lv_at hl 1 rfl) ?_
  refine tqL_arg (k := 1) hx hb hX hbl hbz hS hl hi hL (by decide) (by decide) dL_law_1401 dL_law_1402 dL_law_1403 dL_law_1404 dL_law_1405 ?_
  refine tqL_arg (k := 2) hx hb hX hbl hbz hS hl hi hL (by decide) (by decide) dL_law_1406 dL_law_1407 dL_law_1408 dL_law_1409 dL_law_1410 ?_
  refine tqc_callVi (C := "TwoSeas") (As := [.int (xs (i + 1)), .int (xs (i + 2))]) (rest := []) (kX11_sale h) ⟨hx, hb, hml, hown, hts⟩ (cwV 2 hts (tq_goodV tw_1274 tw_1275 tw_1276 tw_115 tw_1277) rfl rfl rfl (by decide +kernel) ⟨(Nat.le_of_ble_eq_true rfl), (Nat.le_of_ble_eq_true rfl)⟩) (tq_recvC hK hW (by decide) (tq_mk_1 (by decide)) rfl) hK hG hW hS rfl hl.1 rfl (Nat.le_of_ble_eq_true rfl) dL_law_1411 hN.f (fun r S1 H locs h hW hS => ?_)
  refine lv_aload_n hx hb dL_law_1414 rfl (lv_at hl 2 rfl) ?_
  refine tqL_arg (k := 1) hx hb hX hbl hbz hS hl hi hL (by decide) (by decide) dL_law_1415 dL_law_1416 dL_law_1417 dL_law_1418 dL_law_1419 ?_
  refine tqL_arg (k := 2) hx hb hX hbl hbz hS hl hi hL (by decide) (by decide) dL_law_1420 dL_law_1421 dL_law_1422 dL_law_1423 dL_law_1424 ?_
  refine tq_callVi (As := [.int (xs (i + 1)), .int (xs (i + 2))]) (rest := [.int r]) (kX12_sale h) ⟨hx, hb, hml, hown, hts⟩ (cwV 2 hts (tq_goodV tw_2038 tw_2039 tw_2040 tw_125 tw_2041) rfl rfl rfl (by decide +kernel) ⟨(Nat.le_of_ble_eq_true rfl), (Nat.le_of_ble_eq_true rfl)⟩) hK hG hW hS rfl hl.1 rfl (Nat.le_of_ble_eq_true rfl) dL_law_1425 hN.f (fun r1 M1 H locs h hW hS => ?_)
  exact lv_icmp_eq (tgt := 1988) hx hb dL_law_1428 (by decide) (fun _ => kk _ _ _ _ _ h.2 hN hW hS) (fun q => absurd h.1 q)
set_option maxHeartbeats 4000000 in
set_option maxRecDepth 100000 in
theorem tqL_c35 (C : tq_At p s m meth c args cL_law 4 (some .boolean) tqL_T RL D cy z ad) (hX : va_X b L xs s s.heap) (hbl : b < s.heap.size) (hbz : ¬ z ≤ b) (hi : i + 6 ≤ L) (hL : L ≤ 3072) (h : wpX11_bought N (fun S1 r => wpX12_bought (fun M1 r1 => r = r1 ∧ I N S1 M1) M (xs (i + 1)) (xs (i + 2))) S (xs (i + 1)) (xs (i + 2))) (hN : tq_nb z A0 s N) (hW : tq_wd D cy z H0 ad N (tq_mix S M) H) (hS : va_S (fun q => z ≤ q) s.heap H locs) (hl : lv_has ls 4 [(0, .ref b), (1, .ref (ad 1 0)), (2, .ref (ad 64 0)), (3, .int (Int32.ofNat i))])
    (kk : ∀ (N1 : tq_Nn) (S1 M1 : tq_St) (H1 : Heap) (locs1 : List Loc), I N1 S1 M1 → tq_nb z A0 s N1 → tq_wd D cy z H0 ad N1 (tq_mix S1 M1) H1 → va_S (fun q => z ≤ q) s.heap H1 locs1 → tq_Wb p l e 2048 84000 s m args below meth c z A0 N1 H1 locs1 Q (F0 m 1988 ls [])) : tq_Wb p l e 2048 84000 s m args below meth c z A0 N H locs Q (F0 m 1433 ls []) := by
  obtain ⟨hx, hb, hr, hml, hown, hts, hlocks, hK, hG⟩ := C
  refine lv_aload_n hx hb dL_law_1433 rfl (lv_at hl 1 rfl) ?_
  refine tqL_arg (k := 1) hx hb hX hbl hbz hS hl hi hL (by decide) (by decide) dL_law_1434 dL_law_1435 dL_law_1436 dL_law_1437 dL_law_1438 ?_
  refine tqL_arg (k := 2) hx hb hX hbl hbz hS hl hi hL (by decide) (by decide) dL_law_1439 dL_law_1440 dL_law_1441 dL_law_1442 dL_law_1443 ?_
  refine tqc_callVi (C := "TwoSeas") (As := [.int (xs (i + 1)), .int (xs (i + 2))]) (rest := []) (kX11_bought h) ⟨hx, hb, hml, hown, hts⟩ (cwV 2 hts (tq_goodV tw_1287 tw_1288 tw_1289 tw_115 tw_1290) rfl rfl rfl (by decide +kernel) ⟨(Nat.le_of_ble_eq_true rfl), (Nat.le_of_ble_eq_true rfl)⟩) (tq_recvC hK hW (by decide) (tq_mk_1 (by decide)) rfl) hK hG hW hS rfl hl.1 rfl (Nat.le_of_ble_eq_true rfl) dL_law_1444 hN.f (fun r S1 H locs h hW hS => ?_)
  refine lv_aload_n hx hb dL_law_1447 rfl (lv_at hl 2 rfl) ?_
  refine tqL_arg (k := 1) hx hb hX hbl hbz hS hl hi hL (by decide) (by decide) dL_law_1448 dL_law_1449 dL_law_1450 dL_law_1451 dL_law_1452 ?_
  refine tqL_arg (k := 2) hx hb hX hbl hbz hS hl hi hL (by decide) (by decide) dL_law_1453 dL_law_1454 dL_law_1455 dL_law_1456 dL_law_1457 ?_
  refine tq_callVi (As := [.int (xs (i + 1)), .int (xs (i + 2))]) (rest := [.int r]) (kX12_bought h) ⟨hx, hb, hml, hown, hts⟩ (cwV 2 hts (tq_goodV tw_2046 tw_2047 tw_2048 tw_125 tw_2049) rfl rfl rfl (by decide +kernel) ⟨(Nat.le_of_ble_eq_true rfl), (Nat.le_of_ble_eq_true rfl)⟩) hK hG hW hS rfl hl.1 rfl (Nat.le_of_ble_eq_true rfl) dL_law_1458 hN.f (fun r1 M1 H locs h hW hS => ?_)
  exact lv_icmp_eq (tgt := 1988) hx hb dL_law_1461 (by decide) (fun _ => kk _ _ _ _ _ h.2 hN hW hS) (fun q => absurd h.1 q)
set_option maxHeartbeats 4000000 in
set_option maxRecDepth 100000 in
theorem tqL_c36 (C : tq_At p s m meth c args cL_law 4 (some .boolean) tqL_T RL D cy z ad) (hX : va_X b L xs s s.heap) (hbl : b < s.heap.size) (hbz : ¬ z ≤ b) (hi : i + 6 ≤ L) (hL : L ≤ 3072) (h : wpX11_shares N (fun S1 r => wpX12_shares (fun M1 r1 => r = r1 ∧ I N S1 M1) M (xs (i + 1)) (xs (i + 2)) (xs (i + 3))) S (xs (i + 1)) (xs (i + 2)) (xs (i + 3))) (hN : tq_nb z A0 s N) (hW : tq_wd D cy z H0 ad N (tq_mix S M) H) (hS : va_S (fun q => z ≤ q) s.heap H locs) (hl : lv_has ls 4 [(0, .ref b), (1, .ref (ad 1 0)), (2, .ref (ad 64 0)), (3, .int (Int32.ofNat i))])
    (kk : ∀ (N1 : tq_Nn) (S1 M1 : tq_St) (H1 : Heap) (locs1 : List Loc), I N1 S1 M1 → tq_nb z A0 s N1 → tq_wd D cy z H0 ad N1 (tq_mix S1 M1) H1 → va_S (fun q => z ≤ q) s.heap H1 locs1 → tq_Wb p l e 2048 84000 s m args below meth c z A0 N1 H1 locs1 Q (F0 m 1988 ls [])) : tq_Wb p l e 2048 84000 s m args below meth c z A0 N H locs Q (F0 m 1466 ls []) := by
  obtain ⟨hx, hb, hr, hml, hown, hts, hlocks, hK, hG⟩ := C
  refine lv_aload_n hx hb dL_law_1466 rfl (lv_at hl 1 rfl) ?_
  refine tqL_arg (k := 1) hx hb hX hbl hbz hS hl hi hL (by decide) (by decide) dL_law_1467 dL_law_1468 dL_law_1469 dL_law_1470 dL_law_1471 ?_
  refine tqL_arg (k := 2) hx hb hX hbl hbz hS hl hi hL (by decide) (by decide) dL_law_1472 dL_law_1473 dL_law_1474 dL_law_1475 dL_law_1476 ?_
  refine tqL_arg (k := 3) hx hb hX hbl hbz hS hl hi hL (by decide) (by decide) dL_law_1477 dL_law_1478 dL_law_1479 dL_law_1480 dL_law_1481 ?_
  refine tqc_callVi (C := "TwoSeas") (As := [.int (xs (i + 1)), .int (xs (i + 2)), .int (xs (i + 3))]) (rest := []) (kX11_shares h) ⟨hx, hb, hml, hown, hts⟩ (cwV 3 hts (tq_goodV tw_1291 tw_1292 tw_1293 tw_115 tw_1294) rfl rfl rfl (by decide +kernel) ⟨(Nat.le_of_ble_eq_true rfl), (Nat.le_of_ble_eq_true rfl)⟩) (tq_recvC hK hW (by decide) (tq_mk_1 (by decide)) rfl) hK hG hW hS rfl hl.1 rfl (Nat.le_of_ble_eq_true rfl) dL_law_1482 hN.f (fun r S1 H locs h hW hS => ?_)
  refine lv_aload_n hx hb dL_law_1485 rfl (lv_at hl 2 rfl) ?_
  refine tqL_arg (k := 1) hx hb hX hbl hbz hS hl hi hL (by decide) (by decide) dL_law_1486 dL_law_1487 dL_law_1488 dL_law_1489 dL_law_1490 ?_
  refine tqL_arg (k := 2) hx hb hX hbl hbz hS hl hi hL (by decide) (by decide) dL_law_1491 dL_law_1492 dL_law_1493 dL_law_1494 dL_law_1495 ?_
  refine tqL_arg (k := 3) hx hb hX hbl hbz hS hl hi hL (by decide) (by decide) dL_law_1496 dL_law_1497 dL_law_1498 dL_law_1499 dL_law_1500 ?_
  refine tq_callVi (As := [.int (xs (i + 1)), .int (xs (i + 2)), .int (xs (i + 3))]) (rest := [.int r]) (kX12_shares h) ⟨hx, hb, hml, hown, hts⟩ (cwV 3 hts (tq_goodV tw_2050 tw_2051 tw_2052 tw_125 tw_2053) rfl rfl rfl (by decide +kernel) ⟨(Nat.le_of_ble_eq_true rfl), (Nat.le_of_ble_eq_true rfl)⟩) hK hG hW hS rfl hl.1 rfl (Nat.le_of_ble_eq_true rfl) dL_law_1501 hN.f (fun r1 M1 H locs h hW hS => ?_)
  exact lv_icmp_eq (tgt := 1988) hx hb dL_law_1504 (by decide) (fun _ => kk _ _ _ _ _ h.2 hN hW hS) (fun q => absurd h.1 q)
set_option maxHeartbeats 4000000 in
set_option maxRecDepth 100000 in
theorem tqL_c37 (C : tq_At p s m meth c args cL_law 4 (some .boolean) tqL_T RL D cy z ad) (hX : va_X b L xs s s.heap) (hbl : b < s.heap.size) (hbz : ¬ z ≤ b) (hi : i + 6 ≤ L) (hL : L ≤ 3072) (h : wpX11_gain N (fun S1 r => wpX12_gain (fun M1 r1 => r = r1 ∧ I N S1 M1) M ) S) (hN : tq_nb z A0 s N) (hW : tq_wd D cy z H0 ad N (tq_mix S M) H) (hS : va_S (fun q => z ≤ q) s.heap H locs) (hl : lv_has ls 4 [(0, .ref b), (1, .ref (ad 1 0)), (2, .ref (ad 64 0)), (3, .int (Int32.ofNat i))])
    (kk : ∀ (N1 : tq_Nn) (S1 M1 : tq_St) (H1 : Heap) (locs1 : List Loc), I N1 S1 M1 → tq_nb z A0 s N1 → tq_wd D cy z H0 ad N1 (tq_mix S1 M1) H1 → va_S (fun q => z ≤ q) s.heap H1 locs1 → tq_Wb p l e 2048 84000 s m args below meth c z A0 N1 H1 locs1 Q (F0 m 1988 ls [])) : tq_Wb p l e 2048 84000 s m args below meth c z A0 N H locs Q (F0 m 1509 ls []) := by
  obtain ⟨hx, hb, hr, hml, hown, hts, hlocks, hK, hG⟩ := C
  refine lv_aload_n hx hb dL_law_1509 rfl (lv_at hl 1 rfl) ?_
  refine tqc_callVi (C := "TwoSeas") (As := []) (rest := []) (kX11_gain h) ⟨hx, hb, hml, hown, hts⟩ (cwV 0 hts (tq_goodV tw_1298 tw_1299 tw_1300 tw_115 tw_1301) rfl rfl rfl (by decide +kernel) ⟨(Nat.le_of_ble_eq_true rfl), (Nat.le_of_ble_eq_true rfl)⟩) (tq_recvC hK hW (by decide) (tq_mk_1 (by decide)) rfl) hK hG hW hS rfl hl.1 rfl (Nat.le_of_ble_eq_true rfl) dL_law_1510 hN.f (fun r S1 H locs h hW hS => ?_)
  refine lv_aload_n hx hb dL_law_1513 rfl (lv_at hl 2 rfl) ?_
  refine tq_callVi (As := []) (rest := [.int r]) (kX12_gain h) ⟨hx, hb, hml, hown, hts⟩ (cwV 0 hts (tq_goodV tw_2054 tw_2055 tw_2056 tw_125 tw_2057) rfl rfl rfl (by decide +kernel) ⟨(Nat.le_of_ble_eq_true rfl), (Nat.le_of_ble_eq_true rfl)⟩) hK hG hW hS rfl hl.1 rfl (Nat.le_of_ble_eq_true rfl) dL_law_1514 hN.f (fun r1 M1 H locs h hW hS => ?_)
  exact lv_icmp_eq (tgt := 1988) hx hb dL_law_1517 (by decide) (fun _ => kk _ _ _ _ _ h.2 hN hW hS) (fun q => absurd h.1 q)
set_option maxHeartbeats 4000000 in
set_option maxRecDepth 100000 in
theorem tqL_c38 (C : tq_At p s m meth c args cL_law 4 (some .boolean) tqL_T RL D cy z ad) (hX : va_X b L xs s s.heap) (hbl : b < s.heap.size) (hbz : ¬ z ≤ b) (hi : i + 6 ≤ L) (hL : L ≤ 3072) (h : wpX11_divide N (fun S1 r => wpX12_divide (fun M1 r1 => r = r1 ∧ I N S1 M1) M (xs (i + 1))) S (xs (i + 1))) (hN : tq_nb z A0 s N) (hW : tq_wd D cy z H0 ad N (tq_mix S M) H) (hS : va_S (fun q => z ≤ q) s.heap H locs) (hl : lv_has ls 4 [(0, .ref b), (1, .ref (ad 1 0)), (2, .ref (ad 64 0)), (3, .int (Int32.ofNat i))])
    (kk : ∀ (N1 : tq_Nn) (S1 M1 : tq_St) (H1 : Heap) (locs1 : List Loc), I N1 S1 M1 → tq_nb z A0 s N1 → tq_wd D cy z H0 ad N1 (tq_mix S1 M1) H1 → va_S (fun q => z ≤ q) s.heap H1 locs1 → tq_Wb p l e 2048 84000 s m args below meth c z A0 N1 H1 locs1 Q (F0 m 1988 ls [])) : tq_Wb p l e 2048 84000 s m args below meth c z A0 N H locs Q (F0 m 1522 ls []) := by
  obtain ⟨hx, hb, hr, hml, hown, hts, hlocks, hK, hG⟩ := C
  refine lv_aload_n hx hb dL_law_1522 rfl (lv_at hl 1 rfl) ?_
  refine tqL_arg (k := 1) hx hb hX hbl hbz hS hl hi hL (by decide) (by decide) dL_law_1523 dL_law_1524 dL_law_1525 dL_law_1526 dL_law_1527 ?_
  refine tqc_callVi (C := "TwoSeas") (As := [.int (xs (i + 1))]) (rest := []) (kX11_divide h) ⟨hx, hb, hml, hown, hts⟩ (cwV 1 hts (tq_goodV tw_1306 tw_1307 tw_1308 tw_115 tw_1309) rfl rfl rfl (by decide +kernel) ⟨(Nat.le_of_ble_eq_true rfl), (Nat.le_of_ble_eq_true rfl)⟩) (tq_recvC hK hW (by decide) (tq_mk_1 (by decide)) rfl) hK hG hW hS rfl hl.1 rfl (Nat.le_of_ble_eq_true rfl) dL_law_1528 hN.f (fun r S1 H locs h hW hS => ?_)
  refine lv_aload_n hx hb dL_law_1531 rfl (lv_at hl 2 rfl) ?_
  refine tqL_arg (k := 1) hx hb hX hbl hbz hS hl hi hL (by decide) (by decide) dL_law_1532 dL_law_1533 dL_law_1534 dL_law_1535 dL_law_1536 ?_
  refine tq_callVi (As := [.int (xs (i + 1))]) (rest := [.int r]) (kX12_divide h) ⟨hx, hb, hml, hown, hts⟩ (cwV 1 hts (tq_goodV tw_2062 tw_2063 tw_2064 tw_125 tw_2065) rfl rfl rfl (by decide +kernel) ⟨(Nat.le_of_ble_eq_true rfl), (Nat.le_of_ble_eq_true rfl)⟩) hK hG hW hS rfl hl.1 rfl (Nat.le_of_ble_eq_true rfl) dL_law_1537 hN.f (fun r1 M1 H locs h hW hS => ?_)
  exact lv_icmp_eq (tgt := 1988) hx hb dL_law_1540 (by decide) (fun _ => kk _ _ _ _ _ h.2 hN hW hS) (fun q => absurd h.1 q)
set_option maxHeartbeats 4000000 in
set_option maxRecDepth 100000 in
theorem tqL_c39 (C : tq_At p s m meth c args cL_law 4 (some .boolean) tqL_T RL D cy z ad) (hX : va_X b L xs s s.heap) (hbl : b < s.heap.size) (hbz : ¬ z ≤ b) (hi : i + 6 ≤ L) (hL : L ≤ 3072) (h : wpX11_holder N (fun S1 r => wpX12_holder (fun M1 r1 => r = r1 ∧ I N S1 M1) M (xs (i + 1)) (xs (i + 2))) S (xs (i + 1)) (xs (i + 2))) (hN : tq_nb z A0 s N) (hW : tq_wd D cy z H0 ad N (tq_mix S M) H) (hS : va_S (fun q => z ≤ q) s.heap H locs) (hl : lv_has ls 4 [(0, .ref b), (1, .ref (ad 1 0)), (2, .ref (ad 64 0)), (3, .int (Int32.ofNat i))])
    (kk : ∀ (N1 : tq_Nn) (S1 M1 : tq_St) (H1 : Heap) (locs1 : List Loc), I N1 S1 M1 → tq_nb z A0 s N1 → tq_wd D cy z H0 ad N1 (tq_mix S1 M1) H1 → va_S (fun q => z ≤ q) s.heap H1 locs1 → tq_Wb p l e 2048 84000 s m args below meth c z A0 N1 H1 locs1 Q (F0 m 1988 ls [])) : tq_Wb p l e 2048 84000 s m args below meth c z A0 N H locs Q (F0 m 1545 ls []) := by
  obtain ⟨hx, hb, hr, hml, hown, hts, hlocks, hK, hG⟩ := C
  refine lv_aload_n hx hb dL_law_1545 rfl (lv_at hl 1 rfl) ?_
  refine tqL_arg (k := 1) hx hb hX hbl hbz hS hl hi hL (by decide) (by decide) dL_law_1546 dL_law_1547 dL_law_1548 dL_law_1549 dL_law_1550 ?_
  refine tqL_arg (k := 2) hx hb hX hbl hbz hS hl hi hL (by decide) (by decide) dL_law_1551 dL_law_1552 dL_law_1553 dL_law_1554 dL_law_1555 ?_
  refine tqc_callVi (C := "TwoSeas") (As := [.int (xs (i + 1)), .int (xs (i + 2))]) (rest := []) (kX11_holder h) ⟨hx, hb, hml, hown, hts⟩ (cwV 2 hts (tq_goodV tw_1312 tw_1313 tw_1314 tw_115 tw_1315) rfl rfl rfl (by decide +kernel) ⟨(Nat.le_of_ble_eq_true rfl), (Nat.le_of_ble_eq_true rfl)⟩) (tq_recvC hK hW (by decide) (tq_mk_1 (by decide)) rfl) hK hG hW hS rfl hl.1 rfl (Nat.le_of_ble_eq_true rfl) dL_law_1556 hN.f (fun r S1 H locs h hW hS => ?_)
  refine lv_aload_n hx hb dL_law_1559 rfl (lv_at hl 2 rfl) ?_
  refine tqL_arg (k := 1) hx hb hX hbl hbz hS hl hi hL (by decide) (by decide) dL_law_1560 dL_law_1561 dL_law_1562 dL_law_1563 dL_law_1564 ?_
  refine tqL_arg (k := 2) hx hb hX hbl hbz hS hl hi hL (by decide) (by decide) dL_law_1565 dL_law_1566 dL_law_1567 dL_law_1568 dL_law_1569 ?_
  refine tq_callVi (As := [.int (xs (i + 1)), .int (xs (i + 2))]) (rest := [.int r]) (kX12_holder h) ⟨hx, hb, hml, hown, hts⟩ (cwV 2 hts (tq_goodV tw_2068 tw_2069 tw_2070 tw_125 tw_2071) rfl rfl rfl (by decide +kernel) ⟨(Nat.le_of_ble_eq_true rfl), (Nat.le_of_ble_eq_true rfl)⟩) hK hG hW hS rfl hl.1 rfl (Nat.le_of_ble_eq_true rfl) dL_law_1570 hN.f (fun r1 M1 H locs h hW hS => ?_)
  exact lv_icmp_eq (tgt := 1988) hx hb dL_law_1573 (by decide) (fun _ => kk _ _ _ _ _ h.2 hN hW hS) (fun q => absurd h.1 q)
end TQLAW
