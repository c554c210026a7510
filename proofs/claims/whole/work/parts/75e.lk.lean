/-! the law's cases -/
section LK
variable {p : Program} {l : Launch} {e : Env} {s : State} {m : MethodId} {below : List Frame} {meth : Method} {c : Code} {Q : State → Prop} {b L : Nat} {xs : Nat → Int32} {A : Nat → Prop} {G : gT} {h0 m0 ho : Nat} {mh : Nat → Nat} {F i j : Nat}
set_option maxHeartbeats 4000000 in
set_option maxRecDepth 100000 in
theorem lk_unit (hF : 1048600 < F) (X : LCx p l s m c b L xs A G) (hi : i + 5 ≤ L) (hj : j ≤ 511) (hK1 : KN p l e s m below meth c b A G h0 m0 ho mh Q 1506 i (j + 1)) : KN p l e s m below meth c b A G h0 m0 ho mh Q 1273 i j := by
  intro h σ μ fo M Cc Nn H locs ls hI hSm hM hC hN hl
  obtain ⟨S, hK, hA, hbA, hZ, hNc, hX, hbl, hL, htr⟩ := X
  have hx := S.1
  have hb := S.2.1
  have hts := S.2.2.2.2
  have hown := S.2.2.2.1
  obtain ⟨r, σ1, C, N, a1, μ1, f1, f2, ft, hab, hAf⟩ := C_unit (F := F) hF (by omega) (xs (i + 1)) (xs (i + 2)) hSm
  obtain ⟨⟨M1, hSm1, hm1, hm2⟩, hli, hC1, hN1⟩ := hAf
  have hpo := pot_le hSm1
  refine lv_aload_n hx hb dL_law_1273 rfl (lv_at hl 1 rfl) ?_
  refine l_arg hx hb hX hbl hbA hI.2.2 (k := 1) (lv_at hl 0 rfl) (lv_at hl 4 rfl) (by decide) (by omega) hL dL_law_1274 dL_law_1275 dL_law_1277 dL_law_1278 dL_law_1279 ?_
  refine l_arg hx hb hX hbl hbA hI.2.2 (k := 2) (lv_at hl 0 rfl) (lv_at hl 4 rfl) (by decide) (by omega) hL dL_law_1280 dL_law_1281 dL_law_1283 dL_law_1284 dL_law_1285 ?_
  refine lv_aload_n hx hb dL_law_1286 rfl (lv_at hl 3 rfl) ?_
  refine lc_o S hK hA hZ hNc hI (As := [.int (xs (i + 1)), .int (xs (i + 2)), .ref ho]) (rest := []) (kL_unit l htr G h0 h ho fo H.size F σ (xs (i + 1)) (xs (i + 2)) r σ1 C N f1) (vx_cwSW 4 hts gL_law_L_unit rfl rfl rfl nL_unit ⟨Nat.le_of_ble_eq_true rfl, Nat.le_of_ble_eq_true rfl⟩) rfl hl.1 rfl (Nat.le_of_ble_eq_true rfl) dL_law_1287 ⟨by show _ ≤ 601024; omega, by show _ ≤ 7293000; omega⟩ (fun h H locs hI => ?_)
  refine lv_istore (lv' := [(5, .int (xC r)), (0, .ref b), (1, .ref h0), (2, .ref m0), (3, .ref ho), (4, .int (nI i))]) hx hb dL_law_1290 hl (by decide) rfl (fun ls hl => ?_)
  refine lv_aload_n hx hb dL_law_1292 rfl (lv_at hl 3 rfl) ?_
  refine l_arg hx hb hX hbl hbA hI.2.2 (k := 1) (lv_at hl 1 rfl) (lv_at hl 5 rfl) (by decide) (by omega) hL dL_law_1293 dL_law_1294 dL_law_1296 dL_law_1297 dL_law_1298 ?_
  refine l_arg hx hb hX hbl hbA hI.2.2 (k := 2) (lv_at hl 1 rfl) (lv_at hl 5 rfl) (by decide) (by omega) hL dL_law_1299 dL_law_1300 dL_law_1302 dL_law_1303 dL_law_1304 ?_
  refine lm_i S hK hA hI (As := [.int (xs (i + 1)), .int (xs (i + 2))]) (rest := []) (kX1_unit l G m0 mh H.size F μ (xs (i + 1)) (xs (i + 2)) a1 μ1 f2) (cwV 2 hts gL_law_X1_unit rfl rfl rfl nX1_unit ⟨Nat.le_of_ble_eq_true rfl, Nat.le_of_ble_eq_true rfl⟩) rfl hl.1 rfl (Nat.le_of_ble_eq_true rfl) dL_law_1305 ⟨by show _ ≤ 601024; omega, by show _ ≤ 7293000; omega⟩ (fun H locs hI => ?_)
  refine lv_istore (lv' := [(6, .int a1), (5, .int (xC r)), (0, .ref b), (1, .ref h0), (2, .ref m0), (3, .ref ho), (4, .int (nI i))]) hx hb dL_law_1308 hl (by decide) rfl (fun ls hl => ?_)
  refine lv_aload_n hx hb dL_law_1310 rfl (lv_at hl 4 rfl) ?_
  refine lm_i S hK hA hI (As := []) (rest := []) (kX1_thrown l G m0 mh H.size F μ1 (m_thrown μ1) μ1 rfl) (cwV 0 hts gL_law_X1_thrown rfl rfl rfl nX1_thrown ⟨Nat.le_of_ble_eq_true rfl, Nat.le_of_ble_eq_true rfl⟩) rfl hl.1 rfl (Nat.le_of_ble_eq_true rfl) dL_law_1311 ⟨by show _ ≤ 601024; omega, by show _ ≤ 7293000; omega⟩ (fun H locs hI => ?_)
  refine lv_iload hx hb dL_law_1314 (lv_at hl 1 rfl) ?_
  refine lv_icmp_eq (tgt := 1321) hx hb dL_law_1316 (by decide) (fun c1 => ?_) (fun c1 => absurd ft c1)
  refine lv_iload hx hb dL_law_1321 (lv_at hl 1 rfl) ?_
  refine lv_if_ne (tgt := 1338) hx hb dL_law_1323 (by decide) (fun c2 => ?_) (fun c2 => ?_)
  · refine lv_goto (tgt := 1506) hx hb dL_law_1338 (by decide) ?_
    exact hK1 h σ1 μ1 (oOut Int32.toInt64 r fo) M1 _ _ H locs ls hI hSm1 (by omega) (by omega) (by omega) (lv_sub hl [2, 3, 4, 5, 6] rfl)
  · refine lv_aload_n hx hb dL_law_1326 rfl (lv_at hl 5 rfl) ?_
    refine lv_iconst (v := 0) hx hb dL_law_1327 (by decide) ?_
    refine va_lald hx hb hK hI.1 23 1 rfl rfl (show vp_in (0 : Int32) 1 from vp_in_nI (n := 0) (by omega) (by omega)) dL_law_1328 ?_
    refine lv_iload hx hb dL_law_1329 (lv_at hl 0 rfl) ?_
    refine lv_i2l (v := a1.toInt64) hx hb dL_law_1331 rfl ?_
    refine W.lcmp hx hb dL_law_1332 ?_
    refine lv_if_eq (tgt := 1338) hx hb dL_law_1333 (by decide) (fun _ => ?_) (fun c9 => absurd (oOut_cmp c2 (fun a e => by rw [hab a e])) c9)
    refine lv_goto (tgt := 1506) hx hb dL_law_1338 (by decide) ?_
    exact hK1 h σ1 μ1 (oOut Int32.toInt64 r fo) M1 _ _ H locs ls hI hSm1 (by omega) (by omega) (by omega) (lv_sub hl [2, 3, 4, 5, 6] rfl)
set_option maxHeartbeats 4000000 in
set_option maxRecDepth 100000 in
theorem lk_compare (hF : 1048600 < F) (X : LCx p l s m c b L xs A G) (hi : i + 5 ≤ L) (hj : j ≤ 511) (hK1 : KN p l e s m below meth c b A G h0 m0 ho mh Q 1506 i (j + 1)) : KN p l e s m below meth c b A G h0 m0 ho mh Q 1341 i j := by
  intro h σ μ fo M Cc Nn H locs ls hI hSm hM hC hN hl
  obtain ⟨S, hK, hA, hbA, hZ, hNc, hX, hbl, hL, htr⟩ := X
  have hx := S.1
  have hb := S.2.1
  have hts := S.2.2.2.2
  have hown := S.2.2.2.1
  obtain ⟨r, σ1, C, N, a1, μ1, f1, f2, ft, hab, hAf⟩ := C_compare (F := F) hF (by omega) (xs (i + 1)) (xs (i + 2)) hSm
  obtain ⟨⟨M1, hSm1, hm1, hm2⟩, hli, hC1, hN1⟩ := hAf
  have hpo := pot_le hSm1
  refine lv_aload_n hx hb dL_law_1341 rfl (lv_at hl 1 rfl) ?_
  refine l_arg hx hb hX hbl hbA hI.2.2 (k := 1) (lv_at hl 0 rfl) (lv_at hl 4 rfl) (by decide) (by omega) hL dL_law_1342 dL_law_1343 dL_law_1345 dL_law_1346 dL_law_1347 ?_
  refine l_arg hx hb hX hbl hbA hI.2.2 (k := 2) (lv_at hl 0 rfl) (lv_at hl 4 rfl) (by decide) (by omega) hL dL_law_1348 dL_law_1349 dL_law_1351 dL_law_1352 dL_law_1353 ?_
  refine lv_aload_n hx hb dL_law_1354 rfl (lv_at hl 3 rfl) ?_
  refine lc_o S hK hA hZ hNc hI (As := [.int (xs (i + 1)), .int (xs (i + 2)), .ref ho]) (rest := []) (kL_compare l htr G h0 h ho fo H.size F σ (xs (i + 1)) (xs (i + 2)) r σ1 C N f1) (vx_cwSW 4 hts gL_law_L_compare rfl rfl rfl nL_compare ⟨Nat.le_of_ble_eq_true rfl, Nat.le_of_ble_eq_true rfl⟩) rfl hl.1 rfl (Nat.le_of_ble_eq_true rfl) dL_law_1355 ⟨by show _ ≤ 601024; omega, by show _ ≤ 7293000; omega⟩ (fun h H locs hI => ?_)
  refine lv_istore (lv' := [(5, .int (xC r)), (0, .ref b), (1, .ref h0), (2, .ref m0), (3, .ref ho), (4, .int (nI i))]) hx hb dL_law_1358 hl (by decide) rfl (fun ls hl => ?_)
  refine lv_aload_n hx hb dL_law_1360 rfl (lv_at hl 3 rfl) ?_
  refine l_arg hx hb hX hbl hbA hI.2.2 (k := 1) (lv_at hl 1 rfl) (lv_at hl 5 rfl) (by decide) (by omega) hL dL_law_1361 dL_law_1362 dL_law_1364 dL_law_1365 dL_law_1366 ?_
  refine l_arg hx hb hX hbl hbA hI.2.2 (k := 2) (lv_at hl 1 rfl) (lv_at hl 5 rfl) (by decide) (by omega) hL dL_law_1367 dL_law_1368 dL_law_1370 dL_law_1371 dL_law_1372 ?_
  refine lm_i S hK hA hI (As := [.int (xs (i + 1)), .int (xs (i + 2))]) (rest := []) (kX1_compare l G m0 mh H.size F μ (xs (i + 1)) (xs (i + 2)) a1 μ1 f2) (cwV 2 hts gL_law_X1_compare rfl rfl rfl nX1_compare ⟨Nat.le_of_ble_eq_true rfl, Nat.le_of_ble_eq_true rfl⟩) rfl hl.1 rfl (Nat.le_of_ble_eq_true rfl) dL_law_1373 ⟨by show _ ≤ 601024; omega, by show _ ≤ 7293000; omega⟩ (fun H locs hI => ?_)
  refine lv_istore (lv' := [(6, .int a1), (5, .int (xC r)), (0, .ref b), (1, .ref h0), (2, .ref m0), (3, .ref ho), (4, .int (nI i))]) hx hb dL_law_1376 hl (by decide) rfl (fun ls hl => ?_)
  refine lv_aload_n hx hb dL_law_1378 rfl (lv_at hl 4 rfl) ?_
  refine lm_i S hK hA hI (As := []) (rest := []) (kX1_thrown l G m0 mh H.size F μ1 (m_thrown μ1) μ1 rfl) (cwV 0 hts gL_law_X1_thrown rfl rfl rfl nX1_thrown ⟨Nat.le_of_ble_eq_true rfl, Nat.le_of_ble_eq_true rfl⟩) rfl hl.1 rfl (Nat.le_of_ble_eq_true rfl) dL_law_1379 ⟨by show _ ≤ 601024; omega, by show _ ≤ 7293000; omega⟩ (fun H locs hI => ?_)
  refine lv_iload hx hb dL_law_1382 (lv_at hl 1 rfl) ?_
  refine lv_icmp_eq (tgt := 1389) hx hb dL_law_1384 (by decide) (fun c1 => ?_) (fun c1 => absurd ft c1)
  refine lv_iload hx hb dL_law_1389 (lv_at hl 1 rfl) ?_
  refine lv_if_ne (tgt := 1406) hx hb dL_law_1391 (by decide) (fun c2 => ?_) (fun c2 => ?_)
  · refine lv_goto (tgt := 1506) hx hb dL_law_1406 (by decide) ?_
    exact hK1 h σ1 μ1 (oOut Int32.toInt64 r fo) M1 _ _ H locs ls hI hSm1 (by omega) (by omega) (by omega) (lv_sub hl [2, 3, 4, 5, 6] rfl)
  · refine lv_aload_n hx hb dL_law_1394 rfl (lv_at hl 5 rfl) ?_
    refine lv_iconst (v := 0) hx hb dL_law_1395 (by decide) ?_
    refine va_lald hx hb hK hI.1 23 1 rfl rfl (show vp_in (0 : Int32) 1 from vp_in_nI (n := 0) (by omega) (by omega)) dL_law_1396 ?_
    refine lv_iload hx hb dL_law_1397 (lv_at hl 0 rfl) ?_
    refine lv_i2l (v := a1.toInt64) hx hb dL_law_1399 rfl ?_
    refine W.lcmp hx hb dL_law_1400 ?_
    refine lv_if_eq (tgt := 1406) hx hb dL_law_1401 (by decide) (fun _ => ?_) (fun c9 => absurd (oOut_cmp c2 (fun a e => by rw [hab a e])) c9)
    refine lv_goto (tgt := 1506) hx hb dL_law_1406 (by decide) ?_
    exact hK1 h σ1 μ1 (oOut Int32.toInt64 r fo) M1 _ _ H locs ls hI hSm1 (by omega) (by omega) (by omega) (lv_sub hl [2, 3, 4, 5, 6] rfl)
set_option maxHeartbeats 4000000 in
set_option maxRecDepth 100000 in
theorem lk_name (hF : 1048600 < F) (X : LCx p l s m c b L xs A G) (hi : i + 5 ≤ L) (hj : j ≤ 511) (hK1 : KN p l e s m below meth c b A G h0 m0 ho mh Q 1506 i (j + 1)) : KN p l e s m below meth c b A G h0 m0 ho mh Q 1409 i j := by
  intro h σ μ fo M Cc Nn H locs ls hI hSm hM hC hN hl
  obtain ⟨S, hK, hA, hbA, hZ, hNc, hX, hbl, hL, htr⟩ := X
  have hx := S.1
  have hb := S.2.1
  have hts := S.2.2.2.2
  have hown := S.2.2.2.1
  obtain ⟨r, σ1, C, N, μ1, f1, f2, ft, hAf⟩ := C_name (F := F) hF (by omega) (xs (i + 1)) (xs (i + 2)) hSm
  obtain ⟨⟨M1, hSm1, hm1, hm2⟩, hli, hC1, hN1⟩ := hAf
  have hpo := pot_le hSm1
  refine lv_aload_n hx hb dL_law_1409 rfl (lv_at hl 1 rfl) ?_
  refine l_arg hx hb hX hbl hbA hI.2.2 (k := 1) (lv_at hl 0 rfl) (lv_at hl 4 rfl) (by decide) (by omega) hL dL_law_1410 dL_law_1411 dL_law_1413 dL_law_1414 dL_law_1415 ?_
  refine l_arg hx hb hX hbl hbA hI.2.2 (k := 2) (lv_at hl 0 rfl) (lv_at hl 4 rfl) (by decide) (by omega) hL dL_law_1416 dL_law_1417 dL_law_1419 dL_law_1420 dL_law_1421 ?_
  refine lc_s S hK hA hZ hNc hI (As := [.int (xs (i + 1)), .int (xs (i + 2))]) (rest := []) (kL_name l htr G h0 h H.size F σ (xs (i + 1)) (xs (i + 2)) r σ1 C N f1) (vx_cwSW 3 hts gL_law_L_name rfl rfl rfl nL_name ⟨Nat.le_of_ble_eq_true rfl, Nat.le_of_ble_eq_true rfl⟩) rfl hl.1 rfl (Nat.le_of_ble_eq_true rfl) dL_law_1422 ⟨by show _ ≤ 601024; omega, by show _ ≤ 7293000; omega⟩ (fun h H locs hI => ?_)
  refine lv_istore (lv' := [(5, .int (xC r)), (0, .ref b), (1, .ref h0), (2, .ref m0), (3, .ref ho), (4, .int (nI i))]) hx hb dL_law_1425 hl (by decide) rfl (fun ls hl => ?_)
  refine lv_aload_n hx hb dL_law_1427 rfl (lv_at hl 3 rfl) ?_
  refine l_arg hx hb hX hbl hbA hI.2.2 (k := 1) (lv_at hl 1 rfl) (lv_at hl 5 rfl) (by decide) (by omega) hL dL_law_1428 dL_law_1429 dL_law_1431 dL_law_1432 dL_law_1433 ?_
  refine l_arg hx hb hX hbl hbA hI.2.2 (k := 2) (lv_at hl 1 rfl) (lv_at hl 5 rfl) (by decide) (by omega) hL dL_law_1434 dL_law_1435 dL_law_1437 dL_law_1438 dL_law_1439 ?_
  refine lm_v S hK hA hI (As := [.int (xs (i + 1)), .int (xs (i + 2))]) (rest := []) (kX1_name l G m0 mh H.size F μ (xs (i + 1)) (xs (i + 2)) μ1 f2) (cwV 2 hts gL_law_X1_name rfl rfl rfl nX1_name ⟨Nat.le_of_ble_eq_true rfl, Nat.le_of_ble_eq_true rfl⟩) rfl hl.1 rfl (Nat.le_of_ble_eq_true rfl) dL_law_1440 ⟨by show _ ≤ 601024; omega, by show _ ≤ 7293000; omega⟩ (fun H locs hI => ?_)
  refine lv_aload_n hx hb dL_law_1443 rfl (lv_at hl 3 rfl) ?_
  refine lm_i S hK hA hI (As := []) (rest := []) (kX1_thrown l G m0 mh H.size F μ1 (m_thrown μ1) μ1 rfl) (cwV 0 hts gL_law_X1_thrown rfl rfl rfl nX1_thrown ⟨Nat.le_of_ble_eq_true rfl, Nat.le_of_ble_eq_true rfl⟩) rfl hl.1 rfl (Nat.le_of_ble_eq_true rfl) dL_law_1444 ⟨by show _ ≤ 601024; omega, by show _ ≤ 7293000; omega⟩ (fun H locs hI => ?_)
  refine lv_iload hx hb dL_law_1447 (lv_at hl 0 rfl) ?_
  refine lv_icmp_eq (tgt := 1454) hx hb dL_law_1449 (by decide) (fun c1 => ?_) (fun c1 => absurd ft c1)
  refine lv_goto (tgt := 1506) hx hb dL_law_1454 (by decide) ?_
  exact hK1 h σ1 μ1 fo M1 _ _ H locs ls hI hSm1 (by omega) (by omega) (by omega) (lv_sub hl [1, 2, 3, 4, 5] rfl)
set_option maxHeartbeats 4000000 in
set_option maxRecDepth 100000 in
theorem lk_stress (hF : 1048600 < F) (X : LCx p l s m c b L xs A G) (hi : i + 5 ≤ L) (hj : j ≤ 511) (hK1 : KN p l e s m below meth c b A G h0 m0 ho mh Q 1506 i (j + 1)) : KN p l e s m below meth c b A G h0 m0 ho mh Q 1470 i j := by
  intro h σ μ fo M Cc Nn H locs ls hI hSm hM hC hN hl
  obtain ⟨S, hK, hA, hbA, hZ, hNc, hX, hbl, hL, htr⟩ := X
  have hx := S.1
  have hb := S.2.1
  have hts := S.2.2.2.2
  have hown := S.2.2.2.1
  obtain ⟨r, σ1, C, N, μ1, f1, f2, ft, hk1, hAf⟩ := C_stress (F := F) (xs (i + 1)) hSm
  obtain ⟨⟨M1, hSm1, hm1, hm2⟩, hli, hC1, hN1⟩ := hAf
  have hpo := pot_le hSm1
  refine lv_aload_n hx hb dL_law_1470 rfl (lv_at hl 1 rfl) ?_
  refine l_arg hx hb hX hbl hbA hI.2.2 (k := 1) (lv_at hl 0 rfl) (lv_at hl 4 rfl) (by decide) (by omega) hL dL_law_1471 dL_law_1472 dL_law_1474 dL_law_1475 dL_law_1476 ?_
  refine lc_s S hK hA hZ hNc hI (As := [.int (xs (i + 1))]) (rest := []) (kL_stress l htr G h0 h H.size F σ (xs (i + 1)) r σ1 C N hk1 f1) (vx_cwSW 2 hts gL_law_L_stress rfl rfl rfl nL_stress ⟨Nat.le_of_ble_eq_true rfl, Nat.le_of_ble_eq_true rfl⟩) rfl hl.1 rfl (Nat.le_of_ble_eq_true rfl) dL_law_1477 ⟨by show _ ≤ 601024; omega, by show _ ≤ 7293000; omega⟩ (fun h H locs hI => ?_)
  refine lv_istore (lv' := [(5, .int (xC r)), (0, .ref b), (1, .ref h0), (2, .ref m0), (3, .ref ho), (4, .int (nI i))]) hx hb dL_law_1480 hl (by decide) rfl (fun ls hl => ?_)
  refine lv_aload_n hx hb dL_law_1482 rfl (lv_at hl 3 rfl) ?_
  refine l_arg hx hb hX hbl hbA hI.2.2 (k := 1) (lv_at hl 1 rfl) (lv_at hl 5 rfl) (by decide) (by omega) hL dL_law_1483 dL_law_1484 dL_law_1486 dL_law_1487 dL_law_1488 ?_
  refine lm_v S hK hA hI (As := [.int (xs (i + 1))]) (rest := []) (kX1_stress l G m0 mh H.size F μ (xs (i + 1)) μ1 f2) (cwV 1 hts gL_law_X1_stress rfl rfl rfl nX1_stress ⟨Nat.le_of_ble_eq_true rfl, Nat.le_of_ble_eq_true rfl⟩) rfl hl.1 rfl (Nat.le_of_ble_eq_true rfl) dL_law_1489 ⟨by show _ ≤ 601024; omega, by show _ ≤ 7293000; omega⟩ (fun H locs hI => ?_)
  refine lv_aload_n hx hb dL_law_1492 rfl (lv_at hl 3 rfl) ?_
  refine lm_i S hK hA hI (As := []) (rest := []) (kX1_thrown l G m0 mh H.size F μ1 (m_thrown μ1) μ1 rfl) (cwV 0 hts gL_law_X1_thrown rfl rfl rfl nX1_thrown ⟨Nat.le_of_ble_eq_true rfl, Nat.le_of_ble_eq_true rfl⟩) rfl hl.1 rfl (Nat.le_of_ble_eq_true rfl) dL_law_1493 ⟨by show _ ≤ 601024; omega, by show _ ≤ 7293000; omega⟩ (fun H locs hI => ?_)
  refine lv_iload hx hb dL_law_1496 (lv_at hl 0 rfl) ?_
  refine lv_icmp_eq (tgt := 1503) hx hb dL_law_1498 (by decide) (fun c1 => ?_) (fun c1 => absurd ft c1)
  refine lv_goto (tgt := 1506) hx hb dL_law_1503 (by decide) ?_
  exact hK1 h σ1 μ1 fo M1 _ _ H locs ls hI hSm1 (by omega) (by omega) (by omega) (lv_sub hl [1, 2, 3, 4, 5] rfl)
set_option maxHeartbeats 4000000 in
set_option maxRecDepth 100000 in
theorem lk_collect (hF : 1048600 < F) (X : LCx p l s m c b L xs A G) (hi : i + 5 ≤ L) (hj : j ≤ 511) (hK1 : KN p l e s m below meth c b A G h0 m0 ho mh Q 1506 i (j + 1)) : KN p l e s m below meth c b A G h0 m0 ho mh Q 1457 i j := by
  intro h σ μ fo M Cc Nn H locs ls hI hSm hM hC hN hl
  obtain ⟨S, hK, hA, hbA, hZ, hNc, hX, hbl, hL, htr⟩ := X
  have hx := S.1
  have hb := S.2.1
  have hts := S.2.2.2.2
  have hown := S.2.2.2.1
  obtain ⟨a1, σ1, μ1, f1, f2, hAf⟩ := C_collect (F := F) hF hSm
  obtain ⟨⟨M1, hSm1, hm1, hm2⟩, hli, hC1, hN1⟩ := hAf
  have hpo := pot_le hSm1
  refine lv_aload_n hx hb dL_law_1457 rfl (lv_at hl 1 rfl) ?_
  refine lx_i S hK hA hI (As := []) (rest := []) (kX0_collect l G h0 h H.size F σ a1 σ1 f1) (cwV 0 hts gL_law_X0_collect rfl rfl rfl nX0_collect ⟨Nat.le_of_ble_eq_true rfl, Nat.le_of_ble_eq_true rfl⟩) rfl hl.1 rfl (Nat.le_of_ble_eq_true rfl) dL_law_1458 ⟨by show _ ≤ 601024; omega, by show _ ≤ 7293000; omega⟩ (fun H locs hI => ?_)
  refine lv_aload_n hx hb dL_law_1461 rfl (lv_at hl 2 rfl) ?_
  refine lm_i S hK hA hI (As := []) (rest := [.int a1]) (kX1_collect l G m0 mh H.size F μ a1 μ1 f2) (cwV 0 hts gL_law_X1_collect rfl rfl rfl nX1_collect ⟨Nat.le_of_ble_eq_true rfl, Nat.le_of_ble_eq_true rfl⟩) rfl hl.1 rfl (Nat.le_of_ble_eq_true rfl) dL_law_1462 ⟨by show _ ≤ 601024; omega, by show _ ≤ 7293000; omega⟩ (fun H locs hI => ?_)
  refine lv_icmp_eq (tgt := 1506) hx hb dL_law_1465 (by decide) (fun _ => ?_) (fun c1 => absurd rfl c1)
  exact hK1 h σ1 μ1 fo M1 _ _ H locs ls hI hSm1 (by omega) (by omega) (by omega) (lv_sub hl [0, 1, 2, 3, 4] rfl)
end LK
