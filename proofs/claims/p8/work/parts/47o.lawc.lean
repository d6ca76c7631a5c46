set_option maxRecDepth 100000 in
set_option maxHeartbeats 4000000 in
theorem lwx_39 {l : Launch} {G : xG} (hL : G.2.2.2.2.1 ≤ 3072) {M : xM} {J : xJ} {i : Nat} (hi : i + 6 ≤ G.2.2.2.2.1) (hC : InvC M) (hR : InvR M) (hB_ : RB M) (hP_ : RP M) (hT_ : RT M) (hS_ : RS M) (hE_ : RE J) (hY_ : RY M J) (hX_ : RX M) (hN : ∀ (M2 : xM) (J2 : xJ), InvC M2 → InvR M2 → RB M2 → RP M2 → RT M2 → RS M2 → RE J2 → RY M2 J2 → RX M2 → x_X l G fL_law 200 600000 7302250 (qR (some (.int 1))) 1502 [(3, .int (nI (i))), (2, .ref (62)), (1, .ref (0)), (0, .ref (1002))] [] x_SH M2 J2 87 2934) : x_X l G fL_law 200 600000 7302250 (qR (some (.int 1))) 1383 [(3, .int (nI (i))), (2, .ref (62)), (1, .ref (0)), (0, .ref (1002))] [] x_SH M J 87 2934 := by
  refine xr_aload_n dL_law_1383 2 rfl ?_
  refine xr_aload_n dL_law_1384 3 rfl ?_
  refine xr_iload_n dL_law_1385 0 rfl ?_
  refine xr_iconst (v := 1) dL_law_1386 rfl ?_
  refine xr_iadd dL_law_1387 ?_
  refine xb_top (y := nI (i + 1)) (nI_add (i) (1)) ?_
  refine xr_sld rfl (vp_in_nI (show i + 1 < G.2.2.2.2.1 by omega) (by omega)) dL_law_1388 ?_
  refine xb_top (y := (G.2.2.2.2.2 (i + 1))) (by rw [nI_clamp (by omega)]) ?_
  refine xr_aload_n dL_law_1389 3 rfl ?_
  refine xr_iload_n dL_law_1390 0 rfl ?_
  refine xr_iconst (v := 2) dL_law_1391 rfl ?_
  refine xr_iadd dL_law_1392 ?_
  refine xb_top (y := nI (i + 2)) (nI_add (i) (2)) ?_
  refine xr_sld rfl (vp_in_nI (show i + 2 < G.2.2.2.2.1 by omega) (by omega)) dL_law_1393 ?_
  refine xb_top (y := (G.2.2.2.2.2 (i + 2))) (by rw [nI_clamp (by omega)]) ?_
  refine xr_aload_n dL_law_1394 3 rfl ?_
  refine xr_iload_n dL_law_1395 0 rfl ?_
  refine xr_iconst (v := 3) dL_law_1396 rfl ?_
  refine xr_iadd dL_law_1397 ?_
  refine xb_top (y := nI (i + 3)) (nI_add (i) (3)) ?_
  refine xr_sld rfl (vp_in_nI (show i + 3 < G.2.2.2.2.1 by omega) (by omega)) dL_law_1398 ?_
  refine xb_top (y := (G.2.2.2.2.2 (i + 3))) (by rw [nI_clamp (by omega)]) ?_
  refine xr_aload_n dL_law_1399 3 rfl ?_
  refine xr_iload_n dL_law_1400 0 rfl ?_
  refine xr_iconst (v := 4) dL_law_1401 rfl ?_
  refine xr_iadd dL_law_1402 ?_
  refine xb_top (y := nI (i + 4)) (nI_add (i) (4)) ?_
  refine xr_sld rfl (vp_in_nI (show i + 4 < G.2.2.2.2.1 by omega) (by omega)) dL_law_1403 ?_
  refine xb_top (y := (G.2.2.2.2.2 (i + 4))) (by rw [nI_clamp (by omega)]) ?_
  refine xr_aload_n dL_law_1404 3 rfl ?_
  refine xr_iload_n dL_law_1405 0 rfl ?_
  refine xr_iconst (v := 5) dL_law_1406 rfl ?_
  refine xr_iadd dL_law_1407 ?_
  refine xb_top (y := nI (i + 5)) (nI_add (i) (5)) ?_
  refine xr_sld rfl (vp_in_nI (show i + 5 < G.2.2.2.2.1 by omega) (by omega)) dL_law_1408 ?_
  refine xb_top (y := (G.2.2.2.2.2 (i + 5))) (by rw [nI_clamp (by omega)]) ?_
  refine xr_callV (As := [.int ((G.2.2.2.2.2 (i + 1))), .int ((G.2.2.2.2.2 (i + 2))), .int ((G.2.2.2.2.2 (i + 3))), .int ((G.2.2.2.2.2 (i + 4))), .int ((G.2.2.2.2.2 (i + 5)))]) (rest := []) mlL_178 (gs_X9_shift (G.2.2.2.2.2 (i + 1)) (G.2.2.2.2.2 (i + 2)) (G.2.2.2.2.2 (i + 3)) (G.2.2.2.2.2 (i + 4)) (G.2.2.2.2.2 (i + 5)) hC) dL_law_1409 s_0 rfl rfl (Nat.le_of_ble_eq_true rfl) (by decide) ⟨by decide, by decide⟩ (fun v s2 M3 J4 hq => ?_)
  obtain ⟨r5, rfl, rfl, hj7, k6, hI1, hx2⟩ := hq
  try dsimp only [Option.toList, List.cons_append, List.nil_append]
  have kk8 : ∀ p k, 62 ≤ p → M3 p k = M p k := (fun p k hp => k6 p k (by unfold WKP; omega))
  refine xr_pop dL_law_1412 rfl ?_
  refine xr_aload_n dL_law_1413 1 rfl ?_
  refine xr_aload_n dL_law_1414 3 rfl ?_
  refine xr_iload_n dL_law_1415 0 rfl ?_
  refine xr_iconst (v := 1) dL_law_1416 rfl ?_
  refine xr_iadd dL_law_1417 ?_
  refine xb_top (y := nI (i + 1)) (nI_add (i) (1)) ?_
  refine xr_sld rfl (vp_in_nI (show i + 1 < G.2.2.2.2.1 by omega) (by omega)) dL_law_1418 ?_
  refine xb_top (y := (G.2.2.2.2.2 (i + 1))) (by rw [nI_clamp (by omega)]) ?_
  refine xr_aload_n dL_law_1419 3 rfl ?_
  refine xr_iload_n dL_law_1420 0 rfl ?_
  refine xr_iconst (v := 2) dL_law_1421 rfl ?_
  refine xr_iadd dL_law_1422 ?_
  refine xb_top (y := nI (i + 2)) (nI_add (i) (2)) ?_
  refine xr_sld rfl (vp_in_nI (show i + 2 < G.2.2.2.2.1 by omega) (by omega)) dL_law_1423 ?_
  refine xb_top (y := (G.2.2.2.2.2 (i + 2))) (by rw [nI_clamp (by omega)]) ?_
  refine xr_aload_n dL_law_1424 3 rfl ?_
  refine xr_iload_n dL_law_1425 0 rfl ?_
  refine xr_iconst (v := 3) dL_law_1426 rfl ?_
  refine xr_iadd dL_law_1427 ?_
  refine xb_top (y := nI (i + 3)) (nI_add (i) (3)) ?_
  refine xr_sld rfl (vp_in_nI (show i + 3 < G.2.2.2.2.1 by omega) (by omega)) dL_law_1428 ?_
  refine xb_top (y := (G.2.2.2.2.2 (i + 3))) (by rw [nI_clamp (by omega)]) ?_
  refine xr_aload_n dL_law_1429 3 rfl ?_
  refine xr_iload_n dL_law_1430 0 rfl ?_
  refine xr_iconst (v := 4) dL_law_1431 rfl ?_
  refine xr_iadd dL_law_1432 ?_
  refine xb_top (y := nI (i + 4)) (nI_add (i) (4)) ?_
  refine xr_sld rfl (vp_in_nI (show i + 4 < G.2.2.2.2.1 by omega) (by omega)) dL_law_1433 ?_
  refine xb_top (y := (G.2.2.2.2.2 (i + 4))) (by rw [nI_clamp (by omega)]) ?_
  refine xr_aload_n dL_law_1434 3 rfl ?_
  refine xr_iload_n dL_law_1435 0 rfl ?_
  refine xr_iconst (v := 5) dL_law_1436 rfl ?_
  refine xr_iadd dL_law_1437 ?_
  refine xb_top (y := nI (i + 5)) (nI_add (i) (5)) ?_
  refine xr_sld rfl (vp_in_nI (show i + 5 < G.2.2.2.2.1 by omega) (by omega)) dL_law_1438 ?_
  refine xb_top (y := (G.2.2.2.2.2 (i + 5))) (by rw [nI_clamp (by omega)]) ?_
  refine xr_callV (As := [.int ((G.2.2.2.2.2 (i + 1))), .int ((G.2.2.2.2.2 (i + 2))), .int ((G.2.2.2.2.2 (i + 3))), .int ((G.2.2.2.2.2 (i + 4))), .int ((G.2.2.2.2.2 (i + 5)))]) (rest := []) mlL_182 (gs_X10_shift (G.2.2.2.2.2 (i + 1)) (G.2.2.2.2.2 (i + 2)) (G.2.2.2.2.2 (i + 3)) (G.2.2.2.2.2 (i + 4)) (G.2.2.2.2.2 (i + 5)) (InvR_ke kk8 hR)) dL_law_1439 s_62 rfl rfl (Nat.le_of_ble_eq_true rfl) (by decide) ⟨by decide, by decide⟩ (fun v s2 M11 J12 hq => ?_)
  obtain ⟨r13, rfl, rfl, hj15, k14, hI9, hx10⟩ := hq
  try dsimp only [Option.toList, List.cons_append, List.nil_append]
  have kk16 : ∀ p k, p < 62 → M11 p k = M3 p k := (fun p k hp => k14 p k (by unfold WRH; omega))
  refine xr_pop dL_law_1442 rfl ?_
  refine xr_goto (tgt := 1502) dL_law_1443 rfl ?_
  refine xb_ls (ls2 := [(3, .int (nI (i))), (2, .ref (62)), (1, .ref (0)), (0, .ref (1002))]) [0, 1, 2, 3] rfl ?_
  exact hN _ _ (InvC_ke kk16 hI1) hI9 (RB_f (fun p k hp => (k14 p k (nx_WRH_CSB hp)).trans (k6 p k (nx_WKP_CSB hp))) hB_) (RP_f (fun p k hp => (k14 p k (nx_WRH_CSP hp)).trans (k6 p k (nx_WKP_CSP hp))) hP_) (RT_f (fun p k hp => (k14 p k (nx_WRH_CST hp)).trans (k6 p k (nx_WKP_CST hp))) hT_) (RS_e hx2.1 hx10.1 hS_) (jE_shift hx2 hx10 hj15 hC hS_ hE_) (jY_shift hx2 hx10 hj7 hY_) (RX_f (fun p k hp => (k14 p k (nx_WRH_CSX hp)).trans (k6 p k (nx_WKP_CSX hp))) hX_)
set_option maxRecDepth 100000 in
set_option maxHeartbeats 4000000 in
theorem lwx_40 {l : Launch} {G : xG} (hL : G.2.2.2.2.1 ≤ 3072) {M : xM} {J : xJ} {i : Nat} (hi : i + 6 ≤ G.2.2.2.2.1) (hC : InvC M) (hR : InvR M) (hB_ : RB M) (hP_ : RP M) (hT_ : RT M) (hS_ : RS M) (hE_ : RE J) (hY_ : RY M J) (hX_ : RX M) (hN : ∀ (M2 : xM) (J2 : xJ), InvC M2 → InvR M2 → RB M2 → RP M2 → RT M2 → RS M2 → RE J2 → RY M2 J2 → RX M2 → x_X l G fL_law 200 600000 7302250 (qR (some (.int 1))) 1502 [(3, .int (nI (i))), (2, .ref (62)), (1, .ref (0)), (0, .ref (1002))] [] x_SH M2 J2 87 2934) : x_X l G fL_law 200 600000 7302250 (qR (some (.int 1))) 1446 [(3, .int (nI (i))), (2, .ref (62)), (1, .ref (0)), (0, .ref (1002))] [] x_SH M J 87 2934 := by
  refine xr_aload_n dL_law_1446 2 rfl ?_
  refine xr_aload_n dL_law_1447 3 rfl ?_
  refine xr_iload_n dL_law_1448 0 rfl ?_
  refine xr_iconst (v := 1) dL_law_1449 rfl ?_
  refine xr_iadd dL_law_1450 ?_
  refine xb_top (y := nI (i + 1)) (nI_add (i) (1)) ?_
  refine xr_sld rfl (vp_in_nI (show i + 1 < G.2.2.2.2.1 by omega) (by omega)) dL_law_1451 ?_
  refine xb_top (y := (G.2.2.2.2.2 (i + 1))) (by rw [nI_clamp (by omega)]) ?_
  refine xr_aload_n dL_law_1452 3 rfl ?_
  refine xr_iload_n dL_law_1453 0 rfl ?_
  refine xr_iconst (v := 2) dL_law_1454 rfl ?_
  refine xr_iadd dL_law_1455 ?_
  refine xb_top (y := nI (i + 2)) (nI_add (i) (2)) ?_
  refine xr_sld rfl (vp_in_nI (show i + 2 < G.2.2.2.2.1 by omega) (by omega)) dL_law_1456 ?_
  refine xb_top (y := (G.2.2.2.2.2 (i + 2))) (by rw [nI_clamp (by omega)]) ?_
  refine xr_callV (As := [.int ((G.2.2.2.2.2 (i + 1))), .int ((G.2.2.2.2.2 (i + 2)))]) (rest := []) mlL_183 (gs_X9_taken (G.2.2.2.2.2 (i + 1)) (G.2.2.2.2.2 (i + 2)) hC) dL_law_1457 s_0 rfl rfl (Nat.le_of_ble_eq_true rfl) (by decide) ⟨by decide, by decide⟩ (fun v s2 M9 J2 hq => ?_)
  obtain ⟨r3, rfl, rfl, rfl, rfl, hx2⟩ := hq
  try dsimp only [Option.toList, List.cons_append, List.nil_append]
  refine xr_pop dL_law_1460 rfl ?_
  refine xr_aload_n dL_law_1461 1 rfl ?_
  refine xr_aload_n dL_law_1462 3 rfl ?_
  refine xr_iload_n dL_law_1463 0 rfl ?_
  refine xr_iconst (v := 1) dL_law_1464 rfl ?_
  refine xr_iadd dL_law_1465 ?_
  refine xb_top (y := nI (i + 1)) (nI_add (i) (1)) ?_
  refine xr_sld rfl (vp_in_nI (show i + 1 < G.2.2.2.2.1 by omega) (by omega)) dL_law_1466 ?_
  refine xb_top (y := (G.2.2.2.2.2 (i + 1))) (by rw [nI_clamp (by omega)]) ?_
  refine xr_aload_n dL_law_1467 3 rfl ?_
  refine xr_iload_n dL_law_1468 0 rfl ?_
  refine xr_iconst (v := 2) dL_law_1469 rfl ?_
  refine xr_iadd dL_law_1470 ?_
  refine xb_top (y := nI (i + 2)) (nI_add (i) (2)) ?_
  refine xr_sld rfl (vp_in_nI (show i + 2 < G.2.2.2.2.1 by omega) (by omega)) dL_law_1471 ?_
  refine xb_top (y := (G.2.2.2.2.2 (i + 2))) (by rw [nI_clamp (by omega)]) ?_
  refine xr_callV (As := [.int ((G.2.2.2.2.2 (i + 1))), .int ((G.2.2.2.2.2 (i + 2)))]) (rest := []) mlL_186 (gs_X10_taken (G.2.2.2.2.2 (i + 1)) (G.2.2.2.2.2 (i + 2)) hR) dL_law_1472 s_62 rfl rfl (Nat.le_of_ble_eq_true rfl) (by decide) ⟨by decide, by decide⟩ (fun v s2 M9 J2 hq => ?_)
  obtain ⟨r6, rfl, rfl, rfl, rfl, hx5⟩ := hq
  try dsimp only [Option.toList, List.cons_append, List.nil_append]
  refine xr_pop dL_law_1475 rfl ?_
  refine xr_goto (tgt := 1502) dL_law_1476 rfl ?_
  refine xb_ls (ls2 := [(3, .int (nI (i))), (2, .ref (62)), (1, .ref (0)), (0, .ref (1002))]) [0, 1, 2, 3] rfl ?_
  exact hN _ _ hC hR hB_ hP_ hT_ hS_ (RE_f rfl rfl hE_) hY_ hX_
set_option maxRecDepth 100000 in
set_option maxHeartbeats 4000000 in
theorem lwx_41 {l : Launch} {G : xG} (hL : G.2.2.2.2.1 ≤ 3072) {M : xM} {J : xJ} {i : Nat} (hi : i + 6 ≤ G.2.2.2.2.1) (hC : InvC M) (hR : InvR M) (hB_ : RB M) (hP_ : RP M) (hT_ : RT M) (hS_ : RS M) (hE_ : RE J) (hY_ : RY M J) (hX_ : RX M) (hN : ∀ (M2 : xM) (J2 : xJ), InvC M2 → InvR M2 → RB M2 → RP M2 → RT M2 → RS M2 → RE J2 → RY M2 J2 → RX M2 → x_X l G fL_law 200 600000 7302250 (qR (some (.int 1))) 1502 [(3, .int (nI (i))), (2, .ref (62)), (1, .ref (0)), (0, .ref (1002))] [] x_SH M2 J2 87 2934) : x_X l G fL_law 200 600000 7302250 (qR (some (.int 1))) 1479 [(3, .int (nI (i))), (2, .ref (62)), (1, .ref (0)), (0, .ref (1002))] [] x_SH M J 87 2934 := by
  refine xr_aload_n dL_law_1479 2 rfl ?_
  refine xr_aload_n dL_law_1480 3 rfl ?_
  refine xr_iload_n dL_law_1481 0 rfl ?_
  refine xr_iconst (v := 1) dL_law_1482 rfl ?_
  refine xr_iadd dL_law_1483 ?_
  refine xb_top (y := nI (i + 1)) (nI_add (i) (1)) ?_
  refine xr_sld rfl (vp_in_nI (show i + 1 < G.2.2.2.2.1 by omega) (by omega)) dL_law_1484 ?_
  refine xb_top (y := (G.2.2.2.2.2 (i + 1))) (by rw [nI_clamp (by omega)]) ?_
  refine xr_callV (As := [.int ((G.2.2.2.2.2 (i + 1)))]) (rest := []) mlL_187 (g_X9_count (G.2.2.2.2.2 (i + 1)) hC) dL_law_1485 s_0 rfl rfl (Nat.le_of_ble_eq_true rfl) (by decide) ⟨by decide, by decide⟩ (fun v s2 M9 J2 hq => ?_)
  obtain ⟨r3, rfl, rfl, rfl, rfl, hx2⟩ := hq
  try dsimp only [Option.toList, List.cons_append, List.nil_append]
  refine xr_pop dL_law_1488 rfl ?_
  refine xr_aload_n dL_law_1489 1 rfl ?_
  refine xr_aload_n dL_law_1490 3 rfl ?_
  refine xr_iload_n dL_law_1491 0 rfl ?_
  refine xr_iconst (v := 1) dL_law_1492 rfl ?_
  refine xr_iadd dL_law_1493 ?_
  refine xb_top (y := nI (i + 1)) (nI_add (i) (1)) ?_
  refine xr_sld rfl (vp_in_nI (show i + 1 < G.2.2.2.2.1 by omega) (by omega)) dL_law_1494 ?_
  refine xb_top (y := (G.2.2.2.2.2 (i + 1))) (by rw [nI_clamp (by omega)]) ?_
  refine xr_callV (As := [.int ((G.2.2.2.2.2 (i + 1)))]) (rest := []) mlL_190 (g_X10_count (G.2.2.2.2.2 (i + 1)) hR) dL_law_1495 s_62 rfl rfl (Nat.le_of_ble_eq_true rfl) (by decide) ⟨by decide, by decide⟩ (fun v s2 M9 J2 hq => ?_)
  obtain ⟨r6, rfl, rfl, rfl, rfl, hx5⟩ := hq
  try dsimp only [Option.toList, List.cons_append, List.nil_append]
  refine xr_pop dL_law_1498 rfl ?_
  refine xr_goto (tgt := 1502) dL_law_1499 rfl ?_
  refine xb_ls (ls2 := [(3, .int (nI (i))), (2, .ref (62)), (1, .ref (0)), (0, .ref (1002))]) [0, 1, 2, 3] rfl ?_
  exact hN _ _ hC hR hB_ hP_ hT_ hS_ (RE_f rfl rfl hE_) hY_ hX_
