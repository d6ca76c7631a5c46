set_option maxRecDepth 100000 in
set_option maxHeartbeats 4000000 in
theorem lwx_36 {l : Launch} {G : xG} (hL : G.2.2.2.2.1 ≤ 3072) {M : xM} {J : xJ} {i : Nat} (hi : i + 6 ≤ G.2.2.2.2.1) (hC : InvC M) (hR : InvR M) (hB_ : RB M) (hP_ : RP M) (hT_ : RT M) (hS_ : RS M) (hE_ : RE J) (hY_ : RY M J) (hX_ : RX M) (hN : ∀ (M2 : xM) (J2 : xJ), InvC M2 → InvR M2 → RB M2 → RP M2 → RT M2 → RS M2 → RE J2 → RY M2 J2 → RX M2 → x_X l G fL_law 200 600000 7302250 (qR (some (.int 1))) 1502 [(3, .int (nI (i))), (2, .ref (62)), (1, .ref (0)), (0, .ref (1002))] [] x_SH M2 J2 87 2934) : x_X l G fL_law 200 600000 7302250 (qR (some (.int 1))) 1234 [(3, .int (nI (i))), (2, .ref (62)), (1, .ref (0)), (0, .ref (1002))] [] x_SH M J 87 2934 := by
  refine xr_aload_n dL_law_1234 2 rfl ?_
  refine xr_aload_n dL_law_1235 3 rfl ?_
  refine xr_iload_n dL_law_1236 0 rfl ?_
  refine xr_iconst (v := 1) dL_law_1237 rfl ?_
  refine xr_iadd dL_law_1238 ?_
  refine xb_top (y := nI (i + 1)) (nI_add (i) (1)) ?_
  refine xr_sld rfl (vp_in_nI (show i + 1 < G.2.2.2.2.1 by omega) (by omega)) dL_law_1239 ?_
  refine xb_top (y := (G.2.2.2.2.2 (i + 1))) (by rw [nI_clamp (by omega)]) ?_
  refine xr_aload_n dL_law_1240 3 rfl ?_
  refine xr_iload_n dL_law_1241 0 rfl ?_
  refine xr_iconst (v := 2) dL_law_1242 rfl ?_
  refine xr_iadd dL_law_1243 ?_
  refine xb_top (y := nI (i + 2)) (nI_add (i) (2)) ?_
  refine xr_sld rfl (vp_in_nI (show i + 2 < G.2.2.2.2.1 by omega) (by omega)) dL_law_1244 ?_
  refine xb_top (y := (G.2.2.2.2.2 (i + 2))) (by rw [nI_clamp (by omega)]) ?_
  refine xr_aload_n dL_law_1245 3 rfl ?_
  refine xr_iload_n dL_law_1246 0 rfl ?_
  refine xr_iconst (v := 3) dL_law_1247 rfl ?_
  refine xr_iadd dL_law_1248 ?_
  refine xb_top (y := nI (i + 3)) (nI_add (i) (3)) ?_
  refine xr_sld rfl (vp_in_nI (show i + 3 < G.2.2.2.2.1 by omega) (by omega)) dL_law_1249 ?_
  refine xb_top (y := (G.2.2.2.2.2 (i + 3))) (by rw [nI_clamp (by omega)]) ?_
  refine xr_callV (As := [.int ((G.2.2.2.2.2 (i + 1))), .int ((G.2.2.2.2.2 (i + 2))), .int ((G.2.2.2.2.2 (i + 3)))]) (rest := []) mlL_162 (gs_X9_row (G.2.2.2.2.2 (i + 1)) (G.2.2.2.2.2 (i + 2)) (G.2.2.2.2.2 (i + 3)) hC) dL_law_1250 s_0 rfl rfl (Nat.le_of_ble_eq_true rfl) (by decide) ⟨by decide, by decide⟩ (fun v s2 M3 J4 hq => ?_)
  obtain ⟨r5, rfl, rfl, hj7, k6, hI1, hx2⟩ := hq
  try dsimp only [Option.toList, List.cons_append, List.nil_append]
  have kk8 : ∀ p k, 62 ≤ p → M3 p k = M p k := (fun p k hp => k6 p k (by unfold WKP; omega))
  refine xr_pop dL_law_1253 rfl ?_
  refine xr_aload_n dL_law_1254 1 rfl ?_
  refine xr_aload_n dL_law_1255 3 rfl ?_
  refine xr_iload_n dL_law_1256 0 rfl ?_
  refine xr_iconst (v := 1) dL_law_1257 rfl ?_
  refine xr_iadd dL_law_1258 ?_
  refine xb_top (y := nI (i + 1)) (nI_add (i) (1)) ?_
  refine xr_sld rfl (vp_in_nI (show i + 1 < G.2.2.2.2.1 by omega) (by omega)) dL_law_1259 ?_
  refine xb_top (y := (G.2.2.2.2.2 (i + 1))) (by rw [nI_clamp (by omega)]) ?_
  refine xr_aload_n dL_law_1260 3 rfl ?_
  refine xr_iload_n dL_law_1261 0 rfl ?_
  refine xr_iconst (v := 2) dL_law_1262 rfl ?_
  refine xr_iadd dL_law_1263 ?_
  refine xb_top (y := nI (i + 2)) (nI_add (i) (2)) ?_
  refine xr_sld rfl (vp_in_nI (show i + 2 < G.2.2.2.2.1 by omega) (by omega)) dL_law_1264 ?_
  refine xb_top (y := (G.2.2.2.2.2 (i + 2))) (by rw [nI_clamp (by omega)]) ?_
  refine xr_aload_n dL_law_1265 3 rfl ?_
  refine xr_iload_n dL_law_1266 0 rfl ?_
  refine xr_iconst (v := 3) dL_law_1267 rfl ?_
  refine xr_iadd dL_law_1268 ?_
  refine xb_top (y := nI (i + 3)) (nI_add (i) (3)) ?_
  refine xr_sld rfl (vp_in_nI (show i + 3 < G.2.2.2.2.1 by omega) (by omega)) dL_law_1269 ?_
  refine xb_top (y := (G.2.2.2.2.2 (i + 3))) (by rw [nI_clamp (by omega)]) ?_
  refine xr_callV (As := [.int ((G.2.2.2.2.2 (i + 1))), .int ((G.2.2.2.2.2 (i + 2))), .int ((G.2.2.2.2.2 (i + 3)))]) (rest := []) mlL_165 (gs_X10_row (G.2.2.2.2.2 (i + 1)) (G.2.2.2.2.2 (i + 2)) (G.2.2.2.2.2 (i + 3)) (InvR_ke kk8 hR)) dL_law_1270 s_62 rfl rfl (Nat.le_of_ble_eq_true rfl) (by decide) ⟨by decide, by decide⟩ (fun v s2 M11 J12 hq => ?_)
  obtain ⟨r13, rfl, rfl, hj15, k14, hI9, hx10⟩ := hq
  try dsimp only [Option.toList, List.cons_append, List.nil_append]
  have kk16 : ∀ p k, p < 62 → M11 p k = M3 p k := (fun p k hp => k14 p k (by unfold WRH; omega))
  refine xr_pop dL_law_1273 rfl ?_
  refine xr_goto (tgt := 1502) dL_law_1274 rfl ?_
  refine xb_ls (ls2 := [(3, .int (nI (i))), (2, .ref (62)), (1, .ref (0)), (0, .ref (1002))]) [0, 1, 2, 3] rfl ?_
  exact hN _ _ (InvC_ke kk16 hI1) hI9 (RB_f (fun p k hp => (k14 p k (nx_WRH_CSB hp)).trans (k6 p k (nx_WKP_CSB hp))) hB_) (RP_f (fun p k hp => (k14 p k (nx_WRH_CSP hp)).trans (k6 p k (nx_WKP_CSP hp))) hP_) (RT_f (fun p k hp => (k14 p k (nx_WRH_CST hp)).trans (k6 p k (nx_WKP_CST hp))) hT_) (jS_row hx2 hx10 kk8 kk16 hS_) (jE_row hx2 hx10 hj7 hj15 hE_) (jY_row hx2 hx10 kk8 kk16 hj7 hY_) (RX_f (fun p k hp => (k14 p k (nx_WRH_CSX hp)).trans (k6 p k (nx_WKP_CSX hp))) hX_)
set_option maxRecDepth 100000 in
set_option maxHeartbeats 4000000 in
theorem lwx_37 {l : Launch} {G : xG} (hL : G.2.2.2.2.1 ≤ 3072) {M : xM} {J : xJ} {i : Nat} (hi : i + 6 ≤ G.2.2.2.2.1) (hC : InvC M) (hR : InvR M) (hB_ : RB M) (hP_ : RP M) (hT_ : RT M) (hS_ : RS M) (hE_ : RE J) (hY_ : RY M J) (hX_ : RX M) (hN : ∀ (M2 : xM) (J2 : xJ), InvC M2 → InvR M2 → RB M2 → RP M2 → RT M2 → RS M2 → RE J2 → RY M2 J2 → RX M2 → x_X l G fL_law 200 600000 7302250 (qR (some (.int 1))) 1502 [(3, .int (nI (i))), (2, .ref (62)), (1, .ref (0)), (0, .ref (1002))] [] x_SH M2 J2 87 2934) : x_X l G fL_law 200 600000 7302250 (qR (some (.int 1))) 1277 [(3, .int (nI (i))), (2, .ref (62)), (1, .ref (0)), (0, .ref (1002))] [] x_SH M J 87 2934 := by
  refine xr_aload_n dL_law_1277 2 rfl ?_
  refine xr_aload_n dL_law_1278 3 rfl ?_
  refine xr_iload_n dL_law_1279 0 rfl ?_
  refine xr_iconst (v := 1) dL_law_1280 rfl ?_
  refine xr_iadd dL_law_1281 ?_
  refine xb_top (y := nI (i + 1)) (nI_add (i) (1)) ?_
  refine xr_sld rfl (vp_in_nI (show i + 1 < G.2.2.2.2.1 by omega) (by omega)) dL_law_1282 ?_
  refine xb_top (y := (G.2.2.2.2.2 (i + 1))) (by rw [nI_clamp (by omega)]) ?_
  refine xr_aload_n dL_law_1283 3 rfl ?_
  refine xr_iload_n dL_law_1284 0 rfl ?_
  refine xr_iconst (v := 2) dL_law_1285 rfl ?_
  refine xr_iadd dL_law_1286 ?_
  refine xb_top (y := nI (i + 2)) (nI_add (i) (2)) ?_
  refine xr_sld rfl (vp_in_nI (show i + 2 < G.2.2.2.2.1 by omega) (by omega)) dL_law_1287 ?_
  refine xb_top (y := (G.2.2.2.2.2 (i + 2))) (by rw [nI_clamp (by omega)]) ?_
  refine xr_aload_n dL_law_1288 3 rfl ?_
  refine xr_iload_n dL_law_1289 0 rfl ?_
  refine xr_iconst (v := 3) dL_law_1290 rfl ?_
  refine xr_iadd dL_law_1291 ?_
  refine xb_top (y := nI (i + 3)) (nI_add (i) (3)) ?_
  refine xr_sld rfl (vp_in_nI (show i + 3 < G.2.2.2.2.1 by omega) (by omega)) dL_law_1292 ?_
  refine xb_top (y := (G.2.2.2.2.2 (i + 3))) (by rw [nI_clamp (by omega)]) ?_
  refine xr_i2l dL_law_1293 ?_
  refine xr_bipush (v := 32) dL_law_1294 rfl ?_
  refine xr_lshl dL_law_1296 ?_
  refine xr_aload_n dL_law_1297 3 rfl ?_
  refine xr_iload_n dL_law_1298 0 rfl ?_
  refine xr_iconst (v := 4) dL_law_1299 rfl ?_
  refine xr_iadd dL_law_1300 ?_
  refine xb_top (y := nI (i + 4)) (nI_add (i) (4)) ?_
  refine xr_sld rfl (vp_in_nI (show i + 4 < G.2.2.2.2.1 by omega) (by omega)) dL_law_1301 ?_
  refine xb_top (y := (G.2.2.2.2.2 (i + 4))) (by rw [nI_clamp (by omega)]) ?_
  refine xr_i2l dL_law_1302 ?_
  refine xr_ldc2 coL_166 dL_law_1303 ?_
  refine xr_land dL_law_1306 ?_
  refine xr_lor dL_law_1307 ?_
  refine xr_callV (As := [.int ((G.2.2.2.2.2 (i + 1))), .int ((G.2.2.2.2.2 (i + 2))), .long ((((((G.2.2.2.2.2 (i + 3))).toInt64) <<< ((32 : Int32).toInt64 &&& 63)) ||| ((((G.2.2.2.2.2 (i + 4))).toInt64) &&& 4294967295)))]) (rest := []) mlL_168 (gs_X9_put (G.2.2.2.2.2 (i + 1)) (G.2.2.2.2.2 (i + 2)) (((((G.2.2.2.2.2 (i + 3))).toInt64) <<< ((32 : Int32).toInt64 &&& 63)) ||| ((((G.2.2.2.2.2 (i + 4))).toInt64) &&& 4294967295)) hC) dL_law_1308 s_0 rfl rfl (Nat.le_of_ble_eq_true rfl) (by decide) ⟨by decide, by decide⟩ (fun v s2 M3 J4 hq => ?_)
  obtain ⟨r5, rfl, rfl, hj7, k6, hI1, hx2⟩ := hq
  try dsimp only [Option.toList, List.cons_append, List.nil_append]
  have kk8 : ∀ p k, 62 ≤ p → M3 p k = M p k := (fun p k hp => k6 p k (by unfold WKP; omega))
  refine xr_pop dL_law_1311 rfl ?_
  refine xr_aload_n dL_law_1312 1 rfl ?_
  refine xr_aload_n dL_law_1313 3 rfl ?_
  refine xr_iload_n dL_law_1314 0 rfl ?_
  refine xr_iconst (v := 1) dL_law_1315 rfl ?_
  refine xr_iadd dL_law_1316 ?_
  refine xb_top (y := nI (i + 1)) (nI_add (i) (1)) ?_
  refine xr_sld rfl (vp_in_nI (show i + 1 < G.2.2.2.2.1 by omega) (by omega)) dL_law_1317 ?_
  refine xb_top (y := (G.2.2.2.2.2 (i + 1))) (by rw [nI_clamp (by omega)]) ?_
  refine xr_aload_n dL_law_1318 3 rfl ?_
  refine xr_iload_n dL_law_1319 0 rfl ?_
  refine xr_iconst (v := 2) dL_law_1320 rfl ?_
  refine xr_iadd dL_law_1321 ?_
  refine xb_top (y := nI (i + 2)) (nI_add (i) (2)) ?_
  refine xr_sld rfl (vp_in_nI (show i + 2 < G.2.2.2.2.1 by omega) (by omega)) dL_law_1322 ?_
  refine xb_top (y := (G.2.2.2.2.2 (i + 2))) (by rw [nI_clamp (by omega)]) ?_
  refine xr_aload_n dL_law_1323 3 rfl ?_
  refine xr_iload_n dL_law_1324 0 rfl ?_
  refine xr_iconst (v := 3) dL_law_1325 rfl ?_
  refine xr_iadd dL_law_1326 ?_
  refine xb_top (y := nI (i + 3)) (nI_add (i) (3)) ?_
  refine xr_sld rfl (vp_in_nI (show i + 3 < G.2.2.2.2.1 by omega) (by omega)) dL_law_1327 ?_
  refine xb_top (y := (G.2.2.2.2.2 (i + 3))) (by rw [nI_clamp (by omega)]) ?_
  refine xr_i2l dL_law_1328 ?_
  refine xr_bipush (v := 32) dL_law_1329 rfl ?_
  refine xr_lshl dL_law_1331 ?_
  refine xr_aload_n dL_law_1332 3 rfl ?_
  refine xr_iload_n dL_law_1333 0 rfl ?_
  refine xr_iconst (v := 4) dL_law_1334 rfl ?_
  refine xr_iadd dL_law_1335 ?_
  refine xb_top (y := nI (i + 4)) (nI_add (i) (4)) ?_
  refine xr_sld rfl (vp_in_nI (show i + 4 < G.2.2.2.2.1 by omega) (by omega)) dL_law_1336 ?_
  refine xb_top (y := (G.2.2.2.2.2 (i + 4))) (by rw [nI_clamp (by omega)]) ?_
  refine xr_i2l dL_law_1337 ?_
  refine xr_ldc2 coL_166 dL_law_1338 ?_
  refine xr_land dL_law_1341 ?_
  refine xr_lor dL_law_1342 ?_
  refine xr_callV (As := [.int ((G.2.2.2.2.2 (i + 1))), .int ((G.2.2.2.2.2 (i + 2))), .long ((((((G.2.2.2.2.2 (i + 3))).toInt64) <<< ((32 : Int32).toInt64 &&& 63)) ||| ((((G.2.2.2.2.2 (i + 4))).toInt64) &&& 4294967295)))]) (rest := []) mlL_172 (gs_X10_put (G.2.2.2.2.2 (i + 1)) (G.2.2.2.2.2 (i + 2)) (((((G.2.2.2.2.2 (i + 3))).toInt64) <<< ((32 : Int32).toInt64 &&& 63)) ||| ((((G.2.2.2.2.2 (i + 4))).toInt64) &&& 4294967295)) (InvR_ke kk8 hR)) dL_law_1343 s_62 rfl rfl (Nat.le_of_ble_eq_true rfl) (by decide) ⟨by decide, by decide⟩ (fun v s2 M11 J12 hq => ?_)
  obtain ⟨r13, rfl, rfl, hj15, k14, hI9, hx10⟩ := hq
  try dsimp only [Option.toList, List.cons_append, List.nil_append]
  have kk16 : ∀ p k, p < 62 → M11 p k = M3 p k := (fun p k hp => k14 p k (by unfold WRH; omega))
  refine xr_pop dL_law_1346 rfl ?_
  refine xr_goto (tgt := 1502) dL_law_1347 rfl ?_
  refine xb_ls (ls2 := [(3, .int (nI (i))), (2, .ref (62)), (1, .ref (0)), (0, .ref (1002))]) [0, 1, 2, 3] rfl ?_
  exact hN _ _ (InvC_ke kk16 hI1) hI9 (RB_f (fun p k hp => (k14 p k (nx_WRH_CSB hp)).trans (k6 p k (nx_WKP_CSB hp))) hB_) (RP_f (fun p k hp => (k14 p k (nx_WRH_CSP hp)).trans (k6 p k (nx_WKP_CSP hp))) hP_) (RT_f (fun p k hp => (k14 p k (nx_WRH_CST hp)).trans (k6 p k (nx_WKP_CST hp))) hT_) (RS_e hx2.1 hx10.1 hS_) (jE_put hx2 hx10 hS_ hE_) (jY_put hx2 hx10 hj7 hY_) (RX_f (fun p k hp => (k14 p k (nx_WRH_CSX hp)).trans (k6 p k (nx_WKP_CSX hp))) hX_)
set_option maxRecDepth 100000 in
set_option maxHeartbeats 4000000 in
theorem lwx_38 {l : Launch} {G : xG} (hL : G.2.2.2.2.1 ≤ 3072) {M : xM} {J : xJ} {i : Nat} (hi : i + 6 ≤ G.2.2.2.2.1) (hC : InvC M) (hR : InvR M) (hB_ : RB M) (hP_ : RP M) (hT_ : RT M) (hS_ : RS M) (hE_ : RE J) (hY_ : RY M J) (hX_ : RX M) (hN : ∀ (M2 : xM) (J2 : xJ), InvC M2 → InvR M2 → RB M2 → RP M2 → RT M2 → RS M2 → RE J2 → RY M2 J2 → RX M2 → x_X l G fL_law 200 600000 7302250 (qR (some (.int 1))) 1502 [(3, .int (nI (i))), (2, .ref (62)), (1, .ref (0)), (0, .ref (1002))] [] x_SH M2 J2 87 2934) : x_X l G fL_law 200 600000 7302250 (qR (some (.int 1))) 1350 [(3, .int (nI (i))), (2, .ref (62)), (1, .ref (0)), (0, .ref (1002))] [] x_SH M J 87 2934 := by
  refine xr_aload_n dL_law_1350 2 rfl ?_
  refine xr_aload_n dL_law_1351 3 rfl ?_
  refine xr_iload_n dL_law_1352 0 rfl ?_
  refine xr_iconst (v := 1) dL_law_1353 rfl ?_
  refine xr_iadd dL_law_1354 ?_
  refine xb_top (y := nI (i + 1)) (nI_add (i) (1)) ?_
  refine xr_sld rfl (vp_in_nI (show i + 1 < G.2.2.2.2.1 by omega) (by omega)) dL_law_1355 ?_
  refine xb_top (y := (G.2.2.2.2.2 (i + 1))) (by rw [nI_clamp (by omega)]) ?_
  refine xr_aload_n dL_law_1356 3 rfl ?_
  refine xr_iload_n dL_law_1357 0 rfl ?_
  refine xr_iconst (v := 2) dL_law_1358 rfl ?_
  refine xr_iadd dL_law_1359 ?_
  refine xb_top (y := nI (i + 2)) (nI_add (i) (2)) ?_
  refine xr_sld rfl (vp_in_nI (show i + 2 < G.2.2.2.2.1 by omega) (by omega)) dL_law_1360 ?_
  refine xb_top (y := (G.2.2.2.2.2 (i + 2))) (by rw [nI_clamp (by omega)]) ?_
  refine xr_callV (As := [.int ((G.2.2.2.2.2 (i + 1))), .int ((G.2.2.2.2.2 (i + 2)))]) (rest := []) mlL_173 (gs_X9_element (G.2.2.2.2.2 (i + 1)) (G.2.2.2.2.2 (i + 2)) hC) dL_law_1361 s_0 rfl rfl (Nat.le_of_ble_eq_true rfl) (by decide) ⟨by decide, by decide⟩ (fun v s2 M9 J2 hq => ?_)
  obtain ⟨r3, rfl, rfl, rfl, rfl, hx2⟩ := hq
  try dsimp only [Option.toList, List.cons_append, List.nil_append]
  refine xr_pop2 dL_law_1364 rfl ?_
  refine xr_aload_n dL_law_1365 1 rfl ?_
  refine xr_aload_n dL_law_1366 3 rfl ?_
  refine xr_iload_n dL_law_1367 0 rfl ?_
  refine xr_iconst (v := 1) dL_law_1368 rfl ?_
  refine xr_iadd dL_law_1369 ?_
  refine xb_top (y := nI (i + 1)) (nI_add (i) (1)) ?_
  refine xr_sld rfl (vp_in_nI (show i + 1 < G.2.2.2.2.1 by omega) (by omega)) dL_law_1370 ?_
  refine xb_top (y := (G.2.2.2.2.2 (i + 1))) (by rw [nI_clamp (by omega)]) ?_
  refine xr_aload_n dL_law_1371 3 rfl ?_
  refine xr_iload_n dL_law_1372 0 rfl ?_
  refine xr_iconst (v := 2) dL_law_1373 rfl ?_
  refine xr_iadd dL_law_1374 ?_
  refine xb_top (y := nI (i + 2)) (nI_add (i) (2)) ?_
  refine xr_sld rfl (vp_in_nI (show i + 2 < G.2.2.2.2.1 by omega) (by omega)) dL_law_1375 ?_
  refine xb_top (y := (G.2.2.2.2.2 (i + 2))) (by rw [nI_clamp (by omega)]) ?_
  refine xr_callV (As := [.int ((G.2.2.2.2.2 (i + 1))), .int ((G.2.2.2.2.2 (i + 2)))]) (rest := []) mlL_177 (gs_X10_element (G.2.2.2.2.2 (i + 1)) (G.2.2.2.2.2 (i + 2)) hR) dL_law_1376 s_62 rfl rfl (Nat.le_of_ble_eq_true rfl) (by decide) ⟨by decide, by decide⟩ (fun v s2 M9 J2 hq => ?_)
  obtain ⟨r6, rfl, rfl, rfl, rfl, hx5⟩ := hq
  try dsimp only [Option.toList, List.cons_append, List.nil_append]
  refine xr_pop2 dL_law_1379 rfl ?_
  refine xr_goto (tgt := 1502) dL_law_1380 rfl ?_
  refine xb_ls (ls2 := [(3, .int (nI (i))), (2, .ref (62)), (1, .ref (0)), (0, .ref (1002))]) [0, 1, 2, 3] rfl ?_
  exact hN _ _ hC hR hB_ hP_ hT_ hS_ (RE_f rfl rfl hE_) hY_ hX_
