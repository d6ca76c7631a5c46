set_option maxRecDepth 100000 in
set_option maxHeartbeats 4000000 in
theorem lwx_0 {l : Launch} {G : xG} (hL : G.2.2.2.2.1 ≤ 3072) {M : xM} {J : xJ} {i : Nat} (hi : i + 6 ≤ G.2.2.2.2.1) (hC : InvC M) (hR : InvR M) (hB_ : RB M) (hP_ : RP M) (hT_ : RT M) (hS_ : RS M) (hE_ : RE J) (hY_ : RY M J) (hX_ : RX M) (hN : ∀ (M2 : xM) (J2 : xJ), InvC M2 → InvR M2 → RB M2 → RP M2 → RT M2 → RS M2 → RE J2 → RY M2 J2 → RX M2 → x_X l G fL_law 200 600000 7302250 (qR (some (.int 1))) 1502 [(3, .int (nI (i))), (2, .ref (62)), (1, .ref (0)), (0, .ref (1002))] [] x_SH M2 J2 87 2934) : x_X l G fL_law 200 600000 7302250 (qR (some (.int 1))) 216 [(3, .int (nI (i))), (2, .ref (62)), (1, .ref (0)), (0, .ref (1002))] [] x_SH M J 87 2934 := by
  refine xr_aload_n dL_law_216 2 rfl ?_
  refine xr_aload_n dL_law_217 3 rfl ?_
  refine xr_iload_n dL_law_218 0 rfl ?_
  refine xr_iconst (v := 1) dL_law_219 rfl ?_
  refine xr_iadd dL_law_220 ?_
  refine xb_top (y := nI (i + 1)) (nI_add (i) (1)) ?_
  refine xr_sld rfl (vp_in_nI (show i + 1 < G.2.2.2.2.1 by omega) (by omega)) dL_law_221 ?_
  refine xb_top (y := (G.2.2.2.2.2 (i + 1))) (by rw [nI_clamp (by omega)]) ?_
  obtain ⟨nh, D, t, S, lg, lu, lw, hWG, ⟨hGc, hGr⟩, ⟨hWL, hLc, hLr⟩, hKX⟩ := id hX_
  refine xr_callV (As := [.int ((G.2.2.2.2.2 (i + 1)))]) (rest := []) mlL_13 (gx_X9_hoop (G.2.2.2.2.2 (i + 1)) hC hWG hGc) dL_law_222 s_0 rfl rfl (Nat.le_of_ble_eq_true rfl) (by decide) ⟨by decide, by decide⟩ (fun v s2 M3 J2 hq => ?_)
  obtain ⟨r5, rfl, rfl, rfl, k4, hI1, hx2⟩ := hq
  try dsimp only [Option.toList, List.cons_append, List.nil_append]
  have kk6 : ∀ p k, 62 ≤ p → M3 p k = M p k := (fun p k hp => k4 p k (by unfold WAH; omega))
  refine xr_pop dL_law_225 rfl ?_
  refine xr_aload_n dL_law_226 1 rfl ?_
  refine xr_aload_n dL_law_227 3 rfl ?_
  refine xr_iload_n dL_law_228 0 rfl ?_
  refine xr_iconst (v := 1) dL_law_229 rfl ?_
  refine xr_iadd dL_law_230 ?_
  refine xb_top (y := nI (i + 1)) (nI_add (i) (1)) ?_
  refine xr_sld rfl (vp_in_nI (show i + 1 < G.2.2.2.2.1 by omega) (by omega)) dL_law_231 ?_
  refine xb_top (y := (G.2.2.2.2.2 (i + 1))) (by rw [nI_clamp (by omega)]) ?_
  refine xr_callV (As := [.int ((G.2.2.2.2.2 (i + 1)))]) (rest := []) mlL_17 (gx_X10_hoop (G.2.2.2.2.2 (i + 1)) (InvR_ke kk6 hR) hWG (RG_f hWG.1 hGr kk6)) dL_law_232 s_62 rfl rfl (Nat.le_of_ble_eq_true rfl) (by decide) ⟨by decide, by decide⟩ (fun v s2 M9 J2 hq => ?_)
  obtain ⟨r11, rfl, rfl, rfl, k10, hI7, hx8⟩ := hq
  try dsimp only [Option.toList, List.cons_append, List.nil_append]
  have kk12 : ∀ p k, p < 62 → M9 p k = M3 p k := (fun p k hp => k10 p k (by unfold WAD; omega))
  refine xr_pop dL_law_235 rfl ?_
  refine xr_goto (tgt := 1502) dL_law_236 rfl ?_
  refine xb_ls (ls2 := [(3, .int (nI (i))), (2, .ref (62)), (1, .ref (0)), (0, .ref (1002))]) [0, 1, 2, 3] rfl ?_
  exact hN _ _ (InvC_ke kk12 hI1) hI7 (RB_f (fun p k hp => (k10 p k (nx_WAD_CSB hp)).trans (k4 p k (nx_WAH_CSB hp))) hB_) (RP_f (fun p k hp => (k10 p k (nx_WAD_CSP hp)).trans (k4 p k (nx_WAH_CSP hp))) hP_) (RT_f (fun p k hp => (k10 p k (nx_WAD_CST hp)).trans (k4 p k (nx_WAH_CST hp))) hT_) (RS_f (fun p k hp => (k10 p k (nx_WAD_CSS hp)).trans (k4 p k (nx_WAH_CSS hp))) hS_) (RE_f rfl rfl hE_) (RY_f (fun p k hp => (k10 p k (nx_WAD_CSY hp)).trans (k4 p k (nx_WAH_CSY hp))) hY_) (jX_hoop hWG (LX_f (fun p k hp => (k10 p k (nx_WAD_CSu hp)).trans (k4 p k (nx_WAH_CSu hp))) ⟨hWL, hLc, hLr⟩) (fun n2 hn2 => KX_f (fun p k hp => (k10 p k (nx_WAD_CSk hp)).trans (k4 p k (nx_WAH_CSk hp))) hn2 hWG.1 hKX) kk12 hx2 hx8).2
set_option maxRecDepth 100000 in
set_option maxHeartbeats 4000000 in
theorem lwx_1 {l : Launch} {G : xG} (hL : G.2.2.2.2.1 ≤ 3072) {M : xM} {J : xJ} {i : Nat} (hi : i + 6 ≤ G.2.2.2.2.1) (hC : InvC M) (hR : InvR M) (hB_ : RB M) (hP_ : RP M) (hT_ : RT M) (hS_ : RS M) (hE_ : RE J) (hY_ : RY M J) (hX_ : RX M) (hN : ∀ (M2 : xM) (J2 : xJ), InvC M2 → InvR M2 → RB M2 → RP M2 → RT M2 → RS M2 → RE J2 → RY M2 J2 → RX M2 → x_X l G fL_law 200 600000 7302250 (qR (some (.int 1))) 1502 [(3, .int (nI (i))), (2, .ref (62)), (1, .ref (0)), (0, .ref (1002))] [] x_SH M2 J2 87 2934) : x_X l G fL_law 200 600000 7302250 (qR (some (.int 1))) 239 [(3, .int (nI (i))), (2, .ref (62)), (1, .ref (0)), (0, .ref (1002))] [] x_SH M J 87 2934 := by
  refine xr_aload_n dL_law_239 2 rfl ?_
  refine xr_aload_n dL_law_240 3 rfl ?_
  refine xr_iload_n dL_law_241 0 rfl ?_
  refine xr_iconst (v := 1) dL_law_242 rfl ?_
  refine xr_iadd dL_law_243 ?_
  refine xb_top (y := nI (i + 1)) (nI_add (i) (1)) ?_
  refine xr_sld rfl (vp_in_nI (show i + 1 < G.2.2.2.2.1 by omega) (by omega)) dL_law_244 ?_
  refine xb_top (y := (G.2.2.2.2.2 (i + 1))) (by rw [nI_clamp (by omega)]) ?_
  refine xr_aload_n dL_law_245 3 rfl ?_
  refine xr_iload_n dL_law_246 0 rfl ?_
  refine xr_iconst (v := 2) dL_law_247 rfl ?_
  refine xr_iadd dL_law_248 ?_
  refine xb_top (y := nI (i + 2)) (nI_add (i) (2)) ?_
  refine xr_sld rfl (vp_in_nI (show i + 2 < G.2.2.2.2.1 by omega) (by omega)) dL_law_249 ?_
  refine xb_top (y := (G.2.2.2.2.2 (i + 2))) (by rw [nI_clamp (by omega)]) ?_
  refine xr_aload_n dL_law_250 3 rfl ?_
  refine xr_iload_n dL_law_251 0 rfl ?_
  refine xr_iconst (v := 3) dL_law_252 rfl ?_
  refine xr_iadd dL_law_253 ?_
  refine xb_top (y := nI (i + 3)) (nI_add (i) (3)) ?_
  refine xr_sld rfl (vp_in_nI (show i + 3 < G.2.2.2.2.1 by omega) (by omega)) dL_law_254 ?_
  refine xb_top (y := (G.2.2.2.2.2 (i + 3))) (by rw [nI_clamp (by omega)]) ?_
  obtain ⟨nh, D, t, S, lg, lu, lw, hWG, ⟨hGc, hGr⟩, ⟨hWL, hLc, hLr⟩, hKX⟩ := id hX_
  obtain ⟨gs, hSc, hSr, hSw⟩ := Sh_of hC hS_ hE_ hY_
  refine xr_callV (As := [.int ((G.2.2.2.2.2 (i + 1))), .int ((G.2.2.2.2.2 (i + 2))), .int ((G.2.2.2.2.2 (i + 3)))]) (rest := []) mlL_18 (gx_X9_hoops (G.2.2.2.2.2 (i + 1)) (G.2.2.2.2.2 (i + 2)) (G.2.2.2.2.2 (i + 3)) hC hWG hGc hSc hSw) dL_law_255 s_0 rfl rfl (Nat.le_of_ble_eq_true rfl) (by decide) ⟨by decide, by decide⟩ (fun v s2 M3 J2 hq => ?_)
  obtain ⟨r5, rfl, rfl, rfl, k4, hI1, hx2⟩ := hq
  try dsimp only [Option.toList, List.cons_append, List.nil_append]
  have kk6 : ∀ p k, 62 ≤ p → M3 p k = M p k := (fun p k hp => k4 p k (by unfold WAH; omega))
  refine xr_pop dL_law_258 rfl ?_
  refine xr_aload_n dL_law_259 1 rfl ?_
  refine xr_aload_n dL_law_260 3 rfl ?_
  refine xr_iload_n dL_law_261 0 rfl ?_
  refine xr_iconst (v := 1) dL_law_262 rfl ?_
  refine xr_iadd dL_law_263 ?_
  refine xb_top (y := nI (i + 1)) (nI_add (i) (1)) ?_
  refine xr_sld rfl (vp_in_nI (show i + 1 < G.2.2.2.2.1 by omega) (by omega)) dL_law_264 ?_
  refine xb_top (y := (G.2.2.2.2.2 (i + 1))) (by rw [nI_clamp (by omega)]) ?_
  refine xr_aload_n dL_law_265 3 rfl ?_
  refine xr_iload_n dL_law_266 0 rfl ?_
  refine xr_iconst (v := 2) dL_law_267 rfl ?_
  refine xr_iadd dL_law_268 ?_
  refine xb_top (y := nI (i + 2)) (nI_add (i) (2)) ?_
  refine xr_sld rfl (vp_in_nI (show i + 2 < G.2.2.2.2.1 by omega) (by omega)) dL_law_269 ?_
  refine xb_top (y := (G.2.2.2.2.2 (i + 2))) (by rw [nI_clamp (by omega)]) ?_
  refine xr_aload_n dL_law_270 3 rfl ?_
  refine xr_iload_n dL_law_271 0 rfl ?_
  refine xr_iconst (v := 3) dL_law_272 rfl ?_
  refine xr_iadd dL_law_273 ?_
  refine xb_top (y := nI (i + 3)) (nI_add (i) (3)) ?_
  refine xr_sld rfl (vp_in_nI (show i + 3 < G.2.2.2.2.1 by omega) (by omega)) dL_law_274 ?_
  refine xb_top (y := (G.2.2.2.2.2 (i + 3))) (by rw [nI_clamp (by omega)]) ?_
  refine xr_callV (As := [.int ((G.2.2.2.2.2 (i + 1))), .int ((G.2.2.2.2.2 (i + 2))), .int ((G.2.2.2.2.2 (i + 3)))]) (rest := []) mlL_22 (gx_X10_hoops (G.2.2.2.2.2 (i + 1)) (G.2.2.2.2.2 (i + 2)) (G.2.2.2.2.2 (i + 3)) (InvR_ke kk6 hR) hWG (RG_f hWG.1 hGr kk6) (RSh_f hSr kk6) hSw) dL_law_275 s_62 rfl rfl (Nat.le_of_ble_eq_true rfl) (by decide) ⟨by decide, by decide⟩ (fun v s2 M9 J2 hq => ?_)
  obtain ⟨r11, rfl, rfl, rfl, k10, hI7, hx8⟩ := hq
  try dsimp only [Option.toList, List.cons_append, List.nil_append]
  have kk12 : ∀ p k, p < 62 → M9 p k = M3 p k := (fun p k hp => k10 p k (by unfold WAD; omega))
  refine xr_pop dL_law_278 rfl ?_
  refine xr_goto (tgt := 1502) dL_law_279 rfl ?_
  refine xb_ls (ls2 := [(3, .int (nI (i))), (2, .ref (62)), (1, .ref (0)), (0, .ref (1002))]) [0, 1, 2, 3] rfl ?_
  exact hN _ _ (InvC_ke kk12 hI1) hI7 (RB_f (fun p k hp => (k10 p k (nx_WAD_CSB hp)).trans (k4 p k (nx_WAH_CSB hp))) hB_) (RP_f (fun p k hp => (k10 p k (nx_WAD_CSP hp)).trans (k4 p k (nx_WAH_CSP hp))) hP_) (RT_f (fun p k hp => (k10 p k (nx_WAD_CST hp)).trans (k4 p k (nx_WAH_CST hp))) hT_) (RS_f (fun p k hp => (k10 p k (nx_WAD_CSS hp)).trans (k4 p k (nx_WAH_CSS hp))) hS_) (RE_f rfl rfl hE_) (RY_f (fun p k hp => (k10 p k (nx_WAD_CSY hp)).trans (k4 p k (nx_WAH_CSY hp))) hY_) (jX_hoops hWG (LX_f (fun p k hp => (k10 p k (nx_WAD_CSu hp)).trans (k4 p k (nx_WAH_CSu hp))) ⟨hWL, hLc, hLr⟩) (fun n2 hn2 => KX_f (fun p k hp => (k10 p k (nx_WAD_CSk hp)).trans (k4 p k (nx_WAH_CSk hp))) hn2 hWG.1 hKX) kk12 hx2 hx8).2
set_option maxRecDepth 100000 in
set_option maxHeartbeats 4000000 in
theorem lwx_2 {l : Launch} {G : xG} (hL : G.2.2.2.2.1 ≤ 3072) {M : xM} {J : xJ} {i : Nat} (hi : i + 6 ≤ G.2.2.2.2.1) (hC : InvC M) (hR : InvR M) (hB_ : RB M) (hP_ : RP M) (hT_ : RT M) (hS_ : RS M) (hE_ : RE J) (hY_ : RY M J) (hX_ : RX M) (hN : ∀ (M2 : xM) (J2 : xJ), InvC M2 → InvR M2 → RB M2 → RP M2 → RT M2 → RS M2 → RE J2 → RY M2 J2 → RX M2 → x_X l G fL_law 200 600000 7302250 (qR (some (.int 1))) 1502 [(3, .int (nI (i))), (2, .ref (62)), (1, .ref (0)), (0, .ref (1002))] [] x_SH M2 J2 87 2934) : x_X l G fL_law 200 600000 7302250 (qR (some (.int 1))) 282 [(3, .int (nI (i))), (2, .ref (62)), (1, .ref (0)), (0, .ref (1002))] [] x_SH M J 87 2934 := by
  refine xr_aload_n dL_law_282 2 rfl ?_
  refine xr_aload_n dL_law_283 3 rfl ?_
  refine xr_iload_n dL_law_284 0 rfl ?_
  refine xr_iconst (v := 1) dL_law_285 rfl ?_
  refine xr_iadd dL_law_286 ?_
  refine xb_top (y := nI (i + 1)) (nI_add (i) (1)) ?_
  refine xr_sld rfl (vp_in_nI (show i + 1 < G.2.2.2.2.1 by omega) (by omega)) dL_law_287 ?_
  refine xb_top (y := (G.2.2.2.2.2 (i + 1))) (by rw [nI_clamp (by omega)]) ?_
  refine xr_aload_n dL_law_288 3 rfl ?_
  refine xr_iload_n dL_law_289 0 rfl ?_
  refine xr_iconst (v := 2) dL_law_290 rfl ?_
  refine xr_iadd dL_law_291 ?_
  refine xb_top (y := nI (i + 2)) (nI_add (i) (2)) ?_
  refine xr_sld rfl (vp_in_nI (show i + 2 < G.2.2.2.2.1 by omega) (by omega)) dL_law_292 ?_
  refine xb_top (y := (G.2.2.2.2.2 (i + 2))) (by rw [nI_clamp (by omega)]) ?_
  refine xr_aload_n dL_law_293 3 rfl ?_
  refine xr_iload_n dL_law_294 0 rfl ?_
  refine xr_iconst (v := 3) dL_law_295 rfl ?_
  refine xr_iadd dL_law_296 ?_
  refine xb_top (y := nI (i + 3)) (nI_add (i) (3)) ?_
  refine xr_sld rfl (vp_in_nI (show i + 3 < G.2.2.2.2.1 by omega) (by omega)) dL_law_297 ?_
  refine xb_top (y := (G.2.2.2.2.2 (i + 3))) (by rw [nI_clamp (by omega)]) ?_
  obtain ⟨nh, D, t, S, lg, lu, lw, hWG, ⟨hGc, hGr⟩, ⟨hWL, hLc, hLr⟩, hKX⟩ := id hX_
  refine xr_callV (As := [.int ((G.2.2.2.2.2 (i + 1))), .int ((G.2.2.2.2.2 (i + 2))), .int ((G.2.2.2.2.2 (i + 3)))]) (rest := []) mlL_23 (gx_X9_mend (G.2.2.2.2.2 (i + 1)) (G.2.2.2.2.2 (i + 2)) (G.2.2.2.2.2 (i + 3)) hC hWG hGc hWL hLc) dL_law_298 s_0 rfl rfl (Nat.le_of_ble_eq_true rfl) (by decide) ⟨by decide, by decide⟩ (fun v s2 M3 J2 hq => ?_)
  obtain ⟨r5, rfl, rfl, rfl, k4, hI1, hx2⟩ := hq
  try dsimp only [Option.toList, List.cons_append, List.nil_append]
  have kk6 : ∀ p k, 62 ≤ p → M3 p k = M p k := (fun p k hp => k4 p k (by unfold WMD; omega))
  refine xr_pop dL_law_301 rfl ?_
  refine xr_aload_n dL_law_302 1 rfl ?_
  refine xr_aload_n dL_law_303 3 rfl ?_
  refine xr_iload_n dL_law_304 0 rfl ?_
  refine xr_iconst (v := 1) dL_law_305 rfl ?_
  refine xr_iadd dL_law_306 ?_
  refine xb_top (y := nI (i + 1)) (nI_add (i) (1)) ?_
  refine xr_sld rfl (vp_in_nI (show i + 1 < G.2.2.2.2.1 by omega) (by omega)) dL_law_307 ?_
  refine xb_top (y := (G.2.2.2.2.2 (i + 1))) (by rw [nI_clamp (by omega)]) ?_
  refine xr_aload_n dL_law_308 3 rfl ?_
  refine xr_iload_n dL_law_309 0 rfl ?_
  refine xr_iconst (v := 2) dL_law_310 rfl ?_
  refine xr_iadd dL_law_311 ?_
  refine xb_top (y := nI (i + 2)) (nI_add (i) (2)) ?_
  refine xr_sld rfl (vp_in_nI (show i + 2 < G.2.2.2.2.1 by omega) (by omega)) dL_law_312 ?_
  refine xb_top (y := (G.2.2.2.2.2 (i + 2))) (by rw [nI_clamp (by omega)]) ?_
  refine xr_aload_n dL_law_313 3 rfl ?_
  refine xr_iload_n dL_law_314 0 rfl ?_
  refine xr_iconst (v := 3) dL_law_315 rfl ?_
  refine xr_iadd dL_law_316 ?_
  refine xb_top (y := nI (i + 3)) (nI_add (i) (3)) ?_
  refine xr_sld rfl (vp_in_nI (show i + 3 < G.2.2.2.2.1 by omega) (by omega)) dL_law_317 ?_
  refine xb_top (y := (G.2.2.2.2.2 (i + 3))) (by rw [nI_clamp (by omega)]) ?_
  refine xr_callV (As := [.int ((G.2.2.2.2.2 (i + 1))), .int ((G.2.2.2.2.2 (i + 2))), .int ((G.2.2.2.2.2 (i + 3)))]) (rest := []) mlL_26 (gx_X10_mend (G.2.2.2.2.2 (i + 1)) (G.2.2.2.2.2 (i + 2)) (G.2.2.2.2.2 (i + 3)) (InvR_ke kk6 hR) hWG (RG_f hWG.1 hGr kk6) hWL (RLg_f hLr kk6)) dL_law_318 s_62 rfl rfl (Nat.le_of_ble_eq_true rfl) (by decide) ⟨by decide, by decide⟩ (fun v s2 M9 J2 hq => ?_)
  obtain ⟨r11, rfl, rfl, rfl, k10, hI7, hx8⟩ := hq
  try dsimp only [Option.toList, List.cons_append, List.nil_append]
  have kk12 : ∀ p k, p < 62 → M9 p k = M3 p k := (fun p k hp => k10 p k (by unfold WMR; omega))
  refine xr_pop dL_law_321 rfl ?_
  refine xr_goto (tgt := 1502) dL_law_322 rfl ?_
  refine xb_ls (ls2 := [(3, .int (nI (i))), (2, .ref (62)), (1, .ref (0)), (0, .ref (1002))]) [0, 1, 2, 3] rfl ?_
  exact hN _ _ (InvC_ke kk12 hI1) hI7 (RB_f (fun p k hp => (k10 p k (nx_WMR_CSB hp)).trans (k4 p k (nx_WMD_CSB hp))) hB_) (RP_f (fun p k hp => (k10 p k (nx_WMR_CSP hp)).trans (k4 p k (nx_WMD_CSP hp))) hP_) (RT_f (fun p k hp => (k10 p k (nx_WMR_CST hp)).trans (k4 p k (nx_WMD_CST hp))) hT_) (RS_f (fun p k hp => (k10 p k (nx_WMR_CSS hp)).trans (k4 p k (nx_WMD_CSS hp))) hS_) (RE_f rfl rfl hE_) (RY_f (fun p k hp => (k10 p k (nx_WMR_CSY hp)).trans (k4 p k (nx_WMD_CSY hp))) hY_) (jX_mend hWG hWL (KX_f (fun p k hp => (k10 p k (nx_WMR_CSk hp)).trans (k4 p k (nx_WMD_CSk hp))) (Nat.le_refl _) hWG.1 hKX) kk12 hx2 hx8).2
