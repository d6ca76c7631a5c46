set_option maxRecDepth 100000 in
set_option maxHeartbeats 4000000 in
theorem lwx_33 {l : Launch} {G : xG} (hL : G.2.2.2.2.1 ≤ 3072) {M : xM} {J : xJ} {i : Nat} (hi : i + 6 ≤ G.2.2.2.2.1) (hC : InvC M) (hR : InvR M) (hB_ : RB M) (hP_ : RP M) (hT_ : RT M) (hS_ : RS M) (hE_ : RE J) (hY_ : RY M J) (hX_ : RX M) (hN : ∀ (M2 : xM) (J2 : xJ), InvC M2 → InvR M2 → RB M2 → RP M2 → RT M2 → RS M2 → RE J2 → RY M2 J2 → RX M2 → x_X l G fL_law 200 600000 7302250 (qR (some (.int 1))) 1502 [(3, .int (nI (i))), (2, .ref (62)), (1, .ref (0)), (0, .ref (1002))] [] x_SH M2 J2 87 2934) : x_X l G fL_law 200 600000 7302250 (qR (some (.int 1))) 1135 [(3, .int (nI (i))), (2, .ref (62)), (1, .ref (0)), (0, .ref (1002))] [] x_SH M J 87 2934 := by
  refine xr_aload_n dL_law_1135 2 rfl ?_
  refine xr_aload_n dL_law_1136 3 rfl ?_
  refine xr_iload_n dL_law_1137 0 rfl ?_
  refine xr_iconst (v := 1) dL_law_1138 rfl ?_
  refine xr_iadd dL_law_1139 ?_
  refine xb_top (y := nI (i + 1)) (nI_add (i) (1)) ?_
  refine xr_sld rfl (vp_in_nI (show i + 1 < G.2.2.2.2.1 by omega) (by omega)) dL_law_1140 ?_
  refine xb_top (y := (G.2.2.2.2.2 (i + 1))) (by rw [nI_clamp (by omega)]) ?_
  refine xr_aload_n dL_law_1141 3 rfl ?_
  refine xr_iload_n dL_law_1142 0 rfl ?_
  refine xr_iconst (v := 2) dL_law_1143 rfl ?_
  refine xr_iadd dL_law_1144 ?_
  refine xb_top (y := nI (i + 2)) (nI_add (i) (2)) ?_
  refine xr_sld rfl (vp_in_nI (show i + 2 < G.2.2.2.2.1 by omega) (by omega)) dL_law_1145 ?_
  refine xb_top (y := (G.2.2.2.2.2 (i + 2))) (by rw [nI_clamp (by omega)]) ?_
  refine xr_aload_n dL_law_1146 3 rfl ?_
  refine xr_iload_n dL_law_1147 0 rfl ?_
  refine xr_iconst (v := 3) dL_law_1148 rfl ?_
  refine xr_iadd dL_law_1149 ?_
  refine xb_top (y := nI (i + 3)) (nI_add (i) (3)) ?_
  refine xr_sld rfl (vp_in_nI (show i + 3 < G.2.2.2.2.1 by omega) (by omega)) dL_law_1150 ?_
  refine xb_top (y := (G.2.2.2.2.2 (i + 3))) (by rw [nI_clamp (by omega)]) ?_
  refine xr_callV (As := [.int ((G.2.2.2.2.2 (i + 1))), .int ((G.2.2.2.2.2 (i + 2))), .int ((G.2.2.2.2.2 (i + 3)))]) (rest := []) mlL_150 (gs_X9_act (G.2.2.2.2.2 (i + 1)) (G.2.2.2.2.2 (i + 2)) (G.2.2.2.2.2 (i + 3)) hC) dL_law_1151 s_0 rfl rfl (Nat.le_of_ble_eq_true rfl) (by decide) ⟨by decide, by decide⟩ (fun v s2 M3 J2 hq => ?_)
  obtain ⟨r5, rfl, rfl, rfl, k4, hI1, hx2⟩ := hq
  try dsimp only [Option.toList, List.cons_append, List.nil_append]
  have kk6 : ∀ p k, 62 ≤ p → M3 p k = M p k := (fun p k hp => k4 p k (by unfold WTR; omega))
  refine xr_pop dL_law_1154 rfl ?_
  refine xr_aload_n dL_law_1155 1 rfl ?_
  refine xr_aload_n dL_law_1156 3 rfl ?_
  refine xr_iload_n dL_law_1157 0 rfl ?_
  refine xr_iconst (v := 1) dL_law_1158 rfl ?_
  refine xr_iadd dL_law_1159 ?_
  refine xb_top (y := nI (i + 1)) (nI_add (i) (1)) ?_
  refine xr_sld rfl (vp_in_nI (show i + 1 < G.2.2.2.2.1 by omega) (by omega)) dL_law_1160 ?_
  refine xb_top (y := (G.2.2.2.2.2 (i + 1))) (by rw [nI_clamp (by omega)]) ?_
  refine xr_aload_n dL_law_1161 3 rfl ?_
  refine xr_iload_n dL_law_1162 0 rfl ?_
  refine xr_iconst (v := 2) dL_law_1163 rfl ?_
  refine xr_iadd dL_law_1164 ?_
  refine xb_top (y := nI (i + 2)) (nI_add (i) (2)) ?_
  refine xr_sld rfl (vp_in_nI (show i + 2 < G.2.2.2.2.1 by omega) (by omega)) dL_law_1165 ?_
  refine xb_top (y := (G.2.2.2.2.2 (i + 2))) (by rw [nI_clamp (by omega)]) ?_
  refine xr_aload_n dL_law_1166 3 rfl ?_
  refine xr_iload_n dL_law_1167 0 rfl ?_
  refine xr_iconst (v := 3) dL_law_1168 rfl ?_
  refine xr_iadd dL_law_1169 ?_
  refine xb_top (y := nI (i + 3)) (nI_add (i) (3)) ?_
  refine xr_sld rfl (vp_in_nI (show i + 3 < G.2.2.2.2.1 by omega) (by omega)) dL_law_1170 ?_
  refine xb_top (y := (G.2.2.2.2.2 (i + 3))) (by rw [nI_clamp (by omega)]) ?_
  refine xr_callV (As := [.int ((G.2.2.2.2.2 (i + 1))), .int ((G.2.2.2.2.2 (i + 2))), .int ((G.2.2.2.2.2 (i + 3)))]) (rest := []) mlL_153 (gs_X10_act (G.2.2.2.2.2 (i + 1)) (G.2.2.2.2.2 (i + 2)) (G.2.2.2.2.2 (i + 3)) (InvR_ke kk6 hR)) dL_law_1171 s_62 rfl rfl (Nat.le_of_ble_eq_true rfl) (by decide) ⟨by decide, by decide⟩ (fun v s2 M9 J2 hq => ?_)
  obtain ⟨r11, rfl, rfl, rfl, k10, hI7, hx8⟩ := hq
  try dsimp only [Option.toList, List.cons_append, List.nil_append]
  have kk12 : ∀ p k, p < 62 → M9 p k = M3 p k := (fun p k hp => k10 p k (by unfold WRC; omega))
  refine xr_pop dL_law_1174 rfl ?_
  refine xr_goto (tgt := 1502) dL_law_1175 rfl ?_
  refine xb_ls (ls2 := [(3, .int (nI (i))), (2, .ref (62)), (1, .ref (0)), (0, .ref (1002))]) [0, 1, 2, 3] rfl ?_
  exact hN _ _ (InvC_ke kk12 hI1) hI7 (RB_f (fun p k hp => (k10 p k (nx_WRC_CSB hp)).trans (k4 p k (nx_WTR_CSB hp))) hB_) (RP_f (fun p k hp => (k10 p k (nx_WRC_CSP hp)).trans (k4 p k (nx_WTR_CSP hp))) hP_) (RT_f (fun p k hp => (k10 p k (nx_WRC_CST hp)).trans (k4 p k (nx_WTR_CST hp))) hT_) (RS_f (fun p k hp => (k10 p k (nx_WRC_CSS hp)).trans (k4 p k (nx_WTR_CSS hp))) hS_) (RE_f rfl rfl hE_) (RY_f (fun p k hp => (k10 p k (nx_WRC_CSY hp)).trans (k4 p k (nx_WTR_CSY hp))) hY_) (RX_f (fun p k hp => (k10 p k (nx_WRC_CSX hp)).trans (k4 p k (nx_WTR_CSX hp))) hX_)
set_option maxRecDepth 100000 in
set_option maxHeartbeats 4000000 in
theorem lwx_34 {l : Launch} {G : xG} (hL : G.2.2.2.2.1 ≤ 3072) {M : xM} {J : xJ} {i : Nat} (hi : i + 6 ≤ G.2.2.2.2.1) (hC : InvC M) (hR : InvR M) (hB_ : RB M) (hP_ : RP M) (hT_ : RT M) (hS_ : RS M) (hE_ : RE J) (hY_ : RY M J) (hX_ : RX M) (hN : ∀ (M2 : xM) (J2 : xJ), InvC M2 → InvR M2 → RB M2 → RP M2 → RT M2 → RS M2 → RE J2 → RY M2 J2 → RX M2 → x_X l G fL_law 200 600000 7302250 (qR (some (.int 1))) 1502 [(3, .int (nI (i))), (2, .ref (62)), (1, .ref (0)), (0, .ref (1002))] [] x_SH M2 J2 87 2934) : x_X l G fL_law 200 600000 7302250 (qR (some (.int 1))) 1178 [(3, .int (nI (i))), (2, .ref (62)), (1, .ref (0)), (0, .ref (1002))] [] x_SH M J 87 2934 := by
  refine xr_aload_n dL_law_1178 2 rfl ?_
  refine xr_aload_n dL_law_1179 3 rfl ?_
  refine xr_iload_n dL_law_1180 0 rfl ?_
  refine xr_iconst (v := 1) dL_law_1181 rfl ?_
  refine xr_iadd dL_law_1182 ?_
  refine xb_top (y := nI (i + 1)) (nI_add (i) (1)) ?_
  refine xr_sld rfl (vp_in_nI (show i + 1 < G.2.2.2.2.1 by omega) (by omega)) dL_law_1183 ?_
  refine xb_top (y := (G.2.2.2.2.2 (i + 1))) (by rw [nI_clamp (by omega)]) ?_
  refine xr_callV (As := [.int ((G.2.2.2.2.2 (i + 1)))]) (rest := []) mlL_154 (g_X9_trace (G.2.2.2.2.2 (i + 1)) hC) dL_law_1184 s_0 rfl rfl (Nat.le_of_ble_eq_true rfl) (by decide) ⟨by decide, by decide⟩ (fun v s2 M9 J2 hq => ?_)
  obtain ⟨r3, rfl, rfl, rfl, rfl, hx2⟩ := hq
  try dsimp only [Option.toList, List.cons_append, List.nil_append]
  refine xr_pop dL_law_1187 rfl ?_
  refine xr_aload_n dL_law_1188 1 rfl ?_
  refine xr_aload_n dL_law_1189 3 rfl ?_
  refine xr_iload_n dL_law_1190 0 rfl ?_
  refine xr_iconst (v := 1) dL_law_1191 rfl ?_
  refine xr_iadd dL_law_1192 ?_
  refine xb_top (y := nI (i + 1)) (nI_add (i) (1)) ?_
  refine xr_sld rfl (vp_in_nI (show i + 1 < G.2.2.2.2.1 by omega) (by omega)) dL_law_1193 ?_
  refine xb_top (y := (G.2.2.2.2.2 (i + 1))) (by rw [nI_clamp (by omega)]) ?_
  refine xr_callV (As := [.int ((G.2.2.2.2.2 (i + 1)))]) (rest := []) mlL_157 (g_X10_trace (G.2.2.2.2.2 (i + 1)) hR) dL_law_1194 s_62 rfl rfl (Nat.le_of_ble_eq_true rfl) (by decide) ⟨by decide, by decide⟩ (fun v s2 M9 J2 hq => ?_)
  obtain ⟨r6, rfl, rfl, rfl, rfl, hx5⟩ := hq
  try dsimp only [Option.toList, List.cons_append, List.nil_append]
  refine xr_pop dL_law_1197 rfl ?_
  refine xr_goto (tgt := 1502) dL_law_1198 rfl ?_
  refine xb_ls (ls2 := [(3, .int (nI (i))), (2, .ref (62)), (1, .ref (0)), (0, .ref (1002))]) [0, 1, 2, 3] rfl ?_
  exact hN _ _ hC hR hB_ hP_ hT_ hS_ (RE_f rfl rfl hE_) hY_ hX_
set_option maxRecDepth 100000 in
set_option maxHeartbeats 4000000 in
theorem lwx_35 {l : Launch} {G : xG} (hL : G.2.2.2.2.1 ≤ 3072) {M : xM} {J : xJ} {i : Nat} (hi : i + 6 ≤ G.2.2.2.2.1) (hC : InvC M) (hR : InvR M) (hB_ : RB M) (hP_ : RP M) (hT_ : RT M) (hS_ : RS M) (hE_ : RE J) (hY_ : RY M J) (hX_ : RX M) (hN : ∀ (M2 : xM) (J2 : xJ), InvC M2 → InvR M2 → RB M2 → RP M2 → RT M2 → RS M2 → RE J2 → RY M2 J2 → RX M2 → x_X l G fL_law 200 600000 7302250 (qR (some (.int 1))) 1502 [(3, .int (nI (i))), (2, .ref (62)), (1, .ref (0)), (0, .ref (1002))] [] x_SH M2 J2 87 2934) : x_X l G fL_law 200 600000 7302250 (qR (some (.int 1))) 1201 [(3, .int (nI (i))), (2, .ref (62)), (1, .ref (0)), (0, .ref (1002))] [] x_SH M J 87 2934 := by
  refine xr_aload_n dL_law_1201 2 rfl ?_
  refine xr_aload_n dL_law_1202 3 rfl ?_
  refine xr_iload_n dL_law_1203 0 rfl ?_
  refine xr_iconst (v := 1) dL_law_1204 rfl ?_
  refine xr_iadd dL_law_1205 ?_
  refine xb_top (y := nI (i + 1)) (nI_add (i) (1)) ?_
  refine xr_sld rfl (vp_in_nI (show i + 1 < G.2.2.2.2.1 by omega) (by omega)) dL_law_1206 ?_
  refine xb_top (y := (G.2.2.2.2.2 (i + 1))) (by rw [nI_clamp (by omega)]) ?_
  refine xr_aload_n dL_law_1207 3 rfl ?_
  refine xr_iload_n dL_law_1208 0 rfl ?_
  refine xr_iconst (v := 2) dL_law_1209 rfl ?_
  refine xr_iadd dL_law_1210 ?_
  refine xb_top (y := nI (i + 2)) (nI_add (i) (2)) ?_
  refine xr_sld rfl (vp_in_nI (show i + 2 < G.2.2.2.2.1 by omega) (by omega)) dL_law_1211 ?_
  refine xb_top (y := (G.2.2.2.2.2 (i + 2))) (by rw [nI_clamp (by omega)]) ?_
  refine xr_callV (As := [.int ((G.2.2.2.2.2 (i + 1))), .int ((G.2.2.2.2.2 (i + 2)))]) (rest := []) mlL_158 (gs_X9_keep (G.2.2.2.2.2 (i + 1)) (G.2.2.2.2.2 (i + 2)) hC) dL_law_1212 s_0 rfl rfl (Nat.le_of_ble_eq_true rfl) (by decide) ⟨by decide, by decide⟩ (fun v s2 M3 J2 hq => ?_)
  obtain ⟨r5, rfl, rfl, rfl, k4, hI1, hx2⟩ := hq
  try dsimp only [Option.toList, List.cons_append, List.nil_append]
  have kk6 : ∀ p k, 62 ≤ p → M3 p k = M p k := (fun p k hp => k4 p k (by unfold WKP; omega))
  refine xr_pop dL_law_1215 rfl ?_
  refine xr_aload_n dL_law_1216 1 rfl ?_
  refine xr_aload_n dL_law_1217 3 rfl ?_
  refine xr_iload_n dL_law_1218 0 rfl ?_
  refine xr_iconst (v := 1) dL_law_1219 rfl ?_
  refine xr_iadd dL_law_1220 ?_
  refine xb_top (y := nI (i + 1)) (nI_add (i) (1)) ?_
  refine xr_sld rfl (vp_in_nI (show i + 1 < G.2.2.2.2.1 by omega) (by omega)) dL_law_1221 ?_
  refine xb_top (y := (G.2.2.2.2.2 (i + 1))) (by rw [nI_clamp (by omega)]) ?_
  refine xr_aload_n dL_law_1222 3 rfl ?_
  refine xr_iload_n dL_law_1223 0 rfl ?_
  refine xr_iconst (v := 2) dL_law_1224 rfl ?_
  refine xr_iadd dL_law_1225 ?_
  refine xb_top (y := nI (i + 2)) (nI_add (i) (2)) ?_
  refine xr_sld rfl (vp_in_nI (show i + 2 < G.2.2.2.2.1 by omega) (by omega)) dL_law_1226 ?_
  refine xb_top (y := (G.2.2.2.2.2 (i + 2))) (by rw [nI_clamp (by omega)]) ?_
  refine xr_callV (As := [.int ((G.2.2.2.2.2 (i + 1))), .int ((G.2.2.2.2.2 (i + 2)))]) (rest := []) mlL_161 (gs_X10_keep (G.2.2.2.2.2 (i + 1)) (G.2.2.2.2.2 (i + 2)) (InvR_ke kk6 hR)) dL_law_1227 s_62 rfl rfl (Nat.le_of_ble_eq_true rfl) (by decide) ⟨by decide, by decide⟩ (fun v s2 M9 J2 hq => ?_)
  obtain ⟨r11, rfl, rfl, rfl, k10, hI7, hx8⟩ := hq
  try dsimp only [Option.toList, List.cons_append, List.nil_append]
  have kk12 : ∀ p k, p < 62 → M9 p k = M3 p k := (fun p k hp => k10 p k (by unfold WRH; omega))
  refine xr_pop dL_law_1230 rfl ?_
  refine xr_goto (tgt := 1502) dL_law_1231 rfl ?_
  refine xb_ls (ls2 := [(3, .int (nI (i))), (2, .ref (62)), (1, .ref (0)), (0, .ref (1002))]) [0, 1, 2, 3] rfl ?_
  exact hN _ _ (InvC_ke kk12 hI1) hI7 (RB_f (fun p k hp => (k10 p k (nx_WRH_CSB hp)).trans (k4 p k (nx_WKP_CSB hp))) hB_) (RP_f (fun p k hp => (k10 p k (nx_WRH_CSP hp)).trans (k4 p k (nx_WKP_CSP hp))) hP_) (RT_f (fun p k hp => (k10 p k (nx_WRH_CST hp)).trans (k4 p k (nx_WKP_CST hp))) hT_) (jS_keep hx2 hx8 kk6 kk12 hC hB_ hS_) (RE_f rfl rfl hE_) (jY_keep hx2 hx8 kk6 kk12 hC hB_ hY_) (RX_f (fun p k hp => (k10 p k (nx_WRH_CSX hp)).trans (k4 p k (nx_WKP_CSX hp))) hX_)
