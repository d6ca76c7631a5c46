theorem RY_z : RY z_M x_J0 := fun d hd => ⟨fun _ => ((z_s1 d hd).1).trans (z_84 d hd), fun q => absurd ((z_s1 d hd).2.2.symm.trans q) (by decide)⟩
set_option maxRecDepth 100000 in
set_option maxHeartbeats 4000000 in
theorem lwx {l : Launch} {G : xG} (hL : G.2.2.2.2.1 ≤ 3072) : x_X l G fL_law 200 600000 7302250 (qR (some (.int 1))) 0 [(0, .ref 1002)] [] [] x_M0 x_J0 0 0 := by
  refine xb_new (p := 0) (sh2 := h_1) (kc2 := 1) (ks2 := 10) nwL_7 dL_law_0 rfl (by decide) (fun _ => rfl) rfl rfl rfl (by decide) (by decide) ?_
  refine xr_dup dL_law_3 rfl ?_
  refine xb_cI (As := []) (rest := [.ref (0)]) (kc2 := 62) (ks2 := 1828) mlL_9 k_X9_0 dL_law_4 rfl rfl (by decide) (by decide) rfl rfl (by decide) (by decide) ?_
  refine xr_astore_n (ls2 := [(1, .ref (0)), (0, .ref (1002))]) dL_law_7 (by decide) rfl ?_
  refine xb_new (p := 62) (sh2 := h_128) (kc2 := 63) (ks2 := 1874) nwL_10 dL_law_8 rfl (by decide) (fun _ => rfl) rfl rfl rfl (by decide) (by decide) ?_
  refine xr_dup dL_law_11 rfl ?_
  refine xb_cI (As := []) (rest := [.ref (62)]) (kc2 := 87) (ks2 := 2934) mlL_12 k_X10_62 dL_law_12 rfl rfl (by decide) (by decide) rfl rfl (by decide) (by decide) ?_
  rw [h_done]
  change x_X l G fL_law 200 600000 7302250 (qR (some (.int 1))) 15 _ _ x_SH z_M x_J0 87 2934
  refine xr_astore_n (ls2 := [(2, .ref (62)), (1, .ref (0)), (0, .ref (1002))]) dL_law_15 (by decide) rfl ?_
  refine xr_iconst (v := 0) dL_law_16 rfl ?_
  refine xr_istore_n (ls2 := [(3, .int (0)), (2, .ref (62)), (1, .ref (0)), (0, .ref (1002))]) dL_law_17 (by decide) rfl ?_
  refine xb_ls (ls2 := [(3, .int (nI (0))), (2, .ref (62)), (1, .ref (0)), (0, .ref (1002))]) [0, 1, 2, 3] rfl ?_
  exact lwx_loop hL (lwx_case hL) G.2.2.2.2.1 0 z_M x_J0 (by omega) (Nat.zero_le _) InvC_z InvR_z RB_z RP_z RT_z RS_z RE_z RY_z RX_z


