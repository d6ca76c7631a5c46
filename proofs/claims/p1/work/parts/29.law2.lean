theorem dL_law_33 : decode cL_law 33 = .ok (.tableswitch 1471 0 41 #[183, 206, 249, 292, 325, 348, 361, 384, 407, 430, 473, 496, 509, 532, 555, 588, 611, 644, 667, 690, 723, 766, 799, 842, 885, 918, 962, 995, 1028, 1041, 1054, 1067, 1080, 1103, 1146, 1169, 1202, 1245, 1318, 1352, 1415, 1448], 183) := by decide +kernel
theorem dL_law_0 : decode cL_law 0 = .ok (.new 7, 3) := by decide +kernel
theorem dL_law_3 : decode cL_law 3 = .ok (.dup, 1) := by decide +kernel
theorem dL_law_4 : decode cL_law 4 = .ok (.invokespecial 9, 3) := by decide +kernel
theorem dL_law_7 : decode cL_law 7 = .ok (.astore_n 1, 1) := by decide +kernel
theorem dL_law_8 : decode cL_law 8 = .ok (.new 10, 3) := by decide +kernel
theorem dL_law_11 : decode cL_law 11 = .ok (.dup, 1) := by decide +kernel
theorem dL_law_12 : decode cL_law 12 = .ok (.invokespecial 12, 3) := by decide +kernel
theorem dL_law_15 : decode cL_law 15 = .ok (.astore_n 2, 1) := by decide +kernel
theorem dL_law_16 : decode cL_law 16 = .ok (.iconst 0, 1) := by decide +kernel
theorem dL_law_17 : decode cL_law 17 = .ok (.istore_n 3, 1) := by decide +kernel
theorem dL_law_27 : decode cL_law 27 = .ok (.aload_n 0, 1) := by decide +kernel
theorem dL_law_28 : decode cL_law 28 = .ok (.iload_n 3, 1) := by decide +kernel
theorem dL_law_29 : decode cL_law 29 = .ok (.iaload, 1) := by decide +kernel
theorem dL_law_30 : decode cL_law 30 = .ok (.bipush 63, 2) := by decide +kernel
theorem dL_law_32 : decode cL_law 32 = .ok (.iand, 1) := by decide +kernel
theorem sx_and63 (a : Int32) : 0 ≤ a &&& 63 ∧ a &&& 63 ≤ 63 := by
  have h1 : (a &&& 63).toBitVec.toNat ≤ 63 := by
    rw [Int32.toBitVec_and, BitVec.toNat_and]
    exact Nat.and_le_right
  have h2 : (a &&& 63).toInt = ((a &&& 63).toBitVec.toNat : Int) := by
    rw [← Int32.toInt_toBitVec, BitVec.toInt_eq_toNat_of_lt (by omega)]
  constructor
  · rw [Int32.le_iff_toInt_le, h2]; show (0 : Int) ≤ _; omega
  · rw [Int32.le_iff_toInt_le, h2]; show _ ≤ (63 : Int); omega
theorem sx_and (a : Int32) : ∃ k : Nat, k < 64 ∧ a &&& 63 = nI k := by
  obtain ⟨k, hk, e⟩ := x_natle (v := a &&& 63) (N := 63) (by decide) rfl (sx_and63 a)
  exact ⟨k, Nat.lt_succ_of_le hk, e⟩
set_option maxRecDepth 100000 in
set_option maxHeartbeats 4000000 in
theorem lwx_sw {l : Launch} {G : xG} (hn : G.2.2.2.2.1 = 6) : x_X l G fL_law 20 600000 7302250 (qR (some (.int 1))) 33 [(3, .int (0)), (2, .ref (62)), (1, .ref (0)), (0, .ref (1002))] [.int (G.2.2.2.2.2 0 &&& 63)] x_SH z_M x_J0 87 2934 := by
  obtain ⟨k, hk, he⟩ := sx_and (G.2.2.2.2.2 0)
  refine xb_top (y := nI k) he ?_
  by_cases h : 41 < k
  · exact xr_tableOut (tgt := 1504) dL_law_33 (Or.inr (by rw [nI_toInt (by omega)]; omega)) rfl (lwx_end hn)
  · have h2 : k = 0 ∨ k = 1 ∨ k = 2 ∨ k = 3 ∨ k = 4 ∨ k = 5 ∨ k = 6 ∨ k = 7 ∨ k = 8 ∨ k = 9 ∨ k = 10 ∨ k = 11 ∨ k = 12 ∨ k = 13 ∨ k = 14 ∨ k = 15 ∨ k = 16 ∨ k = 17 ∨ k = 18 ∨ k = 19 ∨ k = 20 ∨ k = 21 ∨ k = 22 ∨ k = 23 ∨ k = 24 ∨ k = 25 ∨ k = 26 ∨ k = 27 ∨ k = 28 ∨ k = 29 ∨ k = 30 ∨ k = 31 ∨ k = 32 ∨ k = 33 ∨ k = 34 ∨ k = 35 ∨ k = 36 ∨ k = 37 ∨ k = 38 ∨ k = 39 ∨ k = 40 ∨ k = 41 := by omega
    rcases h2 with rfl | rfl | rfl | rfl | rfl | rfl | rfl | rfl | rfl | rfl | rfl | rfl | rfl | rfl | rfl | rfl | rfl | rfl | rfl | rfl | rfl | rfl | rfl | rfl | rfl | rfl | rfl | rfl | rfl | rfl | rfl | rfl | rfl | rfl | rfl | rfl | rfl | rfl | rfl | rfl | rfl | rfl
    · exact xr_tableIn (tgt := 216) dL_law_33 (by decide) (by decide) rfl rfl (lwx_0 hn)
    · exact xr_tableIn (tgt := 239) dL_law_33 (by decide) (by decide) rfl rfl (lwx_1 hn)
    · exact xr_tableIn (tgt := 282) dL_law_33 (by decide) (by decide) rfl rfl (lwx_2 hn)
    · exact xr_tableIn (tgt := 325) dL_law_33 (by decide) (by decide) rfl rfl (lwx_3 hn)
    · exact xr_tableIn (tgt := 358) dL_law_33 (by decide) (by decide) rfl rfl (lwx_4 hn)
    · exact xr_tableIn (tgt := 381) dL_law_33 (by decide) (by decide) rfl rfl (lwx_5 hn)
    · exact xr_tableIn (tgt := 394) dL_law_33 (by decide) (by decide) rfl rfl (lwx_6 hn)
    · exact xr_tableIn (tgt := 417) dL_law_33 (by decide) (by decide) rfl rfl (lwx_7 hn)
    · exact xr_tableIn (tgt := 440) dL_law_33 (by decide) (by decide) rfl rfl (lwx_8 hn)
    · exact xr_tableIn (tgt := 463) dL_law_33 (by decide) (by decide) rfl rfl (lwx_9 hn)
    · exact xr_tableIn (tgt := 506) dL_law_33 (by decide) (by decide) rfl rfl (lwx_10 hn)
    · exact xr_tableIn (tgt := 529) dL_law_33 (by decide) (by decide) rfl rfl (lwx_11 hn)
    · exact xr_tableIn (tgt := 542) dL_law_33 (by decide) (by decide) rfl rfl (lwx_12 hn)
    · exact xr_tableIn (tgt := 565) dL_law_33 (by decide) (by decide) rfl rfl (lwx_13 hn)
    · exact xr_tableIn (tgt := 588) dL_law_33 (by decide) (by decide) rfl rfl (lwx_14 hn)
    · exact xr_tableIn (tgt := 621) dL_law_33 (by decide) (by decide) rfl rfl (lwx_15 hn)
    · exact xr_tableIn (tgt := 644) dL_law_33 (by decide) (by decide) rfl rfl (lwx_16 hn)
    · exact xr_tableIn (tgt := 677) dL_law_33 (by decide) (by decide) rfl rfl (lwx_17 hn)
    · exact xr_tableIn (tgt := 700) dL_law_33 (by decide) (by decide) rfl rfl (lwx_18 hn)
    · exact xr_tableIn (tgt := 723) dL_law_33 (by decide) (by decide) rfl rfl (lwx_19 hn)
    · exact xr_tableIn (tgt := 756) dL_law_33 (by decide) (by decide) rfl rfl (lwx_20 hn)
    · exact xr_tableIn (tgt := 799) dL_law_33 (by decide) (by decide) rfl rfl (lwx_21 hn)
    · exact xr_tableIn (tgt := 832) dL_law_33 (by decide) (by decide) rfl rfl (lwx_22 hn)
    · exact xr_tableIn (tgt := 875) dL_law_33 (by decide) (by decide) rfl rfl (lwx_23 hn)
    · exact xr_tableIn (tgt := 918) dL_law_33 (by decide) (by decide) rfl rfl (lwx_24 hn)
    · exact xr_tableIn (tgt := 951) dL_law_33 (by decide) (by decide) rfl rfl (lwx_25 hn)
    · exact xr_tableIn (tgt := 995) dL_law_33 (by decide) (by decide) rfl rfl (lwx_26 hn)
    · exact xr_tableIn (tgt := 1028) dL_law_33 (by decide) (by decide) rfl rfl (lwx_27 hn)
    · exact xr_tableIn (tgt := 1061) dL_law_33 (by decide) (by decide) rfl rfl (lwx_28 hn)
    · exact xr_tableIn (tgt := 1074) dL_law_33 (by decide) (by decide) rfl rfl (lwx_29 hn)
    · exact xr_tableIn (tgt := 1087) dL_law_33 (by decide) (by decide) rfl rfl (lwx_30 hn)
    · exact xr_tableIn (tgt := 1100) dL_law_33 (by decide) (by decide) rfl rfl (lwx_31 hn)
    · exact xr_tableIn (tgt := 1113) dL_law_33 (by decide) (by decide) rfl rfl (lwx_32 hn)
    · exact xr_tableIn (tgt := 1136) dL_law_33 (by decide) (by decide) rfl rfl (lwx_33 hn)
    · exact xr_tableIn (tgt := 1179) dL_law_33 (by decide) (by decide) rfl rfl (lwx_34 hn)
    · exact xr_tableIn (tgt := 1202) dL_law_33 (by decide) (by decide) rfl rfl (lwx_35 hn)
    · exact xr_tableIn (tgt := 1235) dL_law_33 (by decide) (by decide) rfl rfl (lwx_36 hn)
    · exact xr_tableIn (tgt := 1278) dL_law_33 (by decide) (by decide) rfl rfl (lwx_37 hn)
    · exact xr_tableIn (tgt := 1351) dL_law_33 (by decide) (by decide) rfl rfl (lwx_38 hn)
    · exact xr_tableIn (tgt := 1385) dL_law_33 (by decide) (by decide) rfl rfl (lwx_39 hn)
    · exact xr_tableIn (tgt := 1448) dL_law_33 (by decide) (by decide) rfl rfl (lwx_40 hn)
    · exact xr_tableIn (tgt := 1481) dL_law_33 (by decide) (by decide) rfl rfl (lwx_41 hn)
theorem sx_lt {n : Nat} (h : n < 6) : nI n - 6 < 0 := (show ∀ n, n < 6 → nI n - 6 < 0 by decide +kernel) n h
set_option maxRecDepth 100000 in
set_option maxHeartbeats 4000000 in
theorem lwx {l : Launch} {G : xG} (hL : G.2.2.2.2.1 ≤ 6) : x_X l G fL_law 20 600000 7302250 (qR (some (.int 1))) 0 [(0, .ref 1002)] [] [] x_M0 x_J0 0 0 := by
  refine xb_new (p := 0) (sh2 := h_1) (kc2 := 1) (ks2 := 10) nwL_7 dL_law_0 rfl (by decide) (fun _ => rfl) rfl rfl rfl (by decide) (by decide) ?_
  refine xr_dup dL_law_3 rfl ?_
  refine xb_cI (As := []) (rest := [.ref (0)]) (kc2 := 62) (ks2 := 1828) mlL_9 k_X9_0 dL_law_4 rfl rfl (by decide) (by decide) rfl rfl (by decide) (by decide) ?_
  refine xr_astore_n (ls2 := [(1, .ref (0)), (0, .ref (1002))]) dL_law_7 (by decide) rfl ?_
  refine xb_new (p := 62) (sh2 := h_128) (kc2 := 63) (ks2 := 1874) nwL_10 dL_law_8 rfl (by decide) (fun _ => rfl) rfl rfl rfl (by decide) (by decide) ?_
  refine xr_dup dL_law_11 rfl ?_
  refine xb_cI (As := []) (rest := [.ref (62)]) (kc2 := 87) (ks2 := 2934) mlL_12 k_X10_62 dL_law_12 rfl rfl (by decide) (by decide) rfl rfl (by decide) (by decide) ?_
  rw [h_done]
  change x_X l G fL_law 20 600000 7302250 (qR (some (.int 1))) 15 _ _ x_SH z_M x_J0 87 2934
  refine xr_astore_n (ls2 := [(2, .ref (62)), (1, .ref (0)), (0, .ref (1002))]) dL_law_15 (by decide) rfl ?_
  refine xr_iconst (v := 0) dL_law_16 rfl ?_
  refine xr_istore_n (ls2 := [(3, .int (0)), (2, .ref (62)), (1, .ref (0)), (0, .ref (1002))]) dL_law_17 (by decide) rfl ?_
  refine xr_iload_n dL_law_18 0 rfl ?_
  refine xr_aload_n dL_law_19 3 rfl ?_
  refine xr_slen rfl dL_law_20 ?_
  by_cases hn : G.2.2.2.2.1 = 6
  · refine xb_top (y := 6) (by rw [hn]; rfl) ?_
    refine xr_bipush (v := 6) dL_law_21 rfl ?_
    refine xr_isub dL_law_23 ?_
    refine xb_top (y := 0) (by decide) ?_
    refine xr_icmp_gt (tgt := 1510) dL_law_24 rfl (fun c => absurd c (by decide)) (fun _ => ?_)
    refine xr_aload_n dL_law_27 3 rfl ?_
    refine xr_iload_n dL_law_28 0 rfl ?_
    refine xr_sld rfl (sx_in hn 0 (by decide)) dL_law_29 ?_
    refine xb_top (y := G.2.2.2.2.2 0) rfl ?_
    refine xr_bipush (v := 63) dL_law_30 rfl ?_
    refine xr_iand dL_law_32 ?_
    refine xb_ls (ls2 := [(3, .int (0)), (2, .ref (62)), (1, .ref (0)), (0, .ref (1002))]) [0, 1, 2, 3] rfl ?_
    exact lwx_sw hn
  · have hl : G.2.2.2.2.1 < 6 := by omega
    refine xr_bipush (v := 6) dL_law_21 rfl ?_
    refine xr_isub dL_law_23 ?_
    refine xr_icmp_gt (tgt := 1510) dL_law_24 rfl (fun _ => ?_) (fun c => absurd (sx_lt hl) c)
    refine xr_iconst (v := 1) dL_law_1510 rfl ?_
    exact xr_iret dL_law_1511 rfl rfl (rfl)
