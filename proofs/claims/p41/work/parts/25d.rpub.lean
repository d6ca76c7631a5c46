theorem dX10_go_0 : decode cX10_go 0 = .ok (.iload_n 1, 1) := by decide +kernel
theorem dX10_go_1 : decode cX10_go 1 = .ok (.i2l, 1) := by decide +kernel
theorem dX10_go_2 : decode cX10_go 2 = .ok (.lconst 1, 1) := by decide +kernel
theorem dX10_go_3 : decode cX10_go 3 = .ok (.ldc2_w 244, 3) := by decide +kernel
theorem dX10_go_6 : decode cX10_go 6 = .ok (.invokestatic 101, 3) := by decide +kernel
theorem dX10_go_9 : decode cX10_go 9 = .ok (.ifCond .ne 5, 3) := by decide +kernel
theorem dX10_go_14 : decode cX10_go 14 = .ok (.aload_n 0, 1) := by decide +kernel
theorem dX10_go_15 : decode cX10_go 15 = .ok (.invokevirtual 246, 3) := by decide +kernel
theorem dX10_go_18 : decode cX10_go 18 = .ok (.istore_n 2, 1) := by decide +kernel
theorem dX10_go_19 : decode cX10_go 19 = .ok (.aload_n 0, 1) := by decide +kernel
theorem dX10_go_20 : decode cX10_go 20 = .ok (.iload_n 2, 1) := by decide +kernel
theorem dX10_go_21 : decode cX10_go 21 = .ok (.invokevirtual 249, 3) := by decide +kernel
theorem dX10_go_24 : decode cX10_go 24 = .ok (.aload_n 0, 1) := by decide +kernel
theorem dX10_go_25 : decode cX10_go 25 = .ok (.iconst 0, 1) := by decide +kernel
theorem dX10_go_26 : decode cX10_go 26 = .ok (.putfield 237, 3) := by decide +kernel
theorem dX10_go_29 : decode cX10_go 29 = .ok (.iconst 0, 1) := by decide +kernel
theorem dX10_go_30 : decode cX10_go 30 = .ok (.istore_n 3, 1) := by decide +kernel
theorem dX10_go_92 : decode cX10_go 92 = .ok (.aload_n 0, 1) := by decide +kernel
theorem dX10_go_93 : decode cX10_go 93 = .ok (.dup, 1) := by decide +kernel
theorem dX10_go_94 : decode cX10_go 94 = .ok (.getfield 258, 3) := by decide +kernel
theorem dX10_go_97 : decode cX10_go 97 = .ok (.aload_n 0, 1) := by decide +kernel
theorem dX10_go_98 : decode cX10_go 98 = .ok (.getfield 237, 3) := by decide +kernel
theorem dX10_go_101 : decode cX10_go 101 = .ok (.iadd, 1) := by decide +kernel
theorem dX10_go_102 : decode cX10_go 102 = .ok (.putfield 258, 3) := by decide +kernel
theorem dX10_go_105 : decode cX10_go 105 = .ok (.iconst 0, 1) := by decide +kernel
theorem dX10_go_106 : decode cX10_go 106 = .ok (.istore_n 3, 1) := by decide +kernel
theorem dX10_go_160 : decode cX10_go 160 = .ok (.aload_n 0, 1) := by decide +kernel
theorem dX10_go_161 : decode cX10_go 161 = .ok (.invokevirtual 246, 3) := by decide +kernel
theorem dX10_go_164 : decode cX10_go 164 = .ok (.invokestatic 261, 3) := by decide +kernel
theorem dX10_go_167 : decode cX10_go 167 = .ok (.ireturn, 1) := by decide +kernel
theorem dX10_go_12 : decode cX10_go 12 = .ok (.iconst (-1), 1) := by decide +kernel
theorem dX10_go_13 : decode cX10_go 13 = .ok (.ireturn, 1) := by decide +kernel
set_option maxRecDepth 100000 in
set_option maxHeartbeats 4000000 in
theorem g_X10_go (nn : Int32) {l : Launch} {G : xG} {M : xM} {J : xJ} (hI : InvR M) : x_M l G fX10_go 62 0 0 [.ref (62), .int (nn)] x_SH M J (qKI WRG M J (fun r M2 => InvR M2)) := by
  refine xb_of pX10 (Nat.le_of_ble_eq_true rfl) rfl ?_
  obtain ⟨⟨hn, h_hn, e_hn, hw⟩, hbt, ⟨un, wn, h_uw, h_wn, e_un, e_wn⟩, hch, ⟨n, h_n, e_n⟩, htx, ⟨b, h_b, e_b⟩, hkd, ⟨ra, h_ra, e_ra⟩, hsl, ⟨ic, h_ic, e_ic⟩, hS⟩ := hI
  refine xr_iload_n dX10_go_0 1 rfl ?_
  refine xr_i2l dX10_go_1 ?_
  refine xr_lconst (v := 1) dX10_go_2 rfl ?_
  refine xr_ldc2 coX10_244 dX10_go_3 ?_
  refine xb_cS (As := [.long ((nn).toInt64), .long (1), .long (200)]) (rest := []) mlX10_101 (c_within32 (nn) (1) (200) (by decide) (by decide)) dX10_go_6 rfl rfl (Nat.le_of_ble_eq_true rfl) (by decide) (by decide) ?_
  refine xb_bne (tgt := 14) dX10_go_9 rfl (fun c1 => ?_) (fun c1 => ?_)
  · obtain ⟨N, hN, rfl⟩ := x_natle (v := nn) (N := 200) (K := 200) (by decide) (by decide) ⟨by grind, c1.2⟩
    refine xr_aload_n dX10_go_14 0 rfl ?_
    refine xr_callV (As := []) (rest := []) mlX10_246 (g_X10_upNow h_hn e_hn (fun kw hkw => by rw [show M 63 (5 + kw) = M 63 (5 + kw) from rfl]; exact hw kw hkw) (by rw [show M 63 16 = M 63 16 from rfl]; exact hbt) (by rw [show M 62 13 = M 62 13 from rfl]; exact htx)) dX10_go_15 s_62 rfl rfl (Nat.le_of_ble_eq_true rfl) (by decide) ⟨by decide, by decide⟩ (fun v s2 M9 J2 hq => ?_)
    obtain ⟨r2, rfl, rfl, rfl, rfl, _⟩ := hq
    try dsimp only [Option.toList, List.cons_append, List.nil_append]
    refine xr_istore_n (ls2 := [(2, .int (r2)), (0, .ref (62)), (1, .int (nI (N)))]) dX10_go_18 (by decide) rfl ?_
    refine xr_aload_n dX10_go_19 1 rfl ?_
    refine xr_iload_n dX10_go_20 0 rfl ?_
    refine xr_callV (As := [.int (r2)]) (rest := []) mlX10_249 (g_X10_begins1 r2 h_hn e_hn (fun kw hkw => by rw [show M 63 (5 + kw) = M 63 (5 + kw) from rfl]; exact hw kw hkw) (by rw [show M 63 16 = M 63 16 from rfl]; exact hbt) (by rw [show M 62 13 = M 62 13 from rfl]; exact htx)) dX10_go_21 s_62 rfl rfl (Nat.le_of_ble_eq_true rfl) (by decide) ⟨by decide, by decide⟩ (fun v s2 M3 J2 hq => ?_)
    obtain ⟨rfl, rfl, rfl, k4, _⟩ := hq
    try dsimp only [Option.toList, List.cons_append, List.nil_append]
    refine xr_aload_n dX10_go_24 1 rfl ?_
    refine xr_iconst (v := 0) dX10_go_25 rfl ?_
    refine xr_putI fpX10_237 dX10_go_26 s_62 rfl rfl rfl ?_
    refine xr_iconst (v := 0) dX10_go_29 rfl ?_
    refine xr_istore_n (ls2 := [(3, .int (0)), (2, .int (r2)), (0, .ref (62)), (1, .int (nI (N)))]) dX10_go_30 (by decide) rfl ?_
    refine xb_ls (ls2 := [(3, .int (nI (0))), (2, .int (r2)), (1, .int (nI (N))), (0, .ref (62))]) [0, 1, 3, 2] rfl ?_
    refine rgo_l (by omega) h_hn (Eq.trans (x_up_k _ _ _ (by decide)) (Eq.trans (k4 62 6 (by decide)) e_hn)) (fun kw hkw => by rw [show (x_up M3 62 23 0) 63 (5 + kw) = M 63 (5 + kw) from (Eq.trans (congrFun (x_up_n _ _ _ (by omega)) _) (Eq.trans (k4 63 (5 + kw) (by unfold WR1; omega)) rfl))]; exact hw kw hkw) (by rw [show (x_up M3 62 23 0) 63 16 = M 63 16 from (Eq.trans (congrFun (x_up_n _ _ _ (by omega)) _) (Eq.trans (k4 63 16 (by unfold WR1; omega)) rfl))]; exact hbt) (by rw [show (x_up M3 62 23 0) 62 13 = M 62 13 from (Eq.trans (x_up_k _ _ _ (by omega)) (Eq.trans (k4 62 13 (by unfold WR1; omega)) rfl))]; exact htx) (fun M5 k6 => ?_) (N - 0) 0 (x_up M3 62 23 0) (by omega) Ke.rf
    refine xr_aload_n dX10_go_92 2 rfl ?_
    refine xr_dup dX10_go_93 rfl ?_
    refine xb_get (v := M5 62 24) flX10_258 dX10_go_94 s_62 rfl rfl ?_
    refine xr_aload_n dX10_go_97 2 rfl ?_
    refine xb_get (v := M5 62 23) flX10_237 dX10_go_98 s_62 rfl rfl ?_
    refine xr_iadd dX10_go_101 ?_
    refine xr_putI fpX10_258 dX10_go_102 s_62 rfl rfl rfl ?_
    refine xr_iconst (v := 0) dX10_go_105 rfl ?_
    refine xr_istore_n (ls2 := [(3, .int (0)), (2, .int (r2)), (1, .int (nI (N))), (0, .ref (62))]) dX10_go_106 (by decide) rfl ?_
    refine xb_ls (ls2 := [(3, .int (nI (0))), (2, .int (r2)), (1, .int (nI (N))), (0, .ref (62))]) [0, 1, 2, 3] rfl ?_
    refine rg2_l h_hn (Eq.trans (x_up_k _ _ _ (by decide)) (Eq.trans (k6 62 6 (by decide)) (Eq.trans (x_up_k _ _ _ (by decide)) (Eq.trans (k4 62 6 (by decide)) e_hn)))) (fun kw hkw => by rw [show (x_up M5 62 24 ((M5 62 24) + (M5 62 23))) 63 (5 + kw) = M 63 (5 + kw) from (Eq.trans (congrFun (x_up_n _ _ _ (by omega)) _) (Eq.trans (k6 63 (5 + kw) (by unfold WRG; omega)) (Eq.trans (congrFun (x_up_n _ _ _ (by omega)) _) (Eq.trans (k4 63 (5 + kw) (by unfold WR1; omega)) rfl))))]; exact hw kw hkw) (by rw [show (x_up M5 62 24 ((M5 62 24) + (M5 62 23))) 63 16 = M 63 16 from (Eq.trans (congrFun (x_up_n _ _ _ (by omega)) _) (Eq.trans (k6 63 16 (by unfold WRG; omega)) (Eq.trans (congrFun (x_up_n _ _ _ (by omega)) _) (Eq.trans (k4 63 16 (by unfold WR1; omega)) rfl))))]; exact hbt) (by rw [show (x_up M5 62 24 ((M5 62 24) + (M5 62 23))) 62 13 = M 62 13 from (Eq.trans (x_up_k _ _ _ (by omega)) (Eq.trans (k6 62 13 (by unfold WRG; omega)) (Eq.trans (x_up_k _ _ _ (by omega)) (Eq.trans (k4 62 13 (by unfold WR1; omega)) rfl))))]; exact htx) (fun M7 k8 => ?_) (hn - 0) 0 (x_up M5 62 24 ((M5 62 24) + (M5 62 23))) (by omega) Ke.rf
    refine xr_aload_n dX10_go_160 2 rfl ?_
    refine xr_callV (As := []) (rest := []) mlX10_246 (g_X10_upNow h_hn (Eq.trans (k8 62 6 (by decide)) (Eq.trans (x_up_k _ _ _ (by decide)) (Eq.trans (k6 62 6 (by decide)) (Eq.trans (x_up_k _ _ _ (by decide)) (Eq.trans (k4 62 6 (by decide)) e_hn))))) (fun kw hkw => by rw [show M7 63 (5 + kw) = M 63 (5 + kw) from (Eq.trans (k8 63 (5 + kw) (by unfold WRG; omega)) (Eq.trans (congrFun (x_up_n _ _ _ (by omega)) _) (Eq.trans (k6 63 (5 + kw) (by unfold WRG; omega)) (Eq.trans (congrFun (x_up_n _ _ _ (by omega)) _) (Eq.trans (k4 63 (5 + kw) (by unfold WR1; omega)) rfl)))))]; exact hw kw hkw) (by rw [show M7 63 16 = M 63 16 from (Eq.trans (k8 63 16 (by unfold WRG; omega)) (Eq.trans (congrFun (x_up_n _ _ _ (by omega)) _) (Eq.trans (k6 63 16 (by unfold WRG; omega)) (Eq.trans (congrFun (x_up_n _ _ _ (by omega)) _) (Eq.trans (k4 63 16 (by unfold WR1; omega)) rfl)))))]; exact hbt) (by rw [show M7 62 13 = M 62 13 from (Eq.trans (k8 62 13 (by unfold WRG; omega)) (Eq.trans (x_up_k _ _ _ (by omega)) (Eq.trans (k6 62 13 (by unfold WRG; omega)) (Eq.trans (x_up_k _ _ _ (by omega)) (Eq.trans (k4 62 13 (by unfold WR1; omega)) rfl)))))]; exact htx)) dX10_go_161 s_62 rfl rfl (Nat.le_of_ble_eq_true rfl) (by decide) ⟨by decide, by decide⟩ (fun v s2 M9 J2 hq => ?_)
    obtain ⟨r9, rfl, rfl, rfl, rfl, _⟩ := hq
    try dsimp only [Option.toList, List.cons_append, List.nil_append]
    refine xr_callS (As := [.int (r9)]) (rest := []) mlX10_261 (g_X10_bitsOf r9) dX10_go_164 rfl rfl (Nat.le_of_ble_eq_true rfl) (by decide) ⟨by decide, by decide⟩ (fun v s2 M9 J2 hq => ?_)
    obtain ⟨r10, rfl, rfl, rfl, rfl, _⟩ := hq
    try dsimp only [Option.toList, List.cons_append, List.nil_append]
    exact xr_iret dX10_go_167 rfl rfl (⟨_, rfl, rfl, rfl, (Ke.tr (fun _ _ h => h) (Ke.up (Or.inr (Or.inr (Or.inr (Or.inr (Or.inr (Or.inr (Or.inr (Or.inr (Or.inr (Or.inl (by omega))))))))))) (Ke.tr (fun _ _ h => h) (Ke.up (Or.inr (Or.inr (Or.inr (Or.inr (Or.inr (Or.inl (by omega))))))) (Ke.tr (fun pp kk => (fun hh => Or.elim hh (fun h => (Or.inl h)) (fun hh => Or.elim hh (fun h => (Or.inr (Or.inl h))) (fun hh => Or.elim hh (fun h => (Or.inr (Or.inr (Or.inl h)))) (fun hh => Or.elim hh (fun h => (Or.inr (Or.inr (Or.inr (Or.inl h))))) (fun hh => Or.elim hh (fun h => (Or.inr (Or.inr (Or.inr (Or.inr (Or.inl h)))))) (fun hh => Or.elim hh (fun h => (Or.inr (Or.inr (Or.inr (Or.inr (Or.inr (Or.inl h))))))) (fun hh => Or.elim hh (fun h => (Or.inr (Or.inr (Or.inr (Or.inr (Or.inr (Or.inr (Or.inl h)))))))) (fun h => (Or.inr (Or.inr (Or.inr (Or.inr (Or.inr (Or.inr (Or.inr (Or.inl h))))))))))))))))) Ke.rf k4)) k6)) k8), ⟨⟨hn, by omega, (Eq.trans (k8 62 6 (by decide)) (Eq.trans (x_up_k _ _ _ (by decide)) (Eq.trans (k6 62 6 (by decide)) (Eq.trans (x_up_k _ _ _ (by decide)) (Eq.trans (k4 62 6 (by decide)) e_hn))))), (fun kw hkw => by rw [show M7 63 (5 + kw) = M 63 (5 + kw) from (Eq.trans (k8 63 (5 + kw) (by unfold WRG; omega)) (Eq.trans (congrFun (x_up_n _ _ _ (by omega)) _) (Eq.trans (k6 63 (5 + kw) (by unfold WRG; omega)) (Eq.trans (congrFun (x_up_n _ _ _ (by omega)) _) (Eq.trans (k4 63 (5 + kw) (by unfold WR1; omega)) rfl)))))]; exact hw kw hkw)⟩, (by rw [show M7 63 16 = M 63 16 from (Eq.trans (k8 63 16 (by unfold WRG; omega)) (Eq.trans (congrFun (x_up_n _ _ _ (by omega)) _) (Eq.trans (k6 63 16 (by unfold WRG; omega)) (Eq.trans (congrFun (x_up_n _ _ _ (by omega)) _) (Eq.trans (k4 63 16 (by unfold WR1; omega)) rfl)))))]; exact hbt), ⟨un, wn, by omega, by omega, (Eq.trans (k8 62 5 (by decide)) (Eq.trans (x_up_k _ _ _ (by decide)) (Eq.trans (k6 62 5 (by decide)) (Eq.trans (x_up_k _ _ _ (by decide)) (Eq.trans (k4 62 5 (by decide)) e_un))))), (Eq.trans (k8 62 4 (by decide)) (Eq.trans (x_up_k _ _ _ (by decide)) (Eq.trans (k6 62 4 (by decide)) (Eq.trans (x_up_k _ _ _ (by decide)) (Eq.trans (k4 62 4 (by decide)) e_wn)))))⟩, (fun kk hkk => by rw [show M7 64 kk = M 64 kk from (Eq.trans (k8 64 kk (by unfold WRG; omega)) (Eq.trans (congrFun (x_up_n _ _ _ (by omega)) _) (Eq.trans (k6 64 kk (by unfold WRG; omega)) (Eq.trans (congrFun (x_up_n _ _ _ (by omega)) _) (Eq.trans (k4 64 kk (by unfold WR1; omega)) rfl))))), show M7 65 kk = M 65 kk from (Eq.trans (k8 65 kk (by unfold WRG; omega)) (Eq.trans (congrFun (x_up_n _ _ _ (by omega)) _) (Eq.trans (k6 65 kk (by unfold WRG; omega)) (Eq.trans (congrFun (x_up_n _ _ _ (by omega)) _) (Eq.trans (k4 65 kk (by unfold WR1; omega)) rfl))))), show M7 66 kk = M 66 kk from (Eq.trans (k8 66 kk (by unfold WRG; omega)) (Eq.trans (congrFun (x_up_n _ _ _ (by omega)) _) (Eq.trans (k6 66 kk (by unfold WRG; omega)) (Eq.trans (congrFun (x_up_n _ _ _ (by omega)) _) (Eq.trans (k4 66 kk (by unfold WR1; omega)) rfl)))))]; exact hch kk hkk), ⟨n, by omega, (Eq.trans (k8 62 11 (by decide)) (Eq.trans (x_up_k _ _ _ (by decide)) (Eq.trans (k6 62 11 (by decide)) (Eq.trans (x_up_k _ _ _ (by decide)) (Eq.trans (k4 62 11 (by decide)) e_n)))))⟩, (by rw [show M7 62 13 = M 62 13 from (Eq.trans (k8 62 13 (by unfold WRG; omega)) (Eq.trans (x_up_k _ _ _ (by omega)) (Eq.trans (k6 62 13 (by unfold WRG; omega)) (Eq.trans (x_up_k _ _ _ (by omega)) (Eq.trans (k4 62 13 (by unfold WR1; omega)) rfl)))))]; exact htx), ⟨b, by omega, (Eq.trans (k8 62 36 (by decide)) (Eq.trans (x_up_k _ _ _ (by decide)) (Eq.trans (k6 62 36 (by decide)) (Eq.trans (x_up_k _ _ _ (by decide)) (Eq.trans (k4 62 36 (by decide)) e_b)))))⟩, (fun j hj => by obtain ⟨q, hq, eq⟩ := hkd j hj; exact ⟨q, hq, (show M7 81 j = M 81 j from (Eq.trans (k8 81 j (by unfold WRG; omega)) (Eq.trans (congrFun (x_up_n _ _ _ (by omega)) _) (Eq.trans (k6 81 j (by unfold WRG; omega)) (Eq.trans (congrFun (x_up_n _ _ _ (by omega)) _) (Eq.trans (k4 81 j (by unfold WR1; omega)) rfl)))))).trans eq⟩), ⟨ra, by omega, (Eq.trans (k8 62 39 (by decide)) (Eq.trans (x_up_k _ _ _ (by decide)) (Eq.trans (k6 62 39 (by decide)) (Eq.trans (x_up_k _ _ _ (by decide)) (Eq.trans (k4 62 39 (by decide)) e_ra)))))⟩, (fun j hj => by rw [show M7 83 j = M 83 j from (Eq.trans (k8 83 j (by unfold WRG; omega)) (Eq.trans (congrFun (x_up_n _ _ _ (by omega)) _) (Eq.trans (k6 83 j (by unfold WRG; omega)) (Eq.trans (congrFun (x_up_n _ _ _ (by omega)) _) (Eq.trans (k4 83 j (by unfold WR1; omega)) rfl))))), show M7 84 j = M 84 j from (Eq.trans (k8 84 j (by unfold WRG; omega)) (Eq.trans (congrFun (x_up_n _ _ _ (by omega)) _) (Eq.trans (k6 84 j (by unfold WRG; omega)) (Eq.trans (congrFun (x_up_n _ _ _ (by omega)) _) (Eq.trans (k4 84 j (by unfold WR1; omega)) rfl)))))]; exact hsl j hj), ⟨ic, by omega, (Eq.trans (k8 62 34 (by decide)) (Eq.trans (x_up_k _ _ _ (by decide)) (Eq.trans (k6 62 34 (by decide)) (Eq.trans (x_up_k _ _ _ (by decide)) (Eq.trans (k4 62 34 (by decide)) e_ic)))))⟩, (fun j hj => by obtain ⟨q, hq, eq⟩ := hS j hj; exact ⟨q, hq, (show M7 75 j = M 75 j from (Eq.trans (k8 75 j (by unfold WRG; omega)) (Eq.trans (congrFun (x_up_n _ _ _ (by omega)) _) (Eq.trans (k6 75 j (by unfold WRG; omega)) (Eq.trans (congrFun (x_up_n _ _ _ (by omega)) _) (Eq.trans (k4 75 j (by unfold WR1; omega)) rfl)))))).trans eq⟩)⟩⟩)
  · refine xr_iconst (v := -1) dX10_go_12 rfl ?_
    exact xr_iret dX10_go_13 rfl rfl (⟨_, rfl, rfl, rfl, Ke.rf, ⟨⟨hn, by omega, e_hn, (fun kw hkw => by rw [show M 63 (5 + kw) = M 63 (5 + kw) from rfl]; exact hw kw hkw)⟩, (by rw [show M 63 16 = M 63 16 from rfl]; exact hbt), ⟨un, wn, by omega, by omega, e_un, e_wn⟩, (fun kk hkk => by rw [show M 64 kk = M 64 kk from rfl, show M 65 kk = M 65 kk from rfl, show M 66 kk = M 66 kk from rfl]; exact hch kk hkk), ⟨n, by omega, e_n⟩, (by rw [show M 62 13 = M 62 13 from rfl]; exact htx), ⟨b, by omega, e_b⟩, (fun j hj => by obtain ⟨q, hq, eq⟩ := hkd j hj; exact ⟨q, hq, (show M 81 j = M 81 j from rfl).trans eq⟩), ⟨ra, by omega, e_ra⟩, (fun j hj => by rw [show M 83 j = M 83 j from rfl, show M 84 j = M 84 j from rfl]; exact hsl j hj), ⟨ic, by omega, e_ic⟩, (fun j hj => by obtain ⟨q, hq, eq⟩ := hS j hj; exact ⟨q, hq, (show M 75 j = M 75 j from rfl).trans eq⟩)⟩⟩)
