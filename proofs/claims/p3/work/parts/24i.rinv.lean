theorem dX10_start_43 : decode cX10_start 43 = .ok (.iload 5, 2) := by decide +kernel
theorem dX10_start_45 : decode cX10_start 45 = .ok (.bipush 9, 2) := by decide +kernel
theorem dX10_start_47 : decode cX10_start 47 = .ok (.if_icmp .gt 57, 3) := by decide +kernel
theorem dX10_start_50 : decode cX10_start 50 = .ok (.aload_n 0, 1) := by decide +kernel
theorem dX10_start_51 : decode cX10_start 51 = .ok (.getfield 9, 3) := by decide +kernel
theorem dX10_start_54 : decode cX10_start 54 = .ok (.bipush 10, 2) := by decide +kernel
theorem dX10_start_56 : decode cX10_start 56 = .ok (.iload_n 1, 1) := by decide +kernel
theorem dX10_start_57 : decode cX10_start 57 = .ok (.iadd, 1) := by decide +kernel
theorem dX10_start_58 : decode cX10_start 58 = .ok (.iload 5, 2) := by decide +kernel
theorem dX10_start_60 : decode cX10_start 60 = .ok (.iastore, 1) := by decide +kernel
theorem dX10_start_61 : decode cX10_start 61 = .ok (.aload_n 0, 1) := by decide +kernel
theorem dX10_start_62 : decode cX10_start 62 = .ok (.iload_n 1, 1) := by decide +kernel
theorem dX10_start_63 : decode cX10_start 63 = .ok (.invokevirtual 264, 3) := by decide +kernel
theorem dX10_start_66 : decode cX10_start 66 = .ok (.istore 6, 2) := by decide +kernel
theorem dX10_start_68 : decode cX10_start 68 = .ok (.iload 6, 2) := by decide +kernel
theorem dX10_start_70 : decode cX10_start 70 = .ok (.iload 4, 2) := by decide +kernel
theorem dX10_start_72 : decode cX10_start 72 = .ok (.if_icmp .le 8, 3) := by decide +kernel
theorem dX10_start_80 : decode cX10_start 80 = .ok (.iload_n 3, 1) := by decide +kernel
theorem dX10_start_81 : decode cX10_start 81 = .ok (.istore_n 3, 1) := by decide +kernel
theorem dX10_start_82 : decode cX10_start 82 = .ok (.iload 6, 2) := by decide +kernel
theorem dX10_start_84 : decode cX10_start 84 = .ok (.iload 4, 2) := by decide +kernel
theorem dX10_start_86 : decode cX10_start 86 = .ok (.if_icmp .le 8, 3) := by decide +kernel
theorem dX10_start_94 : decode cX10_start 94 = .ok (.iload 4, 2) := by decide +kernel
theorem dX10_start_96 : decode cX10_start 96 = .ok (.istore 4, 2) := by decide +kernel
theorem dX10_start_98 : decode cX10_start 98 = .ok (.iinc 5 1, 3) := by decide +kernel
theorem dX10_start_101 : decode cX10_start 101 = .ok (.goto (-58), 3) := by decide +kernel
theorem dX10_start_89 : decode cX10_start 89 = .ok (.iload 6, 2) := by decide +kernel
theorem dX10_start_91 : decode cX10_start 91 = .ok (.goto 5, 3) := by decide +kernel
theorem dX10_start_75 : decode cX10_start 75 = .ok (.iload 5, 2) := by decide +kernel
theorem dX10_start_77 : decode cX10_start 77 = .ok (.goto 4, 3) := by decide +kernel
theorem pv_s1 {k : Nat} (h : k < 30) : pv k + Int32.ofInt 1 = pv (k + 1) := pv_s h
set_option maxRecDepth 100000 in
set_option maxHeartbeats 4000000 in
theorem rst_l {hd : Int32} {h : Nat} (hh : h < 5) {l : Launch} {G : xG} {M : xM} {J : xJ} {Q : xQ} {hn : Nat} (h_hn : hn ≤ 5) (e_hn : M 62 6 = nI hn) (hw : ∀ k, k < hn → M 63 (5 + k) ≠ 0) (hbt : M 63 16 ≠ 0) (htx : M 62 13 = -1 ∨ ∃ n : Nat, n ≤ 120 ∧ M 62 13 = nI n) (hC : ∀ (la : Int32) (be : Int32) (M2 : xM), Ke WRS M M2 → x_X l G fX10_start 63 0 0 Q 104 [(3, .int (be)), (2, .int (hd)), (1, .int (nI (h))), (0, .ref (62))] [] x_SH M2 J 0 0) : ∀ (m k : Nat) (la : Int32) (be : Int32) (M1 : xM), k + m = 19 → Ke WRS M M1 → x_X l G fX10_start 63 0 0 Q 43 [(5, .int (pv k)), (4, .int (la)), (3, .int (be)), (2, .int (hd)), (1, .int (nI (h))), (0, .ref (62))] [] x_SH M1 J 0 0 := by
  intro m
  induction m with
  | zero =>
    intro k la be M1 hk hM
    refine xr_iload dX10_start_43 0 rfl ?_
    refine xr_bipush (v := 9) dX10_start_45 rfl ?_
    refine xr_icmp_gt (tgt := 104) dX10_start_47 rfl (fun _ => ?_) (fun c => absurd (pv_gt (k := k) (by omega)) c)
    refine xb_ls (ls2 := [(3, .int (be)), (2, .int (hd)), (1, .int (nI (h))), (0, .ref (62))]) [2, 3, 4, 5] rfl ?_
    exact hC la be _ hM
  | succ m ih =>
    intro k la be M1 hk hM
    refine xr_iload dX10_start_43 0 rfl ?_
    refine xr_bipush (v := 9) dX10_start_45 rfl ?_
    refine xr_icmp_gt (tgt := 104) dX10_start_47 rfl (fun c => absurd c (pv_le (k := k) (by omega))) (fun _ => ?_)
    refine xr_aload_n dX10_start_50 5 rfl ?_
    refine xr_getR flX10_9 dX10_start_51 s_62 rfl ?_
    refine xr_bipush (v := 10) dX10_start_54 rfl ?_
    refine xr_iload_n dX10_start_56 4 rfl ?_
    refine xr_iadd dX10_start_57 ?_
    refine xb_top (y := nI (10 + h)) (nI_add (10) (h)) ?_
    refine xr_iload dX10_start_58 0 rfl ?_
    refine xb_iast (j := 10 + h) dX10_start_60 s_63 (by omega) (by decide) ?_
    refine xr_aload_n dX10_start_61 5 rfl ?_
    refine xr_iload_n dX10_start_62 4 rfl ?_
    refine xr_callV (As := [.int (nI (h))]) (rest := []) mlX10_264 (g_X10_fallOf (h := h) (by omega) h_hn (Eq.trans (congrFun (x_up_n _ _ _ (by decide)) _) (Eq.trans (hM 62 6 (by decide)) e_hn)) (fun kw hkw => by rw [show (x_up M1 63 (10 + h) (pv k)) 63 (5 + kw) = M 63 (5 + kw) from (Eq.trans (x_up_k _ _ _ (by omega)) (Eq.trans (hM 63 (5 + kw) (by unfold WRS; omega)) rfl))]; exact hw kw hkw) (by rw [show (x_up M1 63 (10 + h) (pv k)) 63 16 = M 63 16 from (Eq.trans (x_up_k _ _ _ (by omega)) (Eq.trans (hM 63 16 (by unfold WRS; omega)) rfl))]; exact hbt) (by rw [show (x_up M1 63 (10 + h) (pv k)) 62 13 = M 62 13 from (Eq.trans (congrFun (x_up_n _ _ _ (by omega)) _) (Eq.trans (hM 62 13 (by unfold WRS; omega)) rfl))]; exact htx)) dX10_start_63 s_62 rfl rfl (Nat.le_of_ble_eq_true rfl) (by decide) ⟨by decide, by decide⟩ (fun v s2 M1 J2 hq => ?_)
    obtain ⟨r3, rfl, rfl, rfl, k2, _⟩ := hq
    try dsimp only [Option.toList, List.cons_append, List.nil_append]
    refine xr_istore (ls2 := [(6, .int (r3)), (5, .int (pv k)), (4, .int (la)), (3, .int (be)), (2, .int (hd)), (1, .int (nI (h))), (0, .ref (62))]) dX10_start_66 (by decide) rfl ?_
    refine xr_iload dX10_start_68 0 rfl ?_
    refine xr_iload dX10_start_70 2 rfl ?_
    refine xr_icmp_le (tgt := 80) dX10_start_72 rfl (fun c4 => ?_) (fun c4 => ?_)
    · refine xr_iload_n dX10_start_80 3 rfl ?_
      refine xr_istore_n (ls2 := [(3, .int (be)), (6, .int (r3)), (5, .int (pv k)), (4, .int (la)), (2, .int (hd)), (1, .int (nI (h))), (0, .ref (62))]) dX10_start_81 (by decide) rfl ?_
      refine xr_iload dX10_start_82 1 rfl ?_
      refine xr_iload dX10_start_84 3 rfl ?_
      refine xr_icmp_le (tgt := 94) dX10_start_86 rfl (fun c5 => ?_) (fun c5 => ?_)
      · refine xr_iload dX10_start_94 3 rfl ?_
        refine xr_istore (ls2 := [(4, .int (la)), (3, .int (be)), (6, .int (r3)), (5, .int (pv k)), (2, .int (hd)), (1, .int (nI (h))), (0, .ref (62))]) dX10_start_96 (by decide) rfl ?_
        refine xr_iinc (v := pv (k + 1)) (ls2 := [(5, .int (pv (k + 1))), (4, .int (la)), (3, .int (be)), (6, .int (r3)), (2, .int (hd)), (1, .int (nI (h))), (0, .ref (62))]) dX10_start_98 3 rfl (pv_s1 (by omega)) (by decide) rfl ?_
        refine xr_goto (tgt := 43) dX10_start_101 rfl ?_
        refine xb_ls (ls2 := [(5, .int (pv (k + 1))), (4, .int (la)), (3, .int (be)), (2, .int (hd)), (1, .int (nI (h))), (0, .ref (62))]) [0, 1, 2, 4, 5, 6] rfl ?_
        exact ih (k + 1) la be M1 (by omega) (Ke.tr (fun pp kk => (fun hh => Or.elim hh (fun h => (Or.inl h)) (fun hh => Or.elim hh (fun h => (Or.inr (Or.inl h))) (fun hh => Or.elim hh (fun h => (Or.inr (Or.inr (Or.inl h)))) (fun hh => Or.elim hh (fun h => (Or.inr (Or.inr (Or.inr (Or.inl h))))) (fun hh => Or.elim hh (fun h => (Or.inr (Or.inr (Or.inr (Or.inr (Or.inl h)))))) (fun hh => Or.elim hh (fun h => (Or.inr (Or.inr (Or.inr (Or.inr (Or.inr (Or.inl h))))))) (fun hh => Or.elim hh (fun h => (Or.inr (Or.inr (Or.inr (Or.inr (Or.inr (Or.inr (Or.inl h)))))))) (fun h => (Or.inr (Or.inr (Or.inr (Or.inr (Or.inr (Or.inr (Or.inr (Or.inl h))))))))))))))))) (Ke.up (Or.inr (Or.inr (Or.inr (Or.inr (Or.inr (Or.inr (Or.inr (Or.inr (by omega))))))))) hM) k2)
      · refine xr_iload dX10_start_89 1 rfl ?_
        refine xr_goto (tgt := 96) dX10_start_91 rfl ?_
        refine xr_istore (ls2 := [(4, .int (r3)), (3, .int (be)), (6, .int (r3)), (5, .int (pv k)), (2, .int (hd)), (1, .int (nI (h))), (0, .ref (62))]) dX10_start_96 (by decide) rfl ?_
        refine xr_iinc (v := pv (k + 1)) (ls2 := [(5, .int (pv (k + 1))), (4, .int (r3)), (3, .int (be)), (6, .int (r3)), (2, .int (hd)), (1, .int (nI (h))), (0, .ref (62))]) dX10_start_98 3 rfl (pv_s1 (by omega)) (by decide) rfl ?_
        refine xr_goto (tgt := 43) dX10_start_101 rfl ?_
        refine xb_ls (ls2 := [(5, .int (pv (k + 1))), (4, .int (r3)), (3, .int (be)), (2, .int (hd)), (1, .int (nI (h))), (0, .ref (62))]) [0, 1, 2, 4, 5, 6] rfl ?_
        exact ih (k + 1) r3 be M1 (by omega) (Ke.tr (fun pp kk => (fun hh => Or.elim hh (fun h => (Or.inl h)) (fun hh => Or.elim hh (fun h => (Or.inr (Or.inl h))) (fun hh => Or.elim hh (fun h => (Or.inr (Or.inr (Or.inl h)))) (fun hh => Or.elim hh (fun h => (Or.inr (Or.inr (Or.inr (Or.inl h))))) (fun hh => Or.elim hh (fun h => (Or.inr (Or.inr (Or.inr (Or.inr (Or.inl h)))))) (fun hh => Or.elim hh (fun h => (Or.inr (Or.inr (Or.inr (Or.inr (Or.inr (Or.inl h))))))) (fun hh => Or.elim hh (fun h => (Or.inr (Or.inr (Or.inr (Or.inr (Or.inr (Or.inr (Or.inl h)))))))) (fun h => (Or.inr (Or.inr (Or.inr (Or.inr (Or.inr (Or.inr (Or.inr (Or.inl h))))))))))))))))) (Ke.up (Or.inr (Or.inr (Or.inr (Or.inr (Or.inr (Or.inr (Or.inr (Or.inr (by omega))))))))) hM) k2)
    · refine xr_iload dX10_start_75 1 rfl ?_
      refine xr_goto (tgt := 81) dX10_start_77 rfl ?_
      refine xr_istore_n (ls2 := [(3, .int (pv k)), (6, .int (r3)), (5, .int (pv k)), (4, .int (la)), (2, .int (hd)), (1, .int (nI (h))), (0, .ref (62))]) dX10_start_81 (by decide) rfl ?_
      refine xr_iload dX10_start_82 1 rfl ?_
      refine xr_iload dX10_start_84 3 rfl ?_
      refine xr_icmp_le (tgt := 94) dX10_start_86 rfl (fun c6 => ?_) (fun c6 => ?_)
      · refine xr_iload dX10_start_94 3 rfl ?_
        refine xr_istore (ls2 := [(4, .int (la)), (3, .int (pv k)), (6, .int (r3)), (5, .int (pv k)), (2, .int (hd)), (1, .int (nI (h))), (0, .ref (62))]) dX10_start_96 (by decide) rfl ?_
        refine xr_iinc (v := pv (k + 1)) (ls2 := [(5, .int (pv (k + 1))), (4, .int (la)), (3, .int (pv k)), (6, .int (r3)), (2, .int (hd)), (1, .int (nI (h))), (0, .ref (62))]) dX10_start_98 3 rfl (pv_s1 (by omega)) (by decide) rfl ?_
        refine xr_goto (tgt := 43) dX10_start_101 rfl ?_
        refine xb_ls (ls2 := [(5, .int (pv (k + 1))), (4, .int (la)), (3, .int (pv k)), (2, .int (hd)), (1, .int (nI (h))), (0, .ref (62))]) [0, 1, 2, 4, 5, 6] rfl ?_
        exact ih (k + 1) la (pv k) M1 (by omega) (Ke.tr (fun pp kk => (fun hh => Or.elim hh (fun h => (Or.inl h)) (fun hh => Or.elim hh (fun h => (Or.inr (Or.inl h))) (fun hh => Or.elim hh (fun h => (Or.inr (Or.inr (Or.inl h)))) (fun hh => Or.elim hh (fun h => (Or.inr (Or.inr (Or.inr (Or.inl h))))) (fun hh => Or.elim hh (fun h => (Or.inr (Or.inr (Or.inr (Or.inr (Or.inl h)))))) (fun hh => Or.elim hh (fun h => (Or.inr (Or.inr (Or.inr (Or.inr (Or.inr (Or.inl h))))))) (fun hh => Or.elim hh (fun h => (Or.inr (Or.inr (Or.inr (Or.inr (Or.inr (Or.inr (Or.inl h)))))))) (fun h => (Or.inr (Or.inr (Or.inr (Or.inr (Or.inr (Or.inr (Or.inr (Or.inl h))))))))))))))))) (Ke.up (Or.inr (Or.inr (Or.inr (Or.inr (Or.inr (Or.inr (Or.inr (Or.inr (by omega))))))))) hM) k2)
      · refine xr_iload dX10_start_89 1 rfl ?_
        refine xr_goto (tgt := 96) dX10_start_91 rfl ?_
        refine xr_istore (ls2 := [(4, .int (r3)), (3, .int (pv k)), (6, .int (r3)), (5, .int (pv k)), (2, .int (hd)), (1, .int (nI (h))), (0, .ref (62))]) dX10_start_96 (by decide) rfl ?_
        refine xr_iinc (v := pv (k + 1)) (ls2 := [(5, .int (pv (k + 1))), (4, .int (r3)), (3, .int (pv k)), (6, .int (r3)), (2, .int (hd)), (1, .int (nI (h))), (0, .ref (62))]) dX10_start_98 3 rfl (pv_s1 (by omega)) (by decide) rfl ?_
        refine xr_goto (tgt := 43) dX10_start_101 rfl ?_
        refine xb_ls (ls2 := [(5, .int (pv (k + 1))), (4, .int (r3)), (3, .int (pv k)), (2, .int (hd)), (1, .int (nI (h))), (0, .ref (62))]) [0, 1, 2, 4, 5, 6] rfl ?_
        exact ih (k + 1) r3 (pv k) M1 (by omega) (Ke.tr (fun pp kk => (fun hh => Or.elim hh (fun h => (Or.inl h)) (fun hh => Or.elim hh (fun h => (Or.inr (Or.inl h))) (fun hh => Or.elim hh (fun h => (Or.inr (Or.inr (Or.inl h)))) (fun hh => Or.elim hh (fun h => (Or.inr (Or.inr (Or.inr (Or.inl h))))) (fun hh => Or.elim hh (fun h => (Or.inr (Or.inr (Or.inr (Or.inr (Or.inl h)))))) (fun hh => Or.elim hh (fun h => (Or.inr (Or.inr (Or.inr (Or.inr (Or.inr (Or.inl h))))))) (fun hh => Or.elim hh (fun h => (Or.inr (Or.inr (Or.inr (Or.inr (Or.inr (Or.inr (Or.inl h)))))))) (fun h => (Or.inr (Or.inr (Or.inr (Or.inr (Or.inr (Or.inr (Or.inr (Or.inl h))))))))))))))))) (Ke.up (Or.inr (Or.inr (Or.inr (Or.inr (Or.inr (Or.inr (Or.inr (Or.inr (by omega))))))))) hM) k2)
