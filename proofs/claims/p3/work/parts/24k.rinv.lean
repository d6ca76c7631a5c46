theorem dX10_begun_69 : decode cX10_begun 69 = .ok (.iload 8, 2) := by decide +kernel
theorem dX10_begun_71 : decode cX10_begun 71 = .ok (.iload 5, 2) := by decide +kernel
theorem dX10_begun_73 : decode cX10_begun 73 = .ok (.if_icmp .gt 48, 3) := by decide +kernel
theorem dX10_begun_76 : decode cX10_begun 76 = .ok (.aload_n 0, 1) := by decide +kernel
theorem dX10_begun_77 : decode cX10_begun 77 = .ok (.getfield 9, 3) := by decide +kernel
theorem dX10_begun_80 : decode cX10_begun 80 = .ok (.bipush 10, 2) := by decide +kernel
theorem dX10_begun_82 : decode cX10_begun 82 = .ok (.iload_n 2, 1) := by decide +kernel
theorem dX10_begun_83 : decode cX10_begun 83 = .ok (.iadd, 1) := by decide +kernel
theorem dX10_begun_84 : decode cX10_begun 84 = .ok (.iload 8, 2) := by decide +kernel
theorem dX10_begun_86 : decode cX10_begun 86 = .ok (.iastore, 1) := by decide +kernel
theorem dX10_begun_87 : decode cX10_begun 87 = .ok (.aload_n 0, 1) := by decide +kernel
theorem dX10_begun_88 : decode cX10_begun 88 = .ok (.iload_n 1, 1) := by decide +kernel
theorem dX10_begun_89 : decode cX10_begun 89 = .ok (.iload_n 2, 1) := by decide +kernel
theorem dX10_begun_90 : decode cX10_begun 90 = .ok (.invokevirtual 290, 3) := by decide +kernel
theorem dX10_begun_93 : decode cX10_begun 93 = .ok (.bipush (-2), 2) := by decide +kernel
theorem dX10_begun_95 : decode cX10_begun 95 = .ok (.if_icmp .ne 20, 3) := by decide +kernel
theorem dX10_begun_115 : decode cX10_begun 115 = .ok (.iinc 8 1, 3) := by decide +kernel
theorem dX10_begun_118 : decode cX10_begun 118 = .ok (.goto (-49), 3) := by decide +kernel
theorem dX10_begun_98 : decode cX10_begun 98 = .ok (.iload 6, 2) := by decide +kernel
theorem dX10_begun_100 : decode cX10_begun 100 = .ok (.ifCond .ne 8, 3) := by decide +kernel
theorem dX10_begun_108 : decode cX10_begun 108 = .ok (.iload 7, 2) := by decide +kernel
theorem dX10_begun_110 : decode cX10_begun 110 = .ok (.istore 7, 2) := by decide +kernel
theorem dX10_begun_112 : decode cX10_begun 112 = .ok (.iinc 6 1, 3) := by decide +kernel
theorem dX10_begun_103 : decode cX10_begun 103 = .ok (.iload 8, 2) := by decide +kernel
theorem dX10_begun_105 : decode cX10_begun 105 = .ok (.goto 5, 3) := by decide +kernel
theorem dX10_go_31 : decode cX10_go 31 = .ok (.iload_n 3, 1) := by decide +kernel
theorem dX10_go_32 : decode cX10_go 32 = .ok (.iload_n 1, 1) := by decide +kernel
theorem dX10_go_33 : decode cX10_go 33 = .ok (.if_icmp .ge 59, 3) := by decide +kernel
theorem dX10_go_36 : decode cX10_go 36 = .ok (.aload_n 0, 1) := by decide +kernel
theorem dX10_go_37 : decode cX10_go 37 = .ok (.iload_n 2, 1) := by decide +kernel
theorem dX10_go_38 : decode cX10_go 38 = .ok (.invokevirtual 252, 3) := by decide +kernel
theorem dX10_go_41 : decode cX10_go 41 = .ok (.istore 4, 2) := by decide +kernel
theorem dX10_go_43 : decode cX10_go 43 = .ok (.aload_n 0, 1) := by decide +kernel
theorem dX10_go_44 : decode cX10_go 44 = .ok (.aload_n 0, 1) := by decide +kernel
theorem dX10_go_45 : decode cX10_go 45 = .ok (.getfield 151, 3) := by decide +kernel
theorem dX10_go_48 : decode cX10_go 48 = .ok (.invokevirtual 255, 3) := by decide +kernel
theorem dX10_go_51 : decode cX10_go 51 = .ok (.aload_n 0, 1) := by decide +kernel
theorem dX10_go_52 : decode cX10_go 52 = .ok (.aload_n 0, 1) := by decide +kernel
theorem dX10_go_53 : decode cX10_go 53 = .ok (.iload_n 2, 1) := by decide +kernel
theorem dX10_go_54 : decode cX10_go 54 = .ok (.invokevirtual 252, 3) := by decide +kernel
theorem dX10_go_57 : decode cX10_go 57 = .ok (.iload 4, 2) := by decide +kernel
theorem dX10_go_59 : decode cX10_go 59 = .ok (.if_icmp .le 10, 3) := by decide +kernel
theorem dX10_go_69 : decode cX10_go 69 = .ok (.aload_n 0, 1) := by decide +kernel
theorem dX10_go_70 : decode cX10_go 70 = .ok (.getfield 46, 3) := by decide +kernel
theorem dX10_go_73 : decode cX10_go 73 = .ok (.putfield 46, 3) := by decide +kernel
theorem dX10_go_76 : decode cX10_go 76 = .ok (.aload_n 0, 1) := by decide +kernel
theorem dX10_go_77 : decode cX10_go 77 = .ok (.dup, 1) := by decide +kernel
theorem dX10_go_78 : decode cX10_go 78 = .ok (.getfield 151, 3) := by decide +kernel
theorem dX10_go_81 : decode cX10_go 81 = .ok (.iconst 1, 1) := by decide +kernel
theorem dX10_go_82 : decode cX10_go 82 = .ok (.iadd, 1) := by decide +kernel
theorem dX10_go_83 : decode cX10_go 83 = .ok (.putfield 151, 3) := by decide +kernel
theorem dX10_go_86 : decode cX10_go 86 = .ok (.iinc 3 1, 3) := by decide +kernel
theorem dX10_go_89 : decode cX10_go 89 = .ok (.goto (-58), 3) := by decide +kernel
theorem dX10_go_62 : decode cX10_go 62 = .ok (.aload_n 0, 1) := by decide +kernel
theorem dX10_go_63 : decode cX10_go 63 = .ok (.getfield 151, 3) := by decide +kernel
theorem dX10_go_66 : decode cX10_go 66 = .ok (.goto 7, 3) := by decide +kernel
set_option maxRecDepth 100000 in
set_option maxHeartbeats 4000000 in
theorem rbg_l {hpc w : Int32} {h d nm : Nat} (hh : h < 5) (hd : d < 6) (hnm : nm ≤ 60) (e_nm0 : nm ≤ 60) {l : Launch} {G : xG} {M : xM} {J : xJ} {Q : xQ} {hn : Nat} (h_hn : hn ≤ 5) (e_hn : M 62 6 = nI hn) (hw : ∀ k, k < hn → M 63 (5 + k) ≠ 0) (hbt : M 63 16 ≠ 0) (htx : M 62 13 = -1 ∨ ∃ n : Nat, n ≤ 120 ∧ M 62 13 = nI n) (e_nm : M 84 d = nI nm) (hC : ∀ (fi : Int32) (ft : Int32) (M2 : xM), Ke WRS M M2 → x_X l G fX10_begun 63 0 0 Q 121 [(7, .int (fi)), (6, .int (ft)), (4, .int (hpc)), (3, .int (w)), (2, .int (nI (h))), (0, .ref (62))] [] x_SH M2 J 0 0) : ∀ (m k : Nat) (fi : Int32) (ft : Int32) (M1 : xM), k + m = 19 → Ke WRS M M1 → x_X l G fX10_begun 63 0 0 Q 69 [(8, .int (pv k)), (7, .int (fi)), (6, .int (ft)), (5, .int (9)), (4, .int (hpc)), (3, .int (w)), (2, .int (nI (h))), (1, .int (nI (d))), (0, .ref (62))] [] x_SH M1 J 0 0 := by
  intro m
  induction m with
  | zero =>
    intro k fi ft M1 hk hM
    refine xr_iload dX10_begun_69 0 rfl ?_
    refine xr_iload dX10_begun_71 3 rfl ?_
    refine xr_icmp_gt (tgt := 121) dX10_begun_73 rfl (fun _ => ?_) (fun c => absurd (pv_gt (k := k) (by omega)) c)
    refine xb_ls (ls2 := [(7, .int (fi)), (6, .int (ft)), (4, .int (hpc)), (3, .int (w)), (2, .int (nI (h))), (0, .ref (62))]) [1, 2, 4, 5, 6, 8] rfl ?_
    exact hC fi ft _ hM
  | succ m ih =>
    intro k fi ft M1 hk hM
    refine xr_iload dX10_begun_69 0 rfl ?_
    refine xr_iload dX10_begun_71 3 rfl ?_
    refine xr_icmp_gt (tgt := 121) dX10_begun_73 rfl (fun c => absurd c (pv_le (k := k) (by omega))) (fun _ => ?_)
    refine xr_aload_n dX10_begun_76 8 rfl ?_
    refine xr_getR flX10_9 dX10_begun_77 s_62 rfl ?_
    refine xr_bipush (v := 10) dX10_begun_80 rfl ?_
    refine xr_iload_n dX10_begun_82 6 rfl ?_
    refine xr_iadd dX10_begun_83 ?_
    refine xb_top (y := nI (10 + h)) (nI_add (10) (h)) ?_
    refine xr_iload dX10_begun_84 0 rfl ?_
    refine xb_iast (j := 10 + h) dX10_begun_86 s_63 (by omega) (by decide) ?_
    refine xr_aload_n dX10_begun_87 8 rfl ?_
    refine xr_iload_n dX10_begun_88 7 rfl ?_
    refine xr_iload_n dX10_begun_89 6 rfl ?_
    refine xr_callV (As := [.int (nI (d)), .int (nI (h))]) (rest := []) mlX10_290 (g_X10_firstFalse (h := h) (d := d) (nm := nm) (by omega) (by omega) (by omega) h_hn (Eq.trans (congrFun (x_up_n _ _ _ (by decide)) _) (Eq.trans (hM 62 6 (by decide)) e_hn)) (fun kw hkw => by rw [show (x_up M1 63 (10 + h) (pv k)) 63 (5 + kw) = M 63 (5 + kw) from (Eq.trans (x_up_k _ _ _ (by omega)) (Eq.trans (hM 63 (5 + kw) (by unfold WRS; omega)) rfl))]; exact hw kw hkw) (by rw [show (x_up M1 63 (10 + h) (pv k)) 63 16 = M 63 16 from (Eq.trans (x_up_k _ _ _ (by omega)) (Eq.trans (hM 63 16 (by unfold WRS; omega)) rfl))]; exact hbt) (by rw [show (x_up M1 63 (10 + h) (pv k)) 62 13 = M 62 13 from (Eq.trans (congrFun (x_up_n _ _ _ (by omega)) _) (Eq.trans (hM 62 13 (by unfold WRS; omega)) rfl))]; exact htx) (Eq.trans (congrFun (x_up_n _ _ _ (by decide)) _) (Eq.trans (hM 84 d (by unfold WRS; omega)) e_nm))) dX10_begun_90 s_62 rfl rfl (Nat.le_of_ble_eq_true rfl) (by decide) ⟨by decide, by decide⟩ (fun v s2 M1 J2 hq => ?_)
    obtain ⟨r3, rfl, rfl, rfl, k2, _⟩ := hq
    try dsimp only [Option.toList, List.cons_append, List.nil_append]
    refine xr_bipush (v := -2) dX10_begun_93 rfl ?_
    refine xr_icmp_ne (tgt := 115) dX10_begun_95 rfl (fun c4 => ?_) (fun c4 => ?_)
    · refine xr_iinc (v := pv (k + 1)) (ls2 := [(8, .int (pv (k + 1))), (7, .int (fi)), (6, .int (ft)), (5, .int (9)), (4, .int (hpc)), (3, .int (w)), (2, .int (nI (h))), (1, .int (nI (d))), (0, .ref (62))]) dX10_begun_115 0 rfl (pv_s1 (by omega)) (by decide) rfl ?_
      refine xr_goto (tgt := 69) dX10_begun_118 rfl ?_
      refine xb_ls (ls2 := [(8, .int (pv (k + 1))), (7, .int (fi)), (6, .int (ft)), (5, .int (9)), (4, .int (hpc)), (3, .int (w)), (2, .int (nI (h))), (1, .int (nI (d))), (0, .ref (62))]) [0, 1, 2, 3, 4, 5, 6, 7, 8] rfl ?_
      exact ih (k + 1) fi ft M1 (by omega) (Ke.tr (fun pp kk => (fun hh => Or.elim hh (fun h => (Or.inl h)) (fun hh => Or.elim hh (fun h => (Or.inr (Or.inl h))) (fun hh => Or.elim hh (fun h => (Or.inr (Or.inr (Or.inl h)))) (fun hh => Or.elim hh (fun h => (Or.inr (Or.inr (Or.inr (Or.inl h))))) (fun hh => Or.elim hh (fun h => (Or.inr (Or.inr (Or.inr (Or.inr (Or.inl h)))))) (fun hh => Or.elim hh (fun h => (Or.inr (Or.inr (Or.inr (Or.inr (Or.inr (Or.inl h))))))) (fun hh => Or.elim hh (fun h => (Or.inr (Or.inr (Or.inr (Or.inr (Or.inr (Or.inr (Or.inl h)))))))) (fun h => (Or.inr (Or.inr (Or.inr (Or.inr (Or.inr (Or.inr (Or.inr (Or.inl h))))))))))))))))) (Ke.up (Or.inr (Or.inr (Or.inr (Or.inr (Or.inr (Or.inr (Or.inr (Or.inr (by omega))))))))) hM) k2)
    · refine xr_iload dX10_begun_98 2 rfl ?_
      refine xr_if_ne (tgt := 108) dX10_begun_100 rfl (fun c5 => ?_) (fun c5 => ?_)
      · refine xr_iload dX10_begun_108 1 rfl ?_
        refine xr_istore (ls2 := [(7, .int (fi)), (8, .int (pv k)), (6, .int (ft)), (5, .int (9)), (4, .int (hpc)), (3, .int (w)), (2, .int (nI (h))), (1, .int (nI (d))), (0, .ref (62))]) dX10_begun_110 (by decide) rfl ?_
        refine xr_iinc (v := ft + 1) (ls2 := [(6, .int (ft + 1)), (7, .int (fi)), (8, .int (pv k)), (5, .int (9)), (4, .int (hpc)), (3, .int (w)), (2, .int (nI (h))), (1, .int (nI (d))), (0, .ref (62))]) dX10_begun_112 2 rfl rfl (by decide) rfl ?_
        refine xr_iinc (v := pv (k + 1)) (ls2 := [(8, .int (pv (k + 1))), (6, .int (ft + 1)), (7, .int (fi)), (5, .int (9)), (4, .int (hpc)), (3, .int (w)), (2, .int (nI (h))), (1, .int (nI (d))), (0, .ref (62))]) dX10_begun_115 2 rfl (pv_s1 (by omega)) (by decide) rfl ?_
        refine xr_goto (tgt := 69) dX10_begun_118 rfl ?_
        refine xb_ls (ls2 := [(8, .int (pv (k + 1))), (7, .int (fi)), (6, .int (ft + 1)), (5, .int (9)), (4, .int (hpc)), (3, .int (w)), (2, .int (nI (h))), (1, .int (nI (d))), (0, .ref (62))]) [0, 2, 1, 3, 4, 5, 6, 7, 8] rfl ?_
        exact ih (k + 1) fi (ft + 1) M1 (by omega) (Ke.tr (fun pp kk => (fun hh => Or.elim hh (fun h => (Or.inl h)) (fun hh => Or.elim hh (fun h => (Or.inr (Or.inl h))) (fun hh => Or.elim hh (fun h => (Or.inr (Or.inr (Or.inl h)))) (fun hh => Or.elim hh (fun h => (Or.inr (Or.inr (Or.inr (Or.inl h))))) (fun hh => Or.elim hh (fun h => (Or.inr (Or.inr (Or.inr (Or.inr (Or.inl h)))))) (fun hh => Or.elim hh (fun h => (Or.inr (Or.inr (Or.inr (Or.inr (Or.inr (Or.inl h))))))) (fun hh => Or.elim hh (fun h => (Or.inr (Or.inr (Or.inr (Or.inr (Or.inr (Or.inr (Or.inl h)))))))) (fun h => (Or.inr (Or.inr (Or.inr (Or.inr (Or.inr (Or.inr (Or.inr (Or.inl h))))))))))))))))) (Ke.up (Or.inr (Or.inr (Or.inr (Or.inr (Or.inr (Or.inr (Or.inr (Or.inr (by omega))))))))) hM) k2)
      · refine xr_iload dX10_begun_103 0 rfl ?_
        refine xr_goto (tgt := 110) dX10_begun_105 rfl ?_
        refine xr_istore (ls2 := [(7, .int (pv k)), (8, .int (pv k)), (6, .int (ft)), (5, .int (9)), (4, .int (hpc)), (3, .int (w)), (2, .int (nI (h))), (1, .int (nI (d))), (0, .ref (62))]) dX10_begun_110 (by decide) rfl ?_
        refine xr_iinc (v := ft + 1) (ls2 := [(6, .int (ft + 1)), (7, .int (pv k)), (8, .int (pv k)), (5, .int (9)), (4, .int (hpc)), (3, .int (w)), (2, .int (nI (h))), (1, .int (nI (d))), (0, .ref (62))]) dX10_begun_112 2 rfl rfl (by decide) rfl ?_
        refine xr_iinc (v := pv (k + 1)) (ls2 := [(8, .int (pv (k + 1))), (6, .int (ft + 1)), (7, .int (pv k)), (5, .int (9)), (4, .int (hpc)), (3, .int (w)), (2, .int (nI (h))), (1, .int (nI (d))), (0, .ref (62))]) dX10_begun_115 2 rfl (pv_s1 (by omega)) (by decide) rfl ?_
        refine xr_goto (tgt := 69) dX10_begun_118 rfl ?_
        refine xb_ls (ls2 := [(8, .int (pv (k + 1))), (7, .int (pv k)), (6, .int (ft + 1)), (5, .int (9)), (4, .int (hpc)), (3, .int (w)), (2, .int (nI (h))), (1, .int (nI (d))), (0, .ref (62))]) [0, 2, 1, 3, 4, 5, 6, 7, 8] rfl ?_
        exact ih (k + 1) (pv k) (ft + 1) M1 (by omega) (Ke.tr (fun pp kk => (fun hh => Or.elim hh (fun h => (Or.inl h)) (fun hh => Or.elim hh (fun h => (Or.inr (Or.inl h))) (fun hh => Or.elim hh (fun h => (Or.inr (Or.inr (Or.inl h)))) (fun hh => Or.elim hh (fun h => (Or.inr (Or.inr (Or.inr (Or.inl h))))) (fun hh => Or.elim hh (fun h => (Or.inr (Or.inr (Or.inr (Or.inr (Or.inl h)))))) (fun hh => Or.elim hh (fun h => (Or.inr (Or.inr (Or.inr (Or.inr (Or.inr (Or.inl h))))))) (fun hh => Or.elim hh (fun h => (Or.inr (Or.inr (Or.inr (Or.inr (Or.inr (Or.inr (Or.inl h)))))))) (fun h => (Or.inr (Or.inr (Or.inr (Or.inr (Or.inr (Or.inr (Or.inr (Or.inl h))))))))))))))))) (Ke.up (Or.inr (Or.inr (Or.inr (Or.inr (Or.inr (Or.inr (Or.inr (Or.inr (by omega))))))))) hM) k2)
abbrev WRG (p k : Nat) : Prop := (p = 62 ∧ k = 14) ∨ (p = 62 ∧ k = 15) ∨ (p = 62 ∧ k = 16) ∨ (p = 62 ∧ k = 17) ∨ (p = 62 ∧ k = 18) ∨ (p = 62 ∧ k = 23) ∨ (p = 62 ∧ k = 26) ∨ (71 ≤ p ∧ p ≤ 74) ∨ (p = 62 ∧ k = 9) ∨ (p = 62 ∧ k = 24) ∨ (p = 62 ∧ k = 25) ∨ (67 ≤ p ∧ p ≤ 68) ∨ (p = 63 ∧ 10 ≤ k ∧ k ≤ 14)