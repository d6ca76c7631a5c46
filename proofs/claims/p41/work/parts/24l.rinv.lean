theorem dX10_go_107 : decode cX10_go 107 = .ok (.iload_n 3, 1) := by decide +kernel
theorem dX10_go_108 : decode cX10_go 108 = .ok (.aload_n 0, 1) := by decide +kernel
theorem dX10_go_109 : decode cX10_go 109 = .ok (.getfield 109, 3) := by decide +kernel
theorem dX10_go_112 : decode cX10_go 112 = .ok (.if_icmp .ge 48, 3) := by decide +kernel
theorem dX10_go_115 : decode cX10_go 115 = .ok (.aload_n 0, 1) := by decide +kernel
theorem dX10_go_116 : decode cX10_go 116 = .ok (.getfield 22, 3) := by decide +kernel
theorem dX10_go_119 : decode cX10_go 119 = .ok (.iload_n 3, 1) := by decide +kernel
theorem dX10_go_120 : decode cX10_go 120 = .ok (.aload_n 0, 1) := by decide +kernel
theorem dX10_go_121 : decode cX10_go 121 = .ok (.getfield 37, 3) := by decide +kernel
theorem dX10_go_124 : decode cX10_go 124 = .ok (.iload_n 3, 1) := by decide +kernel
theorem dX10_go_125 : decode cX10_go 125 = .ok (.iaload, 1) := by decide +kernel
theorem dX10_go_126 : decode cX10_go 126 = .ok (.iastore, 1) := by decide +kernel
theorem dX10_go_127 : decode cX10_go 127 = .ok (.aload_n 0, 1) := by decide +kernel
theorem dX10_go_128 : decode cX10_go 128 = .ok (.getfield 9, 3) := by decide +kernel
theorem dX10_go_131 : decode cX10_go 131 = .ok (.bipush 10, 2) := by decide +kernel
theorem dX10_go_133 : decode cX10_go 133 = .ok (.iload_n 3, 1) := by decide +kernel
theorem dX10_go_134 : decode cX10_go 134 = .ok (.iadd, 1) := by decide +kernel
theorem dX10_go_135 : decode cX10_go 135 = .ok (.aload_n 0, 1) := by decide +kernel
theorem dX10_go_136 : decode cX10_go 136 = .ok (.getfield 40, 3) := by decide +kernel
theorem dX10_go_139 : decode cX10_go 139 = .ok (.iload_n 3, 1) := by decide +kernel
theorem dX10_go_140 : decode cX10_go 140 = .ok (.iaload, 1) := by decide +kernel
theorem dX10_go_141 : decode cX10_go 141 = .ok (.iastore, 1) := by decide +kernel
theorem dX10_go_142 : decode cX10_go 142 = .ok (.aload_n 0, 1) := by decide +kernel
theorem dX10_go_143 : decode cX10_go 143 = .ok (.getfield 25, 3) := by decide +kernel
theorem dX10_go_146 : decode cX10_go 146 = .ok (.iload_n 3, 1) := by decide +kernel
theorem dX10_go_147 : decode cX10_go 147 = .ok (.aload_n 0, 1) := by decide +kernel
theorem dX10_go_148 : decode cX10_go 148 = .ok (.getfield 43, 3) := by decide +kernel
theorem dX10_go_151 : decode cX10_go 151 = .ok (.iload_n 3, 1) := by decide +kernel
theorem dX10_go_152 : decode cX10_go 152 = .ok (.iaload, 1) := by decide +kernel
theorem dX10_go_153 : decode cX10_go 153 = .ok (.iastore, 1) := by decide +kernel
theorem dX10_go_154 : decode cX10_go 154 = .ok (.iinc 3 1, 3) := by decide +kernel
theorem dX10_go_157 : decode cX10_go 157 = .ok (.goto (-50), 3) := by decide +kernel
set_option maxRecDepth 100000 in
set_option maxHeartbeats 4000000 in
theorem rg2_l {up : Int32} {N : Nat} {l : Launch} {G : xG} {M : xM} {J : xJ} {Q : xQ} {hn : Nat} (h_hn : hn ≤ 5) (e_hn : M 62 6 = nI hn) (hw : ∀ k, k < hn → M 63 (5 + k) ≠ 0) (hbt : M 63 16 ≠ 0) (htx : M 62 13 = -1 ∨ ∃ n : Nat, n ≤ 120 ∧ M 62 13 = nI n) (hC : ∀ (M2 : xM), Ke WRG M M2 → x_X l G fX10_go 62 0 0 Q 160 [(2, .int (up)), (1, .int (nI (N))), (0, .ref (62))] [] x_SH M2 J 0 0) : ∀ (m k : Nat) (M1 : xM), k + m = hn → Ke WRG M M1 → x_X l G fX10_go 62 0 0 Q 107 [(3, .int (nI (k))), (2, .int (up)), (1, .int (nI (N))), (0, .ref (62))] [] x_SH M1 J 0 0 := by
  intro m
  induction m with
  | zero =>
    intro k M1 hk hM
    refine xr_iload_n dX10_go_107 0 rfl ?_
    refine xr_aload_n dX10_go_108 3 rfl ?_
    refine xb_get (v := nI (hn)) flX10_109 dX10_go_109 s_62 rfl (Eq.trans (hM 62 6 (by decide)) e_hn) ?_
    refine xr_icmp_ge (tgt := 160) dX10_go_112 rfl (fun _ => ?_) (fun c => absurd (nI_le (a := hn) (b := k) (by omega) (by omega)) c)
    refine xb_ls (ls2 := [(2, .int (up)), (1, .int (nI (N))), (0, .ref (62))]) [1, 2, 3] rfl ?_
    exact hC _ hM
  | succ m ih =>
    intro k M1 hk hM
    have hkN : k < hn := by omega
    refine xr_iload_n dX10_go_107 0 rfl ?_
    refine xr_aload_n dX10_go_108 3 rfl ?_
    refine xb_get (v := nI (hn)) flX10_109 dX10_go_109 s_62 rfl (Eq.trans (hM 62 6 (by decide)) e_hn) ?_
    refine xr_icmp_ge (tgt := 160) dX10_go_112 rfl (fun c => absurd c (nI_ge (a := k) (b := hn) (by omega) (by omega))) (fun _ => ?_)
    refine xr_aload_n dX10_go_115 3 rfl ?_
    refine xr_getR flX10_22 dX10_go_116 s_62 rfl ?_
    refine xr_iload_n dX10_go_119 0 rfl ?_
    refine xr_aload_n dX10_go_120 3 rfl ?_
    refine xr_getR flX10_37 dX10_go_121 s_62 rfl ?_
    refine xr_iload_n dX10_go_124 0 rfl ?_
    refine xb_iald (j := k) (v := M1 72 k) dX10_go_125 s_72 (by omega) (by decide) rfl ?_
    refine xb_iast (j := k) dX10_go_126 s_67 (by omega) (by decide) ?_
    refine xr_aload_n dX10_go_127 3 rfl ?_
    refine xr_getR flX10_9 dX10_go_128 s_62 rfl ?_
    refine xr_bipush (v := 10) dX10_go_131 rfl ?_
    refine xr_iload_n dX10_go_133 0 rfl ?_
    refine xr_iadd dX10_go_134 ?_
    refine xb_top (y := nI (10 + k)) (nI_add (10) (k)) ?_
    refine xr_aload_n dX10_go_135 3 rfl ?_
    refine xr_getR flX10_40 dX10_go_136 s_62 rfl ?_
    refine xr_iload_n dX10_go_139 0 rfl ?_
    refine xb_iald (j := k) (v := (x_up M1 67 k (M1 72 k)) 73 k) dX10_go_140 s_73 (by omega) (by decide) rfl ?_
    refine xb_iast (j := 10 + k) dX10_go_141 s_63 (by omega) (by decide) ?_
    refine xr_aload_n dX10_go_142 3 rfl ?_
    refine xr_getR flX10_25 dX10_go_143 s_62 rfl ?_
    refine xr_iload_n dX10_go_146 0 rfl ?_
    refine xr_aload_n dX10_go_147 3 rfl ?_
    refine xr_getR flX10_43 dX10_go_148 s_62 rfl ?_
    refine xr_iload_n dX10_go_151 0 rfl ?_
    refine xb_iald (j := k) (v := (x_up (x_up M1 67 k (M1 72 k)) 63 (10 + k) ((x_up M1 67 k (M1 72 k)) 73 k)) 74 k) dX10_go_152 s_74 (by omega) (by decide) rfl ?_
    refine xb_iast (j := k) dX10_go_153 s_68 (by omega) (by decide) ?_
    refine xr_iinc (v := nI (k + 1)) (ls2 := [(3, .int (nI (k + 1))), (2, .int (up)), (1, .int (nI (N))), (0, .ref (62))]) dX10_go_154 0 rfl (nI_1 _) (by decide) rfl ?_
    refine xr_goto (tgt := 107) dX10_go_157 rfl ?_
    refine xb_ls (ls2 := [(3, .int (nI (k + 1))), (2, .int (up)), (1, .int (nI (N))), (0, .ref (62))]) [0, 1, 2, 3] rfl ?_
    exact ih (k + 1) (x_up (x_up (x_up M1 67 k (M1 72 k)) 63 (10 + k) ((x_up M1 67 k (M1 72 k)) 73 k)) 68 k ((x_up (x_up M1 67 k (M1 72 k)) 63 (10 + k) ((x_up M1 67 k (M1 72 k)) 73 k)) 74 k)) (by omega) (Ke.up (Or.inr (Or.inr (Or.inr (Or.inr (Or.inr (Or.inr (Or.inr (Or.inr (Or.inr (Or.inr (Or.inr (Or.inl (by omega))))))))))))) (Ke.up (Or.inr (Or.inr (Or.inr (Or.inr (Or.inr (Or.inr (Or.inr (Or.inr (Or.inr (Or.inr (Or.inr (Or.inr (by omega))))))))))))) (Ke.up (Or.inr (Or.inr (Or.inr (Or.inr (Or.inr (Or.inr (Or.inr (Or.inr (Or.inr (Or.inr (Or.inr (Or.inl (by omega))))))))))))) hM)))
