theorem dX10_held_24 : decode cX10_held 24 = .ok (.iload 4, 2) := by decide +kernel
theorem dX10_held_26 : decode cX10_held 26 = .ok (.iconst 1, 1) := by decide +kernel
theorem dX10_held_27 : decode cX10_held 27 = .ok (.aload_n 0, 1) := by decide +kernel
theorem dX10_held_28 : decode cX10_held 28 = .ok (.getfield 109, 3) := by decide +kernel
theorem dX10_held_31 : decode cX10_held 31 = .ok (.ishl, 1) := by decide +kernel
theorem dX10_held_32 : decode cX10_held 32 = .ok (.if_icmp .ge 47, 3) := by decide +kernel
theorem dX10_held_79 : decode cX10_held 79 = .ok (.iload_n 3, 1) := by decide +kernel
theorem dX10_held_80 : decode cX10_held 80 = .ok (.ifCond .ne 8, 3) := by decide +kernel
theorem dX10_held_88 : decode cX10_held 88 = .ok (.iload_n 3, 1) := by decide +kernel
theorem dX10_held_89 : decode cX10_held 89 = .ok (.ireturn, 1) := by decide +kernel
theorem dX10_held_83 : decode cX10_held 83 = .ok (.bipush (-2), 2) := by decide +kernel
theorem dX10_held_85 : decode cX10_held 85 = .ok (.goto 4, 3) := by decide +kernel
theorem dX10_held_35 : decode cX10_held 35 = .ok (.iload 4, 2) := by decide +kernel
theorem dX10_held_37 : decode cX10_held 37 = .ok (.iload_n 2, 1) := by decide +kernel
theorem dX10_held_38 : decode cX10_held 38 = .ok (.iconst (-1), 1) := by decide +kernel
theorem dX10_held_39 : decode cX10_held 39 = .ok (.ixor, 1) := by decide +kernel
theorem dX10_held_40 : decode cX10_held 40 = .ok (.iand, 1) := by decide +kernel
theorem dX10_held_41 : decode cX10_held 41 = .ok (.ifCond .ne 30, 3) := by decide +kernel
theorem dX10_held_71 : decode cX10_held 71 = .ok (.iload_n 3, 1) := by decide +kernel
theorem dX10_held_72 : decode cX10_held 72 = .ok (.istore_n 3, 1) := by decide +kernel
theorem dX10_held_73 : decode cX10_held 73 = .ok (.iinc 4 1, 3) := by decide +kernel
theorem dX10_held_76 : decode cX10_held 76 = .ok (.goto (-52), 3) := by decide +kernel
theorem dX10_held_44 : decode cX10_held 44 = .ok (.iload 4, 2) := by decide +kernel
theorem dX10_held_46 : decode cX10_held 46 = .ok (.invokestatic 261, 3) := by decide +kernel
theorem dX10_held_49 : decode cX10_held 49 = .ok (.iload_n 3, 1) := by decide +kernel
theorem dX10_held_50 : decode cX10_held 50 = .ok (.invokestatic 261, 3) := by decide +kernel
theorem dX10_held_53 : decode cX10_held 53 = .ok (.if_icmp .le 18, 3) := by decide +kernel
theorem dX10_held_56 : decode cX10_held 56 = .ok (.aload_n 0, 1) := by decide +kernel
theorem dX10_held_57 : decode cX10_held 57 = .ok (.iload 4, 2) := by decide +kernel
theorem dX10_held_59 : decode cX10_held 59 = .ok (.invokevirtual 267, 3) := by decide +kernel
theorem dX10_held_62 : decode cX10_held 62 = .ok (.iload_n 1, 1) := by decide +kernel
theorem dX10_held_63 : decode cX10_held 63 = .ok (.if_icmp .lt 8, 3) := by decide +kernel
theorem dX10_held_66 : decode cX10_held 66 = .ok (.iload 4, 2) := by decide +kernel
theorem dX10_held_68 : decode cX10_held 68 = .ok (.goto 4, 3) := by decide +kernel
set_option maxRecDepth 100000 in
set_option maxHeartbeats 4000000 in
theorem rhd_l {nn up : Int32} {P : Nat} {l : Launch} {G : xG} {M : xM} {J : xJ} {Q : xQ} {hn : Nat} (h_hn : hn ≤ 5) (e_hn : M 62 6 = nI hn) (hw : ∀ k, k < hn → M 63 (5 + k) ≠ 0) (hbt : M 63 16 ≠ 0) (htx : M 62 13 = -1 ∨ ∃ n : Nat, n ≤ 120 ∧ M 62 13 = nI n) (hP : P = 2 ^ hn) (hP2 : P ≤ 32) (hC : ∀ (r : Int32) (M2 : xM), Ke WR1 M M2 → Q (some (.int r)) x_SH M2 J) : ∀ (m k : Nat) (be : Int32) (M1 : xM), k + m = P → Ke WR1 M M1 → x_X l G fX10_held 63 0 0 Q 24 [(4, .int (nI (k))), (3, .int (be)), (2, .int (up)), (1, .int (nn)), (0, .ref (62))] [] x_SH M1 J 0 0 := by
  intro m
  induction m with
  | zero =>
    intro k be M1 hk hM
    refine xr_iload dX10_held_24 0 rfl ?_
    refine xr_iconst (v := 1) dX10_held_26 rfl ?_
    refine xr_aload_n dX10_held_27 4 rfl ?_
    refine xb_get (v := nI (hn)) flX10_109 dX10_held_28 s_62 rfl (Eq.trans (hM 62 6 (by decide)) e_hn) ?_
    refine xr_ishl dX10_held_31 ?_
    refine xb_top (y := nI P) (sx_shl (by omega) hP) ?_
    refine xr_icmp_ge (tgt := 79) dX10_held_32 rfl (fun _ => ?_) (fun c => absurd (nI_le (a := P) (b := k) (by omega) (by omega)) c)
    refine xr_iload_n dX10_held_79 1 rfl ?_
    refine xr_if_ne (tgt := 88) dX10_held_80 rfl (fun c1 => ?_) (fun c1 => ?_)
    · refine xr_iload_n dX10_held_88 1 rfl ?_
      exact xr_iret dX10_held_89 rfl rfl (hC be _ hM)
    · refine xr_bipush (v := -2) dX10_held_83 rfl ?_
      refine xr_goto (tgt := 89) dX10_held_85 rfl ?_
      exact xr_iret dX10_held_89 rfl rfl (hC (-2) _ hM)
  | succ m ih =>
    intro k be M1 hk hM
    refine xr_iload dX10_held_24 0 rfl ?_
    refine xr_iconst (v := 1) dX10_held_26 rfl ?_
    refine xr_aload_n dX10_held_27 4 rfl ?_
    refine xb_get (v := nI (hn)) flX10_109 dX10_held_28 s_62 rfl (Eq.trans (hM 62 6 (by decide)) e_hn) ?_
    refine xr_ishl dX10_held_31 ?_
    refine xb_top (y := nI P) (sx_shl (by omega) hP) ?_
    refine xr_icmp_ge (tgt := 79) dX10_held_32 rfl (fun c => absurd c (nI_ge (a := k) (b := P) (by omega) (by omega))) (fun _ => ?_)
    refine xr_iload dX10_held_35 0 rfl ?_
    refine xr_iload_n dX10_held_37 2 rfl ?_
    refine xr_iconst (v := -1) dX10_held_38 rfl ?_
    refine xr_ixor dX10_held_39 ?_
    refine xr_iand dX10_held_40 ?_
    refine xr_if_ne (tgt := 71) dX10_held_41 rfl (fun c1 => ?_) (fun c1 => ?_)
    · refine xr_iload_n dX10_held_71 1 rfl ?_
      refine xr_istore_n (ls2 := [(3, .int (be)), (4, .int (nI (k))), (2, .int (up)), (1, .int (nn)), (0, .ref (62))]) dX10_held_72 (by decide) rfl ?_
      refine xr_iinc (v := nI (k + 1)) (ls2 := [(4, .int (nI (k + 1))), (3, .int (be)), (2, .int (up)), (1, .int (nn)), (0, .ref (62))]) dX10_held_73 1 rfl (nI_1 _) (by decide) rfl ?_
      refine xr_goto (tgt := 24) dX10_held_76 rfl ?_
      refine xb_ls (ls2 := [(4, .int (nI (k + 1))), (3, .int (be)), (2, .int (up)), (1, .int (nn)), (0, .ref (62))]) [0, 1, 2, 3, 4] rfl ?_
      exact ih (k + 1) be M1 (by omega) hM
    · refine xr_iload dX10_held_44 0 rfl ?_
      refine xr_callS (As := [.int (nI (k))]) (rest := []) mlX10_261 (g_X10_bitsOf (nI (k))) dX10_held_46 rfl rfl (Nat.le_of_ble_eq_true rfl) (by decide) ⟨by decide, by decide⟩ (fun v s2 M9 J2 hq => ?_)
      obtain ⟨r2, rfl, rfl, rfl, rfl, _⟩ := hq
      try dsimp only [Option.toList, List.cons_append, List.nil_append]
      refine xr_iload_n dX10_held_49 1 rfl ?_
      refine xr_callS (As := [.int (be)]) (rest := [.int (r2)]) mlX10_261 (g_X10_bitsOf be) dX10_held_50 rfl rfl (Nat.le_of_ble_eq_true rfl) (by decide) ⟨by decide, by decide⟩ (fun v s2 M9 J2 hq => ?_)
      obtain ⟨r3, rfl, rfl, rfl, rfl, _⟩ := hq
      try dsimp only [Option.toList, List.cons_append, List.nil_append]
      refine xr_icmp_le (tgt := 71) dX10_held_53 rfl (fun c4 => ?_) (fun c4 => ?_)
      · refine xr_iload_n dX10_held_71 1 rfl ?_
        refine xr_istore_n (ls2 := [(3, .int (be)), (4, .int (nI (k))), (2, .int (up)), (1, .int (nn)), (0, .ref (62))]) dX10_held_72 (by decide) rfl ?_
        refine xr_iinc (v := nI (k + 1)) (ls2 := [(4, .int (nI (k + 1))), (3, .int (be)), (2, .int (up)), (1, .int (nn)), (0, .ref (62))]) dX10_held_73 1 rfl (nI_1 _) (by decide) rfl ?_
        refine xr_goto (tgt := 24) dX10_held_76 rfl ?_
        refine xb_ls (ls2 := [(4, .int (nI (k + 1))), (3, .int (be)), (2, .int (up)), (1, .int (nn)), (0, .ref (62))]) [0, 1, 2, 3, 4] rfl ?_
        exact ih (k + 1) be M1 (by omega) hM
      · refine xr_aload_n dX10_held_56 4 rfl ?_
        refine xr_iload dX10_held_57 0 rfl ?_
        refine xr_callV (As := [.int (nI (k))]) (rest := []) mlX10_267 (g_X10_lastsOf (nI (k)) h_hn (Eq.trans (hM 62 6 (by decide)) e_hn) (fun kw hkw => by rw [show M1 63 (5 + kw) = M 63 (5 + kw) from (Eq.trans (hM 63 (5 + kw) (by unfold WR1; omega)) rfl)]; exact hw kw hkw) (by rw [show M1 63 16 = M 63 16 from (Eq.trans (hM 63 16 (by unfold WR1; omega)) rfl)]; exact hbt) (by rw [show M1 62 13 = M 62 13 from (Eq.trans (hM 62 13 (by unfold WR1; omega)) rfl)]; exact htx)) dX10_held_59 s_62 rfl rfl (Nat.le_of_ble_eq_true rfl) (by decide) ⟨by decide, by decide⟩ (fun v s2 M5 J2 hq => ?_)
        obtain ⟨r7, rfl, rfl, rfl, k6, _⟩ := hq
        try dsimp only [Option.toList, List.cons_append, List.nil_append]
        refine xr_iload_n dX10_held_62 3 rfl ?_
        refine xr_icmp_lt (tgt := 71) dX10_held_63 rfl (fun c8 => ?_) (fun c8 => ?_)
        · refine xr_iload_n dX10_held_71 1 rfl ?_
          refine xr_istore_n (ls2 := [(3, .int (be)), (4, .int (nI (k))), (2, .int (up)), (1, .int (nn)), (0, .ref (62))]) dX10_held_72 (by decide) rfl ?_
          refine xr_iinc (v := nI (k + 1)) (ls2 := [(4, .int (nI (k + 1))), (3, .int (be)), (2, .int (up)), (1, .int (nn)), (0, .ref (62))]) dX10_held_73 1 rfl (nI_1 _) (by decide) rfl ?_
          refine xr_goto (tgt := 24) dX10_held_76 rfl ?_
          refine xb_ls (ls2 := [(4, .int (nI (k + 1))), (3, .int (be)), (2, .int (up)), (1, .int (nn)), (0, .ref (62))]) [0, 1, 2, 3, 4] rfl ?_
          exact ih (k + 1) be M5 (by omega) (Ke.tr (fun _ _ h => h) hM k6)
        · refine xr_iload dX10_held_66 0 rfl ?_
          refine xr_goto (tgt := 72) dX10_held_68 rfl ?_
          refine xr_istore_n (ls2 := [(3, .int (nI (k))), (4, .int (nI (k))), (2, .int (up)), (1, .int (nn)), (0, .ref (62))]) dX10_held_72 (by decide) rfl ?_
          refine xr_iinc (v := nI (k + 1)) (ls2 := [(4, .int (nI (k + 1))), (3, .int (nI (k))), (2, .int (up)), (1, .int (nn)), (0, .ref (62))]) dX10_held_73 1 rfl (nI_1 _) (by decide) rfl ?_
          refine xr_goto (tgt := 24) dX10_held_76 rfl ?_
          refine xb_ls (ls2 := [(4, .int (nI (k + 1))), (3, .int (nI (k))), (2, .int (up)), (1, .int (nn)), (0, .ref (62))]) [0, 1, 2, 3, 4] rfl ?_
          exact ih (k + 1) (nI (k)) M5 (by omega) (Ke.tr (fun _ _ h => h) hM k6)
