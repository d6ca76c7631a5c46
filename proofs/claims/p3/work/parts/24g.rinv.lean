theorem dX10_beatFor_37 : decode cX10_beatFor 37 = .ok (.iload 6, 2) := by decide +kernel
theorem dX10_beatFor_39 : decode cX10_beatFor 39 = .ok (.bipush 24, 2) := by decide +kernel
theorem dX10_beatFor_41 : decode cX10_beatFor 41 = .ok (.if_icmp .gt 87, 3) := by decide +kernel
theorem dX10_beatFor_44 : decode cX10_beatFor 44 = .ok (.iconst 0, 1) := by decide +kernel
theorem dX10_beatFor_45 : decode cX10_beatFor 45 = .ok (.istore 7, 2) := by decide +kernel
theorem dX10_beatFor_122 : decode cX10_beatFor 122 = .ok (.iinc 6 1, 3) := by decide +kernel
theorem dX10_beatFor_125 : decode cX10_beatFor 125 = .ok (.goto (-88), 3) := by decide +kernel
theorem dX10_leastPush_28 : decode cX10_leastPush 28 = .ok (.iload 4, 2) := by decide +kernel
theorem dX10_leastPush_30 : decode cX10_leastPush 30 = .ok (.ifCond .lt 33, 3) := by decide +kernel
theorem dX10_leastPush_33 : decode cX10_leastPush 33 = .ok (.aload_n 0, 1) := by decide +kernel
theorem dX10_leastPush_34 : decode cX10_leastPush 34 = .ok (.getfield 9, 3) := by decide +kernel
theorem dX10_leastPush_37 : decode cX10_leastPush 37 = .ok (.bipush 18, 2) := by decide +kernel
theorem dX10_leastPush_39 : decode cX10_leastPush 39 = .ok (.iload 4, 2) := by decide +kernel
theorem dX10_leastPush_41 : decode cX10_leastPush 41 = .ok (.iastore, 1) := by decide +kernel
theorem dX10_leastPush_42 : decode cX10_leastPush 42 = .ok (.aload_n 0, 1) := by decide +kernel
theorem dX10_leastPush_43 : decode cX10_leastPush 43 = .ok (.invokevirtual 270, 3) := by decide +kernel
theorem dX10_leastPush_46 : decode cX10_leastPush 46 = .ok (.iload_n 1, 1) := by decide +kernel
theorem dX10_leastPush_47 : decode cX10_leastPush 47 = .ok (.if_icmp .lt 8, 3) := by decide +kernel
theorem dX10_leastPush_55 : decode cX10_leastPush 55 = .ok (.iload_n 3, 1) := by decide +kernel
theorem dX10_leastPush_56 : decode cX10_leastPush 56 = .ok (.istore_n 3, 1) := by decide +kernel
theorem dX10_leastPush_57 : decode cX10_leastPush 57 = .ok (.iinc 4 (-1), 3) := by decide +kernel
theorem dX10_leastPush_60 : decode cX10_leastPush 60 = .ok (.goto (-32), 3) := by decide +kernel
theorem dX10_leastPush_50 : decode cX10_leastPush 50 = .ok (.iload 4, 2) := by decide +kernel
theorem dX10_leastPush_52 : decode cX10_leastPush 52 = .ok (.goto 4, 3) := by decide +kernel
set_option maxRecDepth 100000 in
set_option maxHeartbeats 4000000 in
theorem rbo_l {h3 h2 w : Int32} {l : Launch} {G : xG} {M : xM} {J : xJ} {Q : xQ} {hn : Nat} (h_hn : hn ≤ 5) (e_hn : M 62 6 = nI hn) (hw : ∀ k, k < hn → M 63 (5 + k) ≠ 0) (hbt : M 63 16 ≠ 0) (htx : M 62 13 = -1 ∨ ∃ n : Nat, n ≤ 120 ∧ M 62 13 = nI n) (hC : ∀ (mo : Int32) (be : Int32) (M2 : xM), Ke WRB M M2 → (2 ≤ 25 ∧ M2 63 16 ≠ 0) → x_X l G fX10_beatFor 64 0 0 Q 128 [(5, .int (mo)), (4, .int (be)), (3, .int (h3)), (2, .int (h2)), (1, .int (w)), (0, .ref (62))] [] x_SH M2 J 0 0) : ∀ (m k : Nat) (mo : Int32) (be : Int32) (M1 : xM), k + m = 25 → Ke WRB M M1 → (2 ≤ k ∧ M1 63 16 ≠ 0) → x_X l G fX10_beatFor 64 0 0 Q 37 [(6, .int (nI (k))), (5, .int (mo)), (4, .int (be)), (3, .int (h3)), (2, .int (h2)), (1, .int (w)), (0, .ref (62))] [] x_SH M1 J 0 0 := by
  intro m
  induction m with
  | zero =>
    intro k mo be M1 hk hM hI
    refine xr_iload dX10_beatFor_37 0 rfl ?_
    refine xr_bipush (v := 24) dX10_beatFor_39 rfl ?_
    refine xr_icmp_gt (tgt := 128) dX10_beatFor_41 rfl (fun _ => ?_) (fun c => absurd (nI_lt (a := 24) (b := k) (by omega) (by omega)) c)
    refine xb_ls (ls2 := [(5, .int (mo)), (4, .int (be)), (3, .int (h3)), (2, .int (h2)), (1, .int (w)), (0, .ref (62))]) [1, 2, 3, 4, 5, 6] rfl ?_
    exact hC mo be _ hM (by rw [← (show k = 25 by omega)]; exact hI)
  | succ m ih =>
    intro k mo be M1 hk hM hI
    have hkN : k < 25 := by omega
    refine xr_iload dX10_beatFor_37 0 rfl ?_
    refine xr_bipush (v := 24) dX10_beatFor_39 rfl ?_
    refine xr_icmp_gt (tgt := 128) dX10_beatFor_41 rfl (fun c => absurd c (nI_nlt (a := 24) (b := k) (by omega) (by omega))) (fun _ => ?_)
    refine xr_iconst (v := 0) dX10_beatFor_44 rfl ?_
    refine xr_istore (ls2 := [(7, .int (0)), (6, .int (nI (k))), (5, .int (mo)), (4, .int (be)), (3, .int (h3)), (2, .int (h2)), (1, .int (w)), (0, .ref (62))]) dX10_beatFor_45 (by decide) rfl ?_
    refine xb_ls (ls2 := [(7, .int (nI (0))), (6, .int (nI (k))), (5, .int (mo)), (4, .int (be)), (3, .int (h3)), (2, .int (h2)), (1, .int (w)), (0, .ref (62))]) [0, 1, 2, 3, 4, 5, 6, 7] rfl ?_
    refine rbi_l (by omega) (by omega) h_hn (Eq.trans (hM 62 6 (by decide)) e_hn) (fun kw hkw => by rw [show M1 63 (5 + kw) = M 63 (5 + kw) from (Eq.trans (hM 63 (5 + kw) (by unfold WRB; omega)) rfl)]; exact hw kw hkw) hI.2 (by rw [show M1 62 13 = M 62 13 from (Eq.trans (hM 62 13 (by unfold WRB; omega)) rfl)]; exact htx) (fun q1 q2 M3 k4 hE => ?_) (k - 0) 0 mo be M1 (by omega) Ke.rf hI.2
    refine xr_iinc (v := nI (k + 1)) (ls2 := [(6, .int (nI (k + 1))), (5, .int (q1)), (4, .int (q2)), (3, .int (h3)), (2, .int (h2)), (1, .int (w)), (0, .ref (62))]) dX10_beatFor_122 0 rfl (nI_1 _) (by decide) rfl ?_
    refine xr_goto (tgt := 37) dX10_beatFor_125 rfl ?_
    refine xb_ls (ls2 := [(6, .int (nI (k + 1))), (5, .int (q1)), (4, .int (q2)), (3, .int (h3)), (2, .int (h2)), (1, .int (w)), (0, .ref (62))]) [0, 1, 2, 3, 4, 5, 6] rfl ?_
    exact ih (k + 1) q1 q2 M3 (by omega) (Ke.tr (fun _ _ h => h) hM k4) ⟨by omega, hE⟩
def qv (k : Nat) : Int32 := 5 - nI k
theorem qv_s {k : Nat} (h : k < 10) : qv k + Int32.ofInt (-1) = qv (k + 1) := (show ∀ k, k < 10 → qv k + Int32.ofInt (-1) = qv (k + 1) by decide +kernel) k h
theorem qv_lt {k : Nat} (h : k = 6) : qv k < 0 := by subst h; decide
theorem qv_ge {k : Nat} (h : k < 6) : ¬ qv k < 0 := (show ∀ k, k < 6 → ¬ qv k < 0 by decide +kernel) k h
set_option maxRecDepth 100000 in
set_option maxHeartbeats 4000000 in
theorem rlp_l {hd nn : Int32} {l : Launch} {G : xG} {M : xM} {J : xJ} {Q : xQ} {hn : Nat} (h_hn : hn ≤ 5) (e_hn : M 62 6 = nI hn) (hw : ∀ k, k < hn → M 63 (5 + k) ≠ 0) (hbt : M 63 16 ≠ 0) (htx : M 62 13 = -1 ∨ ∃ n : Nat, n ≤ 120 ∧ M 62 13 = nI n) (hC : ∀ (le : Int32) (M2 : xM), Ke WRL M M2 → x_X l G fX10_leastPush 64 0 0 Q 63 [(3, .int (le)), (2, .int (hd)), (0, .ref (62))] [] x_SH M2 J 0 0) : ∀ (m k : Nat) (le : Int32) (M1 : xM), k + m = 6 → Ke WRL M M1 → x_X l G fX10_leastPush 64 0 0 Q 28 [(4, .int (qv k)), (3, .int (le)), (2, .int (hd)), (1, .int (nn)), (0, .ref (62))] [] x_SH M1 J 0 0 := by
  intro m
  induction m with
  | zero =>
    intro k le M1 hk hM
    refine xr_iload dX10_leastPush_28 0 rfl ?_
    refine xr_if_lt (tgt := 63) dX10_leastPush_30 rfl (fun _ => ?_) (fun c => absurd (qv_lt (k := k) (by omega)) c)
    refine xb_ls (ls2 := [(3, .int (le)), (2, .int (hd)), (0, .ref (62))]) [1, 2, 4] rfl ?_
    exact hC le _ hM
  | succ m ih =>
    intro k le M1 hk hM
    refine xr_iload dX10_leastPush_28 0 rfl ?_
    refine xr_if_lt (tgt := 63) dX10_leastPush_30 rfl (fun c => absurd c (qv_ge (k := k) (by omega))) (fun _ => ?_)
    refine xr_aload_n dX10_leastPush_33 4 rfl ?_
    refine xr_getR flX10_9 dX10_leastPush_34 s_62 rfl ?_
    refine xr_bipush (v := 18) dX10_leastPush_37 rfl ?_
    refine xr_iload dX10_leastPush_39 0 rfl ?_
    refine xb_iast (j := 18) dX10_leastPush_41 s_63 (by decide) (by decide) ?_
    refine xr_aload_n dX10_leastPush_42 4 rfl ?_
    refine xr_callV (As := []) (rest := []) mlX10_270 (gi_X10_lasts h_hn (Eq.trans (congrFun (x_up_n _ _ _ (by decide)) _) (Eq.trans (hM 62 6 (by decide)) e_hn)) (fun kw hkw => by rw [show (x_up M1 63 18 (qv k)) 63 (5 + kw) = M 63 (5 + kw) from (Eq.trans (x_up_k _ _ _ (by omega)) (Eq.trans (hM 63 (5 + kw) (by unfold WRL; omega)) rfl))]; exact hw kw hkw) (by rw [show (x_up M1 63 18 (qv k)) 63 16 = M 63 16 from (Eq.trans (x_up_k _ _ _ (by omega)) (Eq.trans (hM 63 16 (by unfold WRL; omega)) rfl))]; exact hbt) (by rw [show (x_up M1 63 18 (qv k)) 62 13 = M 62 13 from (Eq.trans (congrFun (x_up_n _ _ _ (by omega)) _) (Eq.trans (hM 62 13 (by unfold WRL; omega)) rfl))]; exact htx)) dX10_leastPush_43 s_62 rfl rfl (Nat.le_of_ble_eq_true rfl) (by decide) ⟨by decide, by decide⟩ (fun v s2 M1 J2 hq => ?_)
    obtain ⟨r3, rfl, rfl, rfl, k2, _⟩ := hq
    try dsimp only [Option.toList, List.cons_append, List.nil_append]
    refine xr_iload_n dX10_leastPush_46 3 rfl ?_
    refine xr_icmp_lt (tgt := 55) dX10_leastPush_47 rfl (fun c4 => ?_) (fun c4 => ?_)
    · refine xr_iload_n dX10_leastPush_55 1 rfl ?_
      refine xr_istore_n (ls2 := [(3, .int (le)), (4, .int (qv k)), (2, .int (hd)), (1, .int (nn)), (0, .ref (62))]) dX10_leastPush_56 (by decide) rfl ?_
      refine xr_iinc (v := qv (k + 1)) (ls2 := [(4, .int (qv (k + 1))), (3, .int (le)), (2, .int (hd)), (1, .int (nn)), (0, .ref (62))]) dX10_leastPush_57 1 rfl (qv_s (by omega)) (by decide) rfl ?_
      refine xr_goto (tgt := 28) dX10_leastPush_60 rfl ?_
      refine xb_ls (ls2 := [(4, .int (qv (k + 1))), (3, .int (le)), (2, .int (hd)), (1, .int (nn)), (0, .ref (62))]) [0, 1, 2, 3, 4] rfl ?_
      exact ih (k + 1) le M1 (by omega) (Ke.tr (fun pp kk => (fun hh => Or.elim hh (fun h => (Or.inl h)) (fun hh => Or.elim hh (fun h => (Or.inr (Or.inl h))) (fun hh => Or.elim hh (fun h => (Or.inr (Or.inr (Or.inl h)))) (fun hh => Or.elim hh (fun h => (Or.inr (Or.inr (Or.inr (Or.inl h))))) (fun hh => Or.elim hh (fun h => (Or.inr (Or.inr (Or.inr (Or.inr (Or.inl h)))))) (fun hh => Or.elim hh (fun h => (Or.inr (Or.inr (Or.inr (Or.inr (Or.inr (Or.inl h))))))) (fun hh => Or.elim hh (fun h => (Or.inr (Or.inr (Or.inr (Or.inr (Or.inr (Or.inr (Or.inl h)))))))) (fun h => (Or.inr (Or.inr (Or.inr (Or.inr (Or.inr (Or.inr (Or.inr (Or.inl h))))))))))))))))) (Ke.up (Or.inr (Or.inr (Or.inr (Or.inr (Or.inr (Or.inr (Or.inr (Or.inr (by omega))))))))) hM) k2)
    · refine xr_iload dX10_leastPush_50 0 rfl ?_
      refine xr_goto (tgt := 56) dX10_leastPush_52 rfl ?_
      refine xr_istore_n (ls2 := [(3, .int (qv k)), (4, .int (qv k)), (2, .int (hd)), (1, .int (nn)), (0, .ref (62))]) dX10_leastPush_56 (by decide) rfl ?_
      refine xr_iinc (v := qv (k + 1)) (ls2 := [(4, .int (qv (k + 1))), (3, .int (qv k)), (2, .int (hd)), (1, .int (nn)), (0, .ref (62))]) dX10_leastPush_57 1 rfl (qv_s (by omega)) (by decide) rfl ?_
      refine xr_goto (tgt := 28) dX10_leastPush_60 rfl ?_
      refine xb_ls (ls2 := [(4, .int (qv (k + 1))), (3, .int (qv k)), (2, .int (hd)), (1, .int (nn)), (0, .ref (62))]) [0, 1, 2, 3, 4] rfl ?_
      exact ih (k + 1) (qv k) M1 (by omega) (Ke.tr (fun pp kk => (fun hh => Or.elim hh (fun h => (Or.inl h)) (fun hh => Or.elim hh (fun h => (Or.inr (Or.inl h))) (fun hh => Or.elim hh (fun h => (Or.inr (Or.inr (Or.inl h)))) (fun hh => Or.elim hh (fun h => (Or.inr (Or.inr (Or.inr (Or.inl h))))) (fun hh => Or.elim hh (fun h => (Or.inr (Or.inr (Or.inr (Or.inr (Or.inl h)))))) (fun hh => Or.elim hh (fun h => (Or.inr (Or.inr (Or.inr (Or.inr (Or.inr (Or.inl h))))))) (fun hh => Or.elim hh (fun h => (Or.inr (Or.inr (Or.inr (Or.inr (Or.inr (Or.inr (Or.inl h)))))))) (fun h => (Or.inr (Or.inr (Or.inr (Or.inr (Or.inr (Or.inr (Or.inr (Or.inl h))))))))))))))))) (Ke.up (Or.inr (Or.inr (Or.inr (Or.inr (Or.inr (Or.inr (Or.inr (Or.inr (by omega))))))))) hM) k2)
