theorem dX10_beatFor_47 : decode cX10_beatFor 47 = .ok (.iload 7, 2) := by decide +kernel
theorem dX10_beatFor_49 : decode cX10_beatFor 49 = .ok (.iload 6, 2) := by decide +kernel
theorem dX10_beatFor_51 : decode cX10_beatFor 51 = .ok (.if_icmp .ge 71, 3) := by decide +kernel
theorem dX10_beatFor_54 : decode cX10_beatFor 54 = .ok (.aload_n 0, 1) := by decide +kernel
theorem dX10_beatFor_55 : decode cX10_beatFor 55 = .ok (.getfield 9, 3) := by decide +kernel
theorem dX10_beatFor_58 : decode cX10_beatFor 58 = .ok (.bipush 16, 2) := by decide +kernel
theorem dX10_beatFor_60 : decode cX10_beatFor 60 = .ok (.iload 6, 2) := by decide +kernel
theorem dX10_beatFor_62 : decode cX10_beatFor 62 = .ok (.iastore, 1) := by decide +kernel
theorem dX10_beatFor_63 : decode cX10_beatFor 63 = .ok (.aload_n 0, 1) := by decide +kernel
theorem dX10_beatFor_64 : decode cX10_beatFor 64 = .ok (.getfield 9, 3) := by decide +kernel
theorem dX10_beatFor_67 : decode cX10_beatFor 67 = .ok (.bipush 17, 2) := by decide +kernel
theorem dX10_beatFor_69 : decode cX10_beatFor 69 = .ok (.iload 7, 2) := by decide +kernel
theorem dX10_beatFor_71 : decode cX10_beatFor 71 = .ok (.iastore, 1) := by decide +kernel
theorem dX10_beatFor_72 : decode cX10_beatFor 72 = .ok (.aload_n 0, 1) := by decide +kernel
theorem dX10_beatFor_73 : decode cX10_beatFor 73 = .ok (.invokevirtual 270, 3) := by decide +kernel
theorem dX10_beatFor_76 : decode cX10_beatFor 76 = .ok (.istore 8, 2) := by decide +kernel
theorem dX10_beatFor_78 : decode cX10_beatFor 78 = .ok (.iload 8, 2) := by decide +kernel
theorem dX10_beatFor_80 : decode cX10_beatFor 80 = .ok (.iload 5, 2) := by decide +kernel
theorem dX10_beatFor_82 : decode cX10_beatFor 82 = .ok (.if_icmp .le 14, 3) := by decide +kernel
theorem dX10_beatFor_96 : decode cX10_beatFor 96 = .ok (.iload 4, 2) := by decide +kernel
theorem dX10_beatFor_98 : decode cX10_beatFor 98 = .ok (.istore 4, 2) := by decide +kernel
theorem dX10_beatFor_100 : decode cX10_beatFor 100 = .ok (.iload 8, 2) := by decide +kernel
theorem dX10_beatFor_102 : decode cX10_beatFor 102 = .ok (.iload 5, 2) := by decide +kernel
theorem dX10_beatFor_104 : decode cX10_beatFor 104 = .ok (.if_icmp .le 8, 3) := by decide +kernel
theorem dX10_beatFor_112 : decode cX10_beatFor 112 = .ok (.iload 5, 2) := by decide +kernel
theorem dX10_beatFor_114 : decode cX10_beatFor 114 = .ok (.istore 5, 2) := by decide +kernel
theorem dX10_beatFor_116 : decode cX10_beatFor 116 = .ok (.iinc 7 1, 3) := by decide +kernel
theorem dX10_beatFor_119 : decode cX10_beatFor 119 = .ok (.goto (-72), 3) := by decide +kernel
theorem dX10_beatFor_107 : decode cX10_beatFor 107 = .ok (.iload 8, 2) := by decide +kernel
theorem dX10_beatFor_109 : decode cX10_beatFor 109 = .ok (.goto 5, 3) := by decide +kernel
theorem dX10_beatFor_85 : decode cX10_beatFor 85 = .ok (.bipush 100, 2) := by decide +kernel
theorem dX10_beatFor_87 : decode cX10_beatFor 87 = .ok (.iload 6, 2) := by decide +kernel
theorem dX10_beatFor_89 : decode cX10_beatFor 89 = .ok (.imul, 1) := by decide +kernel
theorem dX10_beatFor_90 : decode cX10_beatFor 90 = .ok (.iload 7, 2) := by decide +kernel
theorem dX10_beatFor_92 : decode cX10_beatFor 92 = .ok (.iadd, 1) := by decide +kernel
theorem dX10_beatFor_93 : decode cX10_beatFor 93 = .ok (.goto 5, 3) := by decide +kernel
abbrev WRB (p k : Nat) : Prop := (p = 62 ∧ k = 14) ∨ (p = 62 ∧ k = 15) ∨ (p = 62 ∧ k = 16) ∨ (p = 62 ∧ k = 17) ∨ (p = 62 ∧ k = 18) ∨ (p = 62 ∧ k = 23) ∨ (p = 62 ∧ k = 26) ∨ (71 ≤ p ∧ p ≤ 74) ∨ (p = 63 ∧ k = 16) ∨ (p = 63 ∧ k = 17)
abbrev WRL (p k : Nat) : Prop := (p = 62 ∧ k = 14) ∨ (p = 62 ∧ k = 15) ∨ (p = 62 ∧ k = 16) ∨ (p = 62 ∧ k = 17) ∨ (p = 62 ∧ k = 18) ∨ (p = 62 ∧ k = 23) ∨ (p = 62 ∧ k = 26) ∨ (71 ≤ p ∧ p ≤ 74) ∨ (p = 63 ∧ k = 18)
abbrev WRS (p k : Nat) : Prop := (p = 62 ∧ k = 14) ∨ (p = 62 ∧ k = 15) ∨ (p = 62 ∧ k = 16) ∨ (p = 62 ∧ k = 17) ∨ (p = 62 ∧ k = 18) ∨ (p = 62 ∧ k = 23) ∨ (p = 62 ∧ k = 26) ∨ (71 ≤ p ∧ p ≤ 74) ∨ (p = 63 ∧ 10 ≤ k ∧ k ≤ 14)
set_option maxRecDepth 100000 in
set_option maxHeartbeats 4000000 in
theorem rbi_l {h3 h2 w : Int32} {bt : Nat} (hb2 : 2 ≤ bt) (hb25 : bt ≤ 25) {l : Launch} {G : xG} {M : xM} {J : xJ} {Q : xQ} {hn : Nat} (h_hn : hn ≤ 5) (e_hn : M 62 6 = nI hn) (hw : ∀ k, k < hn → M 63 (5 + k) ≠ 0) (hbt : M 63 16 ≠ 0) (htx : M 62 13 = -1 ∨ ∃ n : Nat, n ≤ 120 ∧ M 62 13 = nI n) (hC : ∀ (mo : Int32) (be : Int32) (M2 : xM), Ke WRB M M2 → (M2 63 16 ≠ 0) → x_X l G fX10_beatFor 64 0 0 Q 122 [(6, .int (nI (bt))), (5, .int (mo)), (4, .int (be)), (3, .int (h3)), (2, .int (h2)), (1, .int (w)), (0, .ref (62))] [] x_SH M2 J 0 0) : ∀ (m k : Nat) (mo : Int32) (be : Int32) (M1 : xM), k + m = bt → Ke WRB M M1 → (M1 63 16 ≠ 0) → x_X l G fX10_beatFor 64 0 0 Q 47 [(7, .int (nI (k))), (6, .int (nI (bt))), (5, .int (mo)), (4, .int (be)), (3, .int (h3)), (2, .int (h2)), (1, .int (w)), (0, .ref (62))] [] x_SH M1 J 0 0 := by
  intro m
  induction m with
  | zero =>
    intro k mo be M1 hk hM hI
    refine xr_iload dX10_beatFor_47 0 rfl ?_
    refine xr_iload dX10_beatFor_49 1 rfl ?_
    refine xr_icmp_ge (tgt := 122) dX10_beatFor_51 rfl (fun _ => ?_) (fun c => absurd (nI_le (a := bt) (b := k) (by omega) (by omega)) c)
    refine xb_ls (ls2 := [(6, .int (nI (bt))), (5, .int (mo)), (4, .int (be)), (3, .int (h3)), (2, .int (h2)), (1, .int (w)), (0, .ref (62))]) [1, 2, 3, 4, 5, 6, 7] rfl ?_
    exact hC mo be _ hM hI
  | succ m ih =>
    intro k mo be M1 hk hM hI
    have hkN : k < bt := by omega
    refine xr_iload dX10_beatFor_47 0 rfl ?_
    refine xr_iload dX10_beatFor_49 1 rfl ?_
    refine xr_icmp_ge (tgt := 122) dX10_beatFor_51 rfl (fun c => absurd c (nI_ge (a := k) (b := bt) (by omega) (by omega))) (fun _ => ?_)
    refine xr_aload_n dX10_beatFor_54 7 rfl ?_
    refine xr_getR flX10_9 dX10_beatFor_55 s_62 rfl ?_
    refine xr_bipush (v := 16) dX10_beatFor_58 rfl ?_
    refine xr_iload dX10_beatFor_60 1 rfl ?_
    refine xb_iast (j := 16) dX10_beatFor_62 s_63 (by decide) (by decide) ?_
    refine xr_aload_n dX10_beatFor_63 7 rfl ?_
    refine xr_getR flX10_9 dX10_beatFor_64 s_62 rfl ?_
    refine xr_bipush (v := 17) dX10_beatFor_67 rfl ?_
    refine xr_iload dX10_beatFor_69 0 rfl ?_
    refine xb_iast (j := 17) dX10_beatFor_71 s_63 (by decide) (by decide) ?_
    refine xr_aload_n dX10_beatFor_72 7 rfl ?_
    refine xr_callV (As := []) (rest := []) mlX10_270 (gi_X10_lasts h_hn (Eq.trans (congrFun (x_up_n _ _ _ (by decide)) _) (Eq.trans (congrFun (x_up_n _ _ _ (by decide)) _) (Eq.trans (hM 62 6 (by decide)) e_hn))) (fun kw hkw => by rw [show (x_up (x_up M1 63 16 (nI (bt))) 63 17 (nI (k))) 63 (5 + kw) = M 63 (5 + kw) from (Eq.trans (x_up_k _ _ _ (by omega)) (Eq.trans (x_up_k _ _ _ (by omega)) (Eq.trans (hM 63 (5 + kw) (by unfold WRB; omega)) rfl)))]; exact hw kw hkw) (by rw [(Eq.trans (x_up_k _ _ _ (by decide)) (x_up_s _ _ _ _))]; exact nI_ne0 (by omega) (by omega)) (by rw [show (x_up (x_up M1 63 16 (nI (bt))) 63 17 (nI (k))) 62 13 = M 62 13 from (Eq.trans (congrFun (x_up_n _ _ _ (by omega)) _) (Eq.trans (congrFun (x_up_n _ _ _ (by omega)) _) (Eq.trans (hM 62 13 (by unfold WRB; omega)) rfl)))]; exact htx)) dX10_beatFor_73 s_62 rfl rfl (Nat.le_of_ble_eq_true rfl) (by decide) ⟨by decide, by decide⟩ (fun v s2 M1 J2 hq => ?_)
    obtain ⟨r3, rfl, rfl, rfl, k2, _⟩ := hq
    try dsimp only [Option.toList, List.cons_append, List.nil_append]
    refine xr_istore (ls2 := [(8, .int (r3)), (7, .int (nI (k))), (6, .int (nI (bt))), (5, .int (mo)), (4, .int (be)), (3, .int (h3)), (2, .int (h2)), (1, .int (w)), (0, .ref (62))]) dX10_beatFor_76 (by decide) rfl ?_
    refine xr_iload dX10_beatFor_78 0 rfl ?_
    refine xr_iload dX10_beatFor_80 3 rfl ?_
    refine xr_icmp_le (tgt := 96) dX10_beatFor_82 rfl (fun c4 => ?_) (fun c4 => ?_)
    · refine xr_iload dX10_beatFor_96 4 rfl ?_
      refine xr_istore (ls2 := [(4, .int (be)), (8, .int (r3)), (7, .int (nI (k))), (6, .int (nI (bt))), (5, .int (mo)), (3, .int (h3)), (2, .int (h2)), (1, .int (w)), (0, .ref (62))]) dX10_beatFor_98 (by decide) rfl ?_
      refine xr_iload dX10_beatFor_100 1 rfl ?_
      refine xr_iload dX10_beatFor_102 4 rfl ?_
      refine xr_icmp_le (tgt := 112) dX10_beatFor_104 rfl (fun c5 => ?_) (fun c5 => ?_)
      · refine xr_iload dX10_beatFor_112 4 rfl ?_
        refine xr_istore (ls2 := [(5, .int (mo)), (4, .int (be)), (8, .int (r3)), (7, .int (nI (k))), (6, .int (nI (bt))), (3, .int (h3)), (2, .int (h2)), (1, .int (w)), (0, .ref (62))]) dX10_beatFor_114 (by decide) rfl ?_
        refine xr_iinc (v := nI (k + 1)) (ls2 := [(7, .int (nI (k + 1))), (5, .int (mo)), (4, .int (be)), (8, .int (r3)), (6, .int (nI (bt))), (3, .int (h3)), (2, .int (h2)), (1, .int (w)), (0, .ref (62))]) dX10_beatFor_116 3 rfl (nI_1 _) (by decide) rfl ?_
        refine xr_goto (tgt := 47) dX10_beatFor_119 rfl ?_
        refine xb_ls (ls2 := [(7, .int (nI (k + 1))), (6, .int (nI (bt))), (5, .int (mo)), (4, .int (be)), (3, .int (h3)), (2, .int (h2)), (1, .int (w)), (0, .ref (62))]) [0, 4, 1, 2, 5, 6, 7, 8] rfl ?_
        exact ih (k + 1) mo be M1 (by omega) (Ke.tr (fun pp kk => (fun hh => Or.elim hh (fun h => (Or.inl h)) (fun hh => Or.elim hh (fun h => (Or.inr (Or.inl h))) (fun hh => Or.elim hh (fun h => (Or.inr (Or.inr (Or.inl h)))) (fun hh => Or.elim hh (fun h => (Or.inr (Or.inr (Or.inr (Or.inl h))))) (fun hh => Or.elim hh (fun h => (Or.inr (Or.inr (Or.inr (Or.inr (Or.inl h)))))) (fun hh => Or.elim hh (fun h => (Or.inr (Or.inr (Or.inr (Or.inr (Or.inr (Or.inl h))))))) (fun hh => Or.elim hh (fun h => (Or.inr (Or.inr (Or.inr (Or.inr (Or.inr (Or.inr (Or.inl h)))))))) (fun h => (Or.inr (Or.inr (Or.inr (Or.inr (Or.inr (Or.inr (Or.inr (Or.inl h))))))))))))))))) (Ke.up (Or.inr (Or.inr (Or.inr (Or.inr (Or.inr (Or.inr (Or.inr (Or.inr (Or.inr (by omega)))))))))) (Ke.up (Or.inr (Or.inr (Or.inr (Or.inr (Or.inr (Or.inr (Or.inr (Or.inr (Or.inl (by omega)))))))))) hM)) k2) (by rw [(Eq.trans (k2 63 16 (by decide)) (Eq.trans (x_up_k _ _ _ (by decide)) (x_up_s _ _ _ _)))]; exact nI_ne0 (by omega) (by omega))
      · refine xr_iload dX10_beatFor_107 1 rfl ?_
        refine xr_goto (tgt := 114) dX10_beatFor_109 rfl ?_
        refine xr_istore (ls2 := [(5, .int (r3)), (4, .int (be)), (8, .int (r3)), (7, .int (nI (k))), (6, .int (nI (bt))), (3, .int (h3)), (2, .int (h2)), (1, .int (w)), (0, .ref (62))]) dX10_beatFor_114 (by decide) rfl ?_
        refine xr_iinc (v := nI (k + 1)) (ls2 := [(7, .int (nI (k + 1))), (5, .int (r3)), (4, .int (be)), (8, .int (r3)), (6, .int (nI (bt))), (3, .int (h3)), (2, .int (h2)), (1, .int (w)), (0, .ref (62))]) dX10_beatFor_116 3 rfl (nI_1 _) (by decide) rfl ?_
        refine xr_goto (tgt := 47) dX10_beatFor_119 rfl ?_
        refine xb_ls (ls2 := [(7, .int (nI (k + 1))), (6, .int (nI (bt))), (5, .int (r3)), (4, .int (be)), (3, .int (h3)), (2, .int (h2)), (1, .int (w)), (0, .ref (62))]) [0, 4, 1, 2, 5, 6, 7, 8] rfl ?_
        exact ih (k + 1) r3 be M1 (by omega) (Ke.tr (fun pp kk => (fun hh => Or.elim hh (fun h => (Or.inl h)) (fun hh => Or.elim hh (fun h => (Or.inr (Or.inl h))) (fun hh => Or.elim hh (fun h => (Or.inr (Or.inr (Or.inl h)))) (fun hh => Or.elim hh (fun h => (Or.inr (Or.inr (Or.inr (Or.inl h))))) (fun hh => Or.elim hh (fun h => (Or.inr (Or.inr (Or.inr (Or.inr (Or.inl h)))))) (fun hh => Or.elim hh (fun h => (Or.inr (Or.inr (Or.inr (Or.inr (Or.inr (Or.inl h))))))) (fun hh => Or.elim hh (fun h => (Or.inr (Or.inr (Or.inr (Or.inr (Or.inr (Or.inr (Or.inl h)))))))) (fun h => (Or.inr (Or.inr (Or.inr (Or.inr (Or.inr (Or.inr (Or.inr (Or.inl h))))))))))))))))) (Ke.up (Or.inr (Or.inr (Or.inr (Or.inr (Or.inr (Or.inr (Or.inr (Or.inr (Or.inr (by omega)))))))))) (Ke.up (Or.inr (Or.inr (Or.inr (Or.inr (Or.inr (Or.inr (Or.inr (Or.inr (Or.inl (by omega)))))))))) hM)) k2) (by rw [(Eq.trans (k2 63 16 (by decide)) (Eq.trans (x_up_k _ _ _ (by decide)) (x_up_s _ _ _ _)))]; exact nI_ne0 (by omega) (by omega))
    · refine xr_bipush (v := 100) dX10_beatFor_85 rfl ?_
      refine xr_iload dX10_beatFor_87 2 rfl ?_
      refine xr_imul dX10_beatFor_89 ?_
      refine xr_iload dX10_beatFor_90 1 rfl ?_
      refine xr_iadd dX10_beatFor_92 ?_
      refine xr_goto (tgt := 98) dX10_beatFor_93 rfl ?_
      refine xr_istore (ls2 := [(4, .int (((100 * (nI (bt))) + (nI (k))))), (8, .int (r3)), (7, .int (nI (k))), (6, .int (nI (bt))), (5, .int (mo)), (3, .int (h3)), (2, .int (h2)), (1, .int (w)), (0, .ref (62))]) dX10_beatFor_98 (by decide) rfl ?_
      refine xr_iload dX10_beatFor_100 1 rfl ?_
      refine xr_iload dX10_beatFor_102 4 rfl ?_
      refine xr_icmp_le (tgt := 112) dX10_beatFor_104 rfl (fun c6 => ?_) (fun c6 => ?_)
      · refine xr_iload dX10_beatFor_112 4 rfl ?_
        refine xr_istore (ls2 := [(5, .int (mo)), (4, .int (((100 * (nI (bt))) + (nI (k))))), (8, .int (r3)), (7, .int (nI (k))), (6, .int (nI (bt))), (3, .int (h3)), (2, .int (h2)), (1, .int (w)), (0, .ref (62))]) dX10_beatFor_114 (by decide) rfl ?_
        refine xr_iinc (v := nI (k + 1)) (ls2 := [(7, .int (nI (k + 1))), (5, .int (mo)), (4, .int (((100 * (nI (bt))) + (nI (k))))), (8, .int (r3)), (6, .int (nI (bt))), (3, .int (h3)), (2, .int (h2)), (1, .int (w)), (0, .ref (62))]) dX10_beatFor_116 3 rfl (nI_1 _) (by decide) rfl ?_
        refine xr_goto (tgt := 47) dX10_beatFor_119 rfl ?_
        refine xb_ls (ls2 := [(7, .int (nI (k + 1))), (6, .int (nI (bt))), (5, .int (mo)), (4, .int (((100 * (nI (bt))) + (nI (k))))), (3, .int (h3)), (2, .int (h2)), (1, .int (w)), (0, .ref (62))]) [0, 4, 1, 2, 5, 6, 7, 8] rfl ?_
        exact ih (k + 1) mo ((100 * (nI (bt))) + (nI (k))) M1 (by omega) (Ke.tr (fun pp kk => (fun hh => Or.elim hh (fun h => (Or.inl h)) (fun hh => Or.elim hh (fun h => (Or.inr (Or.inl h))) (fun hh => Or.elim hh (fun h => (Or.inr (Or.inr (Or.inl h)))) (fun hh => Or.elim hh (fun h => (Or.inr (Or.inr (Or.inr (Or.inl h))))) (fun hh => Or.elim hh (fun h => (Or.inr (Or.inr (Or.inr (Or.inr (Or.inl h)))))) (fun hh => Or.elim hh (fun h => (Or.inr (Or.inr (Or.inr (Or.inr (Or.inr (Or.inl h))))))) (fun hh => Or.elim hh (fun h => (Or.inr (Or.inr (Or.inr (Or.inr (Or.inr (Or.inr (Or.inl h)))))))) (fun h => (Or.inr (Or.inr (Or.inr (Or.inr (Or.inr (Or.inr (Or.inr (Or.inl h))))))))))))))))) (Ke.up (Or.inr (Or.inr (Or.inr (Or.inr (Or.inr (Or.inr (Or.inr (Or.inr (Or.inr (by omega)))))))))) (Ke.up (Or.inr (Or.inr (Or.inr (Or.inr (Or.inr (Or.inr (Or.inr (Or.inr (Or.inl (by omega)))))))))) hM)) k2) (by rw [(Eq.trans (k2 63 16 (by decide)) (Eq.trans (x_up_k _ _ _ (by decide)) (x_up_s _ _ _ _)))]; exact nI_ne0 (by omega) (by omega))
      · refine xr_iload dX10_beatFor_107 1 rfl ?_
        refine xr_goto (tgt := 114) dX10_beatFor_109 rfl ?_
        refine xr_istore (ls2 := [(5, .int (r3)), (4, .int (((100 * (nI (bt))) + (nI (k))))), (8, .int (r3)), (7, .int (nI (k))), (6, .int (nI (bt))), (3, .int (h3)), (2, .int (h2)), (1, .int (w)), (0, .ref (62))]) dX10_beatFor_114 (by decide) rfl ?_
        refine xr_iinc (v := nI (k + 1)) (ls2 := [(7, .int (nI (k + 1))), (5, .int (r3)), (4, .int (((100 * (nI (bt))) + (nI (k))))), (8, .int (r3)), (6, .int (nI (bt))), (3, .int (h3)), (2, .int (h2)), (1, .int (w)), (0, .ref (62))]) dX10_beatFor_116 3 rfl (nI_1 _) (by decide) rfl ?_
        refine xr_goto (tgt := 47) dX10_beatFor_119 rfl ?_
        refine xb_ls (ls2 := [(7, .int (nI (k + 1))), (6, .int (nI (bt))), (5, .int (r3)), (4, .int (((100 * (nI (bt))) + (nI (k))))), (3, .int (h3)), (2, .int (h2)), (1, .int (w)), (0, .ref (62))]) [0, 4, 1, 2, 5, 6, 7, 8] rfl ?_
        exact ih (k + 1) r3 ((100 * (nI (bt))) + (nI (k))) M1 (by omega) (Ke.tr (fun pp kk => (fun hh => Or.elim hh (fun h => (Or.inl h)) (fun hh => Or.elim hh (fun h => (Or.inr (Or.inl h))) (fun hh => Or.elim hh (fun h => (Or.inr (Or.inr (Or.inl h)))) (fun hh => Or.elim hh (fun h => (Or.inr (Or.inr (Or.inr (Or.inl h))))) (fun hh => Or.elim hh (fun h => (Or.inr (Or.inr (Or.inr (Or.inr (Or.inl h)))))) (fun hh => Or.elim hh (fun h => (Or.inr (Or.inr (Or.inr (Or.inr (Or.inr (Or.inl h))))))) (fun hh => Or.elim hh (fun h => (Or.inr (Or.inr (Or.inr (Or.inr (Or.inr (Or.inr (Or.inl h)))))))) (fun h => (Or.inr (Or.inr (Or.inr (Or.inr (Or.inr (Or.inr (Or.inr (Or.inl h))))))))))))))))) (Ke.up (Or.inr (Or.inr (Or.inr (Or.inr (Or.inr (Or.inr (Or.inr (Or.inr (Or.inr (by omega)))))))))) (Ke.up (Or.inr (Or.inr (Or.inr (Or.inr (Or.inr (Or.inr (Or.inr (Or.inr (Or.inl (by omega)))))))))) hM)) k2) (by rw [(Eq.trans (k2 63 16 (by decide)) (Eq.trans (x_up_k _ _ _ (by decide)) (x_up_s _ _ _ _)))]; exact nI_ne0 (by omega) (by omega))
