theorem dX10_becomes_26 : decode cX10_becomes 26 = .ok (.iload 4, 2) := by decide +kernel
theorem dX10_becomes_28 : decode cX10_becomes 28 = .ok (.bipush 40, 2) := by decide +kernel
theorem dX10_becomes_30 : decode cX10_becomes 30 = .ok (.if_icmp .ge 57, 3) := by decide +kernel
theorem dX10_becomes_33 : decode cX10_becomes 33 = .ok (.aload_n 0, 1) := by decide +kernel
theorem dX10_becomes_34 : decode cX10_becomes 34 = .ok (.getfield 13, 3) := by decide +kernel
theorem dX10_becomes_37 : decode cX10_becomes 37 = .ok (.iload 4, 2) := by decide +kernel
theorem dX10_becomes_39 : decode cX10_becomes 39 = .ok (.iconst 1, 1) := by decide +kernel
theorem dX10_becomes_40 : decode cX10_becomes 40 = .ok (.isub, 1) := by decide +kernel
theorem dX10_becomes_41 : decode cX10_becomes 41 = .ok (.aload_n 0, 1) := by decide +kernel
theorem dX10_becomes_42 : decode cX10_becomes 42 = .ok (.getfield 13, 3) := by decide +kernel
theorem dX10_becomes_45 : decode cX10_becomes 45 = .ok (.iload 4, 2) := by decide +kernel
theorem dX10_becomes_47 : decode cX10_becomes 47 = .ok (.iaload, 1) := by decide +kernel
theorem dX10_becomes_48 : decode cX10_becomes 48 = .ok (.iastore, 1) := by decide +kernel
theorem dX10_becomes_49 : decode cX10_becomes 49 = .ok (.aload_n 0, 1) := by decide +kernel
theorem dX10_becomes_50 : decode cX10_becomes 50 = .ok (.getfield 16, 3) := by decide +kernel
theorem dX10_becomes_53 : decode cX10_becomes 53 = .ok (.iload 4, 2) := by decide +kernel
theorem dX10_becomes_55 : decode cX10_becomes 55 = .ok (.iconst 1, 1) := by decide +kernel
theorem dX10_becomes_56 : decode cX10_becomes 56 = .ok (.isub, 1) := by decide +kernel
theorem dX10_becomes_57 : decode cX10_becomes 57 = .ok (.aload_n 0, 1) := by decide +kernel
theorem dX10_becomes_58 : decode cX10_becomes 58 = .ok (.getfield 16, 3) := by decide +kernel
theorem dX10_becomes_61 : decode cX10_becomes 61 = .ok (.iload 4, 2) := by decide +kernel
theorem dX10_becomes_63 : decode cX10_becomes 63 = .ok (.iaload, 1) := by decide +kernel
theorem dX10_becomes_64 : decode cX10_becomes 64 = .ok (.iastore, 1) := by decide +kernel
theorem dX10_becomes_65 : decode cX10_becomes 65 = .ok (.aload_n 0, 1) := by decide +kernel
theorem dX10_becomes_66 : decode cX10_becomes 66 = .ok (.getfield 19, 3) := by decide +kernel
theorem dX10_becomes_69 : decode cX10_becomes 69 = .ok (.iload 4, 2) := by decide +kernel
theorem dX10_becomes_71 : decode cX10_becomes 71 = .ok (.iconst 1, 1) := by decide +kernel
theorem dX10_becomes_72 : decode cX10_becomes 72 = .ok (.isub, 1) := by decide +kernel
theorem dX10_becomes_73 : decode cX10_becomes 73 = .ok (.aload_n 0, 1) := by decide +kernel
theorem dX10_becomes_74 : decode cX10_becomes 74 = .ok (.getfield 19, 3) := by decide +kernel
theorem dX10_becomes_77 : decode cX10_becomes 77 = .ok (.iload 4, 2) := by decide +kernel
theorem dX10_becomes_79 : decode cX10_becomes 79 = .ok (.iaload, 1) := by decide +kernel
theorem dX10_becomes_80 : decode cX10_becomes 80 = .ok (.iastore, 1) := by decide +kernel
theorem dX10_becomes_81 : decode cX10_becomes 81 = .ok (.iinc 4 1, 3) := by decide +kernel
theorem dX10_becomes_84 : decode cX10_becomes 84 = .ok (.goto (-58), 3) := by decide +kernel
theorem dX10_becomes_0 : decode cX10_becomes 0 = .ok (.aload_n 0, 1) := by decide +kernel
theorem dX10_becomes_1 : decode cX10_becomes 1 = .ok (.getfield 9, 3) := by decide +kernel
theorem dX10_becomes_4 : decode cX10_becomes 4 = .ok (.iload_n 1, 1) := by decide +kernel
theorem dX10_becomes_5 : decode cX10_becomes 5 = .ok (.iaload, 1) := by decide +kernel
theorem dX10_becomes_6 : decode cX10_becomes 6 = .ok (.istore_n 3, 1) := by decide +kernel
theorem dX10_becomes_7 : decode cX10_becomes 7 = .ok (.iload_n 3, 1) := by decide +kernel
theorem dX10_becomes_8 : decode cX10_becomes 8 = .ok (.iload_n 2, 1) := by decide +kernel
theorem dX10_becomes_9 : decode cX10_becomes 9 = .ok (.if_icmp .ne 5, 3) := by decide +kernel
theorem dX10_becomes_14 : decode cX10_becomes 14 = .ok (.aload_n 0, 1) := by decide +kernel
theorem dX10_becomes_15 : decode cX10_becomes 15 = .ok (.getfield 91, 3) := by decide +kernel
theorem dX10_becomes_18 : decode cX10_becomes 18 = .ok (.bipush 40, 2) := by decide +kernel
theorem dX10_becomes_20 : decode cX10_becomes 20 = .ok (.if_icmp .ne 77, 3) := by decide +kernel
theorem dX10_becomes_97 : decode cX10_becomes 97 = .ok (.aload_n 0, 1) := by decide +kernel
theorem dX10_becomes_98 : decode cX10_becomes 98 = .ok (.getfield 13, 3) := by decide +kernel
theorem dX10_becomes_101 : decode cX10_becomes 101 = .ok (.aload_n 0, 1) := by decide +kernel
theorem dX10_becomes_102 : decode cX10_becomes 102 = .ok (.getfield 91, 3) := by decide +kernel
theorem dX10_becomes_105 : decode cX10_becomes 105 = .ok (.iload_n 1, 1) := by decide +kernel
theorem dX10_becomes_106 : decode cX10_becomes 106 = .ok (.iastore, 1) := by decide +kernel
theorem dX10_becomes_107 : decode cX10_becomes 107 = .ok (.aload_n 0, 1) := by decide +kernel
theorem dX10_becomes_108 : decode cX10_becomes 108 = .ok (.getfield 16, 3) := by decide +kernel
theorem dX10_becomes_111 : decode cX10_becomes 111 = .ok (.aload_n 0, 1) := by decide +kernel
theorem dX10_becomes_112 : decode cX10_becomes 112 = .ok (.getfield 91, 3) := by decide +kernel
theorem dX10_becomes_115 : decode cX10_becomes 115 = .ok (.iload_n 3, 1) := by decide +kernel
theorem dX10_becomes_116 : decode cX10_becomes 116 = .ok (.iastore, 1) := by decide +kernel
theorem dX10_becomes_117 : decode cX10_becomes 117 = .ok (.aload_n 0, 1) := by decide +kernel
theorem dX10_becomes_118 : decode cX10_becomes 118 = .ok (.getfield 19, 3) := by decide +kernel
theorem dX10_becomes_121 : decode cX10_becomes 121 = .ok (.aload_n 0, 1) := by decide +kernel
theorem dX10_becomes_122 : decode cX10_becomes 122 = .ok (.getfield 91, 3) := by decide +kernel
theorem dX10_becomes_125 : decode cX10_becomes 125 = .ok (.iload_n 2, 1) := by decide +kernel
theorem dX10_becomes_126 : decode cX10_becomes 126 = .ok (.iastore, 1) := by decide +kernel
theorem dX10_becomes_127 : decode cX10_becomes 127 = .ok (.aload_n 0, 1) := by decide +kernel
theorem dX10_becomes_128 : decode cX10_becomes 128 = .ok (.dup, 1) := by decide +kernel
theorem dX10_becomes_129 : decode cX10_becomes 129 = .ok (.getfield 91, 3) := by decide +kernel
theorem dX10_becomes_132 : decode cX10_becomes 132 = .ok (.iconst 1, 1) := by decide +kernel
theorem dX10_becomes_133 : decode cX10_becomes 133 = .ok (.iadd, 1) := by decide +kernel
theorem dX10_becomes_134 : decode cX10_becomes 134 = .ok (.putfield 91, 3) := by decide +kernel
theorem dX10_becomes_137 : decode cX10_becomes 137 = .ok (.aload_n 0, 1) := by decide +kernel
theorem dX10_becomes_138 : decode cX10_becomes 138 = .ok (.aload_n 0, 1) := by decide +kernel
theorem dX10_becomes_139 : decode cX10_becomes 139 = .ok (.getfield 91, 3) := by decide +kernel
theorem dX10_becomes_142 : decode cX10_becomes 142 = .ok (.putfield 94, 3) := by decide +kernel
theorem dX10_becomes_145 : decode cX10_becomes 145 = .ok (.aload_n 0, 1) := by decide +kernel
theorem dX10_becomes_146 : decode cX10_becomes 146 = .ok (.getfield 9, 3) := by decide +kernel
theorem dX10_becomes_149 : decode cX10_becomes 149 = .ok (.iload_n 1, 1) := by decide +kernel
theorem dX10_becomes_150 : decode cX10_becomes 150 = .ok (.iload_n 2, 1) := by decide +kernel
theorem dX10_becomes_151 : decode cX10_becomes 151 = .ok (.iastore, 1) := by decide +kernel
theorem dX10_becomes_152 : decode cX10_becomes 152 = .ok (.iload_n 3, 1) := by decide +kernel
theorem dX10_becomes_153 : decode cX10_becomes 153 = .ok (.ireturn, 1) := by decide +kernel
theorem dX10_becomes_23 : decode cX10_becomes 23 = .ok (.iconst 1, 1) := by decide +kernel
theorem dX10_becomes_24 : decode cX10_becomes 24 = .ok (.istore 4, 2) := by decide +kernel
theorem dX10_becomes_87 : decode cX10_becomes 87 = .ok (.aload_n 0, 1) := by decide +kernel
theorem dX10_becomes_88 : decode cX10_becomes 88 = .ok (.dup, 1) := by decide +kernel
theorem dX10_becomes_89 : decode cX10_becomes 89 = .ok (.getfield 91, 3) := by decide +kernel
theorem dX10_becomes_92 : decode cX10_becomes 92 = .ok (.iconst 1, 1) := by decide +kernel
theorem dX10_becomes_93 : decode cX10_becomes 93 = .ok (.isub, 1) := by decide +kernel
theorem dX10_becomes_94 : decode cX10_becomes 94 = .ok (.putfield 91, 3) := by decide +kernel
theorem dX10_becomes_12 : decode cX10_becomes 12 = .ok (.iload_n 3, 1) := by decide +kernel
theorem dX10_becomes_13 : decode cX10_becomes 13 = .ok (.ireturn, 1) := by decide +kernel
theorem dX10_lays_0 : decode cX10_lays 0 = .ok (.iload_n 1, 1) := by decide +kernel
theorem dX10_lays_1 : decode cX10_lays 1 = .ok (.i2l, 1) := by decide +kernel
theorem dX10_lays_2 : decode cX10_lays 2 = .ok (.ldc2_w 97, 3) := by decide +kernel
theorem dX10_lays_5 : decode cX10_lays 5 = .ok (.ldc2_w 99, 3) := by decide +kernel
theorem dX10_lays_8 : decode cX10_lays 8 = .ok (.invokestatic 101, 3) := by decide +kernel
theorem dX10_lays_11 : decode cX10_lays 11 = .ok (.ifCond .eq 19, 3) := by decide +kernel
theorem dX10_lays_30 : decode cX10_lays 30 = .ok (.iconst 0, 1) := by decide +kernel
theorem dX10_lays_31 : decode cX10_lays 31 = .ok (.istore_n 3, 1) := by decide +kernel
theorem dX10_lays_32 : decode cX10_lays 32 = .ok (.aload_n 0, 1) := by decide +kernel
theorem dX10_lays_33 : decode cX10_lays 33 = .ok (.getfield 9, 3) := by decide +kernel
theorem dX10_lays_36 : decode cX10_lays 36 = .ok (.iload_n 1, 1) := by decide +kernel
theorem dX10_lays_37 : decode cX10_lays 37 = .ok (.iload_n 3, 1) := by decide +kernel
theorem dX10_lays_38 : decode cX10_lays 38 = .ok (.ifCond .eq 7, 3) := by decide +kernel
theorem dX10_lays_45 : decode cX10_lays 45 = .ok (.iload_n 2, 1) := by decide +kernel
theorem dX10_lays_46 : decode cX10_lays 46 = .ok (.iastore, 1) := by decide +kernel
theorem dX10_lays_47 : decode cX10_lays 47 = .ok (.return_, 1) := by decide +kernel
theorem dX10_lays_14 : decode cX10_lays 14 = .ok (.aload_n 0, 1) := by decide +kernel
theorem dX10_lays_15 : decode cX10_lays 15 = .ok (.getfield 25, 3) := by decide +kernel
theorem dX10_lays_18 : decode cX10_lays 18 = .ok (.iload_n 1, 1) := by decide +kernel
theorem dX10_lays_19 : decode cX10_lays 19 = .ok (.bipush 10, 2) := by decide +kernel
theorem dX10_lays_21 : decode cX10_lays 21 = .ok (.isub, 1) := by decide +kernel
theorem dX10_lays_22 : decode cX10_lays 22 = .ok (.iaload, 1) := by decide +kernel
theorem dX10_lays_23 : decode cX10_lays 23 = .ok (.ifCond .ne 7, 3) := by decide +kernel
theorem dX10_lays_26 : decode cX10_lays 26 = .ok (.iconst 1, 1) := by decide +kernel
theorem dX10_lays_27 : decode cX10_lays 27 = .ok (.goto 4, 3) := by decide +kernel
theorem dX10_lays_41 : decode cX10_lays 41 = .ok (.iconst 0, 1) := by decide +kernel
theorem dX10_lays_42 : decode cX10_lays 42 = .ok (.goto 4, 3) := by decide +kernel
abbrev WBC (p k : Nat) : Prop := (p = 62 ∧ k = 4) ∨ (p = 62 ∧ k = 5) ∨ (63 ≤ p ∧ p ≤ 66)
abbrev WBL (p k : Nat) : Prop := (64 ≤ p ∧ p ≤ 66)
theorem CH_sh {M : xM} {k : Nat} (hk : k + 1 < 40) (h : ∀ j, j < 40 → CH (M 64 j) (M 65 j) (M 66 j)) (a b c : Int32) (ha : a = M 64 (k + 1)) (hb : b = M 65 (k + 1)) (hc : c = M 66 (k + 1)) : ∀ j, j < 40 → CH (x_up (x_up (x_up M 64 k a) 65 k b) 66 k c 64 j) (x_up (x_up (x_up M 64 k a) 65 k b) 66 k c 65 j) (x_up (x_up (x_up M 64 k a) 65 k b) 66 k c 66 j) := fun j hj => by
  rw [congrFun (x_up_n _ k c (by decide)) _, congrFun (x_up_n _ k b (by decide)) _, congrFun (x_up_n _ k c (by decide)) _]
  by_cases e : j = k
  · subst e
    rw [x_up_s, x_up_s, x_up_s, ha, hb, hc]; exact h (j + 1) hk
  · rw [x_up_k _ _ _ e, x_up_k _ _ _ e, x_up_k _ _ _ e, congrFun (x_up_n _ k a (by decide)) _, congrFun (x_up_n _ k b (by decide)) _, congrFun (x_up_n _ k a (by decide)) _]; exact h j hj
theorem CH_new {M : xM} {u q : Nat} {w i : Int32} (hq : q < 20) (hw : (5 ≤ q ∧ q < 10 ∨ q = 16) → w ≠ 0 ∧ i ≠ 0) (h : ∀ j, j < 40 → CH (M 64 j) (M 65 j) (M 66 j)) : ∀ j, j < 40 → CH (x_up (x_up (x_up M 64 u (nI q)) 65 u w) 66 u i 64 j) (x_up (x_up (x_up M 64 u (nI q)) 65 u w) 66 u i 65 j) (x_up (x_up (x_up M 64 u (nI q)) 65 u w) 66 u i 66 j) := fun j hj => by
  rw [congrFun (x_up_n _ u i (by decide)) _, congrFun (x_up_n _ u w (by decide)) _, congrFun (x_up_n _ u i (by decide)) _]
  by_cases e : j = u
  · subst e
    rw [x_up_s, x_up_s, x_up_s]; exact ⟨q, hq, rfl, hw⟩
  · rw [x_up_k _ _ _ e, x_up_k _ _ _ e, x_up_k _ _ _ e, congrFun (x_up_n _ u (nI q) (by decide)) _, congrFun (x_up_n _ u w (by decide)) _, congrFun (x_up_n _ u (nI q) (by decide)) _]; exact h j hj
theorem CH_n {M : xM} {p k : Nat} {v : Int32} (hp : p ≠ 64 ∧ p ≠ 65 ∧ p ≠ 66) (h : ∀ j, j < 40 → CH (M 64 j) (M 65 j) (M 66 j)) : ∀ j, j < 40 → CH (x_up M p k v 64 j) (x_up M p k v 65 j) (x_up M p k v 66 j) := fun j hj => by
  rw [congrFun (x_up_n _ k v (fun q => hp.1 q.symm)) _, congrFun (x_up_n _ k v (fun q => hp.2.1 q.symm)) _, congrFun (x_up_n _ k v (fun q => hp.2.2 q.symm)) _]; exact h j hj
set_option maxRecDepth 100000 in
set_option maxHeartbeats 4000000 in
theorem bec_l {wa v : Int32} {q : Nat} {l : Launch} {G : xG} {M : xM} {J : xJ} {Q : xQ} (hC : ∀ M2, Ke WBL M M2 → (∀ j, j < 40 → CH (M2 64 j) (M2 65 j) (M2 66 j)) → x_X l G fX10_becomes 0 0 0 Q 87 [(3, .int (wa)), (2, .int (v)), (1, .int (nI (q))), (0, .ref (62))] [] x_SH M2 J 0 0) : ∀ (m k : Nat) (M1 : xM), k + 1 + m = 40 → Ke WBL M M1 → (∀ j, j < 40 → CH (M1 64 j) (M1 65 j) (M1 66 j)) → x_X l G fX10_becomes 0 0 0 Q 26 [(4, .int (nI (k + 1))), (3, .int (wa)), (2, .int (v)), (1, .int (nI (q))), (0, .ref (62))] [] x_SH M1 J 0 0 := by
  intro m
  induction m with
  | zero =>
    intro k M1 hk hM hC1
    refine xr_iload dX10_becomes_26 0 rfl ?_
    refine xr_bipush (v := 40) dX10_becomes_28 rfl ?_
    refine xr_icmp_ge (tgt := 87) dX10_becomes_30 rfl (fun _ => ?_) (fun c => absurd (nI_le (a := 40) (b := k + 1) (by omega) (by omega)) c)
    refine xb_ls (ls2 := [(3, .int (wa)), (2, .int (v)), (1, .int (nI (q))), (0, .ref (62))]) [1, 2, 3, 4] rfl ?_
    exact hC _ hM hC1
  | succ m ih =>
    intro k M1 hk hM hC1
    refine xr_iload dX10_becomes_26 0 rfl ?_
    refine xr_bipush (v := 40) dX10_becomes_28 rfl ?_
    refine xr_icmp_ge (tgt := 87) dX10_becomes_30 rfl (fun c => absurd c (nI_ge (a := k + 1) (b := 40) (by omega) (by omega))) (fun _ => ?_)
    refine xr_aload_n dX10_becomes_33 4 rfl ?_
    refine xr_getR flX10_13 dX10_becomes_34 s_62 rfl ?_
    refine xr_iload dX10_becomes_37 0 rfl ?_
    refine xr_iconst (v := 1) dX10_becomes_39 rfl ?_
    refine xr_isub dX10_becomes_40 ?_
    refine xb_top (y := nI k) (nI_pred k) ?_
    refine xr_aload_n dX10_becomes_41 4 rfl ?_
    refine xr_getR flX10_13 dX10_becomes_42 s_62 rfl ?_
    refine xr_iload dX10_becomes_45 0 rfl ?_
    refine xb_iald (j := k + 1) (v := M1 64 (k + 1)) dX10_becomes_47 s_64 (by omega) (by decide) rfl ?_
    refine xb_iast (j := k) dX10_becomes_48 s_64 (by omega) (by decide) ?_
    refine xr_aload_n dX10_becomes_49 4 rfl ?_
    refine xr_getR flX10_16 dX10_becomes_50 s_62 rfl ?_
    refine xr_iload dX10_becomes_53 0 rfl ?_
    refine xr_iconst (v := 1) dX10_becomes_55 rfl ?_
    refine xr_isub dX10_becomes_56 ?_
    refine xb_top (y := nI k) (nI_pred k) ?_
    refine xr_aload_n dX10_becomes_57 4 rfl ?_
    refine xr_getR flX10_16 dX10_becomes_58 s_62 rfl ?_
    refine xr_iload dX10_becomes_61 0 rfl ?_
    refine xb_iald (j := k + 1) (v := (x_up M1 64 k (M1 64 (k + 1))) 65 (k + 1)) dX10_becomes_63 s_65 (by omega) (by decide) rfl ?_
    refine xb_iast (j := k) dX10_becomes_64 s_65 (by omega) (by decide) ?_
    refine xr_aload_n dX10_becomes_65 4 rfl ?_
    refine xr_getR flX10_19 dX10_becomes_66 s_62 rfl ?_
    refine xr_iload dX10_becomes_69 0 rfl ?_
    refine xr_iconst (v := 1) dX10_becomes_71 rfl ?_
    refine xr_isub dX10_becomes_72 ?_
    refine xb_top (y := nI k) (nI_pred k) ?_
    refine xr_aload_n dX10_becomes_73 4 rfl ?_
    refine xr_getR flX10_19 dX10_becomes_74 s_62 rfl ?_
    refine xr_iload dX10_becomes_77 0 rfl ?_
    refine xb_iald (j := k + 1) (v := (x_up (x_up M1 64 k (M1 64 (k + 1))) 65 k ((x_up M1 64 k (M1 64 (k + 1))) 65 (k + 1))) 66 (k + 1)) dX10_becomes_79 s_66 (by omega) (by decide) rfl ?_
    refine xb_iast (j := k) dX10_becomes_80 s_66 (by omega) (by decide) ?_
    refine xr_iinc (v := nI (k + 1 + 1)) (ls2 := [(4, .int (nI (k + 1 + 1))), (3, .int (wa)), (2, .int (v)), (1, .int (nI (q))), (0, .ref (62))]) dX10_becomes_81 0 rfl (nI_1 _) (by decide) rfl ?_
    refine xr_goto (tgt := 26) dX10_becomes_84 rfl ?_
    refine xb_ls (ls2 := [(4, .int (nI (k + 1 + 1))), (3, .int (wa)), (2, .int (v)), (1, .int (nI (q))), (0, .ref (62))]) [0, 1, 2, 3, 4] rfl ?_
    exact ih (k + 1) (x_up (x_up (x_up M1 64 k (M1 64 (k + 1))) 65 k ((x_up M1 64 k (M1 64 (k + 1))) 65 (k + 1))) 66 k ((x_up (x_up M1 64 k (M1 64 (k + 1))) 65 k ((x_up M1 64 k (M1 64 (k + 1))) 65 (k + 1))) 66 (k + 1))) (by omega) (Ke.up (by omega) (Ke.up (by omega) (Ke.up (by omega) hM))) (CH_sh (by omega) hC1 _ _ _ rfl (congrFun (x_up_n _ _ _ (by decide)) _) ((congrFun (x_up_n _ _ _ (by decide)) _).trans (congrFun (x_up_n _ _ _ (by decide)) _)))
set_option maxRecDepth 100000 in
set_option maxHeartbeats 4000000 in
theorem g_X10_becomes {q : Nat} (hq : q < 20) (v : Int32) {l : Launch} {G : xG} {M : xM} {J : xJ} (hwas : (5 ≤ q ∧ q < 10 ∨ q = 16) → M 63 q ≠ 0) (hv0 : (5 ≤ q ∧ q < 10 ∨ q = 16) → v ≠ 0) (hch : ∀ j, j < 40 → CH (M 64 j) (M 65 j) (M 66 j)) {un wn : Nat} (h_uw : un ≤ wn) (h_wn : wn ≤ 40) (e_un : M 62 5 = nI un) (e_wn : M 62 4 = nI wn) : x_M l G fX10_becomes 0 0 0 [.ref (62), .int (nI (q)), .int (v)] x_SH M J (qKI WBC M J (fun r M2 => (∃ u w : Nat, u ≤ w ∧ w ≤ 40 ∧ M2 62 5 = nI u ∧ M2 62 4 = nI w) ∧ (∀ j, j < 40 → CH (M2 64 j) (M2 65 j) (M2 66 j)) ∧ M2 63 q = v ∧ ∀ j, j ≠ q → M2 63 j = M 63 j)) := by
  refine xb_of pX10 (Nat.le_of_ble_eq_true rfl) rfl ?_
  refine xr_aload_n dX10_becomes_0 0 rfl ?_
  refine xr_getR flX10_9 dX10_becomes_1 s_62 rfl ?_
  refine xr_iload_n dX10_becomes_4 1 rfl ?_
  refine xb_iald (j := q) (v := M 63 q) dX10_becomes_5 s_63 hq (by decide) rfl ?_
  refine xr_istore_n (ls2 := [(3, .int (M 63 q)), (0, .ref (62)), (1, .int (nI (q))), (2, .int (v))]) dX10_becomes_6 (by decide) rfl ?_
  refine xr_iload_n dX10_becomes_7 0 rfl ?_
  refine xr_iload_n dX10_becomes_8 3 rfl ?_
  refine xr_icmp_ne (tgt := 14) dX10_becomes_9 rfl (fun c1 => ?_) (fun c1 => ?_)
  · refine xr_aload_n dX10_becomes_14 1 rfl ?_
    refine xb_get (v := nI (un)) flX10_91 dX10_becomes_15 s_62 rfl e_un ?_
    refine xr_bipush (v := 40) dX10_becomes_18 rfl ?_
    refine xr_icmp_ne (tgt := 97) dX10_becomes_20 rfl (fun c2 => ?_) (fun c2 => ?_)
    · have nc2 : ¬ (un = 40) := fun q => c2 ((nI_eq (a := un) (b := 40) (by omega) (by omega)).mpr q)
      have hun : un < 40 := by
        have h6 : un ≠ 40 := fun q => c2 (by rw [q]; rfl)
        omega
      refine xr_aload_n dX10_becomes_97 1 rfl ?_
      refine xr_getR flX10_13 dX10_becomes_98 s_62 rfl ?_
      refine xr_aload_n dX10_becomes_101 1 rfl ?_
      refine xb_get (v := nI (un)) flX10_91 dX10_becomes_102 s_62 rfl e_un ?_
      refine xr_iload_n dX10_becomes_105 2 rfl ?_
      refine xb_iast (j := un) dX10_becomes_106 s_64 (by omega) (by decide) ?_
      refine xr_aload_n dX10_becomes_107 1 rfl ?_
      refine xr_getR flX10_16 dX10_becomes_108 s_62 rfl ?_
      refine xr_aload_n dX10_becomes_111 1 rfl ?_
      refine xb_get (v := nI (un)) flX10_91 dX10_becomes_112 s_62 rfl (Eq.trans (congrFun (x_up_n _ _ _ (by decide)) _) e_un) ?_
      refine xr_iload_n dX10_becomes_115 0 rfl ?_
      refine xb_iast (j := un) dX10_becomes_116 s_65 (by omega) (by decide) ?_
      refine xr_aload_n dX10_becomes_117 1 rfl ?_
      refine xr_getR flX10_19 dX10_becomes_118 s_62 rfl ?_
      refine xr_aload_n dX10_becomes_121 1 rfl ?_
      refine xb_get (v := nI (un)) flX10_91 dX10_becomes_122 s_62 rfl (Eq.trans (congrFun (x_up_n _ _ _ (by decide)) _) (Eq.trans (congrFun (x_up_n _ _ _ (by decide)) _) e_un)) ?_
      refine xr_iload_n dX10_becomes_125 3 rfl ?_
      refine xb_iast (j := un) dX10_becomes_126 s_66 (by omega) (by decide) ?_
      refine xr_aload_n dX10_becomes_127 1 rfl ?_
      refine xr_dup dX10_becomes_128 rfl ?_
      refine xb_get (v := nI (un)) flX10_91 dX10_becomes_129 s_62 rfl (Eq.trans (congrFun (x_up_n _ _ _ (by decide)) _) (Eq.trans (congrFun (x_up_n _ _ _ (by decide)) _) (Eq.trans (congrFun (x_up_n _ _ _ (by decide)) _) e_un))) ?_
      refine xr_iconst (v := 1) dX10_becomes_132 rfl ?_
      refine xr_iadd dX10_becomes_133 ?_
      refine xb_top (y := nI (un + 1)) (nI_add (un) (1)) ?_
      refine xr_putI fpX10_91 dX10_becomes_134 s_62 rfl rfl rfl ?_
      refine xr_aload_n dX10_becomes_137 1 rfl ?_
      refine xr_aload_n dX10_becomes_138 1 rfl ?_
      refine xb_get (v := nI (un + 1)) flX10_91 dX10_becomes_139 s_62 rfl (x_up_s _ _ _ _) ?_
      refine xr_putI fpX10_94 dX10_becomes_142 s_62 rfl rfl rfl ?_
      refine xr_aload_n dX10_becomes_145 1 rfl ?_
      refine xr_getR flX10_9 dX10_becomes_146 s_62 rfl ?_
      refine xr_iload_n dX10_becomes_149 2 rfl ?_
      refine xr_iload_n dX10_becomes_150 3 rfl ?_
      refine xb_iast (j := q) dX10_becomes_151 s_63 hq (by decide) ?_
      refine xr_iload_n dX10_becomes_152 0 rfl ?_
      exact xr_iret dX10_becomes_153 rfl rfl (⟨_, rfl, rfl, rfl, (Ke.up (Or.inr (Or.inr (by omega))) (Ke.up (Or.inl (by omega)) (Ke.up (Or.inr (Or.inl (by omega))) (Ke.up (Or.inr (Or.inr (by omega))) (Ke.up (Or.inr (Or.inr (by omega))) (Ke.up (Or.inr (Or.inr (by omega))) Ke.rf)))))), ⟨⟨un + 1, un + 1, by omega, by omega, (Eq.trans (congrFun (x_up_n _ _ _ (by decide)) _) (Eq.trans (x_up_k _ _ _ (by decide)) (x_up_s _ _ _ _))), (Eq.trans (congrFun (x_up_n _ _ _ (by decide)) _) (x_up_s _ _ _ _))⟩, CH_n (by decide) (CH_n (by decide) (CH_n (by decide) (CH_new hq (fun z => ⟨hwas z, hv0 z⟩) hch))), x_up_s _ _ _ _, fun j hj => (x_up_k _ _ _ hj).trans ((Eq.trans (congrFun (x_up_n _ _ _ (by omega)) _) (Eq.trans (congrFun (x_up_n _ _ _ (by omega)) _) (Eq.trans (congrFun (x_up_n _ _ _ (by omega)) _) (Eq.trans (congrFun (x_up_n _ _ _ (by omega)) _) (Eq.trans (congrFun (x_up_n _ _ _ (by omega)) _) rfl))))))⟩⟩)
    · have nc2 : un = 40 := (nI_eq (a := un) (b := 40) (by omega) (by omega)).mp c2
      refine xr_iconst (v := 1) dX10_becomes_23 rfl ?_
      refine xr_istore (ls2 := [(4, .int (1)), (3, .int (M 63 q)), (0, .ref (62)), (1, .int (nI (q))), (2, .int (v))]) dX10_becomes_24 (by decide) rfl ?_
      have h40 : un = 40 := (nI_eq (a := un) (b := 40) (by omega) (by decide)).mp c2
      obtain rfl := h40
      refine xb_ls (ls2 := [(4, .int (nI (0 + 1))), (3, .int (M 63 q)), (2, .int (v)), (1, .int (nI (q))), (0, .ref (62))]) [0, 1, 4, 3, 2] rfl ?_
      refine bec_l (q := q) (fun M3 k4 hch2 => ?_) 39 0 M (by omega) Ke.rf hch
      refine xr_aload_n dX10_becomes_87 3 rfl ?_
      refine xr_dup dX10_becomes_88 rfl ?_
      refine xb_get (v := nI (39 + 1)) flX10_91 dX10_becomes_89 s_62 rfl (Eq.trans (k4 62 5 (by decide)) e_un) ?_
      refine xr_iconst (v := 1) dX10_becomes_92 rfl ?_
      refine xr_isub dX10_becomes_93 ?_
      refine xb_top (y := nI 39) (nI_pred 39) ?_
      refine xr_putI fpX10_91 dX10_becomes_94 s_62 rfl rfl rfl ?_
      refine xr_aload_n dX10_becomes_97 3 rfl ?_
      refine xr_getR flX10_13 dX10_becomes_98 s_62 rfl ?_
      refine xr_aload_n dX10_becomes_101 3 rfl ?_
      refine xb_get (v := nI (39)) flX10_91 dX10_becomes_102 s_62 rfl (x_up_s _ _ _ _) ?_
      refine xr_iload_n dX10_becomes_105 2 rfl ?_
      refine xb_iast (j := 39) dX10_becomes_106 s_64 (by omega) (by decide) ?_
      refine xr_aload_n dX10_becomes_107 3 rfl ?_
      refine xr_getR flX10_16 dX10_becomes_108 s_62 rfl ?_
      refine xr_aload_n dX10_becomes_111 3 rfl ?_
      refine xb_get (v := nI (39)) flX10_91 dX10_becomes_112 s_62 rfl (Eq.trans (congrFun (x_up_n _ _ _ (by decide)) _) (x_up_s _ _ _ _)) ?_
      refine xr_iload_n dX10_becomes_115 0 rfl ?_
      refine xb_iast (j := 39) dX10_becomes_116 s_65 (by omega) (by decide) ?_
      refine xr_aload_n dX10_becomes_117 3 rfl ?_
      refine xr_getR flX10_19 dX10_becomes_118 s_62 rfl ?_
      refine xr_aload_n dX10_becomes_121 3 rfl ?_
      refine xb_get (v := nI (39)) flX10_91 dX10_becomes_122 s_62 rfl (Eq.trans (congrFun (x_up_n _ _ _ (by decide)) _) (Eq.trans (congrFun (x_up_n _ _ _ (by decide)) _) (x_up_s _ _ _ _))) ?_
      refine xr_iload_n dX10_becomes_125 1 rfl ?_
      refine xb_iast (j := 39) dX10_becomes_126 s_66 (by omega) (by decide) ?_
      refine xr_aload_n dX10_becomes_127 3 rfl ?_
      refine xr_dup dX10_becomes_128 rfl ?_
      refine xb_get (v := nI (39)) flX10_91 dX10_becomes_129 s_62 rfl (Eq.trans (congrFun (x_up_n _ _ _ (by decide)) _) (Eq.trans (congrFun (x_up_n _ _ _ (by decide)) _) (Eq.trans (congrFun (x_up_n _ _ _ (by decide)) _) (x_up_s _ _ _ _)))) ?_
      refine xr_iconst (v := 1) dX10_becomes_132 rfl ?_
      refine xr_iadd dX10_becomes_133 ?_
      refine xb_top (y := nI (39 + 1)) (nI_add (39) (1)) ?_
      refine xr_putI fpX10_91 dX10_becomes_134 s_62 rfl rfl rfl ?_
      refine xr_aload_n dX10_becomes_137 3 rfl ?_
      refine xr_aload_n dX10_becomes_138 3 rfl ?_
      refine xb_get (v := nI (39 + 1)) flX10_91 dX10_becomes_139 s_62 rfl (x_up_s _ _ _ _) ?_
      refine xr_putI fpX10_94 dX10_becomes_142 s_62 rfl rfl rfl ?_
      refine xr_aload_n dX10_becomes_145 3 rfl ?_
      refine xr_getR flX10_9 dX10_becomes_146 s_62 rfl ?_
      refine xr_iload_n dX10_becomes_149 2 rfl ?_
      refine xr_iload_n dX10_becomes_150 1 rfl ?_
      refine xb_iast (j := q) dX10_becomes_151 s_63 hq (by decide) ?_
      refine xr_iload_n dX10_becomes_152 0 rfl ?_
      exact xr_iret dX10_becomes_153 rfl rfl (⟨_, rfl, rfl, rfl, (Ke.up (Or.inr (Or.inr (by omega))) (Ke.up (Or.inl (by omega)) (Ke.up (Or.inr (Or.inl (by omega))) (Ke.up (Or.inr (Or.inr (by omega))) (Ke.up (Or.inr (Or.inr (by omega))) (Ke.up (Or.inr (Or.inr (by omega))) (Ke.up (Or.inr (Or.inl (by omega))) (Ke.tr (fun pp kk h => (Or.inr (Or.inr (by omega)))) Ke.rf k4)))))))), ⟨⟨39 + 1, 39 + 1, by omega, by omega, (Eq.trans (congrFun (x_up_n _ _ _ (by decide)) _) (Eq.trans (x_up_k _ _ _ (by decide)) (x_up_s _ _ _ _))), (Eq.trans (congrFun (x_up_n _ _ _ (by decide)) _) (x_up_s _ _ _ _))⟩, CH_n (by decide) (CH_n (by decide) (CH_n (by decide) (CH_new hq (fun z => ⟨hwas z, hv0 z⟩) (CH_n (by decide) hch2)))), x_up_s _ _ _ _, fun j hj => (x_up_k _ _ _ hj).trans ((Eq.trans (congrFun (x_up_n _ _ _ (by omega)) _) (Eq.trans (congrFun (x_up_n _ _ _ (by omega)) _) (Eq.trans (congrFun (x_up_n _ _ _ (by omega)) _) (Eq.trans (congrFun (x_up_n _ _ _ (by omega)) _) (Eq.trans (congrFun (x_up_n _ _ _ (by omega)) _) (Eq.trans (congrFun (x_up_n _ _ _ (by omega)) _) (Eq.trans (k4 63 j (by unfold WBL; omega)) rfl))))))))⟩⟩)
  · refine xr_iload_n dX10_becomes_12 0 rfl ?_
    exact xr_iret dX10_becomes_13 rfl rfl (⟨_, rfl, rfl, rfl, Ke.rf, ⟨⟨un, wn, h_uw, h_wn, e_un, e_wn⟩, hch, c1, fun _ _ => rfl⟩⟩)
theorem sx_sub10 (j : Nat) : nI (10 + j) - 10 = nI j := by rw [show nI (10 + j) = nI j + nI 10 by rw [nI_add, Nat.add_comm], show nI 10 = (10 : Int32) from rfl, Int32.add_sub_cancel]
theorem sx_sub3 (j : Nat) : nI (15 + j) - 3 = nI (12 + j) := by rw [show nI (15 + j) = nI (12 + j) + nI 3 by rw [nI_add]; congr 1; omega, show nI 3 = (3 : Int32) from rfl, Int32.add_sub_cancel]
theorem sx_sub10b (j : Nat) : nI (15 + j) - 10 = nI (5 + j) := by rw [show nI (15 + j) = nI (5 + j) + nI 10 by rw [nI_add]; congr 1; omega, show nI 10 = (10 : Int32) from rfl, Int32.add_sub_cancel]
theorem sx_ten {q : Nat} (hq : q < 20) (h : 10 ≤ nI q ∧ nI q ≤ 14) : ∃ j : Nat, j < 5 ∧ q = 10 + j := by
  have h1 := (nI_leI (a := 10) (b := q) (by decide) (by omega)).mp h.1
  have h2 := (nI_leI (a := q) (b := 14) (by omega) (by decide)).mp h.2
  exact ⟨q - 10, by omega, by omega⟩
/-- what laying does to the settings -/
def LY (M M2 : xM) (q : Nat) (v : Int32) : Prop := ∃ w : Int32, (w = v ∨ 10 ≤ q ∧ q ≤ 14) ∧ M2 63 q = w ∧ ∀ j, j ≠ q → M2 63 j = M 63 j
theorem ly_w {M M2 : xM} {q hn : Nat} {v : Int32} (h : LY M M2 q v) (h5 : hn ≤ 5) (hne : (5 ≤ q ∧ q < 10 ∨ q = 16) → v ≠ 0) (hw : ∀ k, k < hn → M 63 (5 + k) ≠ 0) : ∀ k, k < hn → M2 63 (5 + k) ≠ 0 := fun k hk => by
  obtain ⟨w, h1, h2, h3⟩ := h
  by_cases e : 5 + k = q
  · rw [e, h2]
    rcases h1 with r | r
    · rw [r]; exact hne (by omega)
    · exact absurd r (by omega)
  · rw [h3 _ e]; exact hw k hk
theorem ly_b {M M2 : xM} {q : Nat} {v : Int32} (h : LY M M2 q v) (hne : (5 ≤ q ∧ q < 10 ∨ q = 16) → v ≠ 0) (hb : M 63 16 ≠ 0) : M2 63 16 ≠ 0 := by
  obtain ⟨w, h1, h2, h3⟩ := h
  by_cases e : 16 = q
  · rw [e, h2]
    rcases h1 with r | r
    · rw [r]; exact hne (by omega)
    · exact absurd r (by omega)
  · rw [h3 _ e]; exact hb
abbrev W63 (p k : Nat) : Prop := (p = 63)
set_option maxRecDepth 100000 in
set_option maxHeartbeats 4000000 in
theorem g_X10_lays {q : Nat} (hq : q < 20) (v : Int32) {l : Launch} {G : xG} {M : xM} {J : xJ} : x_M l G fX10_lays 1 0 0 [.ref (62), .int (nI (q)), .int (v)] x_SH M J (qKV W63 M J (fun M2 => LY M M2 q v)) := by
  refine xb_of pX10 (Nat.le_of_ble_eq_true rfl) rfl ?_
  refine xr_iload_n dX10_lays_0 1 rfl ?_
  refine xr_i2l dX10_lays_1 ?_
  refine xr_ldc2 coX10_97 dX10_lays_2 ?_
  refine xr_ldc2 coX10_99 dX10_lays_5 ?_
  refine xb_cS (As := [.long ((nI (q)).toInt64), .long (10), .long (14)]) (rest := []) mlX10_101 (c_within32 (nI (q)) (10) (14) (by decide) (by decide)) dX10_lays_8 rfl rfl (Nat.le_of_ble_eq_true rfl) (by decide) (by decide) ?_
  refine xb_beq (tgt := 30) dX10_lays_11 rfl (fun c1 => ?_) (fun c1 => ?_)
  · refine xr_iconst (v := 0) dX10_lays_30 rfl ?_
    refine xr_istore_n (ls2 := [(3, .int (0)), (0, .ref (62)), (1, .int (nI (q))), (2, .int (v))]) dX10_lays_31 (by decide) rfl ?_
    refine xr_aload_n dX10_lays_32 1 rfl ?_
    refine xr_getR flX10_9 dX10_lays_33 s_62 rfl ?_
    refine xr_iload_n dX10_lays_36 2 rfl ?_
    refine xr_iload_n dX10_lays_37 0 rfl ?_
    refine xr_if_eq (tgt := 45) dX10_lays_38 rfl (fun _ => ?_) (fun c => absurd (by decide) c)
    refine xr_iload_n dX10_lays_45 3 rfl ?_
    refine xb_iast (j := q) dX10_lays_46 s_63 hq (by decide) ?_
    exact xr_vret dX10_lays_47 rfl (⟨rfl, rfl, rfl, (Ke.up (by omega) Ke.rf), ⟨_, Or.inl rfl, x_up_s _ _ _ _, fun j2 hj2 => x_up_k _ _ _ hj2⟩⟩)
  · obtain ⟨j, hj, rfl⟩ := sx_ten hq c1
    refine xr_aload_n dX10_lays_14 0 rfl ?_
    refine xr_getR flX10_25 dX10_lays_15 s_62 rfl ?_
    refine xr_iload_n dX10_lays_18 1 rfl ?_
    refine xr_bipush (v := 10) dX10_lays_19 rfl ?_
    refine xr_isub dX10_lays_21 ?_
    refine xb_top (y := nI j) (sx_sub10 j) ?_
    refine xb_iald (j := j) (v := M 68 j) dX10_lays_22 s_68 (by omega) (by decide) rfl ?_
    refine xr_if_ne (tgt := 30) dX10_lays_23 rfl (fun c2 => ?_) (fun c2 => ?_)
    · refine xr_iconst (v := 0) dX10_lays_30 rfl ?_
      refine xr_istore_n (ls2 := [(3, .int (0)), (0, .ref (62)), (1, .int (nI (10 + j))), (2, .int (v))]) dX10_lays_31 (by decide) rfl ?_
      refine xr_aload_n dX10_lays_32 1 rfl ?_
      refine xr_getR flX10_9 dX10_lays_33 s_62 rfl ?_
      refine xr_iload_n dX10_lays_36 2 rfl ?_
      refine xr_iload_n dX10_lays_37 0 rfl ?_
      refine xr_if_eq (tgt := 45) dX10_lays_38 rfl (fun _ => ?_) (fun c => absurd (by decide) c)
      refine xr_iload_n dX10_lays_45 3 rfl ?_
      refine xb_iast (j := 10 + j) dX10_lays_46 s_63 (by omega) (by decide) ?_
      exact xr_vret dX10_lays_47 rfl (⟨rfl, rfl, rfl, (Ke.up (by omega) Ke.rf), ⟨_, Or.inl rfl, x_up_s _ _ _ _, fun j2 hj2 => x_up_k _ _ _ hj2⟩⟩)
    · refine xr_iconst (v := 1) dX10_lays_26 rfl ?_
      refine xr_goto (tgt := 31) dX10_lays_27 rfl ?_
      refine xr_istore_n (ls2 := [(3, .int (1)), (0, .ref (62)), (1, .int (nI (10 + j))), (2, .int (v))]) dX10_lays_31 (by decide) rfl ?_
      refine xr_aload_n dX10_lays_32 1 rfl ?_
      refine xr_getR flX10_9 dX10_lays_33 s_62 rfl ?_
      refine xr_iload_n dX10_lays_36 2 rfl ?_
      refine xr_iload_n dX10_lays_37 0 rfl ?_
      refine xr_if_eq (tgt := 45) dX10_lays_38 rfl (fun c => absurd c (by decide)) (fun _ => ?_)
      refine xr_iconst (v := 0) dX10_lays_41 rfl ?_
      refine xr_goto (tgt := 46) dX10_lays_42 rfl ?_
      refine xb_iast (j := 10 + j) dX10_lays_46 s_63 (by omega) (by decide) ?_
      exact xr_vret dX10_lays_47 rfl (⟨rfl, rfl, rfl, (Ke.up (by omega) Ke.rf), ⟨_, Or.inr ⟨by omega, by omega⟩, x_up_s _ _ _ _, fun j2 hj2 => x_up_k _ _ _ hj2⟩⟩)
abbrev WUD (p k : Nat) : Prop := (p = 62 ∧ k = 5) ∨ (p = 63)
abbrev WMR (p k : Nat) : Prop := (p = 62 ∧ k = 4) ∨ (p = 62 ∧ k = 5) ∨ (63 ≤ p ∧ p ≤ 66)
theorem bw_w {M M2 : xM} {q hn : Nat} {v : Int32} (h1 : M2 63 q = v) (h2 : ∀ j, j ≠ q → M2 63 j = M 63 j) (hne : (5 ≤ q ∧ q < 10 ∨ q = 16) → v ≠ 0) (h5 : hn ≤ 5) (hw : ∀ k, k < hn → M 63 (5 + k) ≠ 0) : ∀ k, k < hn → M2 63 (5 + k) ≠ 0 := fun k hk => by
  by_cases e : 5 + k = q
  · rw [e, h1]; exact hne (by omega)
  · rw [h2 _ e]; exact hw k hk
theorem bw_b {M M2 : xM} {q : Nat} {v : Int32} (h1 : M2 63 q = v) (h2 : ∀ j, j ≠ q → M2 63 j = M 63 j) (hne : (5 ≤ q ∧ q < 10 ∨ q = 16) → v ≠ 0) (hb : M 63 16 ≠ 0) : M2 63 16 ≠ 0 := by
  by_cases e : 16 = q
  · rw [e, h1]; exact hne (by omega)
  · rw [h2 _ e]; exact hb
