set_option maxRecDepth 100000 in
set_option maxHeartbeats 4000000 in
theorem hsx10_l {d nm N i hn : Nat} (hd : d < 6) (hnm : nm ≤ 60) (hN : N ≤ 5) (hi : i < 2 ^ 31) {E : Nat → Int64} {l : Launch} {G : xG} {M : xM} {J : xJ} {Q : xQ} (e_nm : M 84 d = nI nm) (hE : ∀ j, j < 60 → J 85 (60 * d + j) = E j) (T : Nat × xM) (hC : ∀ (M2 : xM), Ke WAD M M2 → (M2 62 6 = nI (hn + T.1) ∧ (∀ k2, k2 < hn + T.1 → M2 63 (5 + k2) ≠ 0) ∧ M2 63 16 ≠ 0) → AbS (hn + T.1) M2 T.2 → (∀ j, 15 ≤ j → M2 63 j = M 63 j) → Q (some (.int (nI T.1))) x_SH M2 J) : ∀ (m k : Nat) (D1 M1 : xM), k + m = N → Ke WAD M M1 → hn + k ≤ 5 → (M1 62 6 = nI (hn + k) ∧ (∀ k2, k2 < hn + k → M1 63 (5 + k2) ≠ 0) ∧ M1 63 16 ≠ 0) → AbS (hn + k) M1 D1 → (∀ j, 15 ≤ j → M1 63 j = M 63 j) → hsA E nm hn i (N - k) k D1 = T → x_X l G fX10_hoops 2 0 0 Q 69 [(5, .int (1)), (4, .int (nI (k))), (3, .int (nI (N))), (2, .int (nI (i))), (1, .int (nI (d))), (0, .ref (62))] [] x_SH M1 J 0 0 := by
  intro m
  induction m with
  | zero =>
    intro k D1 M1 hk hM h5k hI1 hA1 h15 hT
    obtain ⟨e_hn, hw, hbt⟩ := hI1
    refine xr_iload dX10_hoops_69 0 rfl ?_
    refine xr_if_eq (tgt := 211) dX10_hoops_71 rfl (fun c => absurd c (by decide)) (fun _ => ?_)
    refine xr_iload dX10_hoops_74 1 rfl ?_
    refine xr_iload_n dX10_hoops_76 2 rfl ?_
    refine xr_icmp_ge (tgt := 211) dX10_hoops_77 rfl (fun _ => ?_) (fun c => absurd (nI_le (a := N) (b := k) (by omega) (by omega)) c)
    refine xr_iload dX10_hoops_211 1 rfl ?_
    exact xr_iret dX10_hoops_213 rfl rfl ((by obtain rfl : k = N := (by omega); rw [Nat.sub_self] at hT; obtain rfl := (show (k, D1) = T from hT); exact hC _ hM ⟨e_hn, hw, hbt⟩ hA1 h15))
  | succ m ih =>
    intro k D1 M1 hk hM h5k hI1 hA1 h15 hT
    obtain ⟨e_hn, hw, hbt⟩ := hI1
    have hkN : k < N := by omega
    refine xr_iload dX10_hoops_69 0 rfl ?_
    refine xr_if_eq (tgt := 211) dX10_hoops_71 rfl (fun c => absurd c (by decide)) (fun _ => ?_)
    refine xr_iload dX10_hoops_74 1 rfl ?_
    refine xr_iload_n dX10_hoops_76 2 rfl ?_
    refine xr_icmp_ge (tgt := 211) dX10_hoops_77 rfl (fun c => absurd c (nI_ge (a := k) (b := N) (by omega) (by omega))) (fun _ => ?_)
    refine xr_iload_n dX10_hoops_80 3 rfl ?_
    refine xr_aload_n dX10_hoops_81 5 rfl ?_
    refine xr_getR flX10_78 dX10_hoops_82 s_62 rfl ?_
    refine xr_iload_n dX10_hoops_85 4 rfl ?_
    refine xb_iald (j := d) (v := nI (nm)) dX10_hoops_86 s_84 hd (by decide) (Eq.trans (hM 84 d (by unfold WAD; omega)) e_nm) ?_
    refine xr_iconst (v := 3) dX10_hoops_87 rfl ?_
    refine xr_isub dX10_hoops_88 ?_
    refine xr_iconst (v := 3) dX10_hoops_89 rfl ?_
    refine xr_iload dX10_hoops_90 1 rfl ?_
    refine xr_imul dX10_hoops_92 ?_
    refine xb_top (y := nI (3 * k)) (nI_mulc 3 k) ?_
    refine xr_isub dX10_hoops_93 ?_
    refine xr_icmp_gt (tgt := 109) dX10_hoops_94 rfl (fun c1 => ?_) (fun c1 => ?_)
    · refine xr_iconst (v := 0) dX10_hoops_109 rfl ?_
      refine xr_istore (ls2 := [(5, .int (0)), (4, .int (nI (k))), (3, .int (nI (N))), (2, .int (nI (i))), (1, .int (nI (d))), (0, .ref (62))]) dX10_hoops_110 (by decide) rfl ?_
      refine xr_bipush (v := 60) dX10_hoops_112 rfl ?_
      refine xr_iload_n dX10_hoops_114 4 rfl ?_
      refine xr_imul dX10_hoops_115 ?_
      refine xb_top (y := nI (60 * d)) (nI_mulc 60 d) ?_
      refine xr_iload_n dX10_hoops_116 3 rfl ?_
      refine xr_iadd dX10_hoops_117 ?_
      refine xb_top (y := nI (60 * d + i)) (nI_add (60 * d) (i)) ?_
      refine xr_iconst (v := 3) dX10_hoops_118 rfl ?_
      refine xr_iload dX10_hoops_119 1 rfl ?_
      refine xr_imul dX10_hoops_121 ?_
      refine xb_top (y := nI (3 * k)) (nI_mulc 3 k) ?_
      refine xr_iadd dX10_hoops_122 ?_
      refine xb_top (y := nI (60 * d + i + 3 * k)) (nI_add (60 * d + i) (3 * k)) ?_
      refine xr_istore (ls2 := [(6, .int (nI (60 * d + i + 3 * k))), (5, .int (0)), (4, .int (nI (k))), (3, .int (nI (N))), (2, .int (nI (i))), (1, .int (nI (d))), (0, .ref (62))]) dX10_hoops_123 (by decide) rfl ?_
      refine xr_iload dX10_hoops_125 1 rfl ?_
      refine xr_if_eq (tgt := 165) dX10_hoops_127 rfl (fun _ => ?_) (fun c => absurd (by decide) c)
      refine xr_iconst (v := 0) dX10_hoops_165 rfl ?_
      refine xr_istore (ls2 := [(5, .int (0)), (6, .int (nI (60 * d + i + 3 * k))), (4, .int (nI (k))), (3, .int (nI (N))), (2, .int (nI (i))), (1, .int (nI (d))), (0, .ref (62))]) dX10_hoops_166 (by decide) rfl ?_
      refine xr_iload dX10_hoops_168 0 rfl ?_
      refine xr_if_eq (tgt := 208) dX10_hoops_170 rfl (fun _ => ?_) (fun c => absurd (by decide) c)
      refine xr_goto (tgt := 69) dX10_hoops_208 rfl ?_
      refine xr_iload dX10_hoops_69 0 rfl ?_
      refine xr_if_eq (tgt := 211) dX10_hoops_71 rfl (fun _ => ?_) (fun c => absurd (by decide) c)
      refine xr_iload dX10_hoops_211 2 rfl ?_
      exact xr_iret dX10_hoops_213 rfl rfl ((by obtain rfl := (hsA_n hkN (fun z => absurd c1 (sx_hpn hnm z.1.1))).symm.trans hT; exact hC _ hM ⟨e_hn, hw, hbt⟩ hA1 h15))
    · refine xr_aload_n dX10_hoops_97 5 rfl ?_
      refine xb_get (v := nI (hn + k)) flX10_109 dX10_hoops_98 s_62 rfl e_hn ?_
      refine xr_iconst (v := 5) dX10_hoops_101 rfl ?_
      refine xr_icmp_ge (tgt := 109) dX10_hoops_102 rfl (fun c2 => ?_) (fun c2 => ?_)
      · refine xr_iconst (v := 0) dX10_hoops_109 rfl ?_
        refine xr_istore (ls2 := [(5, .int (0)), (4, .int (nI (k))), (3, .int (nI (N))), (2, .int (nI (i))), (1, .int (nI (d))), (0, .ref (62))]) dX10_hoops_110 (by decide) rfl ?_
        refine xr_bipush (v := 60) dX10_hoops_112 rfl ?_
        refine xr_iload_n dX10_hoops_114 4 rfl ?_
        refine xr_imul dX10_hoops_115 ?_
        refine xb_top (y := nI (60 * d)) (nI_mulc 60 d) ?_
        refine xr_iload_n dX10_hoops_116 3 rfl ?_
        refine xr_iadd dX10_hoops_117 ?_
        refine xb_top (y := nI (60 * d + i)) (nI_add (60 * d) (i)) ?_
        refine xr_iconst (v := 3) dX10_hoops_118 rfl ?_
        refine xr_iload dX10_hoops_119 1 rfl ?_
        refine xr_imul dX10_hoops_121 ?_
        refine xb_top (y := nI (3 * k)) (nI_mulc 3 k) ?_
        refine xr_iadd dX10_hoops_122 ?_
        refine xb_top (y := nI (60 * d + i + 3 * k)) (nI_add (60 * d + i) (3 * k)) ?_
        refine xr_istore (ls2 := [(6, .int (nI (60 * d + i + 3 * k))), (5, .int (0)), (4, .int (nI (k))), (3, .int (nI (N))), (2, .int (nI (i))), (1, .int (nI (d))), (0, .ref (62))]) dX10_hoops_123 (by decide) rfl ?_
        refine xr_iload dX10_hoops_125 1 rfl ?_
        refine xr_if_eq (tgt := 165) dX10_hoops_127 rfl (fun _ => ?_) (fun c => absurd (by decide) c)
        refine xr_iconst (v := 0) dX10_hoops_165 rfl ?_
        refine xr_istore (ls2 := [(5, .int (0)), (6, .int (nI (60 * d + i + 3 * k))), (4, .int (nI (k))), (3, .int (nI (N))), (2, .int (nI (i))), (1, .int (nI (d))), (0, .ref (62))]) dX10_hoops_166 (by decide) rfl ?_
        refine xr_iload dX10_hoops_168 0 rfl ?_
        refine xr_if_eq (tgt := 208) dX10_hoops_170 rfl (fun _ => ?_) (fun c => absurd (by decide) c)
        refine xr_goto (tgt := 69) dX10_hoops_208 rfl ?_
        refine xr_iload dX10_hoops_69 0 rfl ?_
        refine xr_if_eq (tgt := 211) dX10_hoops_71 rfl (fun _ => ?_) (fun c => absurd (by decide) c)
        refine xr_iload dX10_hoops_211 2 rfl ?_
        exact xr_iret dX10_hoops_213 rfl rfl ((by obtain rfl := (hsA_n hkN (fun z => absurd z.2 (by have h6 := (nI_leI (a := 5) (b := hn + k) (by decide) (by omega)).mp c2; omega))).symm.trans hT; exact hC _ hM ⟨e_hn, hw, hbt⟩ hA1 h15))
      · have hin := sx_hps hnm hi (by omega) c1
        have h5 : hn + k < 5 := by
          have h6 : ¬ 5 ≤ hn + k := fun q => c2 ((nI_leI (a := 5) (b := hn + k) (by decide) (by omega)).mpr q)
          omega
        have e0 : J 85 (60 * d + i + 3 * k) = E (i + 3 * k) := (congrArg (J 85) (by omega)).trans (hE (i + 3 * k) (by omega))
        have e1 : J 85 (60 * d + i + 3 * k + 1) = E (i + 3 * k + 1) := (congrArg (J 85) (by omega)).trans (hE (i + 3 * k + 1) (by omega))
        have e2 : J 85 (60 * d + i + 3 * k + 2) = E (i + 3 * k + 2) := (congrArg (J 85) (by omega)).trans (hE (i + 3 * k + 2) (by omega))
        refine xr_iconst (v := 1) dX10_hoops_105 rfl ?_
        refine xr_goto (tgt := 110) dX10_hoops_106 rfl ?_
        refine xr_istore (ls2 := [(5, .int (1)), (4, .int (nI (k))), (3, .int (nI (N))), (2, .int (nI (i))), (1, .int (nI (d))), (0, .ref (62))]) dX10_hoops_110 (by decide) rfl ?_
        refine xr_bipush (v := 60) dX10_hoops_112 rfl ?_
        refine xr_iload_n dX10_hoops_114 4 rfl ?_
        refine xr_imul dX10_hoops_115 ?_
        refine xb_top (y := nI (60 * d)) (nI_mulc 60 d) ?_
        refine xr_iload_n dX10_hoops_116 3 rfl ?_
        refine xr_iadd dX10_hoops_117 ?_
        refine xb_top (y := nI (60 * d + i)) (nI_add (60 * d) (i)) ?_
        refine xr_iconst (v := 3) dX10_hoops_118 rfl ?_
        refine xr_iload dX10_hoops_119 1 rfl ?_
        refine xr_imul dX10_hoops_121 ?_
        refine xb_top (y := nI (3 * k)) (nI_mulc 3 k) ?_
        refine xr_iadd dX10_hoops_122 ?_
        refine xb_top (y := nI (60 * d + i + 3 * k)) (nI_add (60 * d + i) (3 * k)) ?_
        refine xr_istore (ls2 := [(6, .int (nI (60 * d + i + 3 * k))), (5, .int (1)), (4, .int (nI (k))), (3, .int (nI (N))), (2, .int (nI (i))), (1, .int (nI (d))), (0, .ref (62))]) dX10_hoops_123 (by decide) rfl ?_
        refine xr_iload dX10_hoops_125 1 rfl ?_
        refine xr_if_eq (tgt := 165) dX10_hoops_127 rfl (fun c => absurd c (by decide)) (fun _ => ?_)
        refine xr_aload_n dX10_hoops_130 6 rfl ?_
        refine xr_getR flX10_81 dX10_hoops_131 s_62 rfl ?_
        refine xr_iload dX10_hoops_134 0 rfl ?_
        refine xb_lald (j := 60 * d + i + 3 * k) (v := J 85 (60 * d + i + 3 * k)) dX10_hoops_136 s_85 (by omega) (by decide) rfl ?_
        refine xr_aload_n dX10_hoops_137 6 rfl ?_
        refine xr_getR flX10_81 dX10_hoops_138 s_62 rfl ?_
        refine xr_iload dX10_hoops_141 0 rfl ?_
        refine xr_iconst (v := 1) dX10_hoops_143 rfl ?_
        refine xr_iadd dX10_hoops_144 ?_
        refine xb_top (y := nI (60 * d + i + 3 * k + 1)) (nI_add (60 * d + i + 3 * k) (1)) ?_
        refine xb_lald (j := 60 * d + i + 3 * k + 1) (v := J 85 (60 * d + i + 3 * k + 1)) dX10_hoops_145 s_85 (by omega) (by decide) rfl ?_
        refine xr_aload_n dX10_hoops_146 6 rfl ?_
        refine xr_getR flX10_81 dX10_hoops_147 s_62 rfl ?_
        refine xr_iload dX10_hoops_150 0 rfl ?_
        refine xr_iconst (v := 2) dX10_hoops_152 rfl ?_
        refine xr_iadd dX10_hoops_153 ?_
        refine xb_top (y := nI (60 * d + i + 3 * k + 2)) (nI_add (60 * d + i + 3 * k) (2)) ?_
        refine xb_lald (j := 60 * d + i + 3 * k + 2) (v := J 85 (60 * d + i + 3 * k + 2)) dX10_hoops_154 s_85 (by omega) (by decide) rfl ?_
        refine xr_callS (As := [.long (J 85 (60 * d + i + 3 * k)), .long (J 85 (60 * d + i + 3 * k + 1)), .long (J 85 (60 * d + i + 3 * k + 2))]) (rest := []) mlX10_118 (gs_X10_isOne (J 85 (60 * d + i + 3 * k)) (J 85 (60 * d + i + 3 * k + 1)) (J 85 (60 * d + i + 3 * k + 2))) dX10_hoops_155 rfl rfl (Nat.le_of_ble_eq_true rfl) (by decide) ⟨by decide, by decide⟩ (fun v s2 M9 J2 hq => ?_)
        obtain ⟨r4, rfl, rfl, rfl, rfl, hx3⟩ := hq
        try dsimp only [Option.toList, List.cons_append, List.nil_append]
        refine xr_if_eq (tgt := 165) dX10_hoops_158 rfl (fun c5 => ?_) (fun c5 => ?_)
        · refine xr_iconst (v := 0) dX10_hoops_165 rfl ?_
          refine xr_istore (ls2 := [(5, .int (0)), (6, .int (nI (60 * d + i + 3 * k))), (4, .int (nI (k))), (3, .int (nI (N))), (2, .int (nI (i))), (1, .int (nI (d))), (0, .ref (62))]) dX10_hoops_166 (by decide) rfl ?_
          refine xr_iload dX10_hoops_168 0 rfl ?_
          refine xr_if_eq (tgt := 208) dX10_hoops_170 rfl (fun _ => ?_) (fun c => absurd (by decide) c)
          refine xr_goto (tgt := 69) dX10_hoops_208 rfl ?_
          refine xr_iload dX10_hoops_69 0 rfl ?_
          refine xr_if_eq (tgt := 211) dX10_hoops_71 rfl (fun _ => ?_) (fun c => absurd (by decide) c)
          refine xr_iload dX10_hoops_211 2 rfl ?_
          exact xr_iret dX10_hoops_213 rfl rfl ((by obtain rfl := (hsA_n hkN (fun z => one_n hx3 c5 (by rw [e0, e1, e2]; exact z.1.2))).symm.trans hT; exact hC _ hM ⟨e_hn, hw, hbt⟩ hA1 h15))
        · refine xr_iconst (v := 1) dX10_hoops_161 rfl ?_
          refine xr_goto (tgt := 166) dX10_hoops_162 rfl ?_
          refine xr_istore (ls2 := [(5, .int (1)), (6, .int (nI (60 * d + i + 3 * k))), (4, .int (nI (k))), (3, .int (nI (N))), (2, .int (nI (i))), (1, .int (nI (d))), (0, .ref (62))]) dX10_hoops_166 (by decide) rfl ?_
          refine xr_iload dX10_hoops_168 0 rfl ?_
          refine xr_if_eq (tgt := 208) dX10_hoops_170 rfl (fun c => absurd c (by decide)) (fun _ => ?_)
          refine xr_aload_n dX10_hoops_173 6 rfl ?_
          refine xr_aload_n dX10_hoops_174 6 rfl ?_
          refine xr_getR flX10_81 dX10_hoops_175 s_62 rfl ?_
          refine xr_iload dX10_hoops_178 1 rfl ?_
          refine xb_lald (j := 60 * d + i + 3 * k) (v := J 85 (60 * d + i + 3 * k)) dX10_hoops_180 s_85 (by omega) (by decide) rfl ?_
          refine xr_l2i dX10_hoops_181 ?_
          refine xr_aload_n dX10_hoops_182 6 rfl ?_
          refine xr_getR flX10_81 dX10_hoops_183 s_62 rfl ?_
          refine xr_iload dX10_hoops_186 1 rfl ?_
          refine xr_iconst (v := 1) dX10_hoops_188 rfl ?_
          refine xr_iadd dX10_hoops_189 ?_
          refine xb_top (y := nI (60 * d + i + 3 * k + 1)) (nI_add (60 * d + i + 3 * k) (1)) ?_
          refine xb_lald (j := 60 * d + i + 3 * k + 1) (v := J 85 (60 * d + i + 3 * k + 1)) dX10_hoops_190 s_85 (by omega) (by decide) rfl ?_
          refine xr_l2i dX10_hoops_191 ?_
          refine xr_aload_n dX10_hoops_192 6 rfl ?_
          refine xr_getR flX10_81 dX10_hoops_193 s_62 rfl ?_
          refine xr_iload dX10_hoops_196 1 rfl ?_
          refine xr_iconst (v := 2) dX10_hoops_198 rfl ?_
          refine xr_iadd dX10_hoops_199 ?_
          refine xb_top (y := nI (60 * d + i + 3 * k + 2)) (nI_add (60 * d + i + 3 * k) (2)) ?_
          refine xb_lald (j := 60 * d + i + 3 * k + 2) (v := J 85 (60 * d + i + 3 * k + 2)) dX10_hoops_200 s_85 (by omega) (by decide) rfl ?_
          refine xr_l2i dX10_hoops_201 ?_
          refine xr_callV (As := [.int ((J 85 (60 * d + i + 3 * k)).toInt32), .int ((J 85 (60 * d + i + 3 * k + 1)).toInt32), .int ((J 85 (60 * d + i + 3 * k + 2)).toInt32)]) (rest := []) mlX10_121 (gw_X10_adds ((J 85 (60 * d + i + 3 * k)).toInt32) ((J 85 (60 * d + i + 3 * k + 1)).toInt32) ((J 85 (60 * d + i + 3 * k + 2)).toInt32) (D := D1) (hn := hn + k) h5 e_hn (sx_n0J (one_y hx3 c5).2.1) hw hbt hA1) dX10_hoops_202 s_62 rfl rfl (Nat.le_of_ble_eq_true rfl) (by decide) ⟨by decide, by decide⟩ (fun v s2 M7 J2 hq => ?_)
          obtain ⟨rfl, rfl, rfl, k8, hx6⟩ := hq
          try dsimp only [Option.toList, List.cons_append, List.nil_append]
          refine xr_iinc (v := nI (k + 1)) (ls2 := [(4, .int (nI (k + 1))), (5, .int (1)), (6, .int (nI (60 * d + i + 3 * k))), (3, .int (nI (N))), (2, .int (nI (i))), (1, .int (nI (d))), (0, .ref (62))]) dX10_hoops_205 2 rfl (nI_1 _) (by decide) rfl ?_
          refine xr_goto (tgt := 69) dX10_hoops_208 rfl ?_
          refine xb_ls (ls2 := [(5, .int (1)), (4, .int (nI (k + 1))), (3, .int (nI (N))), (2, .int (nI (i))), (1, .int (nI (d))), (0, .ref (62))]) [1, 0, 3, 4, 5, 6] rfl ?_
          exact ih (k + 1) _ M7 (by omega) (Ke.tr (fun _ _ h => h) hM k8) (by omega) ⟨hx6.1, hx6.2.1, hx6.2.2.1⟩ (by rw [← e0, ← e1, ← e2]; exact hx6.2.2.2.1) (fun j hj => (hx6.2.2.2.2 j hj).trans (h15 j hj)) ((hsA_y hkN ⟨⟨hin, by rw [← e0, ← e1, ← e2]; exact one_y hx3 c5⟩, h5⟩).trans hT)
set_option maxRecDepth 100000 in
set_option maxHeartbeats 4000000 in
theorem gx_X10_hoops {nh : Nat} {D : xM} {t : Option zL} {S : Nat → Int32} {G9 : xQs} (d i nn : Int32) {l : Launch} {G : xG} {M : xM} {J : xJ} (hI : InvR M) (hWG : WG nh D S) (hG : RG M nh D t S) (hSh : RSh M J G9) (hWS : WSh G9) : x_M l G fX10_hoops 2 0 0 [.ref (62), .int (d), .int (i), .int (nn)] x_SH M J (qKI WAD M J (fun r M2 => InvR M2 ∧ (EHs RG nh D t S G9 M2 d i nn r))) := by
  refine xb_of pX10 (Nat.le_of_ble_eq_true rfl) rfl ?_
  obtain ⟨⟨hn, h_hn, e_hn, hw⟩, hbt, ⟨un, wn, h_uw, h_wn, e_un, e_wn⟩, hch, ⟨n, h_n, e_n⟩, htx, ⟨b, h_b, e_b⟩, hkd, ⟨ra, h_ra, e_ra⟩, hsl, ⟨ic, h_ic, e_ic⟩, hS⟩ := hI
  have hG0 := hG
  obtain ⟨hn5, hW, hrub, hbeat⟩ := hWG
  obtain ⟨hGn, hA, hL, e_nw, e_rub, e_bt, e_ph, e_st, e_kn, e_pu, e_lf⟩ := hG
  obtain rfl : nh = hn := (nI_eq (by omega) (by omega)).mp (hGn.symm.trans e_hn)
  have hbt2 : ¬ S 2 = 0 := ne2_0 hbeat.1
  refine xr_iload_n dX10_hoops_0 1 rfl ?_
  refine xb_cS (As := [.int (d)]) (rest := []) mlX10_125 (c_X10_isShelf d) dX10_hoops_1 rfl rfl (Nat.le_of_ble_eq_true rfl) (by decide) (by decide) ?_
  refine xb_beq (tgt := 19) dX10_hoops_4 rfl (fun c1 => ?_) (fun c1 => ?_)
  · refine xr_iconst (v := -1) dX10_hoops_19 rfl ?_
    exact xr_iret dX10_hoops_20 rfl rfl (⟨_, rfl, rfl, rfl, Ke.rf, ⟨⟨⟨nh, by omega, e_hn, (fun kw hkw => by rw [show M 63 (5 + kw) = M 63 (5 + kw) from rfl]; exact hw kw hkw)⟩, (by rw [show M 63 16 = M 63 16 from rfl]; exact hbt), ⟨un, wn, by omega, by omega, e_un, e_wn⟩, (fun kk hkk => by rw [show M 64 kk = M 64 kk from rfl, show M 65 kk = M 65 kk from rfl, show M 66 kk = M 66 kk from rfl]; exact hch kk hkk), ⟨n, by omega, e_n⟩, (by rw [show M 62 13 = M 62 13 from rfl]; exact htx), ⟨b, by omega, e_b⟩, (fun j hj => by obtain ⟨q, hq, eq⟩ := hkd j hj; exact ⟨q, hq, (show M 81 j = M 81 j from rfl).trans eq⟩), ⟨ra, by omega, e_ra⟩, (fun j hj => by rw [show M 83 j = M 83 j from rfl, show M 84 j = M 84 j from rfl]; exact hsl j hj), ⟨ic, by omega, e_ic⟩, (fun j hj => by obtain ⟨q, hq, eq⟩ := hS j hj; exact ⟨q, hq, (show M 75 j = M 75 j from rfl).trans eq⟩)⟩, (Or.inl ⟨(fun z => c1 z.1), rfl, hG0⟩)⟩⟩)
  · obtain ⟨d_, hd_, rfl⟩ := x_natle (N := 5) (by decide) rfl c1
    replace hd_ := Nat.lt_succ_of_le hd_
    refine xr_iload_n dX10_hoops_7 3 rfl ?_
    refine xr_i2l dX10_hoops_8 ?_
    refine xr_lconst (v := 1) dX10_hoops_9 rfl ?_
    refine xr_ldc2 coX10_129 dX10_hoops_10 ?_
    refine xb_cS (As := [.long ((nn).toInt64), .long (1), .long (5)]) (rest := []) mlX10_101 (c_within32 (nn) (1) (5) (by decide) (by decide)) dX10_hoops_13 rfl rfl (Nat.le_of_ble_eq_true rfl) (by decide) (by decide) ?_
    refine xb_bne (tgt := 21) dX10_hoops_16 rfl (fun c2 => ?_) (fun c2 => ?_)
    · obtain ⟨hLL, e_s, hE, hkx⟩ := hSh d_ hd_
      obtain ⟨N, hN, rfl⟩ := x_natle (v := nn) (N := 5) (K := 5) (by decide) (by decide) ⟨by grind, c2.2⟩
      refine xr_aload_n dX10_hoops_21 0 rfl ?_
      refine xr_getR flX10_75 dX10_hoops_22 s_62 rfl ?_
      refine xr_iload_n dX10_hoops_25 1 rfl ?_
      refine xb_iald (j := d_) (v := M 83 d_) dX10_hoops_26 s_83 hd_ (by decide) rfl ?_
      refine xr_if_lt (tgt := 44) dX10_hoops_27 rfl (fun c3 => ?_) (fun c3 => ?_)
      · refine xr_iconst (v := 0) dX10_hoops_44 rfl ?_
        refine xr_istore (ls2 := [(4, .int (0)), (0, .ref (62)), (1, .int (nI (d_))), (2, .int (i)), (3, .int (nI (N)))]) dX10_hoops_45 (by decide) rfl ?_
        refine xr_aload_n dX10_hoops_47 1 rfl ?_
        refine xr_getR flX10_75 dX10_hoops_48 s_62 rfl ?_
        refine xr_iload_n dX10_hoops_51 2 rfl ?_
        refine xb_iald (j := d_) (v := M 83 d_) dX10_hoops_52 s_83 hd_ (by decide) rfl ?_
        refine xr_bipush (v := 50) dX10_hoops_53 rfl ?_
        refine xr_icmp_ne (tgt := 66) dX10_hoops_55 rfl (fun c4 => ?_) (fun c4 => ?_)
        · refine xr_iconst (v := 0) dX10_hoops_66 rfl ?_
          refine xr_istore (ls2 := [(5, .int (0)), (4, .int (0)), (0, .ref (62)), (1, .int (nI (d_))), (2, .int (i)), (3, .int (nI (N)))]) dX10_hoops_67 (by decide) rfl ?_
          refine xr_iload dX10_hoops_69 0 rfl ?_
          refine xr_if_eq (tgt := 211) dX10_hoops_71 rfl (fun _ => ?_) (fun c => absurd (by decide) c)
          refine xr_iload dX10_hoops_211 1 rfl ?_
          exact xr_iret dX10_hoops_213 rfl rfl (⟨_, rfl, rfl, rfl, Ke.rf, ⟨⟨⟨nh, by omega, e_hn, (fun kw hkw => by rw [show M 63 (5 + kw) = M 63 (5 + kw) from rfl]; exact hw kw hkw)⟩, (by rw [show M 63 16 = M 63 16 from rfl]; exact hbt), ⟨un, wn, by omega, by omega, e_un, e_wn⟩, (fun kk hkk => by rw [show M 64 kk = M 64 kk from rfl, show M 65 kk = M 65 kk from rfl, show M 66 kk = M 66 kk from rfl]; exact hch kk hkk), ⟨n, by omega, e_n⟩, (by rw [show M 62 13 = M 62 13 from rfl]; exact htx), ⟨b, by omega, e_b⟩, (fun j hj => by obtain ⟨q, hq, eq⟩ := hkd j hj; exact ⟨q, hq, (show M 81 j = M 81 j from rfl).trans eq⟩), ⟨ra, by omega, e_ra⟩, (fun j hj => by rw [show M 83 j = M 83 j from rfl, show M 84 j = M 84 j from rfl]; exact hsl j hj), ⟨ic, by omega, e_ic⟩, (fun j hj => by obtain ⟨q, hq, eq⟩ := hS j hj; exact ⟨q, hq, (show M 75 j = M 75 j from rfl).trans eq⟩)⟩, (Or.inr ⟨d_, N, hd_, by omega, ⟨c1, c2⟩, rfl, rfl, Or.inr ⟨(fun z2 => hkx.elim (fun y => absurd (y.1.symm.trans z2) (by decide)) (fun y => y.elim (fun y => absurd (y.1.symm.trans z2) (by decide)) (fun y => absurd y.2.1 (by grind)))), (by rw [hsT_n (fun z => hkx.elim (fun y => absurd (y.1.symm.trans z.1) (by decide)) (fun y => y.elim (fun y => c4 y.2) (fun y => absurd (y.1.symm.trans z.1) (by decide))))]; rfl), (by rw [hsT_n (fun z => hkx.elim (fun y => absurd (y.1.symm.trans z.1) (by decide)) (fun y => y.elim (fun y => c4 y.2) (fun y => absurd (y.1.symm.trans z.1) (by decide))))]; exact hG0)⟩⟩)⟩⟩)
        · refine xr_iload_n dX10_hoops_58 3 rfl ?_
          refine xr_if_lt (tgt := 66) dX10_hoops_59 rfl (fun c5 => ?_) (fun c5 => ?_)
          · refine xr_iconst (v := 0) dX10_hoops_66 rfl ?_
            refine xr_istore (ls2 := [(5, .int (0)), (4, .int (0)), (0, .ref (62)), (1, .int (nI (d_))), (2, .int (i)), (3, .int (nI (N)))]) dX10_hoops_67 (by decide) rfl ?_
            refine xr_iload dX10_hoops_69 0 rfl ?_
            refine xr_if_eq (tgt := 211) dX10_hoops_71 rfl (fun _ => ?_) (fun c => absurd (by decide) c)
            refine xr_iload dX10_hoops_211 1 rfl ?_
            exact xr_iret dX10_hoops_213 rfl rfl (⟨_, rfl, rfl, rfl, Ke.rf, ⟨⟨⟨nh, by omega, e_hn, (fun kw hkw => by rw [show M 63 (5 + kw) = M 63 (5 + kw) from rfl]; exact hw kw hkw)⟩, (by rw [show M 63 16 = M 63 16 from rfl]; exact hbt), ⟨un, wn, by omega, by omega, e_un, e_wn⟩, (fun kk hkk => by rw [show M 64 kk = M 64 kk from rfl, show M 65 kk = M 65 kk from rfl, show M 66 kk = M 66 kk from rfl]; exact hch kk hkk), ⟨n, by omega, e_n⟩, (by rw [show M 62 13 = M 62 13 from rfl]; exact htx), ⟨b, by omega, e_b⟩, (fun j hj => by obtain ⟨q, hq, eq⟩ := hkd j hj; exact ⟨q, hq, (show M 81 j = M 81 j from rfl).trans eq⟩), ⟨ra, by omega, e_ra⟩, (fun j hj => by rw [show M 83 j = M 83 j from rfl, show M 84 j = M 84 j from rfl]; exact hsl j hj), ⟨ic, by omega, e_ic⟩, (fun j hj => by obtain ⟨q, hq, eq⟩ := hS j hj; exact ⟨q, hq, (show M 75 j = M 75 j from rfl).trans eq⟩)⟩, (Or.inr ⟨d_, N, hd_, by omega, ⟨c1, c2⟩, rfl, rfl, Or.inr ⟨(fun z2 => hkx.elim (fun y => absurd (y.1.symm.trans z2) (by decide)) (fun y => y.elim (fun y => absurd (y.1.symm.trans z2) (by decide)) (fun y => absurd y.2.1 (by grind)))), (by rw [hsT_n (fun z => absurd z.2 (by grind))]; rfl), (by rw [hsT_n (fun z => absurd z.2 (by grind))]; exact hG0)⟩⟩)⟩⟩)
          · refine xr_iconst (v := 1) dX10_hoops_62 rfl ?_
            refine xr_goto (tgt := 67) dX10_hoops_63 rfl ?_
            refine xr_istore (ls2 := [(5, .int (1)), (4, .int (0)), (0, .ref (62)), (1, .int (nI (d_))), (2, .int (i)), (3, .int (nI (N)))]) dX10_hoops_67 (by decide) rfl ?_
            obtain ⟨i_, hi_, rfl⟩ := sx_nat0 c5
            refine xb_ls (ls2 := [(5, .int (1)), (4, .int (nI (0))), (3, .int (nI (N))), (2, .int (nI (i_))), (1, .int (nI (d_))), (0, .ref (62))]) [0, 1, 5, 4, 3, 2] rfl ?_
            have hk1 : (G9 d_).1 = 1 := by
              rcases hkx with ⟨-, bb9⟩ | ⟨a9, -⟩ | ⟨-, -, bb9⟩
              · exact absurd (c4 ▸ bb9) (by decide)
              · exact a9
              · exact absurd c4 bb9
            have eT : hsT G9 nh D d_ (nI i_) N = hsA (G9 d_).2.2 (G9 d_).2.1 nh i_ N 0 D := hsT_y hi_ hk1
            have hT5 : nh + (hsT G9 nh D d_ (nI i_) N).1 ≤ 5 ∧ WF (nh + (hsT G9 nh D d_ (nI i_) N).1) (hsT G9 nh D d_ (nI i_) N).2 := hsT_w hn5 hW
            refine hsx10_l (E := (G9 d_).2.2) hd_ hLL (by omega) hi_ e_s hE (hsT G9 nh D d_ (nI i_) N) (fun M2 hk hI2 hA2 h15 => ⟨_, rfl, rfl, rfl, hk, ⟨⟨⟨_, hT5.1, hI2.1, hI2.2.1⟩, hI2.2.2, ⟨un, wn, by omega, by omega, (Eq.trans (hk 62 5 (by decide)) e_un), (Eq.trans (hk 62 4 (by decide)) e_wn)⟩, (fun kk hkk => by rw [show M2 64 kk = M 64 kk from (Eq.trans (hk 64 kk (by unfold WAD; omega)) rfl), show M2 65 kk = M 65 kk from (Eq.trans (hk 65 kk (by unfold WAD; omega)) rfl), show M2 66 kk = M 66 kk from (Eq.trans (hk 66 kk (by unfold WAD; omega)) rfl)]; exact hch kk hkk), ⟨n, by omega, (Eq.trans (hk 62 11 (by decide)) e_n)⟩, (by rw [show M2 62 13 = M 62 13 from (Eq.trans (hk 62 13 (by unfold WAD; omega)) rfl)]; exact htx), ⟨b, by omega, (Eq.trans (hk 62 36 (by decide)) e_b)⟩, (fun j hj => by obtain ⟨q, hq, eq⟩ := hkd j hj; exact ⟨q, hq, (show M2 81 j = M 81 j from (Eq.trans (hk 81 j (by unfold WAD; omega)) rfl)).trans eq⟩), ⟨ra, by omega, (Eq.trans (hk 62 39 (by decide)) e_ra)⟩, (fun j hj => by rw [show M2 83 j = M 83 j from (Eq.trans (hk 83 j (by unfold WAD; omega)) rfl), show M2 84 j = M 84 j from (Eq.trans (hk 84 j (by unfold WAD; omega)) rfl)]; exact hsl j hj), ⟨ic, by omega, (Eq.trans (hk 62 34 (by decide)) e_ic)⟩, (fun j hj => by obtain ⟨q, hq, eq⟩ := hS j hj; exact ⟨q, hq, (show M2 75 j = M 75 j from (Eq.trans (hk 75 j (by unfold WAD; omega)) rfl)).trans eq⟩)⟩, Or.inr ⟨d_, N, hd_, by omega, ⟨c1, c2⟩, rfl, rfl, Or.inr ⟨(by rw [hk1]; decide), rfl, ⟨hI2.1, hA2, (LRt_k (Eq.trans (hk 62 13 (by unfold WAD; omega)) rfl) (Eq.trans (funext fun kk => hk 70 kk (by unfold WAD; omega)) rfl) hL), (Eq.trans (hk 62 9 (by decide)) e_nw), ((h15 15 (by decide)).trans e_rub), ((h15 16 (by decide)).trans e_bt), ((h15 17 (by decide)).trans e_ph), ((h15 18 (by decide)).trans e_st), ((h15 19 (by decide)).trans e_kn), (Eq.trans (hk 62 24 (by decide)) e_pu), (Eq.trans (hk 62 25 (by decide)) e_lf)⟩⟩⟩⟩⟩) N 0 D M (by omega) Ke.rf hn5 ⟨e_hn, hw_S hA hW, hbt⟩ hA (fun _ _ => rfl) eT.symm
      · refine xr_aload_n dX10_hoops_30 0 rfl ?_
        refine xr_getR flX10_75 dX10_hoops_31 s_62 rfl ?_
        refine xr_iload_n dX10_hoops_34 1 rfl ?_
        refine xb_iald (j := d_) (v := M 83 d_) dX10_hoops_35 s_83 hd_ (by decide) rfl ?_
        refine xr_bipush (v := 50) dX10_hoops_36 rfl ?_
        refine xr_icmp_eq (tgt := 44) dX10_hoops_38 rfl (fun c6 => ?_) (fun c6 => ?_)
        · refine xr_iconst (v := 0) dX10_hoops_44 rfl ?_
          refine xr_istore (ls2 := [(4, .int (0)), (0, .ref (62)), (1, .int (nI (d_))), (2, .int (i)), (3, .int (nI (N)))]) dX10_hoops_45 (by decide) rfl ?_
          refine xr_aload_n dX10_hoops_47 1 rfl ?_
          refine xr_getR flX10_75 dX10_hoops_48 s_62 rfl ?_
          refine xr_iload_n dX10_hoops_51 2 rfl ?_
          refine xb_iald (j := d_) (v := M 83 d_) dX10_hoops_52 s_83 hd_ (by decide) rfl ?_
          refine xr_bipush (v := 50) dX10_hoops_53 rfl ?_
          refine xr_icmp_ne (tgt := 66) dX10_hoops_55 rfl (fun c7 => ?_) (fun c7 => ?_)
          · refine xr_iconst (v := 0) dX10_hoops_66 rfl ?_
            refine xr_istore (ls2 := [(5, .int (0)), (4, .int (0)), (0, .ref (62)), (1, .int (nI (d_))), (2, .int (i)), (3, .int (nI (N)))]) dX10_hoops_67 (by decide) rfl ?_
            refine xr_iload dX10_hoops_69 0 rfl ?_
            refine xr_if_eq (tgt := 211) dX10_hoops_71 rfl (fun _ => ?_) (fun c => absurd (by decide) c)
            refine xr_iload dX10_hoops_211 1 rfl ?_
            exact xr_iret dX10_hoops_213 rfl rfl (⟨_, rfl, rfl, rfl, Ke.rf, ⟨⟨⟨nh, by omega, e_hn, (fun kw hkw => by rw [show M 63 (5 + kw) = M 63 (5 + kw) from rfl]; exact hw kw hkw)⟩, (by rw [show M 63 16 = M 63 16 from rfl]; exact hbt), ⟨un, wn, by omega, by omega, e_un, e_wn⟩, (fun kk hkk => by rw [show M 64 kk = M 64 kk from rfl, show M 65 kk = M 65 kk from rfl, show M 66 kk = M 66 kk from rfl]; exact hch kk hkk), ⟨n, by omega, e_n⟩, (by rw [show M 62 13 = M 62 13 from rfl]; exact htx), ⟨b, by omega, e_b⟩, (fun j hj => by obtain ⟨q, hq, eq⟩ := hkd j hj; exact ⟨q, hq, (show M 81 j = M 81 j from rfl).trans eq⟩), ⟨ra, by omega, e_ra⟩, (fun j hj => by rw [show M 83 j = M 83 j from rfl, show M 84 j = M 84 j from rfl]; exact hsl j hj), ⟨ic, by omega, e_ic⟩, (fun j hj => by obtain ⟨q, hq, eq⟩ := hS j hj; exact ⟨q, hq, (show M 75 j = M 75 j from rfl).trans eq⟩)⟩, (Or.inr ⟨d_, N, hd_, by omega, ⟨c1, c2⟩, rfl, rfl, Or.inr ⟨(fun z2 => hkx.elim (fun y => absurd (y.1.symm.trans z2) (by decide)) (fun y => y.elim (fun y => absurd (y.1.symm.trans z2) (by decide)) (fun y => absurd y.2.1 (by grind)))), (by rw [hsT_n (fun z => hkx.elim (fun y => absurd (y.1.symm.trans z.1) (by decide)) (fun y => y.elim (fun y => c7 y.2) (fun y => absurd (y.1.symm.trans z.1) (by decide))))]; rfl), (by rw [hsT_n (fun z => hkx.elim (fun y => absurd (y.1.symm.trans z.1) (by decide)) (fun y => y.elim (fun y => c7 y.2) (fun y => absurd (y.1.symm.trans z.1) (by decide))))]; exact hG0)⟩⟩)⟩⟩)
          · refine xr_iload_n dX10_hoops_58 3 rfl ?_
            refine xr_if_lt (tgt := 66) dX10_hoops_59 rfl (fun c8 => ?_) (fun c8 => ?_)
            · refine xr_iconst (v := 0) dX10_hoops_66 rfl ?_
              refine xr_istore (ls2 := [(5, .int (0)), (4, .int (0)), (0, .ref (62)), (1, .int (nI (d_))), (2, .int (i)), (3, .int (nI (N)))]) dX10_hoops_67 (by decide) rfl ?_
              refine xr_iload dX10_hoops_69 0 rfl ?_
              refine xr_if_eq (tgt := 211) dX10_hoops_71 rfl (fun _ => ?_) (fun c => absurd (by decide) c)
              refine xr_iload dX10_hoops_211 1 rfl ?_
              exact xr_iret dX10_hoops_213 rfl rfl (⟨_, rfl, rfl, rfl, Ke.rf, ⟨⟨⟨nh, by omega, e_hn, (fun kw hkw => by rw [show M 63 (5 + kw) = M 63 (5 + kw) from rfl]; exact hw kw hkw)⟩, (by rw [show M 63 16 = M 63 16 from rfl]; exact hbt), ⟨un, wn, by omega, by omega, e_un, e_wn⟩, (fun kk hkk => by rw [show M 64 kk = M 64 kk from rfl, show M 65 kk = M 65 kk from rfl, show M 66 kk = M 66 kk from rfl]; exact hch kk hkk), ⟨n, by omega, e_n⟩, (by rw [show M 62 13 = M 62 13 from rfl]; exact htx), ⟨b, by omega, e_b⟩, (fun j hj => by obtain ⟨q, hq, eq⟩ := hkd j hj; exact ⟨q, hq, (show M 81 j = M 81 j from rfl).trans eq⟩), ⟨ra, by omega, e_ra⟩, (fun j hj => by rw [show M 83 j = M 83 j from rfl, show M 84 j = M 84 j from rfl]; exact hsl j hj), ⟨ic, by omega, e_ic⟩, (fun j hj => by obtain ⟨q, hq, eq⟩ := hS j hj; exact ⟨q, hq, (show M 75 j = M 75 j from rfl).trans eq⟩)⟩, (Or.inr ⟨d_, N, hd_, by omega, ⟨c1, c2⟩, rfl, rfl, Or.inr ⟨(fun z2 => hkx.elim (fun y => absurd (y.1.symm.trans z2) (by decide)) (fun y => y.elim (fun y => absurd (y.1.symm.trans z2) (by decide)) (fun y => absurd y.2.1 (by grind)))), (by rw [hsT_n (fun z => absurd z.2 (by grind))]; rfl), (by rw [hsT_n (fun z => absurd z.2 (by grind))]; exact hG0)⟩⟩)⟩⟩)
            · refine xr_iconst (v := 1) dX10_hoops_62 rfl ?_
              refine xr_goto (tgt := 67) dX10_hoops_63 rfl ?_
              refine xr_istore (ls2 := [(5, .int (1)), (4, .int (0)), (0, .ref (62)), (1, .int (nI (d_))), (2, .int (i)), (3, .int (nI (N)))]) dX10_hoops_67 (by decide) rfl ?_
              obtain ⟨i_, hi_, rfl⟩ := sx_nat0 c8
              refine xb_ls (ls2 := [(5, .int (1)), (4, .int (nI (0))), (3, .int (nI (N))), (2, .int (nI (i_))), (1, .int (nI (d_))), (0, .ref (62))]) [0, 1, 5, 4, 3, 2] rfl ?_
              have hk1 : (G9 d_).1 = 1 := by
                rcases hkx with ⟨-, bb9⟩ | ⟨a9, -⟩ | ⟨-, -, bb9⟩
                · exact absurd (c7 ▸ bb9) (by decide)
                · exact a9
                · exact absurd c7 bb9
              have eT : hsT G9 nh D d_ (nI i_) N = hsA (G9 d_).2.2 (G9 d_).2.1 nh i_ N 0 D := hsT_y hi_ hk1
              have hT5 : nh + (hsT G9 nh D d_ (nI i_) N).1 ≤ 5 ∧ WF (nh + (hsT G9 nh D d_ (nI i_) N).1) (hsT G9 nh D d_ (nI i_) N).2 := hsT_w hn5 hW
              refine hsx10_l (E := (G9 d_).2.2) hd_ hLL (by omega) hi_ e_s hE (hsT G9 nh D d_ (nI i_) N) (fun M2 hk hI2 hA2 h15 => ⟨_, rfl, rfl, rfl, hk, ⟨⟨⟨_, hT5.1, hI2.1, hI2.2.1⟩, hI2.2.2, ⟨un, wn, by omega, by omega, (Eq.trans (hk 62 5 (by decide)) e_un), (Eq.trans (hk 62 4 (by decide)) e_wn)⟩, (fun kk hkk => by rw [show M2 64 kk = M 64 kk from (Eq.trans (hk 64 kk (by unfold WAD; omega)) rfl), show M2 65 kk = M 65 kk from (Eq.trans (hk 65 kk (by unfold WAD; omega)) rfl), show M2 66 kk = M 66 kk from (Eq.trans (hk 66 kk (by unfold WAD; omega)) rfl)]; exact hch kk hkk), ⟨n, by omega, (Eq.trans (hk 62 11 (by decide)) e_n)⟩, (by rw [show M2 62 13 = M 62 13 from (Eq.trans (hk 62 13 (by unfold WAD; omega)) rfl)]; exact htx), ⟨b, by omega, (Eq.trans (hk 62 36 (by decide)) e_b)⟩, (fun j hj => by obtain ⟨q, hq, eq⟩ := hkd j hj; exact ⟨q, hq, (show M2 81 j = M 81 j from (Eq.trans (hk 81 j (by unfold WAD; omega)) rfl)).trans eq⟩), ⟨ra, by omega, (Eq.trans (hk 62 39 (by decide)) e_ra)⟩, (fun j hj => by rw [show M2 83 j = M 83 j from (Eq.trans (hk 83 j (by unfold WAD; omega)) rfl), show M2 84 j = M 84 j from (Eq.trans (hk 84 j (by unfold WAD; omega)) rfl)]; exact hsl j hj), ⟨ic, by omega, (Eq.trans (hk 62 34 (by decide)) e_ic)⟩, (fun j hj => by obtain ⟨q, hq, eq⟩ := hS j hj; exact ⟨q, hq, (show M2 75 j = M 75 j from (Eq.trans (hk 75 j (by unfold WAD; omega)) rfl)).trans eq⟩)⟩, Or.inr ⟨d_, N, hd_, by omega, ⟨c1, c2⟩, rfl, rfl, Or.inr ⟨(by rw [hk1]; decide), rfl, ⟨hI2.1, hA2, (LRt_k (Eq.trans (hk 62 13 (by unfold WAD; omega)) rfl) (Eq.trans (funext fun kk => hk 70 kk (by unfold WAD; omega)) rfl) hL), (Eq.trans (hk 62 9 (by decide)) e_nw), ((h15 15 (by decide)).trans e_rub), ((h15 16 (by decide)).trans e_bt), ((h15 17 (by decide)).trans e_ph), ((h15 18 (by decide)).trans e_st), ((h15 19 (by decide)).trans e_kn), (Eq.trans (hk 62 24 (by decide)) e_pu), (Eq.trans (hk 62 25 (by decide)) e_lf)⟩⟩⟩⟩⟩) N 0 D M (by omega) Ke.rf hn5 ⟨e_hn, hw_S hA hW, hbt⟩ hA (fun _ _ => rfl) eT.symm
        · refine xr_bipush (v := -12) dX10_hoops_41 rfl ?_
          exact xr_iret dX10_hoops_43 rfl rfl (⟨_, rfl, rfl, rfl, Ke.rf, ⟨⟨⟨nh, by omega, e_hn, (fun kw hkw => by rw [show M 63 (5 + kw) = M 63 (5 + kw) from rfl]; exact hw kw hkw)⟩, (by rw [show M 63 16 = M 63 16 from rfl]; exact hbt), ⟨un, wn, by omega, by omega, e_un, e_wn⟩, (fun kk hkk => by rw [show M 64 kk = M 64 kk from rfl, show M 65 kk = M 65 kk from rfl, show M 66 kk = M 66 kk from rfl]; exact hch kk hkk), ⟨n, by omega, e_n⟩, (by rw [show M 62 13 = M 62 13 from rfl]; exact htx), ⟨b, by omega, e_b⟩, (fun j hj => by obtain ⟨q, hq, eq⟩ := hkd j hj; exact ⟨q, hq, (show M 81 j = M 81 j from rfl).trans eq⟩), ⟨ra, by omega, e_ra⟩, (fun j hj => by rw [show M 83 j = M 83 j from rfl, show M 84 j = M 84 j from rfl]; exact hsl j hj), ⟨ic, by omega, e_ic⟩, (fun j hj => by obtain ⟨q, hq, eq⟩ := hS j hj; exact ⟨q, hq, (show M 75 j = M 75 j from rfl).trans eq⟩)⟩, (Or.inr ⟨d_, N, hd_, by omega, ⟨c1, c2⟩, rfl, rfl, Or.inl ⟨((hkx.resolve_left (fun z => absurd z.2 (by grind))).resolve_left (fun z => absurd z.2 (by grind))).1, rfl, hG0⟩⟩)⟩⟩)
    · refine xr_iconst (v := -1) dX10_hoops_19 rfl ?_
      exact xr_iret dX10_hoops_20 rfl rfl (⟨_, rfl, rfl, rfl, Ke.rf, ⟨⟨⟨nh, by omega, e_hn, (fun kw hkw => by rw [show M 63 (5 + kw) = M 63 (5 + kw) from rfl]; exact hw kw hkw)⟩, (by rw [show M 63 16 = M 63 16 from rfl]; exact hbt), ⟨un, wn, by omega, by omega, e_un, e_wn⟩, (fun kk hkk => by rw [show M 64 kk = M 64 kk from rfl, show M 65 kk = M 65 kk from rfl, show M 66 kk = M 66 kk from rfl]; exact hch kk hkk), ⟨n, by omega, e_n⟩, (by rw [show M 62 13 = M 62 13 from rfl]; exact htx), ⟨b, by omega, e_b⟩, (fun j hj => by obtain ⟨q, hq, eq⟩ := hkd j hj; exact ⟨q, hq, (show M 81 j = M 81 j from rfl).trans eq⟩), ⟨ra, by omega, e_ra⟩, (fun j hj => by rw [show M 83 j = M 83 j from rfl, show M 84 j = M 84 j from rfl]; exact hsl j hj), ⟨ic, by omega, e_ic⟩, (fun j hj => by obtain ⟨q, hq, eq⟩ := hS j hj; exact ⟨q, hq, (show M 75 j = M 75 j from rfl).trans eq⟩)⟩, (Or.inl ⟨(fun z => c2 z.2), rfl, hG0⟩)⟩⟩)
