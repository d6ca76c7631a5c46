theorem dX6_holdRow_17 : decode cX6_holdRow 17 = .ok (.iload_n 3, 1) := by decide +kernel
theorem dX6_holdRow_18 : decode cX6_holdRow 18 = .ok (.bipush 60, 2) := by decide +kernel
theorem dX6_holdRow_20 : decode cX6_holdRow 20 = .ok (.if_icmp .ge 16, 3) := by decide +kernel
theorem dX6_holdRow_36 : decode cX6_holdRow 36 = .ok (.return_, 1) := by decide +kernel
theorem dX6_holdRow_23 : decode cX6_holdRow 23 = .ok (.aload_n 0, 1) := by decide +kernel
theorem dX6_holdRow_24 : decode cX6_holdRow 24 = .ok (.getfield 9, 3) := by decide +kernel
theorem dX6_holdRow_27 : decode cX6_holdRow 27 = .ok (.iload_n 3, 1) := by decide +kernel
theorem dX6_holdRow_28 : decode cX6_holdRow 28 = .ok (.lconst 0, 1) := by decide +kernel
theorem dX6_holdRow_29 : decode cX6_holdRow 29 = .ok (.lastore, 1) := by decide +kernel
theorem dX6_holdRow_30 : decode cX6_holdRow 30 = .ok (.iinc 3 1, 3) := by decide +kernel
theorem dX6_holdRow_33 : decode cX6_holdRow 33 = .ok (.goto (-16), 3) := by decide +kernel
theorem dX6_holdRow_0 : decode cX6_holdRow 0 = .ok (.aload_n 0, 1) := by decide +kernel
theorem dX6_holdRow_1 : decode cX6_holdRow 1 = .ok (.iconst 2, 1) := by decide +kernel
theorem dX6_holdRow_2 : decode cX6_holdRow 2 = .ok (.putfield 15, 3) := by decide +kernel
theorem dX6_holdRow_5 : decode cX6_holdRow 5 = .ok (.aload_n 0, 1) := by decide +kernel
theorem dX6_holdRow_6 : decode cX6_holdRow 6 = .ok (.iload_n 1, 1) := by decide +kernel
theorem dX6_holdRow_7 : decode cX6_holdRow 7 = .ok (.putfield 23, 3) := by decide +kernel
theorem dX6_holdRow_10 : decode cX6_holdRow 10 = .ok (.aload_n 0, 1) := by decide +kernel
theorem dX6_holdRow_11 : decode cX6_holdRow 11 = .ok (.iload_n 2, 1) := by decide +kernel
theorem dX6_holdRow_12 : decode cX6_holdRow 12 = .ok (.putfield 26, 3) := by decide +kernel
theorem dX6_holdRow_15 : decode cX6_holdRow 15 = .ok (.iconst 0, 1) := by decide +kernel
theorem dX6_holdRow_16 : decode cX6_holdRow 16 = .ok (.istore_n 3, 1) := by decide +kernel
theorem dX6_lay_0 : decode cX6_lay 0 = .ok (.aload_n 0, 1) := by decide +kernel
theorem dX6_lay_1 : decode cX6_lay 1 = .ok (.getfield 23, 3) := by decide +kernel
theorem dX6_lay_4 : decode cX6_lay 4 = .ok (.tableswitch 94 0 4 #[36, 49, 62, 94, 74], 36) := by decide +kernel
theorem dX6_lay_40 : decode cX6_lay 40 = .ok (.aload_n 0, 1) := by decide +kernel
theorem dX6_lay_41 : decode cX6_lay 41 = .ok (.getfield 9, 3) := by decide +kernel
theorem dX6_lay_44 : decode cX6_lay 44 = .ok (.iload_n 1, 1) := by decide +kernel
theorem dX6_lay_45 : decode cX6_lay 45 = .ok (.lload_n 2, 1) := by decide +kernel
theorem dX6_lay_46 : decode cX6_lay 46 = .ok (.l2i, 1) := by decide +kernel
theorem dX6_lay_47 : decode cX6_lay 47 = .ok (.i2b, 1) := by decide +kernel
theorem dX6_lay_48 : decode cX6_lay 48 = .ok (.i2l, 1) := by decide +kernel
theorem dX6_lay_49 : decode cX6_lay 49 = .ok (.lastore, 1) := by decide +kernel
theorem dX6_lay_50 : decode cX6_lay 50 = .ok (.goto 55, 3) := by decide +kernel
theorem dX6_lay_105 : decode cX6_lay 105 = .ok (.return_, 1) := by decide +kernel
theorem dX6_lay_53 : decode cX6_lay 53 = .ok (.aload_n 0, 1) := by decide +kernel
theorem dX6_lay_54 : decode cX6_lay 54 = .ok (.getfield 9, 3) := by decide +kernel
theorem dX6_lay_57 : decode cX6_lay 57 = .ok (.iload_n 1, 1) := by decide +kernel
theorem dX6_lay_58 : decode cX6_lay 58 = .ok (.lload_n 2, 1) := by decide +kernel
theorem dX6_lay_59 : decode cX6_lay 59 = .ok (.l2i, 1) := by decide +kernel
theorem dX6_lay_60 : decode cX6_lay 60 = .ok (.i2s, 1) := by decide +kernel
theorem dX6_lay_61 : decode cX6_lay 61 = .ok (.i2l, 1) := by decide +kernel
theorem dX6_lay_62 : decode cX6_lay 62 = .ok (.lastore, 1) := by decide +kernel
theorem dX6_lay_63 : decode cX6_lay 63 = .ok (.goto 42, 3) := by decide +kernel
theorem dX6_lay_66 : decode cX6_lay 66 = .ok (.aload_n 0, 1) := by decide +kernel
theorem dX6_lay_67 : decode cX6_lay 67 = .ok (.getfield 9, 3) := by decide +kernel
theorem dX6_lay_70 : decode cX6_lay 70 = .ok (.iload_n 1, 1) := by decide +kernel
theorem dX6_lay_71 : decode cX6_lay 71 = .ok (.lload_n 2, 1) := by decide +kernel
theorem dX6_lay_72 : decode cX6_lay 72 = .ok (.l2i, 1) := by decide +kernel
theorem dX6_lay_73 : decode cX6_lay 73 = .ok (.i2l, 1) := by decide +kernel
theorem dX6_lay_74 : decode cX6_lay 74 = .ok (.lastore, 1) := by decide +kernel
theorem dX6_lay_75 : decode cX6_lay 75 = .ok (.goto 30, 3) := by decide +kernel
theorem dX6_lay_98 : decode cX6_lay 98 = .ok (.aload_n 0, 1) := by decide +kernel
theorem dX6_lay_99 : decode cX6_lay 99 = .ok (.getfield 9, 3) := by decide +kernel
theorem dX6_lay_102 : decode cX6_lay 102 = .ok (.iload_n 1, 1) := by decide +kernel
theorem dX6_lay_103 : decode cX6_lay 103 = .ok (.lload_n 2, 1) := by decide +kernel
theorem dX6_lay_104 : decode cX6_lay 104 = .ok (.lastore, 1) := by decide +kernel
theorem dX6_lay_78 : decode cX6_lay 78 = .ok (.aload_n 0, 1) := by decide +kernel
theorem dX6_lay_79 : decode cX6_lay 79 = .ok (.getfield 9, 3) := by decide +kernel
theorem dX6_lay_82 : decode cX6_lay 82 = .ok (.iload_n 1, 1) := by decide +kernel
theorem dX6_lay_83 : decode cX6_lay 83 = .ok (.lload_n 2, 1) := by decide +kernel
theorem dX6_lay_84 : decode cX6_lay 84 = .ok (.lconst 0, 1) := by decide +kernel
theorem dX6_lay_85 : decode cX6_lay 85 = .ok (.lcmp, 1) := by decide +kernel
theorem dX6_lay_86 : decode cX6_lay 86 = .ok (.ifCond .eq 7, 3) := by decide +kernel
theorem dX6_lay_93 : decode cX6_lay 93 = .ok (.lconst 0, 1) := by decide +kernel
theorem dX6_lay_94 : decode cX6_lay 94 = .ok (.lastore, 1) := by decide +kernel
theorem dX6_lay_95 : decode cX6_lay 95 = .ok (.goto 10, 3) := by decide +kernel
theorem dX6_lay_89 : decode cX6_lay 89 = .ok (.lconst 1, 1) := by decide +kernel
theorem dX6_lay_90 : decode cX6_lay 90 = .ok (.goto 4, 3) := by decide +kernel
theorem dX3_copy_0 : decode cX3_copy 0 = .ok (.aload_n 0, 1) := by decide +kernel
theorem dX3_copy_1 : decode cX3_copy 1 = .ok (.aload_n 1, 1) := by decide +kernel
theorem dX3_copy_2 : decode cX3_copy 2 = .ok (.getfield 24, 3) := by decide +kernel
theorem dX3_copy_5 : decode cX3_copy 5 = .ok (.putfield 24, 3) := by decide +kernel
theorem dX3_copy_8 : decode cX3_copy 8 = .ok (.aload_n 1, 1) := by decide +kernel
theorem dX3_copy_9 : decode cX3_copy 9 = .ok (.getfield 11, 3) := by decide +kernel
theorem dX3_copy_12 : decode cX3_copy 12 = .ok (.iconst 0, 1) := by decide +kernel
theorem dX3_copy_13 : decode cX3_copy 13 = .ok (.aload_n 0, 1) := by decide +kernel
theorem dX3_copy_14 : decode cX3_copy 14 = .ok (.getfield 11, 3) := by decide +kernel
theorem dX3_copy_17 : decode cX3_copy 17 = .ok (.iconst 0, 1) := by decide +kernel
theorem dX3_copy_18 : decode cX3_copy 18 = .ok (.sipush 128, 3) := by decide +kernel
theorem dX3_copy_21 : decode cX3_copy 21 = .ok (.invokestatic 28, 3) := by decide +kernel
theorem dX3_copy_24 : decode cX3_copy 24 = .ok (.aload_n 1, 1) := by decide +kernel
theorem dX3_copy_25 : decode cX3_copy 25 = .ok (.getfield 15, 3) := by decide +kernel
theorem dX3_copy_28 : decode cX3_copy 28 = .ok (.iconst 0, 1) := by decide +kernel
theorem dX3_copy_29 : decode cX3_copy 29 = .ok (.aload_n 0, 1) := by decide +kernel
theorem dX3_copy_30 : decode cX3_copy 30 = .ok (.getfield 15, 3) := by decide +kernel
theorem dX3_copy_33 : decode cX3_copy 33 = .ok (.iconst 0, 1) := by decide +kernel
theorem dX3_copy_34 : decode cX3_copy 34 = .ok (.sipush 128, 3) := by decide +kernel
theorem dX3_copy_37 : decode cX3_copy 37 = .ok (.invokestatic 28, 3) := by decide +kernel
theorem dX3_copy_40 : decode cX3_copy 40 = .ok (.return_, 1) := by decide +kernel
def qRow (M : xM) (J : xJ) (el : Nat) : xQ := fun v s M2 J2 => v = none ∧ s = x_SH ∧ M = M2 ∧ (∀ p, p ≠ el → J2 p = J p) ∧ ∀ j, j < 60 → J2 el j = 0
theorem x_upJ_s (J : xJ) (p k : Nat) (v : Int64) : x_upJ J p k v p k = v := by rw [x_upJ_r]; simp [vp_updL]
theorem x_upJ_k (J : xJ) (p : Nat) {k j : Nat} (v : Int64) (h : j ≠ k) : x_upJ J p k v p j = J p j := by rw [x_upJ_r]; simp [vp_updL, h]
set_option maxRecDepth 100000 in
set_option maxHeartbeats 4000000 in
theorem hr_l {sq el : Nat} (hs : x_SH[sq]? = some (.inl (6, [none, none, none, none, some (some el)]))) (hel : x_SH[el]? = some (.inr (2, 60, fun _ => none))) {l : Launch} {G : xG} {M : xM} {J : xJ} {n so : Int32} : ∀ (m k : Nat) (J1 : xJ), k + m = 60 → (∀ p, p ≠ el → J1 p = J p) → (∀ j, j < k → J1 el j = 0) → x_X l G fX6_holdRow 0 0 0 (qRow M J el) 17 [(3, .int (nI (k))), (2, .int (n)), (1, .int (so)), (0, .ref (sq))] [] x_SH M J1 0 0 := by
  intro m
  induction m with
  | zero =>
    intro k J1 hk hJ hZ
    refine xr_iload_n dX6_holdRow_17 0 rfl ?_
    refine xr_bipush (v := 60) dX6_holdRow_18 rfl ?_
    refine xr_icmp_ge (tgt := 36) dX6_holdRow_20 rfl (fun _ => ?_) (fun c => absurd (nI_le (a := 60) (b := k) (by omega) (by omega)) c)
    exact xr_vret dX6_holdRow_36 rfl (⟨rfl, rfl, rfl, hJ, fun j hj => hZ j (by omega)⟩)
  | succ m ih =>
    intro k J1 hk hJ hZ
    refine xr_iload_n dX6_holdRow_17 0 rfl ?_
    refine xr_bipush (v := 60) dX6_holdRow_18 rfl ?_
    refine xr_icmp_ge (tgt := 36) dX6_holdRow_20 rfl (fun c => absurd c (nI_ge (a := k) (b := 60) (by omega) (by omega))) (fun _ => ?_)
    refine xr_aload_n dX6_holdRow_23 3 rfl ?_
    refine xr_getR flX6_9 dX6_holdRow_24 hs rfl ?_
    refine xr_iload_n dX6_holdRow_27 0 rfl ?_
    refine xr_lconst (v := 0) dX6_holdRow_28 rfl ?_
    refine xb_last (j := k) dX6_holdRow_29 hel (by omega) (by decide) ?_
    refine xr_iinc (v := nI (k + 1)) (ls2 := [(3, .int (nI (k + 1))), (2, .int (n)), (1, .int (so)), (0, .ref (sq))]) dX6_holdRow_30 0 rfl (nI_1 _) (by decide) rfl ?_
    refine xr_goto (tgt := 17) dX6_holdRow_33 rfl ?_
    refine xb_ls (ls2 := [(3, .int (nI (k + 1))), (2, .int (n)), (1, .int (so)), (0, .ref (sq))]) [0, 1, 2, 3] rfl ?_
    refine ih (k + 1) _ (by omega) (fun p hp => (x_upJ_n J1 k 0 hp).trans (hJ p hp)) (fun j hj => ?_)
    by_cases h : j = k
    · subst h; exact x_upJ_s _ _ _ _
    · rw [x_upJ_k _ _ _ h]; exact hZ j (by omega)
set_option maxRecDepth 100000 in
set_option maxHeartbeats 4000000 in
theorem g_X6_holdRow (so n : Int32) {sq el : Nat} (hs : x_SH[sq]? = some (.inl (6, [none, none, none, none, some (some el)]))) (hel : x_SH[el]? = some (.inr (2, 60, fun _ => none))) {l : Launch} {G : xG} {M : xM} {J : xJ} : x_M l G fX6_holdRow 0 0 0 [.ref (sq), .int (so), .int (n)] x_SH M J (qRow (x_up (x_up (x_up M sq 0 2) sq 2 so) sq 3 n) J el) := by
  refine xb_of pX6 (Nat.le_of_ble_eq_true rfl) rfl ?_
  refine xr_aload_n dX6_holdRow_0 0 rfl ?_
  refine xr_iconst (v := 2) dX6_holdRow_1 rfl ?_
  refine xr_putI fpX6_15 dX6_holdRow_2 hs rfl rfl rfl ?_
  refine xr_aload_n dX6_holdRow_5 0 rfl ?_
  refine xr_iload_n dX6_holdRow_6 1 rfl ?_
  refine xr_putI fpX6_23 dX6_holdRow_7 hs rfl rfl rfl ?_
  refine xr_aload_n dX6_holdRow_10 0 rfl ?_
  refine xr_iload_n dX6_holdRow_11 2 rfl ?_
  refine xr_putI fpX6_26 dX6_holdRow_12 hs rfl rfl rfl ?_
  refine xr_iconst (v := 0) dX6_holdRow_15 rfl ?_
  refine xr_istore_n (ls2 := [(3, .int (0)), (0, .ref (sq)), (1, .int (so)), (2, .int (n))]) dX6_holdRow_16 (by decide) rfl ?_
  refine xb_ls (ls2 := [(3, .int (nI (0))), (2, .int (n)), (1, .int (so)), (0, .ref (sq))]) [0, 3, 2, 1] rfl ?_
  exact hr_l hs hel 60 0 J (by omega) (fun _ _ => rfl) (fun j hj => absurd hj (by omega))
theorem lc_v {M : xM} (h : ∀ k, k < 128 → M 10 k ≤ 100000) : ∀ k, k < 128 → va_cpy (M 10) (M 3) (Int32.toNatClampNeg 0) (Int32.toNatClampNeg 0) (Int32.toNatClampNeg 128) k ≤ 100000 := fun k hk => by
  have e : va_cpy (M 10) (M 3) (Int32.toNatClampNeg 0) (Int32.toNatClampNeg 0) (Int32.toNatClampNeg 128) k = M 10 k := by
    show (if 0 ≤ k ∧ k < 0 + 128 then M 10 (0 + (k - 0)) else M 3 k) = M 10 k
    rw [if_pos ⟨by omega, by omega⟩, show 0 + (k - 0) = k by omega]
  rw [e]; exact h k hk