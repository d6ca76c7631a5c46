theorem dX1_draw_0 : decode cX1_draw 0 = .ok (.aload_n 0, 1) := by decide +kernel
theorem dX1_draw_1 : decode cX1_draw 1 = .ok (.aload_n 0, 1) := by decide +kernel
theorem dX1_draw_2 : decode cX1_draw 2 = .ok (.getfield 46, 3) := by decide +kernel
theorem dX1_draw_5 : decode cX1_draw 5 = .ok (.ldc 67, 2) := by decide +kernel
theorem dX1_draw_7 : decode cX1_draw 7 = .ok (.imul, 1) := by decide +kernel
theorem dX1_draw_8 : decode cX1_draw 8 = .ok (.sipush 12345, 3) := by decide +kernel
theorem dX1_draw_11 : decode cX1_draw 11 = .ok (.iadd, 1) := by decide +kernel
theorem dX1_draw_12 : decode cX1_draw 12 = .ok (.putfield 46, 3) := by decide +kernel
theorem dX1_draw_15 : decode cX1_draw 15 = .ok (.aload_n 0, 1) := by decide +kernel
theorem dX1_draw_16 : decode cX1_draw 16 = .ok (.getfield 46, 3) := by decide +kernel
theorem dX1_draw_19 : decode cX1_draw 19 = .ok (.bipush 8, 2) := by decide +kernel
theorem dX1_draw_21 : decode cX1_draw 21 = .ok (.iushr, 1) := by decide +kernel
theorem dX1_draw_22 : decode cX1_draw 22 = .ok (.bipush 12, 2) := by decide +kernel
theorem dX1_draw_24 : decode cX1_draw 24 = .ok (.irem, 1) := by decide +kernel
theorem dX1_draw_25 : decode cX1_draw 25 = .ok (.ireturn, 1) := by decide +kernel
theorem dX1_drop_0 : decode cX1_drop 0 = .ok (.aload_n 0, 1) := by decide +kernel
theorem dX1_drop_1 : decode cX1_drop 1 = .ok (.getfield 18, 3) := by decide +kernel
theorem dX1_drop_4 : decode cX1_drop 4 = .ok (.iload_n 1, 1) := by decide +kernel
theorem dX1_drop_5 : decode cX1_drop 5 = .ok (.iconst 0, 1) := by decide +kernel
theorem dX1_drop_6 : decode cX1_drop 6 = .ok (.bastore, 1) := by decide +kernel
theorem dX1_drop_7 : decode cX1_drop 7 = .ok (.aload_n 0, 1) := by decide +kernel
theorem dX1_drop_8 : decode cX1_drop 8 = .ok (.getfield 22, 3) := by decide +kernel
theorem dX1_drop_11 : decode cX1_drop 11 = .ok (.iload_n 1, 1) := by decide +kernel
theorem dX1_drop_12 : decode cX1_drop 12 = .ok (.iload_n 2, 1) := by decide +kernel
theorem dX1_drop_13 : decode cX1_drop 13 = .ok (.iastore, 1) := by decide +kernel
theorem dX1_drop_14 : decode cX1_drop 14 = .ok (.aload_n 0, 1) := by decide +kernel
theorem dX1_drop_15 : decode cX1_drop 15 = .ok (.getfield 25, 3) := by decide +kernel
theorem dX1_drop_18 : decode cX1_drop 18 = .ok (.iload_n 1, 1) := by decide +kernel
theorem dX1_drop_19 : decode cX1_drop 19 = .ok (.iload_n 3, 1) := by decide +kernel
theorem dX1_drop_20 : decode cX1_drop 20 = .ok (.iastore, 1) := by decide +kernel
theorem dX1_drop_21 : decode cX1_drop 21 = .ok (.return_, 1) := by decide +kernel
theorem dX1_beside_0 : decode cX1_beside 0 = .ok (.iload_n 1, 1) := by decide +kernel
theorem dX1_beside_1 : decode cX1_beside 1 = .ok (.tableswitch 71 0 2 #[27, 40, 55], 27) := by decide +kernel
theorem dX1_beside_28 : decode cX1_beside 28 = .ok (.iload_n 0, 1) := by decide +kernel
theorem dX1_beside_29 : decode cX1_beside 29 = .ok (.iconst 5, 1) := by decide +kernel
theorem dX1_beside_30 : decode cX1_beside 30 = .ok (.if_icmp .lt 9, 3) := by decide +kernel
theorem dX1_beside_39 : decode cX1_beside 39 = .ok (.iconst (-1), 1) := by decide +kernel
theorem dX1_beside_40 : decode cX1_beside 40 = .ok (.ireturn, 1) := by decide +kernel
theorem dX1_beside_33 : decode cX1_beside 33 = .ok (.iload_n 0, 1) := by decide +kernel
theorem dX1_beside_34 : decode cX1_beside 34 = .ok (.iconst 5, 1) := by decide +kernel
theorem dX1_beside_35 : decode cX1_beside 35 = .ok (.isub, 1) := by decide +kernel
theorem dX1_beside_36 : decode cX1_beside 36 = .ok (.goto 4, 3) := by decide +kernel
theorem dX10_besideOf_0 : decode cX10_besideOf 0 = .ok (.iload_n 1, 1) := by decide +kernel
theorem dX10_besideOf_1 : decode cX10_besideOf 1 = .ok (.tableswitch 69 0 2 #[27, 40, 55], 27) := by decide +kernel
theorem dX10_besideOf_28 : decode cX10_besideOf 28 = .ok (.iload_n 0, 1) := by decide +kernel
theorem dX10_besideOf_29 : decode cX10_besideOf 29 = .ok (.iconst 5, 1) := by decide +kernel
theorem dX10_besideOf_30 : decode cX10_besideOf 30 = .ok (.if_icmp .ge 7, 3) := by decide +kernel
theorem dX10_besideOf_37 : decode cX10_besideOf 37 = .ok (.iload_n 0, 1) := by decide +kernel
theorem dX10_besideOf_38 : decode cX10_besideOf 38 = .ok (.iconst 5, 1) := by decide +kernel
theorem dX10_besideOf_39 : decode cX10_besideOf 39 = .ok (.isub, 1) := by decide +kernel
theorem dX10_besideOf_40 : decode cX10_besideOf 40 = .ok (.ireturn, 1) := by decide +kernel
theorem dX10_besideOf_33 : decode cX10_besideOf 33 = .ok (.iconst (-1), 1) := by decide +kernel
theorem dX10_besideOf_34 : decode cX10_besideOf 34 = .ok (.goto 6, 3) := by decide +kernel
theorem dX1_beside_41 : decode cX1_beside 41 = .ok (.iload_n 0, 1) := by decide +kernel
theorem dX1_beside_42 : decode cX1_beside 42 = .ok (.iconst 5, 1) := by decide +kernel
theorem dX1_beside_43 : decode cX1_beside 43 = .ok (.irem, 1) := by decide +kernel
theorem dX1_beside_44 : decode cX1_beside 44 = .ok (.iconst 4, 1) := by decide +kernel
theorem dX1_beside_45 : decode cX1_beside 45 = .ok (.if_icmp .ge 9, 3) := by decide +kernel
theorem dX1_beside_54 : decode cX1_beside 54 = .ok (.iconst (-1), 1) := by decide +kernel
theorem dX1_beside_55 : decode cX1_beside 55 = .ok (.ireturn, 1) := by decide +kernel
theorem dX1_beside_48 : decode cX1_beside 48 = .ok (.iload_n 0, 1) := by decide +kernel
theorem dX1_beside_49 : decode cX1_beside 49 = .ok (.iconst 1, 1) := by decide +kernel
theorem dX1_beside_50 : decode cX1_beside 50 = .ok (.iadd, 1) := by decide +kernel
theorem dX1_beside_51 : decode cX1_beside 51 = .ok (.goto 4, 3) := by decide +kernel
theorem dX10_besideOf_41 : decode cX10_besideOf 41 = .ok (.iload_n 0, 1) := by decide +kernel
theorem dX10_besideOf_42 : decode cX10_besideOf 42 = .ok (.iconst 5, 1) := by decide +kernel
theorem dX10_besideOf_43 : decode cX10_besideOf 43 = .ok (.irem, 1) := by decide +kernel
theorem dX10_besideOf_44 : decode cX10_besideOf 44 = .ok (.iconst 4, 1) := by decide +kernel
theorem dX10_besideOf_45 : decode cX10_besideOf 45 = .ok (.if_icmp .ne 7, 3) := by decide +kernel
theorem dX10_besideOf_52 : decode cX10_besideOf 52 = .ok (.iload_n 0, 1) := by decide +kernel
theorem dX10_besideOf_53 : decode cX10_besideOf 53 = .ok (.iconst 1, 1) := by decide +kernel
theorem dX10_besideOf_54 : decode cX10_besideOf 54 = .ok (.iadd, 1) := by decide +kernel
theorem dX10_besideOf_55 : decode cX10_besideOf 55 = .ok (.ireturn, 1) := by decide +kernel
theorem dX10_besideOf_48 : decode cX10_besideOf 48 = .ok (.iconst (-1), 1) := by decide +kernel
theorem dX10_besideOf_49 : decode cX10_besideOf 49 = .ok (.goto 6, 3) := by decide +kernel
theorem dX1_beside_56 : decode cX1_beside 56 = .ok (.iload_n 0, 1) := by decide +kernel
theorem dX1_beside_57 : decode cX1_beside 57 = .ok (.iconst 5, 1) := by decide +kernel
theorem dX1_beside_58 : decode cX1_beside 58 = .ok (.iadd, 1) := by decide +kernel
theorem dX1_beside_59 : decode cX1_beside 59 = .ok (.bipush 25, 2) := by decide +kernel
theorem dX1_beside_61 : decode cX1_beside 61 = .ok (.if_icmp .ge 9, 3) := by decide +kernel
theorem dX1_beside_70 : decode cX1_beside 70 = .ok (.iconst (-1), 1) := by decide +kernel
theorem dX1_beside_71 : decode cX1_beside 71 = .ok (.ireturn, 1) := by decide +kernel
theorem dX1_beside_64 : decode cX1_beside 64 = .ok (.iload_n 0, 1) := by decide +kernel
theorem dX1_beside_65 : decode cX1_beside 65 = .ok (.iconst 5, 1) := by decide +kernel
theorem dX1_beside_66 : decode cX1_beside 66 = .ok (.iadd, 1) := by decide +kernel
theorem dX1_beside_67 : decode cX1_beside 67 = .ok (.goto 4, 3) := by decide +kernel
theorem dX10_besideOf_56 : decode cX10_besideOf 56 = .ok (.iload_n 0, 1) := by decide +kernel
theorem dX10_besideOf_57 : decode cX10_besideOf 57 = .ok (.bipush 19, 2) := by decide +kernel
theorem dX10_besideOf_59 : decode cX10_besideOf 59 = .ok (.if_icmp .le 7, 3) := by decide +kernel
theorem dX10_besideOf_66 : decode cX10_besideOf 66 = .ok (.iload_n 0, 1) := by decide +kernel
theorem dX10_besideOf_67 : decode cX10_besideOf 67 = .ok (.iconst 5, 1) := by decide +kernel
theorem dX10_besideOf_68 : decode cX10_besideOf 68 = .ok (.iadd, 1) := by decide +kernel
theorem dX10_besideOf_69 : decode cX10_besideOf 69 = .ok (.ireturn, 1) := by decide +kernel
theorem dX10_besideOf_62 : decode cX10_besideOf 62 = .ok (.iconst (-1), 1) := by decide +kernel
theorem dX10_besideOf_63 : decode cX10_besideOf 63 = .ok (.goto 6, 3) := by decide +kernel
theorem dX1_beside_72 : decode cX1_beside 72 = .ok (.iload_n 0, 1) := by decide +kernel
theorem dX1_beside_73 : decode cX1_beside 73 = .ok (.iconst 5, 1) := by decide +kernel
theorem dX1_beside_74 : decode cX1_beside 74 = .ok (.irem, 1) := by decide +kernel
theorem dX1_beside_75 : decode cX1_beside 75 = .ok (.ifCond .le 9, 3) := by decide +kernel
theorem dX1_beside_84 : decode cX1_beside 84 = .ok (.iconst (-1), 1) := by decide +kernel
theorem dX1_beside_85 : decode cX1_beside 85 = .ok (.ireturn, 1) := by decide +kernel
theorem dX1_beside_78 : decode cX1_beside 78 = .ok (.iload_n 0, 1) := by decide +kernel
theorem dX1_beside_79 : decode cX1_beside 79 = .ok (.iconst 1, 1) := by decide +kernel
theorem dX1_beside_80 : decode cX1_beside 80 = .ok (.isub, 1) := by decide +kernel
theorem dX1_beside_81 : decode cX1_beside 81 = .ok (.goto 4, 3) := by decide +kernel
theorem dX10_besideOf_70 : decode cX10_besideOf 70 = .ok (.iload_n 0, 1) := by decide +kernel
theorem dX10_besideOf_71 : decode cX10_besideOf 71 = .ok (.iconst 5, 1) := by decide +kernel
theorem dX10_besideOf_72 : decode cX10_besideOf 72 = .ok (.irem, 1) := by decide +kernel
theorem dX10_besideOf_73 : decode cX10_besideOf 73 = .ok (.ifCond .ne 7, 3) := by decide +kernel
theorem dX10_besideOf_80 : decode cX10_besideOf 80 = .ok (.iload_n 0, 1) := by decide +kernel
theorem dX10_besideOf_81 : decode cX10_besideOf 81 = .ok (.iconst 1, 1) := by decide +kernel
theorem dX10_besideOf_82 : decode cX10_besideOf 82 = .ok (.isub, 1) := by decide +kernel
theorem dX10_besideOf_83 : decode cX10_besideOf 83 = .ok (.ireturn, 1) := by decide +kernel
theorem dX10_besideOf_76 : decode cX10_besideOf 76 = .ok (.iconst (-1), 1) := by decide +kernel
theorem dX10_besideOf_77 : decode cX10_besideOf 77 = .ok (.goto 6, 3) := by decide +kernel
theorem dX1_knockFrom_2 : decode cX1_knockFrom 2 = .ok (.iload_n 3, 1) := by decide +kernel
theorem dX1_knockFrom_3 : decode cX1_knockFrom 3 = .ok (.iconst 4, 1) := by decide +kernel
theorem dX1_knockFrom_4 : decode cX1_knockFrom 4 = .ok (.if_icmp .ge 51, 3) := by decide +kernel
theorem dX1_knockFrom_55 : decode cX1_knockFrom 55 = .ok (.return_, 1) := by decide +kernel
theorem dX1_knockFrom_7 : decode cX1_knockFrom 7 = .ok (.iload_n 1, 1) := by decide +kernel
theorem dX1_knockFrom_8 : decode cX1_knockFrom 8 = .ok (.iload_n 3, 1) := by decide +kernel
theorem dX1_knockFrom_9 : decode cX1_knockFrom 9 = .ok (.invokestatic 64, 3) := by decide +kernel
theorem dX1_knockFrom_12 : decode cX1_knockFrom 12 = .ok (.istore 4, 2) := by decide +kernel
theorem dX1_knockFrom_14 : decode cX1_knockFrom 14 = .ok (.iload 4, 2) := by decide +kernel
theorem dX1_knockFrom_16 : decode cX1_knockFrom 16 = .ok (.iconst (-1), 1) := by decide +kernel
theorem dX1_knockFrom_17 : decode cX1_knockFrom 17 = .ok (.if_icmp .eq 32, 3) := by decide +kernel
theorem dX1_knockFrom_49 : decode cX1_knockFrom 49 = .ok (.iinc 3 1, 3) := by decide +kernel
theorem dX1_knockFrom_52 : decode cX1_knockFrom 52 = .ok (.goto (-50), 3) := by decide +kernel
theorem dX1_knockFrom_20 : decode cX1_knockFrom 20 = .ok (.aload_n 0, 1) := by decide +kernel
theorem dX1_knockFrom_21 : decode cX1_knockFrom 21 = .ok (.getfield 18, 3) := by decide +kernel
theorem dX1_knockFrom_24 : decode cX1_knockFrom 24 = .ok (.iload 4, 2) := by decide +kernel
theorem dX1_knockFrom_26 : decode cX1_knockFrom 26 = .ok (.baload, 1) := by decide +kernel
theorem dX1_knockFrom_27 : decode cX1_knockFrom 27 = .ok (.ifCond .eq 22, 3) := by decide +kernel
theorem dX1_knockFrom_30 : decode cX1_knockFrom 30 = .ok (.aload_n 0, 1) := by decide +kernel
theorem dX1_knockFrom_31 : decode cX1_knockFrom 31 = .ok (.invokevirtual 53, 3) := by decide +kernel
theorem dX1_knockFrom_34 : decode cX1_knockFrom 34 = .ok (.aload_n 0, 1) := by decide +kernel
theorem dX1_knockFrom_35 : decode cX1_knockFrom 35 = .ok (.getfield 28, 3) := by decide +kernel
theorem dX1_knockFrom_38 : decode cX1_knockFrom 38 = .ok (.if_icmp .ge 11, 3) := by decide +kernel
theorem dX1_knockFrom_41 : decode cX1_knockFrom 41 = .ok (.aload_n 0, 1) := by decide +kernel
theorem dX1_knockFrom_42 : decode cX1_knockFrom 42 = .ok (.iload 4, 2) := by decide +kernel
theorem dX1_knockFrom_44 : decode cX1_knockFrom 44 = .ok (.iload_n 1, 1) := by decide +kernel
theorem dX1_knockFrom_45 : decode cX1_knockFrom 45 = .ok (.iload_n 2, 1) := by decide +kernel
theorem dX1_knockFrom_46 : decode cX1_knockFrom 46 = .ok (.invokevirtual 57, 3) := by decide +kernel
abbrev fS : Type := Int32 × (Nat → Int32) × (Nat → Int32) × (Nat → Int32)
def fz (z : Int32) : Int32 := z * 1103515245 + 12345
def fd (z : Int32) : Int32 := ((z).toUInt32 >>> ((8 : Int32).toUInt32 &&& Int32.toUInt32 31)).toInt32 - ((z).toUInt32 >>> ((8 : Int32).toUInt32 &&& Int32.toUInt32 31)).toInt32 / 12 * 12
/-- the girl on a side of a girl; 25: none -/
def fb (g s : Nat) : Nat := if s = 0 then (if 5 ≤ g then g - 5 else 25) else if s = 1 then (if g % 5 < 4 then g + 1 else 25) else if s = 2 then (if g + 5 < 25 then g + 5 else 25) else (if 0 < g % 5 then g - 1 else 25)
def fbI (g s : Nat) : Int32 := if fb g s = 25 then -1 else nI (fb g s)
theorem fb_c : ∀ g, g < 25 → ∀ s, s < 4 → (fb g s = 25 ∧ fbI g s = -1) ∨ (fb g s < 25 ∧ fbI g s = nI (fb g s)) := by decide +kernel
theorem nI_nm {a : Nat} (h : a < 25) : ¬ nI a = -1 := (show ∀ a, a < 25 → ¬ nI a = -1 by decide +kernel) a h
def fdrop (g : Nat) (b m : Int32) (S : fS) : fS := (S.1, upd S.2.1 g 0, upd S.2.2.1 g b, upd S.2.2.2 g m)
def fk (g s : Nat) (mi : Int32) (S : fS) : fS := if fb g s = 25 then S else if S.2.1 (fb g s) = 0 then S else if 1 ≤ fd (fz S.1) then (fz S.1, S.2) else fdrop (fb g s) (nI g) mi (fz S.1, S.2)
def fK4 (g : Nat) (mi : Int32) (S : fS) : fS := S
def fK3 (g : Nat) (mi : Int32) (S : fS) : fS := fK4 g mi (fk g 3 mi S)
def fK2 (g : Nat) (mi : Int32) (S : fS) : fS := fK3 g mi (fk g 2 mi S)
def fK1 (g : Nat) (mi : Int32) (S : fS) : fS := fK2 g mi (fk g 1 mi S)
def fK0 (g : Nat) (mi : Int32) (S : fS) : fS := fK1 g mi (fk g 0 mi S)
def fg (g : Nat) (mi : Int32) (S : fS) : fS := if S.2.1 g = 0 then S else if fd (fz S.1) < 9 then (fz S.1, S.2) else fK0 g mi (fdrop g (-2) mi (fz S.1, S.2))
def fG (mi : Int32) : Nat → Nat → fS → fS
  | 0, _, S => S
  | m + 1, g, S => fG mi m (g + 1) (fg g mi S)
def fM : Nat → Nat → fS → fS
  | 0, _, S => S
  | m + 1, k, S => fM m (k + 1) (fG (nI k) 25 0 S)
def fC (M : xM) : fS := (M 35 6, M 38, M 39, M 40)
/-- every girl's skill is 9, knock is 1, the reference is as it was made -/
def FC (M : xM) : Prop := (∀ j, j < 25 → M 36 j = 9) ∧ M 35 5 = 1 ∧ Fr M
theorem FC_up {M : xM} {p k : Nat} {v : Int32} (h : p < 62 ∧ p ≠ 36 ∧ ¬ (p = 35 ∧ k = 5)) (e : FC M) : FC (x_up M p k v) := by
  refine ⟨fun j hj => ?_, ?_, Fr_up h.1 e.2.2⟩
  · rw [x_up_n M k v (fun q => h.2.1 q.symm)]; exact e.1 j hj
  · by_cases hp : 35 = p
    · subst hp; rw [x_up_k _ _ _ (fun z => h.2.2 ⟨rfl, z.symm⟩)]; exact e.2.1
    · rw [x_up_n _ _ _ hp]; exact e.2.1
theorem x_Q {l : Launch} {G : xG} {f} {dd kc ks pc : Nat} {ls st sh M J mc ms} {Q Q2 : xQ} (h : Q = Q2) (X : x_X l G f dd kc ks Q pc ls st sh M J mc ms) : x_X l G f dd kc ks Q2 pc ls st sh M J mc ms := h ▸ X
set_option maxRecDepth 100000 in
set_option maxHeartbeats 4000000 in
theorem c_X1_draw {l : Launch} {G : xG} {M : xM} {J : xJ} : x_M l G fX1_draw 0 0 0 [.ref (35)] x_SH M J (qE (some (.int (fd (fz (M 35 6))))) x_SH (x_up M 35 6 (fz (M 35 6))) J) := by
  refine xb_of pX1 (Nat.le_of_ble_eq_true rfl) rfl ?_
  refine xr_aload_n dX1_draw_0 0 rfl ?_
  refine xr_aload_n dX1_draw_1 0 rfl ?_
  refine xb_get (v := M 35 6) flX1_46 dX1_draw_2 s_35 rfl rfl ?_
  refine xr_ldc coX1_67 dX1_draw_5 ?_
  refine xr_imul dX1_draw_7 ?_
  refine xr_sipush (v := 12345) dX1_draw_8 rfl ?_
  refine xr_iadd dX1_draw_11 ?_
  refine xr_putI fpX1_46 dX1_draw_12 s_35 rfl rfl rfl ?_
  refine xr_aload_n dX1_draw_15 0 rfl ?_
  refine xb_get (v := (((M 35 6) * 1103515245) + 12345)) flX1_46 dX1_draw_16 s_35 rfl (x_up_s _ _ _ _) ?_
  refine xr_bipush (v := 8) dX1_draw_19 rfl ?_
  refine xr_iushr dX1_draw_21 ?_
  refine xr_bipush (v := 12) dX1_draw_22 rfl ?_
  refine xr_irem dX1_draw_24 (by decide) ?_
  exact xr_iret dX1_draw_25 rfl rfl (⟨rfl, rfl, rfl, rfl⟩)
set_option maxRecDepth 100000 in
set_option maxHeartbeats 4000000 in
theorem c_X1_drop {g : Nat} (hg : g < 25) (b mi : Int32) {l : Launch} {G : xG} {M : xM} {J : xJ} : x_M l G fX1_drop 0 0 0 [.ref (35), .int (nI (g)), .int (b), .int (mi)] x_SH M J (qE (none) x_SH (x_up (x_up (x_up M 38 g 0) 39 g b) 40 g mi) J) := by
  refine xb_of pX1 (Nat.le_of_ble_eq_true rfl) rfl ?_
  refine xr_aload_n dX1_drop_0 0 rfl ?_
  refine xr_getR flX1_18 dX1_drop_1 s_35 rfl ?_
  refine xr_iload_n dX1_drop_4 1 rfl ?_
  refine xr_iconst (v := 0) dX1_drop_5 rfl ?_
  refine xb_zast (j := g) (w := 0) dX1_drop_6 s_38 hg (by decide) rfl ?_
  refine xr_aload_n dX1_drop_7 0 rfl ?_
  refine xr_getR flX1_22 dX1_drop_8 s_35 rfl ?_
  refine xr_iload_n dX1_drop_11 1 rfl ?_
  refine xr_iload_n dX1_drop_12 2 rfl ?_
  refine xb_iast (j := g) dX1_drop_13 s_39 hg (by decide) ?_
  refine xr_aload_n dX1_drop_14 0 rfl ?_
  refine xr_getR flX1_25 dX1_drop_15 s_35 rfl ?_
  refine xr_iload_n dX1_drop_18 1 rfl ?_
  refine xr_iload_n dX1_drop_19 3 rfl ?_
  refine xb_iast (j := g) dX1_drop_20 s_40 hg (by decide) ?_
  exact xr_vret dX1_drop_21 rfl (⟨rfl, rfl, rfl, rfl⟩)
set_option maxRecDepth 100000 in
set_option maxHeartbeats 4000000 in
theorem c_X1_beside_0 {g : Nat} (hg : g < 25) {l : Launch} {G : xG} {sh : List xS} {M : xM} {J : xJ} : x_M l G fX1_beside 0 0 0 [.int (nI (g)), .int (0)] sh M J (qE (some (.int (fbI g 0))) sh M J) := by
  refine xb_of pX1 (Nat.le_of_ble_eq_true rfl) rfl ?_
  refine xr_iload_n dX1_beside_0 1 rfl ?_
  refine xr_tableIn (tgt := 28) dX1_beside_1 (by decide) (by decide) rfl rfl ?_
  refine xr_iload_n dX1_beside_28 0 rfl ?_
  refine xr_iconst (v := 5) dX1_beside_29 rfl ?_
  refine xr_icmp_lt (tgt := 39) dX1_beside_30 rfl (fun c1 => ?_) (fun c1 => ?_)
  · refine xr_iconst (v := -1) dX1_beside_39 rfl ?_
    exact xr_iret dX1_beside_40 rfl rfl (⟨congrArg (fun z => some (Value.int z)) ((show ∀ g, g < 25 → (nI (g)) < 5 → ((-1) : Int32) = fbI g 0 by decide +kernel) g hg c1), rfl, rfl, rfl⟩)
  · refine xr_iload_n dX1_beside_33 0 rfl ?_
    refine xr_iconst (v := 5) dX1_beside_34 rfl ?_
    refine xr_isub dX1_beside_35 ?_
    refine xr_goto (tgt := 40) dX1_beside_36 rfl ?_
    exact xr_iret dX1_beside_40 rfl rfl (⟨congrArg (fun z => some (Value.int z)) ((show ∀ g, g < 25 → ¬ (nI (g)) < 5 → (((nI (g)) - 5) : Int32) = fbI g 0 by decide +kernel) g hg c1), rfl, rfl, rfl⟩)
set_option maxRecDepth 100000 in
set_option maxHeartbeats 4000000 in
theorem c_X10_besideOf_0 {g : Nat} (hg : g < 25) {l : Launch} {G : xG} {sh : List xS} {M : xM} {J : xJ} : x_M l G fX10_besideOf 0 0 0 [.int (nI (g)), .int (0)] sh M J (qE (some (.int (fbI g 0))) sh M J) := by
  refine xb_of pX10 (Nat.le_of_ble_eq_true rfl) rfl ?_
  refine xr_iload_n dX10_besideOf_0 1 rfl ?_
  refine xr_tableIn (tgt := 28) dX10_besideOf_1 (by decide) (by decide) rfl rfl ?_
  refine xr_iload_n dX10_besideOf_28 0 rfl ?_
  refine xr_iconst (v := 5) dX10_besideOf_29 rfl ?_
  refine xr_icmp_ge (tgt := 37) dX10_besideOf_30 rfl (fun c1 => ?_) (fun c1 => ?_)
  · refine xr_iload_n dX10_besideOf_37 0 rfl ?_
    refine xr_iconst (v := 5) dX10_besideOf_38 rfl ?_
    refine xr_isub dX10_besideOf_39 ?_
    exact xr_iret dX10_besideOf_40 rfl rfl (⟨congrArg (fun z => some (Value.int z)) ((show ∀ g, g < 25 → 5 ≤ (nI (g)) → (((nI (g)) - 5) : Int32) = fbI g 0 by decide +kernel) g hg c1), rfl, rfl, rfl⟩)
  · refine xr_iconst (v := -1) dX10_besideOf_33 rfl ?_
    refine xr_goto (tgt := 40) dX10_besideOf_34 rfl ?_
    exact xr_iret dX10_besideOf_40 rfl rfl (⟨congrArg (fun z => some (Value.int z)) ((show ∀ g, g < 25 → ¬ 5 ≤ (nI (g)) → ((-1) : Int32) = fbI g 0 by decide +kernel) g hg c1), rfl, rfl, rfl⟩)
set_option maxRecDepth 100000 in
set_option maxHeartbeats 4000000 in
theorem c_X1_beside_1 {g : Nat} (hg : g < 25) {l : Launch} {G : xG} {sh : List xS} {M : xM} {J : xJ} : x_M l G fX1_beside 0 0 0 [.int (nI (g)), .int (1)] sh M J (qE (some (.int (fbI g 1))) sh M J) := by
  refine xb_of pX1 (Nat.le_of_ble_eq_true rfl) rfl ?_
  refine xr_iload_n dX1_beside_0 1 rfl ?_
  refine xr_tableIn (tgt := 41) dX1_beside_1 (by decide) (by decide) rfl rfl ?_
  refine xr_iload_n dX1_beside_41 0 rfl ?_
  refine xr_iconst (v := 5) dX1_beside_42 rfl ?_
  refine xr_irem dX1_beside_43 (by decide) ?_
  refine xr_iconst (v := 4) dX1_beside_44 rfl ?_
  refine xr_icmp_ge (tgt := 54) dX1_beside_45 rfl (fun c1 => ?_) (fun c1 => ?_)
  · refine xr_iconst (v := -1) dX1_beside_54 rfl ?_
    exact xr_iret dX1_beside_55 rfl rfl (⟨congrArg (fun z => some (Value.int z)) ((show ∀ g, g < 25 → 4 ≤ ((nI (g)) - (nI (g)) / 5 * 5) → ((-1) : Int32) = fbI g 1 by decide +kernel) g hg c1), rfl, rfl, rfl⟩)
  · refine xr_iload_n dX1_beside_48 0 rfl ?_
    refine xr_iconst (v := 1) dX1_beside_49 rfl ?_
    refine xr_iadd dX1_beside_50 ?_
    refine xb_top (y := nI (g + 1)) (nI_add (g) (1)) ?_
    refine xr_goto (tgt := 55) dX1_beside_51 rfl ?_
    exact xr_iret dX1_beside_55 rfl rfl (⟨congrArg (fun z => some (Value.int z)) ((show ∀ g, g < 25 → ¬ 4 ≤ ((nI (g)) - (nI (g)) / 5 * 5) → (nI (g + 1) : Int32) = fbI g 1 by decide +kernel) g hg c1), rfl, rfl, rfl⟩)
set_option maxRecDepth 100000 in
set_option maxHeartbeats 4000000 in
theorem c_X10_besideOf_1 {g : Nat} (hg : g < 25) {l : Launch} {G : xG} {sh : List xS} {M : xM} {J : xJ} : x_M l G fX10_besideOf 0 0 0 [.int (nI (g)), .int (1)] sh M J (qE (some (.int (fbI g 1))) sh M J) := by
  refine xb_of pX10 (Nat.le_of_ble_eq_true rfl) rfl ?_
  refine xr_iload_n dX10_besideOf_0 1 rfl ?_
  refine xr_tableIn (tgt := 41) dX10_besideOf_1 (by decide) (by decide) rfl rfl ?_
  refine xr_iload_n dX10_besideOf_41 0 rfl ?_
  refine xr_iconst (v := 5) dX10_besideOf_42 rfl ?_
  refine xr_irem dX10_besideOf_43 (by decide) ?_
  refine xr_iconst (v := 4) dX10_besideOf_44 rfl ?_
  refine xr_icmp_ne (tgt := 52) dX10_besideOf_45 rfl (fun c1 => ?_) (fun c1 => ?_)
  · refine xr_iload_n dX10_besideOf_52 0 rfl ?_
    refine xr_iconst (v := 1) dX10_besideOf_53 rfl ?_
    refine xr_iadd dX10_besideOf_54 ?_
    refine xb_top (y := nI (g + 1)) (nI_add (g) (1)) ?_
    exact xr_iret dX10_besideOf_55 rfl rfl (⟨congrArg (fun z => some (Value.int z)) ((show ∀ g, g < 25 → ¬ ((nI (g)) - (nI (g)) / 5 * 5) = 4 → (nI (g + 1) : Int32) = fbI g 1 by decide +kernel) g hg c1), rfl, rfl, rfl⟩)
  · refine xr_iconst (v := -1) dX10_besideOf_48 rfl ?_
    refine xr_goto (tgt := 55) dX10_besideOf_49 rfl ?_
    exact xr_iret dX10_besideOf_55 rfl rfl (⟨congrArg (fun z => some (Value.int z)) ((show ∀ g, g < 25 → ((nI (g)) - (nI (g)) / 5 * 5) = 4 → ((-1) : Int32) = fbI g 1 by decide +kernel) g hg c1), rfl, rfl, rfl⟩)
set_option maxRecDepth 100000 in
set_option maxHeartbeats 4000000 in
theorem c_X1_beside_2 {g : Nat} (hg : g < 25) {l : Launch} {G : xG} {sh : List xS} {M : xM} {J : xJ} : x_M l G fX1_beside 0 0 0 [.int (nI (g)), .int (2)] sh M J (qE (some (.int (fbI g 2))) sh M J) := by
  refine xb_of pX1 (Nat.le_of_ble_eq_true rfl) rfl ?_
  refine xr_iload_n dX1_beside_0 1 rfl ?_
  refine xr_tableIn (tgt := 56) dX1_beside_1 (by decide) (by decide) rfl rfl ?_
  refine xr_iload_n dX1_beside_56 0 rfl ?_
  refine xr_iconst (v := 5) dX1_beside_57 rfl ?_
  refine xr_iadd dX1_beside_58 ?_
  refine xb_top (y := nI (g + 5)) (nI_add (g) (5)) ?_
  refine xr_bipush (v := 25) dX1_beside_59 rfl ?_
  refine xr_icmp_ge (tgt := 70) dX1_beside_61 rfl (fun c1 => ?_) (fun c1 => ?_)
  · refine xr_iconst (v := -1) dX1_beside_70 rfl ?_
    exact xr_iret dX1_beside_71 rfl rfl (⟨congrArg (fun z => some (Value.int z)) ((show ∀ g, g < 25 → 25 ≤ (nI (g + 5)) → ((-1) : Int32) = fbI g 2 by decide +kernel) g hg c1), rfl, rfl, rfl⟩)
  · refine xr_iload_n dX1_beside_64 0 rfl ?_
    refine xr_iconst (v := 5) dX1_beside_65 rfl ?_
    refine xr_iadd dX1_beside_66 ?_
    refine xb_top (y := nI (g + 5)) (nI_add (g) (5)) ?_
    refine xr_goto (tgt := 71) dX1_beside_67 rfl ?_
    exact xr_iret dX1_beside_71 rfl rfl (⟨congrArg (fun z => some (Value.int z)) ((show ∀ g, g < 25 → ¬ 25 ≤ (nI (g + 5)) → (nI (g + 5) : Int32) = fbI g 2 by decide +kernel) g hg c1), rfl, rfl, rfl⟩)
set_option maxRecDepth 100000 in
set_option maxHeartbeats 4000000 in
theorem c_X10_besideOf_2 {g : Nat} (hg : g < 25) {l : Launch} {G : xG} {sh : List xS} {M : xM} {J : xJ} : x_M l G fX10_besideOf 0 0 0 [.int (nI (g)), .int (2)] sh M J (qE (some (.int (fbI g 2))) sh M J) := by
  refine xb_of pX10 (Nat.le_of_ble_eq_true rfl) rfl ?_
  refine xr_iload_n dX10_besideOf_0 1 rfl ?_
  refine xr_tableIn (tgt := 56) dX10_besideOf_1 (by decide) (by decide) rfl rfl ?_
  refine xr_iload_n dX10_besideOf_56 0 rfl ?_
  refine xr_bipush (v := 19) dX10_besideOf_57 rfl ?_
  refine xr_icmp_le (tgt := 66) dX10_besideOf_59 rfl (fun c1 => ?_) (fun c1 => ?_)
  · refine xr_iload_n dX10_besideOf_66 0 rfl ?_
    refine xr_iconst (v := 5) dX10_besideOf_67 rfl ?_
    refine xr_iadd dX10_besideOf_68 ?_
    refine xb_top (y := nI (g + 5)) (nI_add (g) (5)) ?_
    exact xr_iret dX10_besideOf_69 rfl rfl (⟨congrArg (fun z => some (Value.int z)) ((show ∀ g, g < 25 → (nI (g)) ≤ 19 → (nI (g + 5) : Int32) = fbI g 2 by decide +kernel) g hg c1), rfl, rfl, rfl⟩)
  · refine xr_iconst (v := -1) dX10_besideOf_62 rfl ?_
    refine xr_goto (tgt := 69) dX10_besideOf_63 rfl ?_
    exact xr_iret dX10_besideOf_69 rfl rfl (⟨congrArg (fun z => some (Value.int z)) ((show ∀ g, g < 25 → ¬ (nI (g)) ≤ 19 → ((-1) : Int32) = fbI g 2 by decide +kernel) g hg c1), rfl, rfl, rfl⟩)
set_option maxRecDepth 100000 in
set_option maxHeartbeats 4000000 in
theorem c_X1_beside_3 {g : Nat} (hg : g < 25) {l : Launch} {G : xG} {sh : List xS} {M : xM} {J : xJ} : x_M l G fX1_beside 0 0 0 [.int (nI (g)), .int (3)] sh M J (qE (some (.int (fbI g 3))) sh M J) := by
  refine xb_of pX1 (Nat.le_of_ble_eq_true rfl) rfl ?_
  refine xr_iload_n dX1_beside_0 1 rfl ?_
  refine xr_tableOut (tgt := 72) dX1_beside_1 (by decide) rfl ?_
  refine xr_iload_n dX1_beside_72 0 rfl ?_
  refine xr_iconst (v := 5) dX1_beside_73 rfl ?_
  refine xr_irem dX1_beside_74 (by decide) ?_
  refine xr_if_le (tgt := 84) dX1_beside_75 rfl (fun c1 => ?_) (fun c1 => ?_)
  · refine xr_iconst (v := -1) dX1_beside_84 rfl ?_
    exact xr_iret dX1_beside_85 rfl rfl (⟨congrArg (fun z => some (Value.int z)) ((show ∀ g, g < 25 → ((nI (g)) - (nI (g)) / 5 * 5) ≤ 0 → ((-1) : Int32) = fbI g 3 by decide +kernel) g hg c1), rfl, rfl, rfl⟩)
  · refine xr_iload_n dX1_beside_78 0 rfl ?_
    refine xr_iconst (v := 1) dX1_beside_79 rfl ?_
    refine xr_isub dX1_beside_80 ?_
    refine xr_goto (tgt := 85) dX1_beside_81 rfl ?_
    exact xr_iret dX1_beside_85 rfl rfl (⟨congrArg (fun z => some (Value.int z)) ((show ∀ g, g < 25 → ¬ ((nI (g)) - (nI (g)) / 5 * 5) ≤ 0 → (((nI (g)) - 1) : Int32) = fbI g 3 by decide +kernel) g hg c1), rfl, rfl, rfl⟩)
set_option maxRecDepth 100000 in
set_option maxHeartbeats 4000000 in
theorem c_X10_besideOf_3 {g : Nat} (hg : g < 25) {l : Launch} {G : xG} {sh : List xS} {M : xM} {J : xJ} : x_M l G fX10_besideOf 0 0 0 [.int (nI (g)), .int (3)] sh M J (qE (some (.int (fbI g 3))) sh M J) := by
  refine xb_of pX10 (Nat.le_of_ble_eq_true rfl) rfl ?_
  refine xr_iload_n dX10_besideOf_0 1 rfl ?_
  refine xr_tableOut (tgt := 70) dX10_besideOf_1 (by decide) rfl ?_
  refine xr_iload_n dX10_besideOf_70 0 rfl ?_
  refine xr_iconst (v := 5) dX10_besideOf_71 rfl ?_
  refine xr_irem dX10_besideOf_72 (by decide) ?_
  refine xr_if_ne (tgt := 80) dX10_besideOf_73 rfl (fun c1 => ?_) (fun c1 => ?_)
  · refine xr_iload_n dX10_besideOf_80 0 rfl ?_
    refine xr_iconst (v := 1) dX10_besideOf_81 rfl ?_
    refine xr_isub dX10_besideOf_82 ?_
    exact xr_iret dX10_besideOf_83 rfl rfl (⟨congrArg (fun z => some (Value.int z)) ((show ∀ g, g < 25 → ¬ ((nI (g)) - (nI (g)) / 5 * 5) = 0 → (((nI (g)) - 1) : Int32) = fbI g 3 by decide +kernel) g hg c1), rfl, rfl, rfl⟩)
  · refine xr_iconst (v := -1) dX10_besideOf_76 rfl ?_
    refine xr_goto (tgt := 83) dX10_besideOf_77 rfl ?_
    exact xr_iret dX10_besideOf_83 rfl rfl (⟨congrArg (fun z => some (Value.int z)) ((show ∀ g, g < 25 → ((nI (g)) - (nI (g)) / 5 * 5) = 0 → ((-1) : Int32) = fbI g 3 by decide +kernel) g hg c1), rfl, rfl, rfl⟩)
set_option maxRecDepth 100000 in
set_option maxHeartbeats 4000000 in
theorem kn_4 {l : Launch} {G : xG} {M : xM} {J : xJ} {g : Nat} (hg : g < 25) (mi : Int32) (e : FC M) : x_X l G fX1_knockFrom 1 0 0 (fun v s2 M2 J2 => v = none ∧ s2 = x_SH ∧ J = J2 ∧ fC M2 = fK4 g mi (fC M) ∧ FC M2) 2 [(3, .int (4)), (2, .int (mi)), (1, .int (nI (g))), (0, .ref (35))] [] x_SH M J 0 0 := by
  refine xr_iload_n dX1_knockFrom_2 0 rfl ?_
  refine xr_iconst (v := 4) dX1_knockFrom_3 rfl ?_
  refine xr_icmp_ge (tgt := 55) dX1_knockFrom_4 rfl (fun _ => ?_) (fun c => absurd (by decide) c)
  exact xr_vret dX1_knockFrom_55 rfl (⟨rfl, rfl, rfl, rfl, e⟩)
set_option maxRecDepth 100000 in
set_option maxHeartbeats 4000000 in
theorem kn_3 {l : Launch} {G : xG} {M : xM} {J : xJ} {g : Nat} (hg : g < 25) (mi : Int32) (e : FC M) : x_X l G fX1_knockFrom 1 0 0 (fun v s2 M2 J2 => v = none ∧ s2 = x_SH ∧ J = J2 ∧ fC M2 = fK3 g mi (fC M) ∧ FC M2) 2 [(3, .int (3)), (2, .int (mi)), (1, .int (nI (g))), (0, .ref (35))] [] x_SH M J 0 0 := by
  refine xr_iload_n dX1_knockFrom_2 0 rfl ?_
  refine xr_iconst (v := 4) dX1_knockFrom_3 rfl ?_
  refine xr_icmp_ge (tgt := 55) dX1_knockFrom_4 rfl (fun c => absurd c (by decide)) (fun _ => ?_)
  refine xr_iload_n dX1_knockFrom_7 2 rfl ?_
  refine xr_iload_n dX1_knockFrom_8 0 rfl ?_
  refine xb_cS (As := [.int (nI (g)), .int (3)]) (rest := []) mlX1_64 (c_X1_beside_3 hg) dX1_knockFrom_9 rfl rfl (Nat.le_of_ble_eq_true rfl) (by decide) (by decide) ?_
  rcases fb_c g hg 3 (by decide) with ⟨h1, h2⟩ | ⟨h1, h2⟩
  · refine xb_top (y := -1) h2 ?_
    refine xr_istore (ls2 := [(4, .int ((-1))), (3, .int (3)), (2, .int (mi)), (1, .int (nI (g))), (0, .ref (35))]) dX1_knockFrom_12 (by decide) rfl ?_
    refine xr_iload dX1_knockFrom_14 0 rfl ?_
    refine xr_iconst (v := -1) dX1_knockFrom_16 rfl ?_
    refine xr_icmp_eq (tgt := 49) dX1_knockFrom_17 rfl (fun _ => ?_) (fun c => absurd (by decide) c)
    refine xr_iinc (v := 4) (ls2 := [(3, .int (4)), (4, .int ((-1))), (2, .int (mi)), (1, .int (nI (g))), (0, .ref (35))]) dX1_knockFrom_49 1 rfl rfl (by decide) rfl ?_
    refine xr_goto (tgt := 2) dX1_knockFrom_52 rfl ?_
    refine xb_ls (ls2 := [(3, .int (4)), (2, .int (mi)), (1, .int (nI (g))), (0, .ref (35))]) [0, 2, 3, 4] rfl ?_
    have hS : fk g 3 mi (fC M) = fC M := if_pos h1
    have hT : fK4 g mi (fC M) = fK3 g mi (fC M) := (congrArg (fK4 g mi) hS).symm
    refine x_Q (Q := fun v s2 M2 J2 => v = none ∧ s2 = x_SH ∧ J = J2 ∧ fC M2 = fK4 g mi (fC M) ∧ FC M2) (by rw [hT]) ?_
    exact kn_4 hg mi e
  refine xb_top (y := nI (fb g 3)) h2 ?_
  refine xr_istore (ls2 := [(4, .int (nI (fb g 3))), (3, .int (3)), (2, .int (mi)), (1, .int (nI (g))), (0, .ref (35))]) dX1_knockFrom_12 (by decide) rfl ?_
  refine xr_iload dX1_knockFrom_14 0 rfl ?_
  refine xr_iconst (v := -1) dX1_knockFrom_16 rfl ?_
  refine xr_icmp_eq (tgt := 49) dX1_knockFrom_17 rfl (fun c => absurd c (nI_nm h1)) (fun _ => ?_)
  refine xr_aload_n dX1_knockFrom_20 4 rfl ?_
  refine xr_getR flX1_18 dX1_knockFrom_21 s_35 rfl ?_
  refine xr_iload dX1_knockFrom_24 0 rfl ?_
  refine xb_zald (j := fb g 3) (v := M 38 (fb g 3)) dX1_knockFrom_26 s_38 h1 (by decide) rfl ?_
  refine xr_if_eq (tgt := 49) dX1_knockFrom_27 rfl (fun c1 => ?_) (fun c1 => ?_)
  · refine xr_iinc (v := 4) (ls2 := [(3, .int (4)), (4, .int (nI (fb g 3))), (2, .int (mi)), (1, .int (nI (g))), (0, .ref (35))]) dX1_knockFrom_49 1 rfl rfl (by decide) rfl ?_
    refine xr_goto (tgt := 2) dX1_knockFrom_52 rfl ?_
    refine xb_ls (ls2 := [(3, .int (4)), (2, .int (mi)), (1, .int (nI (g))), (0, .ref (35))]) [0, 2, 3, 4] rfl ?_
    have hS : fk g 3 mi (fC M) = fC M := (if_neg (fun q => absurd h1 (by rw [q]; decide))).trans (if_pos c1)
    have hT : fK4 g mi (fC M) = fK3 g mi (fC M) := (congrArg (fK4 g mi) hS).symm
    refine x_Q (Q := fun v s2 M2 J2 => v = none ∧ s2 = x_SH ∧ J = J2 ∧ fC M2 = fK4 g mi (fC M) ∧ FC M2) (by rw [hT]) ?_
    exact kn_4 hg mi e
  · refine xr_aload_n dX1_knockFrom_30 4 rfl ?_
    refine xb_cV (As := []) (rest := []) mlX1_53 (c_X1_draw) dX1_knockFrom_31 s_35 rfl rfl (Nat.le_of_ble_eq_true rfl) (by decide) (by decide) ?_
    refine xr_aload_n dX1_knockFrom_34 4 rfl ?_
    refine xb_get (v := 1) flX1_28 dX1_knockFrom_35 s_35 rfl (Eq.trans (x_up_k _ _ _ (by decide)) e.2.1) ?_
    refine xr_icmp_ge (tgt := 49) dX1_knockFrom_38 rfl (fun c2 => ?_) (fun c2 => ?_)
    · refine xr_iinc (v := 4) (ls2 := [(3, .int (4)), (4, .int (nI (fb g 3))), (2, .int (mi)), (1, .int (nI (g))), (0, .ref (35))]) dX1_knockFrom_49 1 rfl rfl (by decide) rfl ?_
      refine xr_goto (tgt := 2) dX1_knockFrom_52 rfl ?_
      refine xb_ls (ls2 := [(3, .int (4)), (2, .int (mi)), (1, .int (nI (g))), (0, .ref (35))]) [0, 2, 3, 4] rfl ?_
      have hS : fk g 3 mi (fC M) = fC (x_up M 35 6 (fz (M 35 6))) := (if_neg (fun q => absurd h1 (by rw [q]; decide))).trans ((if_neg c1).trans (if_pos c2))
      have hT : fK4 g mi (fC (x_up M 35 6 (fz (M 35 6)))) = fK3 g mi (fC M) := (congrArg (fK4 g mi) hS).symm
      refine x_Q (Q := fun v s2 M2 J2 => v = none ∧ s2 = x_SH ∧ J = J2 ∧ fC M2 = fK4 g mi (fC (x_up M 35 6 (fz (M 35 6)))) ∧ FC M2) (by rw [hT]) ?_
      exact kn_4 hg mi (FC_up (by decide) e)
    · refine xr_aload_n dX1_knockFrom_41 4 rfl ?_
      refine xr_iload dX1_knockFrom_42 0 rfl ?_
      refine xr_iload_n dX1_knockFrom_44 3 rfl ?_
      refine xr_iload_n dX1_knockFrom_45 2 rfl ?_
      refine xb_cV (As := [.int (nI (fb g 3)), .int (nI (g)), .int (mi)]) (rest := []) mlX1_57 (c_X1_drop h1 (nI (g)) mi) dX1_knockFrom_46 s_35 rfl rfl (Nat.le_of_ble_eq_true rfl) (by decide) (by decide) ?_
      refine xr_iinc (v := 4) (ls2 := [(3, .int (4)), (4, .int (nI (fb g 3))), (2, .int (mi)), (1, .int (nI (g))), (0, .ref (35))]) dX1_knockFrom_49 1 rfl rfl (by decide) rfl ?_
      refine xr_goto (tgt := 2) dX1_knockFrom_52 rfl ?_
      refine xb_ls (ls2 := [(3, .int (4)), (2, .int (mi)), (1, .int (nI (g))), (0, .ref (35))]) [0, 2, 3, 4] rfl ?_
      have hS : fk g 3 mi (fC M) = fC (x_up (x_up (x_up (x_up M 35 6 (fz (M 35 6))) 38 (fb g 3) 0) 39 (fb g 3) (nI (g))) 40 (fb g 3) mi) := (if_neg (fun q => absurd h1 (by rw [q]; decide))).trans ((if_neg c1).trans (if_neg c2))
      have hT : fK4 g mi (fC (x_up (x_up (x_up (x_up M 35 6 (fz (M 35 6))) 38 (fb g 3) 0) 39 (fb g 3) (nI (g))) 40 (fb g 3) mi)) = fK3 g mi (fC M) := (congrArg (fK4 g mi) hS).symm
      refine x_Q (Q := fun v s2 M2 J2 => v = none ∧ s2 = x_SH ∧ J = J2 ∧ fC M2 = fK4 g mi (fC (x_up (x_up (x_up (x_up M 35 6 (fz (M 35 6))) 38 (fb g 3) 0) 39 (fb g 3) (nI (g))) 40 (fb g 3) mi)) ∧ FC M2) (by rw [hT]) ?_
      exact kn_4 hg mi (FC_up ⟨by decide, by decide, fun q => absurd q.1 (by decide)⟩ (FC_up ⟨by decide, by decide, fun q => absurd q.1 (by decide)⟩ (FC_up ⟨by decide, by decide, fun q => absurd q.1 (by decide)⟩ (FC_up (by decide) e))))
set_option maxRecDepth 100000 in
set_option maxHeartbeats 4000000 in
theorem kn_2 {l : Launch} {G : xG} {M : xM} {J : xJ} {g : Nat} (hg : g < 25) (mi : Int32) (e : FC M) : x_X l G fX1_knockFrom 1 0 0 (fun v s2 M2 J2 => v = none ∧ s2 = x_SH ∧ J = J2 ∧ fC M2 = fK2 g mi (fC M) ∧ FC M2) 2 [(3, .int (2)), (2, .int (mi)), (1, .int (nI (g))), (0, .ref (35))] [] x_SH M J 0 0 := by
  refine xr_iload_n dX1_knockFrom_2 0 rfl ?_
  refine xr_iconst (v := 4) dX1_knockFrom_3 rfl ?_
  refine xr_icmp_ge (tgt := 55) dX1_knockFrom_4 rfl (fun c => absurd c (by decide)) (fun _ => ?_)
  refine xr_iload_n dX1_knockFrom_7 2 rfl ?_
  refine xr_iload_n dX1_knockFrom_8 0 rfl ?_
  refine xb_cS (As := [.int (nI (g)), .int (2)]) (rest := []) mlX1_64 (c_X1_beside_2 hg) dX1_knockFrom_9 rfl rfl (Nat.le_of_ble_eq_true rfl) (by decide) (by decide) ?_
  rcases fb_c g hg 2 (by decide) with ⟨h1, h2⟩ | ⟨h1, h2⟩
  · refine xb_top (y := -1) h2 ?_
    refine xr_istore (ls2 := [(4, .int ((-1))), (3, .int (2)), (2, .int (mi)), (1, .int (nI (g))), (0, .ref (35))]) dX1_knockFrom_12 (by decide) rfl ?_
    refine xr_iload dX1_knockFrom_14 0 rfl ?_
    refine xr_iconst (v := -1) dX1_knockFrom_16 rfl ?_
    refine xr_icmp_eq (tgt := 49) dX1_knockFrom_17 rfl (fun _ => ?_) (fun c => absurd (by decide) c)
    refine xr_iinc (v := 3) (ls2 := [(3, .int (3)), (4, .int ((-1))), (2, .int (mi)), (1, .int (nI (g))), (0, .ref (35))]) dX1_knockFrom_49 1 rfl rfl (by decide) rfl ?_
    refine xr_goto (tgt := 2) dX1_knockFrom_52 rfl ?_
    refine xb_ls (ls2 := [(3, .int (3)), (2, .int (mi)), (1, .int (nI (g))), (0, .ref (35))]) [0, 2, 3, 4] rfl ?_
    have hS : fk g 2 mi (fC M) = fC M := if_pos h1
    have hT : fK3 g mi (fC M) = fK2 g mi (fC M) := (congrArg (fK3 g mi) hS).symm
    refine x_Q (Q := fun v s2 M2 J2 => v = none ∧ s2 = x_SH ∧ J = J2 ∧ fC M2 = fK3 g mi (fC M) ∧ FC M2) (by rw [hT]) ?_
    exact kn_3 hg mi e
  refine xb_top (y := nI (fb g 2)) h2 ?_
  refine xr_istore (ls2 := [(4, .int (nI (fb g 2))), (3, .int (2)), (2, .int (mi)), (1, .int (nI (g))), (0, .ref (35))]) dX1_knockFrom_12 (by decide) rfl ?_
  refine xr_iload dX1_knockFrom_14 0 rfl ?_
  refine xr_iconst (v := -1) dX1_knockFrom_16 rfl ?_
  refine xr_icmp_eq (tgt := 49) dX1_knockFrom_17 rfl (fun c => absurd c (nI_nm h1)) (fun _ => ?_)
  refine xr_aload_n dX1_knockFrom_20 4 rfl ?_
  refine xr_getR flX1_18 dX1_knockFrom_21 s_35 rfl ?_
  refine xr_iload dX1_knockFrom_24 0 rfl ?_
  refine xb_zald (j := fb g 2) (v := M 38 (fb g 2)) dX1_knockFrom_26 s_38 h1 (by decide) rfl ?_
  refine xr_if_eq (tgt := 49) dX1_knockFrom_27 rfl (fun c1 => ?_) (fun c1 => ?_)
  · refine xr_iinc (v := 3) (ls2 := [(3, .int (3)), (4, .int (nI (fb g 2))), (2, .int (mi)), (1, .int (nI (g))), (0, .ref (35))]) dX1_knockFrom_49 1 rfl rfl (by decide) rfl ?_
    refine xr_goto (tgt := 2) dX1_knockFrom_52 rfl ?_
    refine xb_ls (ls2 := [(3, .int (3)), (2, .int (mi)), (1, .int (nI (g))), (0, .ref (35))]) [0, 2, 3, 4] rfl ?_
    have hS : fk g 2 mi (fC M) = fC M := (if_neg (fun q => absurd h1 (by rw [q]; decide))).trans (if_pos c1)
    have hT : fK3 g mi (fC M) = fK2 g mi (fC M) := (congrArg (fK3 g mi) hS).symm
    refine x_Q (Q := fun v s2 M2 J2 => v = none ∧ s2 = x_SH ∧ J = J2 ∧ fC M2 = fK3 g mi (fC M) ∧ FC M2) (by rw [hT]) ?_
    exact kn_3 hg mi e
  · refine xr_aload_n dX1_knockFrom_30 4 rfl ?_
    refine xb_cV (As := []) (rest := []) mlX1_53 (c_X1_draw) dX1_knockFrom_31 s_35 rfl rfl (Nat.le_of_ble_eq_true rfl) (by decide) (by decide) ?_
    refine xr_aload_n dX1_knockFrom_34 4 rfl ?_
    refine xb_get (v := 1) flX1_28 dX1_knockFrom_35 s_35 rfl (Eq.trans (x_up_k _ _ _ (by decide)) e.2.1) ?_
    refine xr_icmp_ge (tgt := 49) dX1_knockFrom_38 rfl (fun c2 => ?_) (fun c2 => ?_)
    · refine xr_iinc (v := 3) (ls2 := [(3, .int (3)), (4, .int (nI (fb g 2))), (2, .int (mi)), (1, .int (nI (g))), (0, .ref (35))]) dX1_knockFrom_49 1 rfl rfl (by decide) rfl ?_
      refine xr_goto (tgt := 2) dX1_knockFrom_52 rfl ?_
      refine xb_ls (ls2 := [(3, .int (3)), (2, .int (mi)), (1, .int (nI (g))), (0, .ref (35))]) [0, 2, 3, 4] rfl ?_
      have hS : fk g 2 mi (fC M) = fC (x_up M 35 6 (fz (M 35 6))) := (if_neg (fun q => absurd h1 (by rw [q]; decide))).trans ((if_neg c1).trans (if_pos c2))
      have hT : fK3 g mi (fC (x_up M 35 6 (fz (M 35 6)))) = fK2 g mi (fC M) := (congrArg (fK3 g mi) hS).symm
      refine x_Q (Q := fun v s2 M2 J2 => v = none ∧ s2 = x_SH ∧ J = J2 ∧ fC M2 = fK3 g mi (fC (x_up M 35 6 (fz (M 35 6)))) ∧ FC M2) (by rw [hT]) ?_
      exact kn_3 hg mi (FC_up (by decide) e)
    · refine xr_aload_n dX1_knockFrom_41 4 rfl ?_
      refine xr_iload dX1_knockFrom_42 0 rfl ?_
      refine xr_iload_n dX1_knockFrom_44 3 rfl ?_
      refine xr_iload_n dX1_knockFrom_45 2 rfl ?_
      refine xb_cV (As := [.int (nI (fb g 2)), .int (nI (g)), .int (mi)]) (rest := []) mlX1_57 (c_X1_drop h1 (nI (g)) mi) dX1_knockFrom_46 s_35 rfl rfl (Nat.le_of_ble_eq_true rfl) (by decide) (by decide) ?_
      refine xr_iinc (v := 3) (ls2 := [(3, .int (3)), (4, .int (nI (fb g 2))), (2, .int (mi)), (1, .int (nI (g))), (0, .ref (35))]) dX1_knockFrom_49 1 rfl rfl (by decide) rfl ?_
      refine xr_goto (tgt := 2) dX1_knockFrom_52 rfl ?_
      refine xb_ls (ls2 := [(3, .int (3)), (2, .int (mi)), (1, .int (nI (g))), (0, .ref (35))]) [0, 2, 3, 4] rfl ?_
      have hS : fk g 2 mi (fC M) = fC (x_up (x_up (x_up (x_up M 35 6 (fz (M 35 6))) 38 (fb g 2) 0) 39 (fb g 2) (nI (g))) 40 (fb g 2) mi) := (if_neg (fun q => absurd h1 (by rw [q]; decide))).trans ((if_neg c1).trans (if_neg c2))
      have hT : fK3 g mi (fC (x_up (x_up (x_up (x_up M 35 6 (fz (M 35 6))) 38 (fb g 2) 0) 39 (fb g 2) (nI (g))) 40 (fb g 2) mi)) = fK2 g mi (fC M) := (congrArg (fK3 g mi) hS).symm
      refine x_Q (Q := fun v s2 M2 J2 => v = none ∧ s2 = x_SH ∧ J = J2 ∧ fC M2 = fK3 g mi (fC (x_up (x_up (x_up (x_up M 35 6 (fz (M 35 6))) 38 (fb g 2) 0) 39 (fb g 2) (nI (g))) 40 (fb g 2) mi)) ∧ FC M2) (by rw [hT]) ?_
      exact kn_3 hg mi (FC_up ⟨by decide, by decide, fun q => absurd q.1 (by decide)⟩ (FC_up ⟨by decide, by decide, fun q => absurd q.1 (by decide)⟩ (FC_up ⟨by decide, by decide, fun q => absurd q.1 (by decide)⟩ (FC_up (by decide) e))))
set_option maxRecDepth 100000 in
set_option maxHeartbeats 4000000 in
theorem kn_1 {l : Launch} {G : xG} {M : xM} {J : xJ} {g : Nat} (hg : g < 25) (mi : Int32) (e : FC M) : x_X l G fX1_knockFrom 1 0 0 (fun v s2 M2 J2 => v = none ∧ s2 = x_SH ∧ J = J2 ∧ fC M2 = fK1 g mi (fC M) ∧ FC M2) 2 [(3, .int (1)), (2, .int (mi)), (1, .int (nI (g))), (0, .ref (35))] [] x_SH M J 0 0 := by
  refine xr_iload_n dX1_knockFrom_2 0 rfl ?_
  refine xr_iconst (v := 4) dX1_knockFrom_3 rfl ?_
  refine xr_icmp_ge (tgt := 55) dX1_knockFrom_4 rfl (fun c => absurd c (by decide)) (fun _ => ?_)
  refine xr_iload_n dX1_knockFrom_7 2 rfl ?_
  refine xr_iload_n dX1_knockFrom_8 0 rfl ?_
  refine xb_cS (As := [.int (nI (g)), .int (1)]) (rest := []) mlX1_64 (c_X1_beside_1 hg) dX1_knockFrom_9 rfl rfl (Nat.le_of_ble_eq_true rfl) (by decide) (by decide) ?_
  rcases fb_c g hg 1 (by decide) with ⟨h1, h2⟩ | ⟨h1, h2⟩
  · refine xb_top (y := -1) h2 ?_
    refine xr_istore (ls2 := [(4, .int ((-1))), (3, .int (1)), (2, .int (mi)), (1, .int (nI (g))), (0, .ref (35))]) dX1_knockFrom_12 (by decide) rfl ?_
    refine xr_iload dX1_knockFrom_14 0 rfl ?_
    refine xr_iconst (v := -1) dX1_knockFrom_16 rfl ?_
    refine xr_icmp_eq (tgt := 49) dX1_knockFrom_17 rfl (fun _ => ?_) (fun c => absurd (by decide) c)
    refine xr_iinc (v := 2) (ls2 := [(3, .int (2)), (4, .int ((-1))), (2, .int (mi)), (1, .int (nI (g))), (0, .ref (35))]) dX1_knockFrom_49 1 rfl rfl (by decide) rfl ?_
    refine xr_goto (tgt := 2) dX1_knockFrom_52 rfl ?_
    refine xb_ls (ls2 := [(3, .int (2)), (2, .int (mi)), (1, .int (nI (g))), (0, .ref (35))]) [0, 2, 3, 4] rfl ?_
    have hS : fk g 1 mi (fC M) = fC M := if_pos h1
    have hT : fK2 g mi (fC M) = fK1 g mi (fC M) := (congrArg (fK2 g mi) hS).symm
    refine x_Q (Q := fun v s2 M2 J2 => v = none ∧ s2 = x_SH ∧ J = J2 ∧ fC M2 = fK2 g mi (fC M) ∧ FC M2) (by rw [hT]) ?_
    exact kn_2 hg mi e
  refine xb_top (y := nI (fb g 1)) h2 ?_
  refine xr_istore (ls2 := [(4, .int (nI (fb g 1))), (3, .int (1)), (2, .int (mi)), (1, .int (nI (g))), (0, .ref (35))]) dX1_knockFrom_12 (by decide) rfl ?_
  refine xr_iload dX1_knockFrom_14 0 rfl ?_
  refine xr_iconst (v := -1) dX1_knockFrom_16 rfl ?_
  refine xr_icmp_eq (tgt := 49) dX1_knockFrom_17 rfl (fun c => absurd c (nI_nm h1)) (fun _ => ?_)
  refine xr_aload_n dX1_knockFrom_20 4 rfl ?_
  refine xr_getR flX1_18 dX1_knockFrom_21 s_35 rfl ?_
  refine xr_iload dX1_knockFrom_24 0 rfl ?_
  refine xb_zald (j := fb g 1) (v := M 38 (fb g 1)) dX1_knockFrom_26 s_38 h1 (by decide) rfl ?_
  refine xr_if_eq (tgt := 49) dX1_knockFrom_27 rfl (fun c1 => ?_) (fun c1 => ?_)
  · refine xr_iinc (v := 2) (ls2 := [(3, .int (2)), (4, .int (nI (fb g 1))), (2, .int (mi)), (1, .int (nI (g))), (0, .ref (35))]) dX1_knockFrom_49 1 rfl rfl (by decide) rfl ?_
    refine xr_goto (tgt := 2) dX1_knockFrom_52 rfl ?_
    refine xb_ls (ls2 := [(3, .int (2)), (2, .int (mi)), (1, .int (nI (g))), (0, .ref (35))]) [0, 2, 3, 4] rfl ?_
    have hS : fk g 1 mi (fC M) = fC M := (if_neg (fun q => absurd h1 (by rw [q]; decide))).trans (if_pos c1)
    have hT : fK2 g mi (fC M) = fK1 g mi (fC M) := (congrArg (fK2 g mi) hS).symm
    refine x_Q (Q := fun v s2 M2 J2 => v = none ∧ s2 = x_SH ∧ J = J2 ∧ fC M2 = fK2 g mi (fC M) ∧ FC M2) (by rw [hT]) ?_
    exact kn_2 hg mi e
  · refine xr_aload_n dX1_knockFrom_30 4 rfl ?_
    refine xb_cV (As := []) (rest := []) mlX1_53 (c_X1_draw) dX1_knockFrom_31 s_35 rfl rfl (Nat.le_of_ble_eq_true rfl) (by decide) (by decide) ?_
    refine xr_aload_n dX1_knockFrom_34 4 rfl ?_
    refine xb_get (v := 1) flX1_28 dX1_knockFrom_35 s_35 rfl (Eq.trans (x_up_k _ _ _ (by decide)) e.2.1) ?_
    refine xr_icmp_ge (tgt := 49) dX1_knockFrom_38 rfl (fun c2 => ?_) (fun c2 => ?_)
    · refine xr_iinc (v := 2) (ls2 := [(3, .int (2)), (4, .int (nI (fb g 1))), (2, .int (mi)), (1, .int (nI (g))), (0, .ref (35))]) dX1_knockFrom_49 1 rfl rfl (by decide) rfl ?_
      refine xr_goto (tgt := 2) dX1_knockFrom_52 rfl ?_
      refine xb_ls (ls2 := [(3, .int (2)), (2, .int (mi)), (1, .int (nI (g))), (0, .ref (35))]) [0, 2, 3, 4] rfl ?_
      have hS : fk g 1 mi (fC M) = fC (x_up M 35 6 (fz (M 35 6))) := (if_neg (fun q => absurd h1 (by rw [q]; decide))).trans ((if_neg c1).trans (if_pos c2))
      have hT : fK2 g mi (fC (x_up M 35 6 (fz (M 35 6)))) = fK1 g mi (fC M) := (congrArg (fK2 g mi) hS).symm
      refine x_Q (Q := fun v s2 M2 J2 => v = none ∧ s2 = x_SH ∧ J = J2 ∧ fC M2 = fK2 g mi (fC (x_up M 35 6 (fz (M 35 6)))) ∧ FC M2) (by rw [hT]) ?_
      exact kn_2 hg mi (FC_up (by decide) e)
    · refine xr_aload_n dX1_knockFrom_41 4 rfl ?_
      refine xr_iload dX1_knockFrom_42 0 rfl ?_
      refine xr_iload_n dX1_knockFrom_44 3 rfl ?_
      refine xr_iload_n dX1_knockFrom_45 2 rfl ?_
      refine xb_cV (As := [.int (nI (fb g 1)), .int (nI (g)), .int (mi)]) (rest := []) mlX1_57 (c_X1_drop h1 (nI (g)) mi) dX1_knockFrom_46 s_35 rfl rfl (Nat.le_of_ble_eq_true rfl) (by decide) (by decide) ?_
      refine xr_iinc (v := 2) (ls2 := [(3, .int (2)), (4, .int (nI (fb g 1))), (2, .int (mi)), (1, .int (nI (g))), (0, .ref (35))]) dX1_knockFrom_49 1 rfl rfl (by decide) rfl ?_
      refine xr_goto (tgt := 2) dX1_knockFrom_52 rfl ?_
      refine xb_ls (ls2 := [(3, .int (2)), (2, .int (mi)), (1, .int (nI (g))), (0, .ref (35))]) [0, 2, 3, 4] rfl ?_
      have hS : fk g 1 mi (fC M) = fC (x_up (x_up (x_up (x_up M 35 6 (fz (M 35 6))) 38 (fb g 1) 0) 39 (fb g 1) (nI (g))) 40 (fb g 1) mi) := (if_neg (fun q => absurd h1 (by rw [q]; decide))).trans ((if_neg c1).trans (if_neg c2))
      have hT : fK2 g mi (fC (x_up (x_up (x_up (x_up M 35 6 (fz (M 35 6))) 38 (fb g 1) 0) 39 (fb g 1) (nI (g))) 40 (fb g 1) mi)) = fK1 g mi (fC M) := (congrArg (fK2 g mi) hS).symm
      refine x_Q (Q := fun v s2 M2 J2 => v = none ∧ s2 = x_SH ∧ J = J2 ∧ fC M2 = fK2 g mi (fC (x_up (x_up (x_up (x_up M 35 6 (fz (M 35 6))) 38 (fb g 1) 0) 39 (fb g 1) (nI (g))) 40 (fb g 1) mi)) ∧ FC M2) (by rw [hT]) ?_
      exact kn_2 hg mi (FC_up ⟨by decide, by decide, fun q => absurd q.1 (by decide)⟩ (FC_up ⟨by decide, by decide, fun q => absurd q.1 (by decide)⟩ (FC_up ⟨by decide, by decide, fun q => absurd q.1 (by decide)⟩ (FC_up (by decide) e))))
set_option maxRecDepth 100000 in
set_option maxHeartbeats 4000000 in
theorem kn_0 {l : Launch} {G : xG} {M : xM} {J : xJ} {g : Nat} (hg : g < 25) (mi : Int32) (e : FC M) : x_X l G fX1_knockFrom 1 0 0 (fun v s2 M2 J2 => v = none ∧ s2 = x_SH ∧ J = J2 ∧ fC M2 = fK0 g mi (fC M) ∧ FC M2) 2 [(3, .int (0)), (2, .int (mi)), (1, .int (nI (g))), (0, .ref (35))] [] x_SH M J 0 0 := by
  refine xr_iload_n dX1_knockFrom_2 0 rfl ?_
  refine xr_iconst (v := 4) dX1_knockFrom_3 rfl ?_
  refine xr_icmp_ge (tgt := 55) dX1_knockFrom_4 rfl (fun c => absurd c (by decide)) (fun _ => ?_)
  refine xr_iload_n dX1_knockFrom_7 2 rfl ?_
  refine xr_iload_n dX1_knockFrom_8 0 rfl ?_
  refine xb_cS (As := [.int (nI (g)), .int (0)]) (rest := []) mlX1_64 (c_X1_beside_0 hg) dX1_knockFrom_9 rfl rfl (Nat.le_of_ble_eq_true rfl) (by decide) (by decide) ?_
  rcases fb_c g hg 0 (by decide) with ⟨h1, h2⟩ | ⟨h1, h2⟩
  · refine xb_top (y := -1) h2 ?_
    refine xr_istore (ls2 := [(4, .int ((-1))), (3, .int (0)), (2, .int (mi)), (1, .int (nI (g))), (0, .ref (35))]) dX1_knockFrom_12 (by decide) rfl ?_
    refine xr_iload dX1_knockFrom_14 0 rfl ?_
    refine xr_iconst (v := -1) dX1_knockFrom_16 rfl ?_
    refine xr_icmp_eq (tgt := 49) dX1_knockFrom_17 rfl (fun _ => ?_) (fun c => absurd (by decide) c)
    refine xr_iinc (v := 1) (ls2 := [(3, .int (1)), (4, .int ((-1))), (2, .int (mi)), (1, .int (nI (g))), (0, .ref (35))]) dX1_knockFrom_49 1 rfl rfl (by decide) rfl ?_
    refine xr_goto (tgt := 2) dX1_knockFrom_52 rfl ?_
    refine xb_ls (ls2 := [(3, .int (1)), (2, .int (mi)), (1, .int (nI (g))), (0, .ref (35))]) [0, 2, 3, 4] rfl ?_
    have hS : fk g 0 mi (fC M) = fC M := if_pos h1
    have hT : fK1 g mi (fC M) = fK0 g mi (fC M) := (congrArg (fK1 g mi) hS).symm
    refine x_Q (Q := fun v s2 M2 J2 => v = none ∧ s2 = x_SH ∧ J = J2 ∧ fC M2 = fK1 g mi (fC M) ∧ FC M2) (by rw [hT]) ?_
    exact kn_1 hg mi e
  refine xb_top (y := nI (fb g 0)) h2 ?_
  refine xr_istore (ls2 := [(4, .int (nI (fb g 0))), (3, .int (0)), (2, .int (mi)), (1, .int (nI (g))), (0, .ref (35))]) dX1_knockFrom_12 (by decide) rfl ?_
  refine xr_iload dX1_knockFrom_14 0 rfl ?_
  refine xr_iconst (v := -1) dX1_knockFrom_16 rfl ?_
  refine xr_icmp_eq (tgt := 49) dX1_knockFrom_17 rfl (fun c => absurd c (nI_nm h1)) (fun _ => ?_)
  refine xr_aload_n dX1_knockFrom_20 4 rfl ?_
  refine xr_getR flX1_18 dX1_knockFrom_21 s_35 rfl ?_
  refine xr_iload dX1_knockFrom_24 0 rfl ?_
  refine xb_zald (j := fb g 0) (v := M 38 (fb g 0)) dX1_knockFrom_26 s_38 h1 (by decide) rfl ?_
  refine xr_if_eq (tgt := 49) dX1_knockFrom_27 rfl (fun c1 => ?_) (fun c1 => ?_)
  · refine xr_iinc (v := 1) (ls2 := [(3, .int (1)), (4, .int (nI (fb g 0))), (2, .int (mi)), (1, .int (nI (g))), (0, .ref (35))]) dX1_knockFrom_49 1 rfl rfl (by decide) rfl ?_
    refine xr_goto (tgt := 2) dX1_knockFrom_52 rfl ?_
    refine xb_ls (ls2 := [(3, .int (1)), (2, .int (mi)), (1, .int (nI (g))), (0, .ref (35))]) [0, 2, 3, 4] rfl ?_
    have hS : fk g 0 mi (fC M) = fC M := (if_neg (fun q => absurd h1 (by rw [q]; decide))).trans (if_pos c1)
    have hT : fK1 g mi (fC M) = fK0 g mi (fC M) := (congrArg (fK1 g mi) hS).symm
    refine x_Q (Q := fun v s2 M2 J2 => v = none ∧ s2 = x_SH ∧ J = J2 ∧ fC M2 = fK1 g mi (fC M) ∧ FC M2) (by rw [hT]) ?_
    exact kn_1 hg mi e
  · refine xr_aload_n dX1_knockFrom_30 4 rfl ?_
    refine xb_cV (As := []) (rest := []) mlX1_53 (c_X1_draw) dX1_knockFrom_31 s_35 rfl rfl (Nat.le_of_ble_eq_true rfl) (by decide) (by decide) ?_
    refine xr_aload_n dX1_knockFrom_34 4 rfl ?_
    refine xb_get (v := 1) flX1_28 dX1_knockFrom_35 s_35 rfl (Eq.trans (x_up_k _ _ _ (by decide)) e.2.1) ?_
    refine xr_icmp_ge (tgt := 49) dX1_knockFrom_38 rfl (fun c2 => ?_) (fun c2 => ?_)
    · refine xr_iinc (v := 1) (ls2 := [(3, .int (1)), (4, .int (nI (fb g 0))), (2, .int (mi)), (1, .int (nI (g))), (0, .ref (35))]) dX1_knockFrom_49 1 rfl rfl (by decide) rfl ?_
      refine xr_goto (tgt := 2) dX1_knockFrom_52 rfl ?_
      refine xb_ls (ls2 := [(3, .int (1)), (2, .int (mi)), (1, .int (nI (g))), (0, .ref (35))]) [0, 2, 3, 4] rfl ?_
      have hS : fk g 0 mi (fC M) = fC (x_up M 35 6 (fz (M 35 6))) := (if_neg (fun q => absurd h1 (by rw [q]; decide))).trans ((if_neg c1).trans (if_pos c2))
      have hT : fK1 g mi (fC (x_up M 35 6 (fz (M 35 6)))) = fK0 g mi (fC M) := (congrArg (fK1 g mi) hS).symm
      refine x_Q (Q := fun v s2 M2 J2 => v = none ∧ s2 = x_SH ∧ J = J2 ∧ fC M2 = fK1 g mi (fC (x_up M 35 6 (fz (M 35 6)))) ∧ FC M2) (by rw [hT]) ?_
      exact kn_1 hg mi (FC_up (by decide) e)
    · refine xr_aload_n dX1_knockFrom_41 4 rfl ?_
      refine xr_iload dX1_knockFrom_42 0 rfl ?_
      refine xr_iload_n dX1_knockFrom_44 3 rfl ?_
      refine xr_iload_n dX1_knockFrom_45 2 rfl ?_
      refine xb_cV (As := [.int (nI (fb g 0)), .int (nI (g)), .int (mi)]) (rest := []) mlX1_57 (c_X1_drop h1 (nI (g)) mi) dX1_knockFrom_46 s_35 rfl rfl (Nat.le_of_ble_eq_true rfl) (by decide) (by decide) ?_
      refine xr_iinc (v := 1) (ls2 := [(3, .int (1)), (4, .int (nI (fb g 0))), (2, .int (mi)), (1, .int (nI (g))), (0, .ref (35))]) dX1_knockFrom_49 1 rfl rfl (by decide) rfl ?_
      refine xr_goto (tgt := 2) dX1_knockFrom_52 rfl ?_
      refine xb_ls (ls2 := [(3, .int (1)), (2, .int (mi)), (1, .int (nI (g))), (0, .ref (35))]) [0, 2, 3, 4] rfl ?_
      have hS : fk g 0 mi (fC M) = fC (x_up (x_up (x_up (x_up M 35 6 (fz (M 35 6))) 38 (fb g 0) 0) 39 (fb g 0) (nI (g))) 40 (fb g 0) mi) := (if_neg (fun q => absurd h1 (by rw [q]; decide))).trans ((if_neg c1).trans (if_neg c2))
      have hT : fK1 g mi (fC (x_up (x_up (x_up (x_up M 35 6 (fz (M 35 6))) 38 (fb g 0) 0) 39 (fb g 0) (nI (g))) 40 (fb g 0) mi)) = fK0 g mi (fC M) := (congrArg (fK1 g mi) hS).symm
      refine x_Q (Q := fun v s2 M2 J2 => v = none ∧ s2 = x_SH ∧ J = J2 ∧ fC M2 = fK1 g mi (fC (x_up (x_up (x_up (x_up M 35 6 (fz (M 35 6))) 38 (fb g 0) 0) 39 (fb g 0) (nI (g))) 40 (fb g 0) mi)) ∧ FC M2) (by rw [hT]) ?_
      exact kn_1 hg mi (FC_up ⟨by decide, by decide, fun q => absurd q.1 (by decide)⟩ (FC_up ⟨by decide, by decide, fun q => absurd q.1 (by decide)⟩ (FC_up ⟨by decide, by decide, fun q => absurd q.1 (by decide)⟩ (FC_up (by decide) e))))
