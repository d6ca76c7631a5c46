theorem dX5_push_0 : decode cX5_push 0 = .ok (.iconst 0, 1) := by decide +kernel
theorem dX5_push_1 : decode cX5_push 1 = .ok (.istore_n 3, 1) := by decide +kernel
theorem dX5_push_2 : decode cX5_push 2 = .ok (.iload_n 3, 1) := by decide +kernel
theorem dX5_push_3 : decode cX5_push 3 = .ok (.aload_n 0, 1) := by decide +kernel
theorem dX5_push_4 : decode cX5_push 4 = .ok (.getfield 35, 3) := by decide +kernel
theorem dX5_push_7 : decode cX5_push 7 = .ok (.if_icmp .ge 45, 3) := by decide +kernel
theorem dX5_push_52 : decode cX5_push 52 = .ok (.return_, 1) := by decide +kernel
theorem dX5_cross_0 : decode cX5_cross 0 = .ok (.iconst 0, 1) := by decide +kernel
theorem dX5_cross_1 : decode cX5_cross 1 = .ok (.istore_n 1, 1) := by decide +kernel
theorem dX5_cross_2 : decode cX5_cross 2 = .ok (.iload_n 1, 1) := by decide +kernel
theorem dX5_cross_3 : decode cX5_cross 3 = .ok (.aload_n 0, 1) := by decide +kernel
theorem dX5_cross_4 : decode cX5_cross 4 = .ok (.getfield 35, 3) := by decide +kernel
theorem dX5_cross_7 : decode cX5_cross 7 = .ok (.if_icmp .ge 65, 3) := by decide +kernel
theorem dX5_cross_72 : decode cX5_cross 72 = .ok (.return_, 1) := by decide +kernel
theorem dX5_settle_0 : decode cX5_settle 0 = .ok (.iconst 0, 1) := by decide +kernel
theorem dX5_settle_1 : decode cX5_settle 1 = .ok (.istore_n 1, 1) := by decide +kernel
theorem dX5_settle_2 : decode cX5_settle 2 = .ok (.iload_n 1, 1) := by decide +kernel
theorem dX5_settle_3 : decode cX5_settle 3 = .ok (.aload_n 0, 1) := by decide +kernel
theorem dX5_settle_4 : decode cX5_settle 4 = .ok (.getfield 35, 3) := by decide +kernel
theorem dX5_settle_7 : decode cX5_settle 7 = .ok (.if_icmp .ge 53, 3) := by decide +kernel
theorem dX5_settle_60 : decode cX5_settle 60 = .ok (.aload_n 0, 1) := by decide +kernel
theorem dX5_settle_61 : decode cX5_settle 61 = .ok (.invokevirtual 114, 3) := by decide +kernel
theorem dX5_settle_64 : decode cX5_settle 64 = .ok (.iconst 0, 1) := by decide +kernel
theorem dX5_settle_65 : decode cX5_settle 65 = .ok (.istore_n 1, 1) := by decide +kernel
theorem dX5_settle_66 : decode cX5_settle 66 = .ok (.iload_n 1, 1) := by decide +kernel
theorem dX5_settle_67 : decode cX5_settle 67 = .ok (.aload_n 0, 1) := by decide +kernel
theorem dX5_settle_68 : decode cX5_settle 68 = .ok (.getfield 35, 3) := by decide +kernel
theorem dX5_settle_71 : decode cX5_settle 71 = .ok (.if_icmp .ge 29, 3) := by decide +kernel
theorem dX5_settle_100 : decode cX5_settle 100 = .ok (.aload_n 0, 1) := by decide +kernel
theorem dX5_settle_101 : decode cX5_settle 101 = .ok (.dup, 1) := by decide +kernel
theorem dX5_settle_102 : decode cX5_settle 102 = .ok (.getfield 42, 3) := by decide +kernel
theorem dX5_settle_105 : decode cX5_settle 105 = .ok (.iconst 1, 1) := by decide +kernel
theorem dX5_settle_106 : decode cX5_settle 106 = .ok (.iadd, 1) := by decide +kernel
theorem dX5_settle_107 : decode cX5_settle 107 = .ok (.putfield 42, 3) := by decide +kernel
theorem dX5_settle_110 : decode cX5_settle 110 = .ok (.return_, 1) := by decide +kernel
theorem dX5_upright_0 : decode cX5_upright 0 = .ok (.iconst 0, 1) := by decide +kernel
theorem dX5_upright_1 : decode cX5_upright 1 = .ok (.istore_n 1, 1) := by decide +kernel
theorem dX5_upright_2 : decode cX5_upright 2 = .ok (.iconst 0, 1) := by decide +kernel
theorem dX5_upright_3 : decode cX5_upright 3 = .ok (.istore_n 2, 1) := by decide +kernel
theorem dX5_upright_4 : decode cX5_upright 4 = .ok (.iload_n 2, 1) := by decide +kernel
theorem dX5_upright_5 : decode cX5_upright 5 = .ok (.aload_n 0, 1) := by decide +kernel
theorem dX5_upright_6 : decode cX5_upright 6 = .ok (.getfield 35, 3) := by decide +kernel
theorem dX5_upright_9 : decode cX5_upright 9 = .ok (.if_icmp .ge 24, 3) := by decide +kernel
theorem dX5_upright_33 : decode cX5_upright 33 = .ok (.iload_n 1, 1) := by decide +kernel
theorem dX5_upright_34 : decode cX5_upright 34 = .ok (.ireturn, 1) := by decide +kernel
theorem dX5_allHighest_0 : decode cX5_allHighest 0 = .ok (.iconst 0, 1) := by decide +kernel
theorem dX5_allHighest_1 : decode cX5_allHighest 1 = .ok (.istore_n 1, 1) := by decide +kernel
theorem dX5_allHighest_2 : decode cX5_allHighest 2 = .ok (.iload_n 1, 1) := by decide +kernel
theorem dX5_allHighest_3 : decode cX5_allHighest 3 = .ok (.aload_n 0, 1) := by decide +kernel
theorem dX5_allHighest_4 : decode cX5_allHighest 4 = .ok (.getfield 35, 3) := by decide +kernel
theorem dX5_allHighest_7 : decode cX5_allHighest 7 = .ok (.if_icmp .ge 25, 3) := by decide +kernel
theorem dX5_allHighest_32 : decode cX5_allHighest 32 = .ok (.iconst 1, 1) := by decide +kernel
theorem dX5_allHighest_33 : decode cX5_allHighest 33 = .ok (.ireturn, 1) := by decide +kernel
theorem dX5_isPushDue_0 : decode cX5_isPushDue 0 = .ok (.aload_n 0, 1) := by decide +kernel
theorem dX5_isPushDue_1 : decode cX5_isPushDue 1 = .ok (.getfield 42, 3) := by decide +kernel
theorem dX5_isPushDue_4 : decode cX5_isPushDue 4 = .ok (.aload_n 0, 1) := by decide +kernel
theorem dX5_isPushDue_5 : decode cX5_isPushDue 5 = .ok (.getfield 26, 3) := by decide +kernel
theorem dX5_isPushDue_8 : decode cX5_isPushDue 8 = .ok (.invokestatic 79, 3) := by decide +kernel
theorem dX5_isPushDue_11 : decode cX5_isPushDue 11 = .ok (.aload_n 0, 1) := by decide +kernel
theorem dX5_isPushDue_12 : decode cX5_isPushDue 12 = .ok (.getfield 45, 3) := by decide +kernel
theorem dX5_isPushDue_15 : decode cX5_isPushDue 15 = .ok (.aload_n 0, 1) := by decide +kernel
theorem dX5_isPushDue_16 : decode cX5_isPushDue 16 = .ok (.getfield 26, 3) := by decide +kernel
theorem dX5_isPushDue_19 : decode cX5_isPushDue 19 = .ok (.invokestatic 79, 3) := by decide +kernel
theorem dX5_isPushDue_22 : decode cX5_isPushDue 22 = .ok (.if_icmp .ne 7, 3) := by decide +kernel
theorem dX5_isPushDue_29 : decode cX5_isPushDue 29 = .ok (.iconst 0, 1) := by decide +kernel
theorem dX5_isPushDue_30 : decode cX5_isPushDue 30 = .ok (.ireturn, 1) := by decide +kernel
theorem dX5_isPushDue_25 : decode cX5_isPushDue 25 = .ok (.iconst 1, 1) := by decide +kernel
theorem dX5_isPushDue_26 : decode cX5_isPushDue 26 = .ok (.goto 4, 3) := by decide +kernel
theorem dX5_goalInTurn_0 : decode cX5_goalInTurn 0 = .ok (.aload_n 0, 1) := by decide +kernel
theorem dX5_goalInTurn_1 : decode cX5_goalInTurn 1 = .ok (.getfield 26, 3) := by decide +kernel
theorem dX5_goalInTurn_4 : decode cX5_goalInTurn 4 = .ok (.ifCond .ne 7, 3) := by decide +kernel
theorem dX5_goalInTurn_11 : decode cX5_goalInTurn 11 = .ok (.aload_n 0, 1) := by decide +kernel
theorem dX5_goalInTurn_12 : decode cX5_goalInTurn 12 = .ok (.getfield 42, 3) := by decide +kernel
theorem dX5_goalInTurn_15 : decode cX5_goalInTurn 15 = .ok (.aload_n 0, 1) := by decide +kernel
theorem dX5_goalInTurn_16 : decode cX5_goalInTurn 16 = .ok (.getfield 26, 3) := by decide +kernel
theorem dX5_goalInTurn_19 : decode cX5_goalInTurn 19 = .ok (.idiv, 1) := by decide +kernel
theorem dX5_goalInTurn_20 : decode cX5_goalInTurn 20 = .ok (.invokestatic 83, 3) := by decide +kernel
theorem dX5_goalInTurn_23 : decode cX5_goalInTurn 23 = .ok (.ireturn, 1) := by decide +kernel
theorem dX5_goalInTurn_7 : decode cX5_goalInTurn 7 = .ok (.iconst 0, 1) := by decide +kernel
theorem dX5_goalInTurn_8 : decode cX5_goalInTurn 8 = .ok (.goto 12, 3) := by decide +kernel
theorem dX5_tick_0 : decode cX5_tick 0 = .ok (.aload_n 0, 1) := by decide +kernel
theorem dX5_tick_1 : decode cX5_tick 1 = .ok (.invokevirtual 87, 3) := by decide +kernel
theorem dX5_tick_4 : decode cX5_tick 4 = .ok (.ifCond .eq 25, 3) := by decide +kernel
theorem dX5_tick_29 : decode cX5_tick 29 = .ok (.aload_n 0, 1) := by decide +kernel
theorem dX5_tick_30 : decode cX5_tick 30 = .ok (.invokevirtual 98, 3) := by decide +kernel
theorem dX5_tick_33 : decode cX5_tick 33 = .ok (.return_, 1) := by decide +kernel
theorem dX5_tick_7 : decode cX5_tick 7 = .ok (.aload_n 0, 1) := by decide +kernel
theorem dX5_tick_8 : decode cX5_tick 8 = .ok (.aload_n 0, 1) := by decide +kernel
theorem dX5_tick_9 : decode cX5_tick 9 = .ok (.getfield 29, 3) := by decide +kernel
theorem dX5_tick_12 : decode cX5_tick 12 = .ok (.aload_n 0, 1) := by decide +kernel
theorem dX5_tick_13 : decode cX5_tick 13 = .ok (.invokevirtual 90, 3) := by decide +kernel
theorem dX5_tick_16 : decode cX5_tick 16 = .ok (.invokevirtual 94, 3) := by decide +kernel
theorem dX5_tick_19 : decode cX5_tick 19 = .ok (.aload_n 0, 1) := by decide +kernel
theorem dX5_tick_20 : decode cX5_tick 20 = .ok (.dup, 1) := by decide +kernel
theorem dX5_tick_21 : decode cX5_tick 21 = .ok (.getfield 48, 3) := by decide +kernel
theorem dX5_tick_24 : decode cX5_tick 24 = .ok (.iconst 1, 1) := by decide +kernel
theorem dX5_tick_25 : decode cX5_tick 25 = .ok (.iadd, 1) := by decide +kernel
theorem dX5_tick_26 : decode cX5_tick 26 = .ok (.putfield 48, 3) := by decide +kernel
theorem dX5_copy_0 : decode cX5_copy 0 = .ok (.iconst 0, 1) := by decide +kernel
theorem dX5_copy_1 : decode cX5_copy 1 = .ok (.istore_n 2, 1) := by decide +kernel
theorem dX5_copy_2 : decode cX5_copy 2 = .ok (.iload_n 2, 1) := by decide +kernel
theorem dX5_copy_3 : decode cX5_copy 3 = .ok (.aload_n 1, 1) := by decide +kernel
theorem dX5_copy_4 : decode cX5_copy 4 = .ok (.getfield 35, 3) := by decide +kernel
theorem dX5_copy_7 : decode cX5_copy 7 = .ok (.if_icmp .ge 24, 3) := by decide +kernel
theorem dX5_copy_31 : decode cX5_copy 31 = .ok (.aload_n 0, 1) := by decide +kernel
theorem dX5_copy_32 : decode cX5_copy 32 = .ok (.aload_n 1, 1) := by decide +kernel
theorem dX5_copy_33 : decode cX5_copy 33 = .ok (.getfield 35, 3) := by decide +kernel
theorem dX5_copy_36 : decode cX5_copy 36 = .ok (.putfield 35, 3) := by decide +kernel
theorem dX5_copy_39 : decode cX5_copy 39 = .ok (.aload_n 0, 1) := by decide +kernel
theorem dX5_copy_40 : decode cX5_copy 40 = .ok (.aload_n 1, 1) := by decide +kernel
theorem dX5_copy_41 : decode cX5_copy 41 = .ok (.getfield 42, 3) := by decide +kernel
theorem dX5_copy_44 : decode cX5_copy 44 = .ok (.putfield 42, 3) := by decide +kernel
theorem dX5_copy_47 : decode cX5_copy 47 = .ok (.aload_n 0, 1) := by decide +kernel
theorem dX5_copy_48 : decode cX5_copy 48 = .ok (.aload_n 1, 1) := by decide +kernel
theorem dX5_copy_49 : decode cX5_copy 49 = .ok (.getfield 22, 3) := by decide +kernel
theorem dX5_copy_52 : decode cX5_copy 52 = .ok (.putfield 22, 3) := by decide +kernel
theorem dX5_copy_55 : decode cX5_copy 55 = .ok (.aload_n 0, 1) := by decide +kernel
theorem dX5_copy_56 : decode cX5_copy 56 = .ok (.aload_n 1, 1) := by decide +kernel
theorem dX5_copy_57 : decode cX5_copy 57 = .ok (.getfield 26, 3) := by decide +kernel
theorem dX5_copy_60 : decode cX5_copy 60 = .ok (.putfield 26, 3) := by decide +kernel
theorem dX5_copy_63 : decode cX5_copy 63 = .ok (.aload_n 0, 1) := by decide +kernel
theorem dX5_copy_64 : decode cX5_copy 64 = .ok (.aload_n 1, 1) := by decide +kernel
theorem dX5_copy_65 : decode cX5_copy 65 = .ok (.getfield 45, 3) := by decide +kernel
theorem dX5_copy_68 : decode cX5_copy 68 = .ok (.putfield 45, 3) := by decide +kernel
theorem dX5_copy_71 : decode cX5_copy 71 = .ok (.aload_n 0, 1) := by decide +kernel
theorem dX5_copy_72 : decode cX5_copy 72 = .ok (.aload_n 1, 1) := by decide +kernel
theorem dX5_copy_73 : decode cX5_copy 73 = .ok (.getfield 29, 3) := by decide +kernel
theorem dX5_copy_76 : decode cX5_copy 76 = .ok (.putfield 29, 3) := by decide +kernel
theorem dX5_copy_79 : decode cX5_copy 79 = .ok (.aload_n 0, 1) := by decide +kernel
theorem dX5_copy_80 : decode cX5_copy 80 = .ok (.aload_n 1, 1) := by decide +kernel
theorem dX5_copy_81 : decode cX5_copy 81 = .ok (.getfield 48, 3) := by decide +kernel
theorem dX5_copy_84 : decode cX5_copy 84 = .ok (.putfield 48, 3) := by decide +kernel
theorem dX5_copy_87 : decode cX5_copy 87 = .ok (.aload_n 0, 1) := by decide +kernel
theorem dX5_copy_88 : decode cX5_copy 88 = .ok (.aload_n 1, 1) := by decide +kernel
theorem dX5_copy_89 : decode cX5_copy 89 = .ok (.getfield 32, 3) := by decide +kernel
theorem dX5_copy_92 : decode cX5_copy 92 = .ok (.putfield 32, 3) := by decide +kernel
theorem dX5_copy_95 : decode cX5_copy 95 = .ok (.return_, 1) := by decide +kernel
theorem dX7_begin_0 : decode cX7_begin 0 = .ok (.aload_n 0, 1) := by decide +kernel
theorem dX7_begin_1 : decode cX7_begin 1 = .ok (.getfield 15, 3) := by decide +kernel
theorem dX7_begin_4 : decode cX7_begin 4 = .ok (.aload_n 0, 1) := by decide +kernel
theorem dX7_begin_5 : decode cX7_begin 5 = .ok (.getfield 9, 3) := by decide +kernel
theorem dX7_begin_8 : decode cX7_begin 8 = .ok (.invokevirtual 18, 3) := by decide +kernel
theorem dX7_begin_11 : decode cX7_begin 11 = .ok (.aload_n 0, 1) := by decide +kernel
theorem dX7_begin_12 : decode cX7_begin 12 = .ok (.iconst 0, 1) := by decide +kernel
theorem dX7_begin_13 : decode cX7_begin 13 = .ok (.putfield 24, 3) := by decide +kernel
theorem dX7_begin_16 : decode cX7_begin 16 = .ok (.aload_n 0, 1) := by decide +kernel
theorem dX7_begin_17 : decode cX7_begin 17 = .ok (.iconst 0, 1) := by decide +kernel
theorem dX7_begin_18 : decode cX7_begin 18 = .ok (.putfield 28, 3) := by decide +kernel
theorem dX7_begin_21 : decode cX7_begin 21 = .ok (.aload_n 0, 1) := by decide +kernel
theorem dX7_begin_22 : decode cX7_begin 22 = .ok (.iconst (-1), 1) := by decide +kernel
theorem dX7_begin_23 : decode cX7_begin 23 = .ok (.putfield 31, 3) := by decide +kernel
theorem dX7_begin_26 : decode cX7_begin 26 = .ok (.aload_n 0, 1) := by decide +kernel
theorem dX7_begin_27 : decode cX7_begin 27 = .ok (.iconst (-1), 1) := by decide +kernel
theorem dX7_begin_28 : decode cX7_begin 28 = .ok (.putfield 34, 3) := by decide +kernel
theorem dX7_begin_31 : decode cX7_begin 31 = .ok (.return_, 1) := by decide +kernel
theorem dX7_step_0 : decode cX7_step 0 = .ok (.aload_n 0, 1) := by decide +kernel
theorem dX7_step_1 : decode cX7_step 1 = .ok (.getfield 15, 3) := by decide +kernel
theorem dX7_step_4 : decode cX7_step 4 = .ok (.invokevirtual 43, 3) := by decide +kernel
theorem dX7_step_7 : decode cX7_step 7 = .ok (.ifCond .eq 45, 3) := by decide +kernel
theorem dX7_step_52 : decode cX7_step 52 = .ok (.aload_n 0, 1) := by decide +kernel
theorem dX7_step_53 : decode cX7_step 53 = .ok (.getfield 24, 3) := by decide +kernel
theorem dX7_step_56 : decode cX7_step 56 = .ok (.aload_n 0, 1) := by decide +kernel
theorem dX7_step_57 : decode cX7_step 57 = .ok (.getfield 34, 3) := by decide +kernel
theorem dX7_step_60 : decode cX7_step 60 = .ok (.if_icmp .ne 18, 3) := by decide +kernel
theorem dX7_step_78 : decode cX7_step 78 = .ok (.aload_n 0, 1) := by decide +kernel
theorem dX7_step_79 : decode cX7_step 79 = .ok (.getfield 15, 3) := by decide +kernel
theorem dX7_step_82 : decode cX7_step 82 = .ok (.invokevirtual 58, 3) := by decide +kernel
theorem dX7_step_85 : decode cX7_step 85 = .ok (.aload_n 0, 1) := by decide +kernel
theorem dX7_step_86 : decode cX7_step 86 = .ok (.dup, 1) := by decide +kernel
theorem dX7_step_87 : decode cX7_step 87 = .ok (.getfield 24, 3) := by decide +kernel
theorem dX7_step_90 : decode cX7_step 90 = .ok (.iconst 1, 1) := by decide +kernel
theorem dX7_step_91 : decode cX7_step 91 = .ok (.iadd, 1) := by decide +kernel
theorem dX7_step_92 : decode cX7_step 92 = .ok (.putfield 24, 3) := by decide +kernel
theorem dX7_step_95 : decode cX7_step 95 = .ok (.return_, 1) := by decide +kernel
theorem dX7_step_63 : decode cX7_step 63 = .ok (.aload_n 0, 1) := by decide +kernel
theorem dX7_step_64 : decode cX7_step 64 = .ok (.getfield 15, 3) := by decide +kernel
theorem dX7_step_67 : decode cX7_step 67 = .ok (.aload_n 0, 1) := by decide +kernel
theorem dX7_step_68 : decode cX7_step 68 = .ok (.getfield 37, 3) := by decide +kernel
theorem dX7_step_71 : decode cX7_step 71 = .ok (.aload_n 0, 1) := by decide +kernel
theorem dX7_step_72 : decode cX7_step 72 = .ok (.getfield 40, 3) := by decide +kernel
theorem dX7_step_75 : decode cX7_step 75 = .ok (.invokevirtual 54, 3) := by decide +kernel
theorem dX7_step_10 : decode cX7_step 10 = .ok (.aload_n 0, 1) := by decide +kernel
theorem dX7_step_11 : decode cX7_step 11 = .ok (.getfield 28, 3) := by decide +kernel
theorem dX7_step_14 : decode cX7_step 14 = .ok (.aload_n 0, 1) := by decide +kernel
theorem dX7_step_15 : decode cX7_step 15 = .ok (.getfield 31, 3) := by decide +kernel
theorem dX7_step_18 : decode cX7_step 18 = .ok (.if_icmp .eq 24, 3) := by decide +kernel
theorem dX7_step_42 : decode cX7_step 42 = .ok (.aload_n 0, 1) := by decide +kernel
theorem dX7_step_43 : decode cX7_step 43 = .ok (.dup, 1) := by decide +kernel
theorem dX7_step_44 : decode cX7_step 44 = .ok (.getfield 28, 3) := by decide +kernel
theorem dX7_step_47 : decode cX7_step 47 = .ok (.iconst 1, 1) := by decide +kernel
theorem dX7_step_48 : decode cX7_step 48 = .ok (.iadd, 1) := by decide +kernel
theorem dX7_step_49 : decode cX7_step 49 = .ok (.putfield 28, 3) := by decide +kernel
theorem dX7_step_21 : decode cX7_step 21 = .ok (.aload_n 0, 1) := by decide +kernel
theorem dX7_step_22 : decode cX7_step 22 = .ok (.getfield 15, 3) := by decide +kernel
theorem dX7_step_25 : decode cX7_step 25 = .ok (.aload_n 0, 1) := by decide +kernel
theorem dX7_step_26 : decode cX7_step 26 = .ok (.getfield 15, 3) := by decide +kernel
theorem dX7_step_29 : decode cX7_step 29 = .ok (.getfield 47, 3) := by decide +kernel
theorem dX7_step_32 : decode cX7_step 32 = .ok (.aload_n 0, 1) := by decide +kernel
theorem dX7_step_33 : decode cX7_step 33 = .ok (.getfield 15, 3) := by decide +kernel
theorem dX7_step_36 : decode cX7_step 36 = .ok (.invokevirtual 50, 3) := by decide +kernel
theorem dX7_step_39 : decode cX7_step 39 = .ok (.invokevirtual 54, 3) := by decide +kernel
/-- no ring has a hoop, and the reference is as it was made -/
def E0 (M : xM) : Prop := M 13 2 = 0 ∧ M 20 2 = 0 ∧ M 28 2 = 0 ∧ Fr M
theorem E0_fr {M : xM} (e : E0 M) : Fr M := e.2.2.2
theorem E0_up {M : xM} {p k : Nat} {v : Int32} (h : (¬ ((p = 13 ∨ p = 20 ∨ p = 28) ∧ k = 2)) ∧ p < 62) (e : E0 M) : E0 (x_up M p k v) := by
  have key : ∀ q, (q = 13 ∨ q = 20 ∨ q = 28) → x_up M p k v q 2 = M q 2 := fun q hq => by
    by_cases hp : q = p
    · subst hp
      exact x_up_k _ _ _ (fun z => h.1 ⟨hq, z.symm⟩)
    · rw [x_up_n _ _ _ hp]
  exact ⟨(key 13 (by decide)).trans e.1, (key 20 (by decide)).trans e.2.1, (key 28 (by decide)).trans e.2.2.1, Fr_up h.2 e.2.2.2⟩
theorem E0_up0 {M : xM} {p k : Nat} (h : p < 62) (e : E0 M) : E0 (x_up M p k 0) := by
  have key : ∀ q, M q 2 = 0 → x_up M p k 0 q 2 = 0 := fun q hq => by
    by_cases hp : q = p
    · subst hp
      by_cases hk : 2 = k
      · subst hk; exact x_up_s _ _ _ _
      · rw [x_up_k _ _ _ hk]; exact hq
    · rw [x_up_n _ _ _ hp]; exact hq
  exact ⟨key 13 e.1, key 20 e.2.1, key 28 e.2.2.1, Fr_up h e.2.2.2⟩
/-- an end behind which there is still no hoop -/
def qE0 (r : Option Value) (J : xJ) : xQ := fun v sh' M' J' => v = r ∧ sh' = x_SH ∧ J = J' ∧ E0 M' 
set_option maxRecDepth 100000 in
set_option maxHeartbeats 4000000 in
theorem c0_push_13 (fo go : Int32) {l : Launch} {G : xG} {M : xM} {J : xJ} (e : E0 M) : x_M l G fX5_push 0 0 0 [.ref (13), .int (fo), .int (go)] x_SH M J (qE none x_SH M J) := by
  refine xb_of pX5 (Nat.le_of_ble_eq_true rfl) rfl ?_
  refine xr_iconst (v := 0) dX5_push_0 rfl ?_
  refine xr_istore_n (ls2 := [(3, .int (0)), (0, .ref (13)), (1, .int (fo)), (2, .int (go))]) dX5_push_1 (by decide) rfl ?_
  refine xr_iload_n dX5_push_2 0 rfl ?_
  refine xr_aload_n dX5_push_3 1 rfl ?_
  refine xb_get (v := 0) flX5_35 dX5_push_4 s_13 rfl e.1 ?_
  refine xr_icmp_ge (tgt := 52) dX5_push_7 rfl (fun _ => ?_) (fun c => absurd (by decide) c)
  exact xr_vret dX5_push_52 rfl (⟨rfl, rfl, rfl, rfl⟩)
set_option maxRecDepth 100000 in
set_option maxHeartbeats 4000000 in
theorem c0_cross_13 {l : Launch} {G : xG} {M : xM} {J : xJ} (e : E0 M) : x_M l G fX5_cross 0 0 0 [.ref (13)] x_SH M J (qE none x_SH M J) := by
  refine xb_of pX5 (Nat.le_of_ble_eq_true rfl) rfl ?_
  refine xr_iconst (v := 0) dX5_cross_0 rfl ?_
  refine xr_istore_n (ls2 := [(1, .int (0)), (0, .ref (13))]) dX5_cross_1 (by decide) rfl ?_
  refine xr_iload_n dX5_cross_2 0 rfl ?_
  refine xr_aload_n dX5_cross_3 1 rfl ?_
  refine xb_get (v := 0) flX5_35 dX5_cross_4 s_13 rfl e.1 ?_
  refine xr_icmp_ge (tgt := 72) dX5_cross_7 rfl (fun _ => ?_) (fun c => absurd (by decide) c)
  exact xr_vret dX5_cross_72 rfl (⟨rfl, rfl, rfl, rfl⟩)
set_option maxRecDepth 100000 in
set_option maxHeartbeats 4000000 in
theorem c0_settle_13 {l : Launch} {G : xG} {M : xM} {J : xJ} (e : E0 M) : x_M l G fX5_settle 1 0 0 [.ref (13)] x_SH M J (qE0 (none) J) := by
  refine xb_of pX5 (Nat.le_of_ble_eq_true rfl) rfl ?_
  refine xr_iconst (v := 0) dX5_settle_0 rfl ?_
  refine xr_istore_n (ls2 := [(1, .int (0)), (0, .ref (13))]) dX5_settle_1 (by decide) rfl ?_
  refine xr_iload_n dX5_settle_2 0 rfl ?_
  refine xr_aload_n dX5_settle_3 1 rfl ?_
  refine xb_get (v := 0) flX5_35 dX5_settle_4 s_13 rfl e.1 ?_
  refine xr_icmp_ge (tgt := 60) dX5_settle_7 rfl (fun _ => ?_) (fun c => absurd (by decide) c)
  refine xr_aload_n dX5_settle_60 1 rfl ?_
  refine xb_cV (As := []) (rest := []) mlX5_114 (c0_cross_13 e) dX5_settle_61 s_13 rfl rfl (Nat.le_of_ble_eq_true rfl) (by decide) (by decide) ?_
  refine xr_iconst (v := 0) dX5_settle_64 rfl ?_
  refine xr_istore_n (ls2 := [(1, .int (0)), (0, .ref (13))]) dX5_settle_65 (by decide) rfl ?_
  refine xr_iload_n dX5_settle_66 0 rfl ?_
  refine xr_aload_n dX5_settle_67 1 rfl ?_
  refine xb_get (v := 0) flX5_35 dX5_settle_68 s_13 rfl e.1 ?_
  refine xr_icmp_ge (tgt := 100) dX5_settle_71 rfl (fun _ => ?_) (fun c => absurd (by decide) c)
  refine xr_aload_n dX5_settle_100 1 rfl ?_
  refine xr_dup dX5_settle_101 rfl ?_
  refine xb_get (v := M 13 3) flX5_42 dX5_settle_102 s_13 rfl rfl ?_
  refine xr_iconst (v := 1) dX5_settle_105 rfl ?_
  refine xr_iadd dX5_settle_106 ?_
  refine xr_putI fpX5_42 dX5_settle_107 s_13 rfl rfl rfl ?_
  exact xr_vret dX5_settle_110 rfl (⟨rfl, rfl, rfl, (E0_up (by decide) e)⟩)
set_option maxRecDepth 100000 in
set_option maxHeartbeats 4000000 in
theorem c0_upright_13 {l : Launch} {G : xG} {M : xM} {J : xJ} (e : E0 M) : x_M l G fX5_upright 0 0 0 [.ref (13)] x_SH M J (qE (some (.int 0)) x_SH M J) := by
  refine xb_of pX5 (Nat.le_of_ble_eq_true rfl) rfl ?_
  refine xr_iconst (v := 0) dX5_upright_0 rfl ?_
  refine xr_istore_n (ls2 := [(1, .int (0)), (0, .ref (13))]) dX5_upright_1 (by decide) rfl ?_
  refine xr_iconst (v := 0) dX5_upright_2 rfl ?_
  refine xr_istore_n (ls2 := [(2, .int (0)), (1, .int (0)), (0, .ref (13))]) dX5_upright_3 (by decide) rfl ?_
  refine xr_iload_n dX5_upright_4 0 rfl ?_
  refine xr_aload_n dX5_upright_5 2 rfl ?_
  refine xb_get (v := 0) flX5_35 dX5_upright_6 s_13 rfl e.1 ?_
  refine xr_icmp_ge (tgt := 33) dX5_upright_9 rfl (fun _ => ?_) (fun c => absurd (by decide) c)
  refine xr_iload_n dX5_upright_33 1 rfl ?_
  exact xr_iret dX5_upright_34 rfl rfl (⟨rfl, rfl, rfl, rfl⟩)
set_option maxRecDepth 100000 in
set_option maxHeartbeats 4000000 in
theorem c0_allHighest_13 {l : Launch} {G : xG} {M : xM} {J : xJ} (e : E0 M) : x_M l G fX5_allHighest 0 0 0 [.ref (13)] x_SH M J (qE (some (.int 1)) x_SH M J) := by
  refine xb_of pX5 (Nat.le_of_ble_eq_true rfl) rfl ?_
  refine xr_iconst (v := 0) dX5_allHighest_0 rfl ?_
  refine xr_istore_n (ls2 := [(1, .int (0)), (0, .ref (13))]) dX5_allHighest_1 (by decide) rfl ?_
  refine xr_iload_n dX5_allHighest_2 0 rfl ?_
  refine xr_aload_n dX5_allHighest_3 1 rfl ?_
  refine xb_get (v := 0) flX5_35 dX5_allHighest_4 s_13 rfl e.1 ?_
  refine xr_icmp_ge (tgt := 32) dX5_allHighest_7 rfl (fun _ => ?_) (fun c => absurd (by decide) c)
  refine xr_iconst (v := 1) dX5_allHighest_32 rfl ?_
  exact xr_iret dX5_allHighest_33 rfl rfl (⟨rfl, rfl, rfl, rfl⟩)
set_option maxRecDepth 100000 in
set_option maxHeartbeats 4000000 in
theorem c_isPushDue_13 {l : Launch} {G : xG} {M : xM} {J : xJ} : x_M l G fX5_isPushDue 1 0 0 [.ref (13)] x_SH M J (qE (some (.int (bI ((if M 13 5 = 0 then 0 else M 13 3 - M 13 3 / M 13 5 * M 13 5) = (if M 13 5 = 0 then 0 else M 13 6 - M 13 6 / M 13 5 * M 13 5))))) x_SH M J) := by
  refine xb_of pX5 (Nat.le_of_ble_eq_true rfl) rfl ?_
  refine xr_aload_n dX5_isPushDue_0 0 rfl ?_
  refine xb_get (v := M 13 3) flX5_42 dX5_isPushDue_1 s_13 rfl rfl ?_
  refine xr_aload_n dX5_isPushDue_4 0 rfl ?_
  refine xb_get (v := M 13 5) flX5_26 dX5_isPushDue_5 s_13 rfl rfl ?_
  refine xb_cN (As := [.int (M 13 3), .int (M 13 5)]) (rest := []) mlX5_79 (c_X9_rest (M 13 3) (M 13 5)) dX5_isPushDue_8 rfl rfl (Nat.le_of_ble_eq_true rfl) (by decide) (by decide) ?_
  refine xr_aload_n dX5_isPushDue_11 0 rfl ?_
  refine xb_get (v := M 13 6) flX5_45 dX5_isPushDue_12 s_13 rfl rfl ?_
  refine xr_aload_n dX5_isPushDue_15 0 rfl ?_
  refine xb_get (v := M 13 5) flX5_26 dX5_isPushDue_16 s_13 rfl rfl ?_
  refine xb_cN (As := [.int (M 13 6), .int (M 13 5)]) (rest := [.int ((if (M 13 5) = 0 then 0 else (M 13 3) - (M 13 3) / (M 13 5) * (M 13 5)))]) mlX5_79 (c_X9_rest (M 13 6) (M 13 5)) dX5_isPushDue_19 rfl rfl (Nat.le_of_ble_eq_true rfl) (by decide) (by decide) ?_
  refine xr_icmp_ne (tgt := 29) dX5_isPushDue_22 rfl (fun c1 => ?_) (fun c1 => ?_)
  · refine xr_iconst (v := 0) dX5_isPushDue_29 rfl ?_
    exact xr_iret dX5_isPushDue_30 rfl rfl (⟨congrArg (fun z => some (Value.int z)) (bI_f c1).symm, rfl, rfl, rfl⟩)
  · refine xr_iconst (v := 1) dX5_isPushDue_25 rfl ?_
    refine xr_goto (tgt := 30) dX5_isPushDue_26 rfl ?_
    exact xr_iret dX5_isPushDue_30 rfl rfl (⟨congrArg (fun z => some (Value.int z)) (bI_t c1).symm, rfl, rfl, rfl⟩)
set_option maxRecDepth 100000 in
set_option maxHeartbeats 4000000 in
theorem c_goalInTurn_13 {l : Launch} {G : xG} {M : xM} {J : xJ} : x_M l G fX5_goalInTurn 1 0 0 [.ref (13)] x_SH M J (qE (some (.int (if (if M 13 5 = 0 then 0 else M 13 3 / M 13 5) - (if M 13 5 = 0 then 0 else M 13 3 / M 13 5) / 2 * 2 = 0 then 0 else 12))) x_SH M J) := by
  refine xb_of pX5 (Nat.le_of_ble_eq_true rfl) rfl ?_
  refine xr_aload_n dX5_goalInTurn_0 0 rfl ?_
  refine xb_get (v := M 13 5) flX5_26 dX5_goalInTurn_1 s_13 rfl rfl ?_
  refine xr_if_ne (tgt := 11) dX5_goalInTurn_4 rfl (fun c1 => ?_) (fun c1 => ?_)
  · refine xr_aload_n dX5_goalInTurn_11 0 rfl ?_
    refine xb_get (v := M 13 3) flX5_42 dX5_goalInTurn_12 s_13 rfl rfl ?_
    refine xr_aload_n dX5_goalInTurn_15 0 rfl ?_
    refine xb_get (v := M 13 5) flX5_26 dX5_goalInTurn_16 s_13 rfl rfl ?_
    refine xr_idiv dX5_goalInTurn_19 c1 ?_
    refine xb_cN (As := [.int (((M 13 3) / (M 13 5)))]) (rest := []) mlX5_83 (c_X9_goalOf ((M 13 3) / (M 13 5))) dX5_goalInTurn_20 rfl rfl (Nat.le_of_ble_eq_true rfl) (by decide) (by decide) ?_
    exact xr_iret dX5_goalInTurn_23 rfl rfl (⟨by first | rfl | simp [c1] | grind, rfl, rfl, rfl⟩)
  · refine xr_iconst (v := 0) dX5_goalInTurn_7 rfl ?_
    refine xr_goto (tgt := 20) dX5_goalInTurn_8 rfl ?_
    refine xb_cN (As := [.int (0)]) (rest := []) mlX5_83 (c_X9_goalOf 0) dX5_goalInTurn_20 rfl rfl (Nat.le_of_ble_eq_true rfl) (by decide) (by decide) ?_
    exact xr_iret dX5_goalInTurn_23 rfl rfl (⟨by first | rfl | simp [c1] | grind, rfl, rfl, rfl⟩)
set_option maxRecDepth 100000 in
set_option maxHeartbeats 4000000 in
theorem c0_push_28 (fo go : Int32) {l : Launch} {G : xG} {M : xM} {J : xJ} (e : E0 M) : x_M l G fX5_push 0 0 0 [.ref (28), .int (fo), .int (go)] x_SH M J (qE none x_SH M J) := by
  refine xb_of pX5 (Nat.le_of_ble_eq_true rfl) rfl ?_
  refine xr_iconst (v := 0) dX5_push_0 rfl ?_
  refine xr_istore_n (ls2 := [(3, .int (0)), (0, .ref (28)), (1, .int (fo)), (2, .int (go))]) dX5_push_1 (by decide) rfl ?_
  refine xr_iload_n dX5_push_2 0 rfl ?_
  refine xr_aload_n dX5_push_3 1 rfl ?_
  refine xb_get (v := 0) flX5_35 dX5_push_4 s_28 rfl e.2.2.1 ?_
  refine xr_icmp_ge (tgt := 52) dX5_push_7 rfl (fun _ => ?_) (fun c => absurd (by decide) c)
  exact xr_vret dX5_push_52 rfl (⟨rfl, rfl, rfl, rfl⟩)
set_option maxRecDepth 100000 in
set_option maxHeartbeats 4000000 in
theorem c0_cross_28 {l : Launch} {G : xG} {M : xM} {J : xJ} (e : E0 M) : x_M l G fX5_cross 0 0 0 [.ref (28)] x_SH M J (qE none x_SH M J) := by
  refine xb_of pX5 (Nat.le_of_ble_eq_true rfl) rfl ?_
  refine xr_iconst (v := 0) dX5_cross_0 rfl ?_
  refine xr_istore_n (ls2 := [(1, .int (0)), (0, .ref (28))]) dX5_cross_1 (by decide) rfl ?_
  refine xr_iload_n dX5_cross_2 0 rfl ?_
  refine xr_aload_n dX5_cross_3 1 rfl ?_
  refine xb_get (v := 0) flX5_35 dX5_cross_4 s_28 rfl e.2.2.1 ?_
  refine xr_icmp_ge (tgt := 72) dX5_cross_7 rfl (fun _ => ?_) (fun c => absurd (by decide) c)
  exact xr_vret dX5_cross_72 rfl (⟨rfl, rfl, rfl, rfl⟩)
set_option maxRecDepth 100000 in
set_option maxHeartbeats 4000000 in
theorem c0_settle_28 {l : Launch} {G : xG} {M : xM} {J : xJ} (e : E0 M) : x_M l G fX5_settle 1 0 0 [.ref (28)] x_SH M J (qE0 (none) J) := by
  refine xb_of pX5 (Nat.le_of_ble_eq_true rfl) rfl ?_
  refine xr_iconst (v := 0) dX5_settle_0 rfl ?_
  refine xr_istore_n (ls2 := [(1, .int (0)), (0, .ref (28))]) dX5_settle_1 (by decide) rfl ?_
  refine xr_iload_n dX5_settle_2 0 rfl ?_
  refine xr_aload_n dX5_settle_3 1 rfl ?_
  refine xb_get (v := 0) flX5_35 dX5_settle_4 s_28 rfl e.2.2.1 ?_
  refine xr_icmp_ge (tgt := 60) dX5_settle_7 rfl (fun _ => ?_) (fun c => absurd (by decide) c)
  refine xr_aload_n dX5_settle_60 1 rfl ?_
  refine xb_cV (As := []) (rest := []) mlX5_114 (c0_cross_28 e) dX5_settle_61 s_28 rfl rfl (Nat.le_of_ble_eq_true rfl) (by decide) (by decide) ?_
  refine xr_iconst (v := 0) dX5_settle_64 rfl ?_
  refine xr_istore_n (ls2 := [(1, .int (0)), (0, .ref (28))]) dX5_settle_65 (by decide) rfl ?_
  refine xr_iload_n dX5_settle_66 0 rfl ?_
  refine xr_aload_n dX5_settle_67 1 rfl ?_
  refine xb_get (v := 0) flX5_35 dX5_settle_68 s_28 rfl e.2.2.1 ?_
  refine xr_icmp_ge (tgt := 100) dX5_settle_71 rfl (fun _ => ?_) (fun c => absurd (by decide) c)
  refine xr_aload_n dX5_settle_100 1 rfl ?_
  refine xr_dup dX5_settle_101 rfl ?_
  refine xb_get (v := M 28 3) flX5_42 dX5_settle_102 s_28 rfl rfl ?_
  refine xr_iconst (v := 1) dX5_settle_105 rfl ?_
  refine xr_iadd dX5_settle_106 ?_
  refine xr_putI fpX5_42 dX5_settle_107 s_28 rfl rfl rfl ?_
  exact xr_vret dX5_settle_110 rfl (⟨rfl, rfl, rfl, (E0_up (by decide) e)⟩)
set_option maxRecDepth 100000 in
set_option maxHeartbeats 4000000 in
theorem c0_upright_28 {l : Launch} {G : xG} {M : xM} {J : xJ} (e : E0 M) : x_M l G fX5_upright 0 0 0 [.ref (28)] x_SH M J (qE (some (.int 0)) x_SH M J) := by
  refine xb_of pX5 (Nat.le_of_ble_eq_true rfl) rfl ?_
  refine xr_iconst (v := 0) dX5_upright_0 rfl ?_
  refine xr_istore_n (ls2 := [(1, .int (0)), (0, .ref (28))]) dX5_upright_1 (by decide) rfl ?_
  refine xr_iconst (v := 0) dX5_upright_2 rfl ?_
  refine xr_istore_n (ls2 := [(2, .int (0)), (1, .int (0)), (0, .ref (28))]) dX5_upright_3 (by decide) rfl ?_
  refine xr_iload_n dX5_upright_4 0 rfl ?_
  refine xr_aload_n dX5_upright_5 2 rfl ?_
  refine xb_get (v := 0) flX5_35 dX5_upright_6 s_28 rfl e.2.2.1 ?_
  refine xr_icmp_ge (tgt := 33) dX5_upright_9 rfl (fun _ => ?_) (fun c => absurd (by decide) c)
  refine xr_iload_n dX5_upright_33 1 rfl ?_
  exact xr_iret dX5_upright_34 rfl rfl (⟨rfl, rfl, rfl, rfl⟩)
set_option maxRecDepth 100000 in
set_option maxHeartbeats 4000000 in
theorem c0_allHighest_28 {l : Launch} {G : xG} {M : xM} {J : xJ} (e : E0 M) : x_M l G fX5_allHighest 0 0 0 [.ref (28)] x_SH M J (qE (some (.int 1)) x_SH M J) := by
  refine xb_of pX5 (Nat.le_of_ble_eq_true rfl) rfl ?_
  refine xr_iconst (v := 0) dX5_allHighest_0 rfl ?_
  refine xr_istore_n (ls2 := [(1, .int (0)), (0, .ref (28))]) dX5_allHighest_1 (by decide) rfl ?_
  refine xr_iload_n dX5_allHighest_2 0 rfl ?_
  refine xr_aload_n dX5_allHighest_3 1 rfl ?_
  refine xb_get (v := 0) flX5_35 dX5_allHighest_4 s_28 rfl e.2.2.1 ?_
  refine xr_icmp_ge (tgt := 32) dX5_allHighest_7 rfl (fun _ => ?_) (fun c => absurd (by decide) c)
  refine xr_iconst (v := 1) dX5_allHighest_32 rfl ?_
  exact xr_iret dX5_allHighest_33 rfl rfl (⟨rfl, rfl, rfl, rfl⟩)
set_option maxRecDepth 100000 in
set_option maxHeartbeats 4000000 in
theorem c_isPushDue_28 {l : Launch} {G : xG} {M : xM} {J : xJ} : x_M l G fX5_isPushDue 1 0 0 [.ref (28)] x_SH M J (qE (some (.int (bI ((if M 28 5 = 0 then 0 else M 28 3 - M 28 3 / M 28 5 * M 28 5) = (if M 28 5 = 0 then 0 else M 28 6 - M 28 6 / M 28 5 * M 28 5))))) x_SH M J) := by
  refine xb_of pX5 (Nat.le_of_ble_eq_true rfl) rfl ?_
  refine xr_aload_n dX5_isPushDue_0 0 rfl ?_
  refine xb_get (v := M 28 3) flX5_42 dX5_isPushDue_1 s_28 rfl rfl ?_
  refine xr_aload_n dX5_isPushDue_4 0 rfl ?_
  refine xb_get (v := M 28 5) flX5_26 dX5_isPushDue_5 s_28 rfl rfl ?_
  refine xb_cN (As := [.int (M 28 3), .int (M 28 5)]) (rest := []) mlX5_79 (c_X9_rest (M 28 3) (M 28 5)) dX5_isPushDue_8 rfl rfl (Nat.le_of_ble_eq_true rfl) (by decide) (by decide) ?_
  refine xr_aload_n dX5_isPushDue_11 0 rfl ?_
  refine xb_get (v := M 28 6) flX5_45 dX5_isPushDue_12 s_28 rfl rfl ?_
  refine xr_aload_n dX5_isPushDue_15 0 rfl ?_
  refine xb_get (v := M 28 5) flX5_26 dX5_isPushDue_16 s_28 rfl rfl ?_
  refine xb_cN (As := [.int (M 28 6), .int (M 28 5)]) (rest := [.int ((if (M 28 5) = 0 then 0 else (M 28 3) - (M 28 3) / (M 28 5) * (M 28 5)))]) mlX5_79 (c_X9_rest (M 28 6) (M 28 5)) dX5_isPushDue_19 rfl rfl (Nat.le_of_ble_eq_true rfl) (by decide) (by decide) ?_
  refine xr_icmp_ne (tgt := 29) dX5_isPushDue_22 rfl (fun c1 => ?_) (fun c1 => ?_)
  · refine xr_iconst (v := 0) dX5_isPushDue_29 rfl ?_
    exact xr_iret dX5_isPushDue_30 rfl rfl (⟨congrArg (fun z => some (Value.int z)) (bI_f c1).symm, rfl, rfl, rfl⟩)
  · refine xr_iconst (v := 1) dX5_isPushDue_25 rfl ?_
    refine xr_goto (tgt := 30) dX5_isPushDue_26 rfl ?_
    exact xr_iret dX5_isPushDue_30 rfl rfl (⟨congrArg (fun z => some (Value.int z)) (bI_t c1).symm, rfl, rfl, rfl⟩)
set_option maxRecDepth 100000 in
set_option maxHeartbeats 4000000 in
theorem c_goalInTurn_28 {l : Launch} {G : xG} {M : xM} {J : xJ} : x_M l G fX5_goalInTurn 1 0 0 [.ref (28)] x_SH M J (qE (some (.int (if (if M 28 5 = 0 then 0 else M 28 3 / M 28 5) - (if M 28 5 = 0 then 0 else M 28 3 / M 28 5) / 2 * 2 = 0 then 0 else 12))) x_SH M J) := by
  refine xb_of pX5 (Nat.le_of_ble_eq_true rfl) rfl ?_
  refine xr_aload_n dX5_goalInTurn_0 0 rfl ?_
  refine xb_get (v := M 28 5) flX5_26 dX5_goalInTurn_1 s_28 rfl rfl ?_
  refine xr_if_ne (tgt := 11) dX5_goalInTurn_4 rfl (fun c1 => ?_) (fun c1 => ?_)
  · refine xr_aload_n dX5_goalInTurn_11 0 rfl ?_
    refine xb_get (v := M 28 3) flX5_42 dX5_goalInTurn_12 s_28 rfl rfl ?_
    refine xr_aload_n dX5_goalInTurn_15 0 rfl ?_
    refine xb_get (v := M 28 5) flX5_26 dX5_goalInTurn_16 s_28 rfl rfl ?_
    refine xr_idiv dX5_goalInTurn_19 c1 ?_
    refine xb_cN (As := [.int (((M 28 3) / (M 28 5)))]) (rest := []) mlX5_83 (c_X9_goalOf ((M 28 3) / (M 28 5))) dX5_goalInTurn_20 rfl rfl (Nat.le_of_ble_eq_true rfl) (by decide) (by decide) ?_
    exact xr_iret dX5_goalInTurn_23 rfl rfl (⟨by first | rfl | simp [c1] | grind, rfl, rfl, rfl⟩)
  · refine xr_iconst (v := 0) dX5_goalInTurn_7 rfl ?_
    refine xr_goto (tgt := 20) dX5_goalInTurn_8 rfl ?_
    refine xb_cN (As := [.int (0)]) (rest := []) mlX5_83 (c_X9_goalOf 0) dX5_goalInTurn_20 rfl rfl (Nat.le_of_ble_eq_true rfl) (by decide) (by decide) ?_
    exact xr_iret dX5_goalInTurn_23 rfl rfl (⟨by first | rfl | simp [c1] | grind, rfl, rfl, rfl⟩)
set_option maxRecDepth 100000 in
set_option maxHeartbeats 4000000 in
theorem c0_tick {l : Launch} {G : xG} {M : xM} {J : xJ} (e : E0 M) : x_M l G fX5_tick 2 0 0 [.ref (13)] x_SH M J (qE0 (none) J) := by
  refine xb_of pX5 (Nat.le_of_ble_eq_true rfl) rfl ?_
  refine xr_aload_n dX5_tick_0 0 rfl ?_
  refine xb_cV (As := []) (rest := []) mlX5_87 (c_isPushDue_13) dX5_tick_1 s_13 rfl rfl (Nat.le_of_ble_eq_true rfl) (by decide) (by decide) ?_
  refine xb_beq (tgt := 29) dX5_tick_4 rfl (fun c1 => ?_) (fun c1 => ?_)
  · refine xr_aload_n dX5_tick_29 0 rfl ?_
    refine xr_callV (As := []) (rest := []) mlX5_98 (c0_settle_13 e) dX5_tick_30 s_13 rfl rfl (Nat.le_of_ble_eq_true rfl) (by decide) ⟨by decide, by decide⟩ (fun v s2 M2 J2 hq => ?_)
    obtain ⟨rfl, rfl, rfl, e3⟩ := hq
    try dsimp only [Option.toList, List.cons_append, List.nil_append]
    exact xr_vret dX5_tick_33 rfl (⟨rfl, rfl, rfl, e3⟩)
  · refine xr_aload_n dX5_tick_7 0 rfl ?_
    refine xr_aload_n dX5_tick_8 0 rfl ?_
    refine xb_get (v := M 13 7) flX5_29 dX5_tick_9 s_13 rfl rfl ?_
    refine xr_aload_n dX5_tick_12 0 rfl ?_
    refine xb_cV (As := []) (rest := [.int (M 13 7), .ref (13)]) mlX5_90 (c_goalInTurn_13) dX5_tick_13 s_13 rfl rfl (Nat.le_of_ble_eq_true rfl) (by decide) (by decide) ?_
    refine xb_cV (As := [.int (M 13 7), .int ((if (if M 13 5 = 0 then 0 else M 13 3 / M 13 5) - (if M 13 5 = 0 then 0 else M 13 3 / M 13 5) / 2 * 2 = 0 then 0 else 12))]) (rest := []) mlX5_94 (c0_push_13 (M 13 7) (if (if M 13 5 = 0 then 0 else M 13 3 / M 13 5) - (if M 13 5 = 0 then 0 else M 13 3 / M 13 5) / 2 * 2 = 0 then 0 else 12) e) dX5_tick_16 s_13 rfl rfl (Nat.le_of_ble_eq_true rfl) (by decide) (by decide) ?_
    refine xr_aload_n dX5_tick_19 0 rfl ?_
    refine xr_dup dX5_tick_20 rfl ?_
    refine xb_get (v := M 13 8) flX5_48 dX5_tick_21 s_13 rfl rfl ?_
    refine xr_iconst (v := 1) dX5_tick_24 rfl ?_
    refine xr_iadd dX5_tick_25 ?_
    refine xr_putI fpX5_48 dX5_tick_26 s_13 rfl rfl rfl ?_
    refine xr_aload_n dX5_tick_29 0 rfl ?_
    refine xr_callV (As := []) (rest := []) mlX5_98 (c0_settle_13 (E0_up (by decide) e)) dX5_tick_30 s_13 rfl rfl (Nat.le_of_ble_eq_true rfl) (by decide) ⟨by decide, by decide⟩ (fun v s2 M4 J2 hq => ?_)
    obtain ⟨rfl, rfl, rfl, e5⟩ := hq
    try dsimp only [Option.toList, List.cons_append, List.nil_append]
    exact xr_vret dX5_tick_33 rfl (⟨rfl, rfl, rfl, e5⟩)
set_option maxRecDepth 100000 in
set_option maxHeartbeats 4000000 in
theorem c0_copy_28 {l : Launch} {G : xG} {M : xM} {J : xJ} (e : E0 M) : x_M l G fX5_copy 0 0 0 [.ref (28), .ref (13)] x_SH M J (qE0 (none) J) := by
  refine xb_of pX5 (Nat.le_of_ble_eq_true rfl) rfl ?_
  refine xr_iconst (v := 0) dX5_copy_0 rfl ?_
  refine xr_istore_n (ls2 := [(2, .int (0)), (0, .ref (28)), (1, .ref (13))]) dX5_copy_1 (by decide) rfl ?_
  refine xr_iload_n dX5_copy_2 0 rfl ?_
  refine xr_aload_n dX5_copy_3 2 rfl ?_
  refine xb_get (v := 0) flX5_35 dX5_copy_4 s_13 rfl e.1 ?_
  refine xr_icmp_ge (tgt := 31) dX5_copy_7 rfl (fun _ => ?_) (fun c => absurd (by decide) c)
  refine xr_aload_n dX5_copy_31 1 rfl ?_
  refine xr_aload_n dX5_copy_32 2 rfl ?_
  refine xb_get (v := 0) flX5_35 dX5_copy_33 s_13 rfl e.1 ?_
  refine xr_putI fpX5_35 dX5_copy_36 s_28 rfl rfl rfl ?_
  refine xr_aload_n dX5_copy_39 1 rfl ?_
  refine xr_aload_n dX5_copy_40 2 rfl ?_
  refine xb_get (v := M 13 3) flX5_42 dX5_copy_41 s_13 rfl (Eq.trans (congrFun (x_up_n _ _ _ (by decide)) _) rfl) ?_
  refine xr_putI fpX5_42 dX5_copy_44 s_28 rfl rfl rfl ?_
  refine xr_aload_n dX5_copy_47 1 rfl ?_
  refine xr_aload_n dX5_copy_48 2 rfl ?_
  refine xb_get (v := M 13 4) flX5_22 dX5_copy_49 s_13 rfl (Eq.trans (congrFun (x_up_n _ _ _ (by decide)) _) (Eq.trans (congrFun (x_up_n _ _ _ (by decide)) _) rfl)) ?_
  refine xr_putI fpX5_22 dX5_copy_52 s_28 rfl rfl rfl ?_
  refine xr_aload_n dX5_copy_55 1 rfl ?_
  refine xr_aload_n dX5_copy_56 2 rfl ?_
  refine xb_get (v := M 13 5) flX5_26 dX5_copy_57 s_13 rfl (Eq.trans (congrFun (x_up_n _ _ _ (by decide)) _) (Eq.trans (congrFun (x_up_n _ _ _ (by decide)) _) (Eq.trans (congrFun (x_up_n _ _ _ (by decide)) _) rfl))) ?_
  refine xr_putI fpX5_26 dX5_copy_60 s_28 rfl rfl rfl ?_
  refine xr_aload_n dX5_copy_63 1 rfl ?_
  refine xr_aload_n dX5_copy_64 2 rfl ?_
  refine xb_get (v := M 13 6) flX5_45 dX5_copy_65 s_13 rfl (Eq.trans (congrFun (x_up_n _ _ _ (by decide)) _) (Eq.trans (congrFun (x_up_n _ _ _ (by decide)) _) (Eq.trans (congrFun (x_up_n _ _ _ (by decide)) _) (Eq.trans (congrFun (x_up_n _ _ _ (by decide)) _) rfl)))) ?_
  refine xr_putI fpX5_45 dX5_copy_68 s_28 rfl rfl rfl ?_
  refine xr_aload_n dX5_copy_71 1 rfl ?_
  refine xr_aload_n dX5_copy_72 2 rfl ?_
  refine xb_get (v := M 13 7) flX5_29 dX5_copy_73 s_13 rfl (Eq.trans (congrFun (x_up_n _ _ _ (by decide)) _) (Eq.trans (congrFun (x_up_n _ _ _ (by decide)) _) (Eq.trans (congrFun (x_up_n _ _ _ (by decide)) _) (Eq.trans (congrFun (x_up_n _ _ _ (by decide)) _) (Eq.trans (congrFun (x_up_n _ _ _ (by decide)) _) rfl))))) ?_
  refine xr_putI fpX5_29 dX5_copy_76 s_28 rfl rfl rfl ?_
  refine xr_aload_n dX5_copy_79 1 rfl ?_
  refine xr_aload_n dX5_copy_80 2 rfl ?_
  refine xb_get (v := M 13 8) flX5_48 dX5_copy_81 s_13 rfl (Eq.trans (congrFun (x_up_n _ _ _ (by decide)) _) (Eq.trans (congrFun (x_up_n _ _ _ (by decide)) _) (Eq.trans (congrFun (x_up_n _ _ _ (by decide)) _) (Eq.trans (congrFun (x_up_n _ _ _ (by decide)) _) (Eq.trans (congrFun (x_up_n _ _ _ (by decide)) _) (Eq.trans (congrFun (x_up_n _ _ _ (by decide)) _) rfl)))))) ?_
  refine xr_putI fpX5_48 dX5_copy_84 s_28 rfl rfl rfl ?_
  refine xr_aload_n dX5_copy_87 1 rfl ?_
  refine xr_aload_n dX5_copy_88 2 rfl ?_
  refine xb_get (v := M 13 9) flX5_32 dX5_copy_89 s_13 rfl (Eq.trans (congrFun (x_up_n _ _ _ (by decide)) _) (Eq.trans (congrFun (x_up_n _ _ _ (by decide)) _) (Eq.trans (congrFun (x_up_n _ _ _ (by decide)) _) (Eq.trans (congrFun (x_up_n _ _ _ (by decide)) _) (Eq.trans (congrFun (x_up_n _ _ _ (by decide)) _) (Eq.trans (congrFun (x_up_n _ _ _ (by decide)) _) (Eq.trans (congrFun (x_up_n _ _ _ (by decide)) _) rfl))))))) ?_
  refine xr_putI fpX5_32 dX5_copy_92 s_28 rfl rfl rfl ?_
  exact xr_vret dX5_copy_95 rfl (⟨rfl, rfl, rfl, (E0_up (by decide) (E0_up (by decide) (E0_up (by decide) (E0_up (by decide) (E0_up (by decide) (E0_up (by decide) (E0_up (by decide) (E0_up0 (by decide) e))))))))⟩)
set_option maxRecDepth 100000 in
set_option maxHeartbeats 4000000 in
theorem c0_copy_20 {l : Launch} {G : xG} {M : xM} {J : xJ} (e : E0 M) : x_M l G fX5_copy 0 0 0 [.ref (20), .ref (13)] x_SH M J (qE0 (none) J) := by
  refine xb_of pX5 (Nat.le_of_ble_eq_true rfl) rfl ?_
  refine xr_iconst (v := 0) dX5_copy_0 rfl ?_
  refine xr_istore_n (ls2 := [(2, .int (0)), (0, .ref (20)), (1, .ref (13))]) dX5_copy_1 (by decide) rfl ?_
  refine xr_iload_n dX5_copy_2 0 rfl ?_
  refine xr_aload_n dX5_copy_3 2 rfl ?_
  refine xb_get (v := 0) flX5_35 dX5_copy_4 s_13 rfl e.1 ?_
  refine xr_icmp_ge (tgt := 31) dX5_copy_7 rfl (fun _ => ?_) (fun c => absurd (by decide) c)
  refine xr_aload_n dX5_copy_31 1 rfl ?_
  refine xr_aload_n dX5_copy_32 2 rfl ?_
  refine xb_get (v := 0) flX5_35 dX5_copy_33 s_13 rfl e.1 ?_
  refine xr_putI fpX5_35 dX5_copy_36 s_20 rfl rfl rfl ?_
  refine xr_aload_n dX5_copy_39 1 rfl ?_
  refine xr_aload_n dX5_copy_40 2 rfl ?_
  refine xb_get (v := M 13 3) flX5_42 dX5_copy_41 s_13 rfl (Eq.trans (congrFun (x_up_n _ _ _ (by decide)) _) rfl) ?_
  refine xr_putI fpX5_42 dX5_copy_44 s_20 rfl rfl rfl ?_
  refine xr_aload_n dX5_copy_47 1 rfl ?_
  refine xr_aload_n dX5_copy_48 2 rfl ?_
  refine xb_get (v := M 13 4) flX5_22 dX5_copy_49 s_13 rfl (Eq.trans (congrFun (x_up_n _ _ _ (by decide)) _) (Eq.trans (congrFun (x_up_n _ _ _ (by decide)) _) rfl)) ?_
  refine xr_putI fpX5_22 dX5_copy_52 s_20 rfl rfl rfl ?_
  refine xr_aload_n dX5_copy_55 1 rfl ?_
  refine xr_aload_n dX5_copy_56 2 rfl ?_
  refine xb_get (v := M 13 5) flX5_26 dX5_copy_57 s_13 rfl (Eq.trans (congrFun (x_up_n _ _ _ (by decide)) _) (Eq.trans (congrFun (x_up_n _ _ _ (by decide)) _) (Eq.trans (congrFun (x_up_n _ _ _ (by decide)) _) rfl))) ?_
  refine xr_putI fpX5_26 dX5_copy_60 s_20 rfl rfl rfl ?_
  refine xr_aload_n dX5_copy_63 1 rfl ?_
  refine xr_aload_n dX5_copy_64 2 rfl ?_
  refine xb_get (v := M 13 6) flX5_45 dX5_copy_65 s_13 rfl (Eq.trans (congrFun (x_up_n _ _ _ (by decide)) _) (Eq.trans (congrFun (x_up_n _ _ _ (by decide)) _) (Eq.trans (congrFun (x_up_n _ _ _ (by decide)) _) (Eq.trans (congrFun (x_up_n _ _ _ (by decide)) _) rfl)))) ?_
  refine xr_putI fpX5_45 dX5_copy_68 s_20 rfl rfl rfl ?_
  refine xr_aload_n dX5_copy_71 1 rfl ?_
  refine xr_aload_n dX5_copy_72 2 rfl ?_
  refine xb_get (v := M 13 7) flX5_29 dX5_copy_73 s_13 rfl (Eq.trans (congrFun (x_up_n _ _ _ (by decide)) _) (Eq.trans (congrFun (x_up_n _ _ _ (by decide)) _) (Eq.trans (congrFun (x_up_n _ _ _ (by decide)) _) (Eq.trans (congrFun (x_up_n _ _ _ (by decide)) _) (Eq.trans (congrFun (x_up_n _ _ _ (by decide)) _) rfl))))) ?_
  refine xr_putI fpX5_29 dX5_copy_76 s_20 rfl rfl rfl ?_
  refine xr_aload_n dX5_copy_79 1 rfl ?_
  refine xr_aload_n dX5_copy_80 2 rfl ?_
  refine xb_get (v := M 13 8) flX5_48 dX5_copy_81 s_13 rfl (Eq.trans (congrFun (x_up_n _ _ _ (by decide)) _) (Eq.trans (congrFun (x_up_n _ _ _ (by decide)) _) (Eq.trans (congrFun (x_up_n _ _ _ (by decide)) _) (Eq.trans (congrFun (x_up_n _ _ _ (by decide)) _) (Eq.trans (congrFun (x_up_n _ _ _ (by decide)) _) (Eq.trans (congrFun (x_up_n _ _ _ (by decide)) _) rfl)))))) ?_
  refine xr_putI fpX5_48 dX5_copy_84 s_20 rfl rfl rfl ?_
  refine xr_aload_n dX5_copy_87 1 rfl ?_
  refine xr_aload_n dX5_copy_88 2 rfl ?_
  refine xb_get (v := M 13 9) flX5_32 dX5_copy_89 s_13 rfl (Eq.trans (congrFun (x_up_n _ _ _ (by decide)) _) (Eq.trans (congrFun (x_up_n _ _ _ (by decide)) _) (Eq.trans (congrFun (x_up_n _ _ _ (by decide)) _) (Eq.trans (congrFun (x_up_n _ _ _ (by decide)) _) (Eq.trans (congrFun (x_up_n _ _ _ (by decide)) _) (Eq.trans (congrFun (x_up_n _ _ _ (by decide)) _) (Eq.trans (congrFun (x_up_n _ _ _ (by decide)) _) rfl))))))) ?_
  refine xr_putI fpX5_32 dX5_copy_92 s_20 rfl rfl rfl ?_
  exact xr_vret dX5_copy_95 rfl (⟨rfl, rfl, rfl, (E0_up (by decide) (E0_up (by decide) (E0_up (by decide) (E0_up (by decide) (E0_up (by decide) (E0_up (by decide) (E0_up (by decide) (E0_up0 (by decide) e))))))))⟩)
set_option maxRecDepth 100000 in
set_option maxHeartbeats 4000000 in
theorem c0_begin {l : Launch} {G : xG} {M : xM} {J : xJ} (e : E0 M) : x_M l G fX7_begin 1 0 0 [.ref (27)] x_SH M J (qE0 (none) J) := by
  refine xb_of pX7 (Nat.le_of_ble_eq_true rfl) rfl ?_
  refine xr_aload_n dX7_begin_0 0 rfl ?_
  refine xr_getR flX7_15 dX7_begin_1 s_27 rfl ?_
  refine xr_aload_n dX7_begin_4 0 rfl ?_
  refine xr_getR flX7_9 dX7_begin_5 s_27 rfl ?_
  refine xr_callV (As := [.ref (13)]) (rest := []) mlX7_18 (c0_copy_28 e) dX7_begin_8 s_28 rfl rfl (Nat.le_of_ble_eq_true rfl) (by decide) ⟨by decide, by decide⟩ (fun v s2 M1 J2 hq => ?_)
  obtain ⟨rfl, rfl, rfl, e2⟩ := hq
  try dsimp only [Option.toList, List.cons_append, List.nil_append]
  refine xr_aload_n dX7_begin_11 0 rfl ?_
  refine xr_iconst (v := 0) dX7_begin_12 rfl ?_
  refine xr_putI fpX7_24 dX7_begin_13 s_27 rfl rfl rfl ?_
  refine xr_aload_n dX7_begin_16 0 rfl ?_
  refine xr_iconst (v := 0) dX7_begin_17 rfl ?_
  refine xr_putI fpX7_28 dX7_begin_18 s_27 rfl rfl rfl ?_
  refine xr_aload_n dX7_begin_21 0 rfl ?_
  refine xr_iconst (v := -1) dX7_begin_22 rfl ?_
  refine xr_putI fpX7_31 dX7_begin_23 s_27 rfl rfl rfl ?_
  refine xr_aload_n dX7_begin_26 0 rfl ?_
  refine xr_iconst (v := -1) dX7_begin_27 rfl ?_
  refine xr_putI fpX7_34 dX7_begin_28 s_27 rfl rfl rfl ?_
  exact xr_vret dX7_begin_31 rfl (⟨rfl, rfl, rfl, (E0_up (by decide) (E0_up (by decide) (E0_up0 (by decide) (E0_up0 (by decide) e2))))⟩)
set_option maxRecDepth 100000 in
set_option maxHeartbeats 4000000 in
theorem c0_step {l : Launch} {G : xG} {M : xM} {J : xJ} (e : E0 M) : x_M l G fX7_step 2 0 0 [.ref (27)] x_SH M J (qE0 (none) J) := by
  refine xb_of pX7 (Nat.le_of_ble_eq_true rfl) rfl ?_
  refine xr_aload_n dX7_step_0 0 rfl ?_
  refine xr_getR flX7_15 dX7_step_1 s_27 rfl ?_
  refine xb_cV (As := []) (rest := []) mlX7_43 (c_isPushDue_28) dX7_step_4 s_28 rfl rfl (Nat.le_of_ble_eq_true rfl) (by decide) (by decide) ?_
  refine xb_beq (tgt := 52) dX7_step_7 rfl (fun c1 => ?_) (fun c1 => ?_)
  · refine xr_aload_n dX7_step_52 0 rfl ?_
    refine xb_get (v := M 27 2) flX7_24 dX7_step_53 s_27 rfl rfl ?_
    refine xr_aload_n dX7_step_56 0 rfl ?_
    refine xb_get (v := M 27 5) flX7_34 dX7_step_57 s_27 rfl rfl ?_
    refine xr_icmp_ne (tgt := 78) dX7_step_60 rfl (fun c2 => ?_) (fun c2 => ?_)
    · refine xr_aload_n dX7_step_78 0 rfl ?_
      refine xr_getR flX7_15 dX7_step_79 s_27 rfl ?_
      refine xr_callV (As := []) (rest := []) mlX7_58 (c0_settle_28 e) dX7_step_82 s_28 rfl rfl (Nat.le_of_ble_eq_true rfl) (by decide) ⟨by decide, by decide⟩ (fun v s2 M3 J2 hq => ?_)
      obtain ⟨rfl, rfl, rfl, e4⟩ := hq
      try dsimp only [Option.toList, List.cons_append, List.nil_append]
      refine xr_aload_n dX7_step_85 0 rfl ?_
      refine xr_dup dX7_step_86 rfl ?_
      refine xb_get (v := M3 27 2) flX7_24 dX7_step_87 s_27 rfl rfl ?_
      refine xr_iconst (v := 1) dX7_step_90 rfl ?_
      refine xr_iadd dX7_step_91 ?_
      refine xr_putI fpX7_24 dX7_step_92 s_27 rfl rfl rfl ?_
      exact xr_vret dX7_step_95 rfl (⟨rfl, rfl, rfl, (E0_up (by decide) e4)⟩)
    · refine xr_aload_n dX7_step_63 0 rfl ?_
      refine xr_getR flX7_15 dX7_step_64 s_27 rfl ?_
      refine xr_aload_n dX7_step_67 0 rfl ?_
      refine xb_get (v := M 27 6) flX7_37 dX7_step_68 s_27 rfl rfl ?_
      refine xr_aload_n dX7_step_71 0 rfl ?_
      refine xb_get (v := M 27 7) flX7_40 dX7_step_72 s_27 rfl rfl ?_
      refine xb_cV (As := [.int (M 27 6), .int (M 27 7)]) (rest := []) mlX7_54 (c0_push_28 (M 27 6) (M 27 7) e) dX7_step_75 s_28 rfl rfl (Nat.le_of_ble_eq_true rfl) (by decide) (by decide) ?_
      refine xr_aload_n dX7_step_78 0 rfl ?_
      refine xr_getR flX7_15 dX7_step_79 s_27 rfl ?_
      refine xr_callV (As := []) (rest := []) mlX7_58 (c0_settle_28 e) dX7_step_82 s_28 rfl rfl (Nat.le_of_ble_eq_true rfl) (by decide) ⟨by decide, by decide⟩ (fun v s2 M5 J2 hq => ?_)
      obtain ⟨rfl, rfl, rfl, e6⟩ := hq
      try dsimp only [Option.toList, List.cons_append, List.nil_append]
      refine xr_aload_n dX7_step_85 0 rfl ?_
      refine xr_dup dX7_step_86 rfl ?_
      refine xb_get (v := M5 27 2) flX7_24 dX7_step_87 s_27 rfl rfl ?_
      refine xr_iconst (v := 1) dX7_step_90 rfl ?_
      refine xr_iadd dX7_step_91 ?_
      refine xr_putI fpX7_24 dX7_step_92 s_27 rfl rfl rfl ?_
      exact xr_vret dX7_step_95 rfl (⟨rfl, rfl, rfl, (E0_up (by decide) e6)⟩)
  · refine xr_aload_n dX7_step_10 0 rfl ?_
    refine xb_get (v := M 27 3) flX7_28 dX7_step_11 s_27 rfl rfl ?_
    refine xr_aload_n dX7_step_14 0 rfl ?_
    refine xb_get (v := M 27 4) flX7_31 dX7_step_15 s_27 rfl rfl ?_
    refine xr_icmp_eq (tgt := 42) dX7_step_18 rfl (fun c7 => ?_) (fun c7 => ?_)
    · refine xr_aload_n dX7_step_42 0 rfl ?_
      refine xr_dup dX7_step_43 rfl ?_
      refine xb_get (v := M 27 3) flX7_28 dX7_step_44 s_27 rfl rfl ?_
      refine xr_iconst (v := 1) dX7_step_47 rfl ?_
      refine xr_iadd dX7_step_48 ?_
      refine xr_putI fpX7_28 dX7_step_49 s_27 rfl rfl rfl ?_
      refine xr_aload_n dX7_step_52 0 rfl ?_
      refine xb_get (v := M 27 2) flX7_24 dX7_step_53 s_27 rfl (Eq.trans (x_up_k _ _ _ (by decide)) rfl) ?_
      refine xr_aload_n dX7_step_56 0 rfl ?_
      refine xb_get (v := M 27 5) flX7_34 dX7_step_57 s_27 rfl (Eq.trans (x_up_k _ _ _ (by decide)) rfl) ?_
      refine xr_icmp_ne (tgt := 78) dX7_step_60 rfl (fun c8 => ?_) (fun c8 => ?_)
      · refine xr_aload_n dX7_step_78 0 rfl ?_
        refine xr_getR flX7_15 dX7_step_79 s_27 rfl ?_
        refine xr_callV (As := []) (rest := []) mlX7_58 (c0_settle_28 (E0_up (by decide) e)) dX7_step_82 s_28 rfl rfl (Nat.le_of_ble_eq_true rfl) (by decide) ⟨by decide, by decide⟩ (fun v s2 M9 J2 hq => ?_)
        obtain ⟨rfl, rfl, rfl, e10⟩ := hq
        try dsimp only [Option.toList, List.cons_append, List.nil_append]
        refine xr_aload_n dX7_step_85 0 rfl ?_
        refine xr_dup dX7_step_86 rfl ?_
        refine xb_get (v := M9 27 2) flX7_24 dX7_step_87 s_27 rfl rfl ?_
        refine xr_iconst (v := 1) dX7_step_90 rfl ?_
        refine xr_iadd dX7_step_91 ?_
        refine xr_putI fpX7_24 dX7_step_92 s_27 rfl rfl rfl ?_
        exact xr_vret dX7_step_95 rfl (⟨rfl, rfl, rfl, (E0_up (by decide) e10)⟩)
      · refine xr_aload_n dX7_step_63 0 rfl ?_
        refine xr_getR flX7_15 dX7_step_64 s_27 rfl ?_
        refine xr_aload_n dX7_step_67 0 rfl ?_
        refine xb_get (v := M 27 6) flX7_37 dX7_step_68 s_27 rfl (Eq.trans (x_up_k _ _ _ (by decide)) rfl) ?_
        refine xr_aload_n dX7_step_71 0 rfl ?_
        refine xb_get (v := M 27 7) flX7_40 dX7_step_72 s_27 rfl (Eq.trans (x_up_k _ _ _ (by decide)) rfl) ?_
        refine xb_cV (As := [.int (M 27 6), .int (M 27 7)]) (rest := []) mlX7_54 (c0_push_28 (M 27 6) (M 27 7) (E0_up (by decide) e)) dX7_step_75 s_28 rfl rfl (Nat.le_of_ble_eq_true rfl) (by decide) (by decide) ?_
        refine xr_aload_n dX7_step_78 0 rfl ?_
        refine xr_getR flX7_15 dX7_step_79 s_27 rfl ?_
        refine xr_callV (As := []) (rest := []) mlX7_58 (c0_settle_28 (E0_up (by decide) e)) dX7_step_82 s_28 rfl rfl (Nat.le_of_ble_eq_true rfl) (by decide) ⟨by decide, by decide⟩ (fun v s2 M11 J2 hq => ?_)
        obtain ⟨rfl, rfl, rfl, e12⟩ := hq
        try dsimp only [Option.toList, List.cons_append, List.nil_append]
        refine xr_aload_n dX7_step_85 0 rfl ?_
        refine xr_dup dX7_step_86 rfl ?_
        refine xb_get (v := M11 27 2) flX7_24 dX7_step_87 s_27 rfl rfl ?_
        refine xr_iconst (v := 1) dX7_step_90 rfl ?_
        refine xr_iadd dX7_step_91 ?_
        refine xr_putI fpX7_24 dX7_step_92 s_27 rfl rfl rfl ?_
        exact xr_vret dX7_step_95 rfl (⟨rfl, rfl, rfl, (E0_up (by decide) e12)⟩)
    · refine xr_aload_n dX7_step_21 0 rfl ?_
      refine xr_getR flX7_15 dX7_step_22 s_27 rfl ?_
      refine xr_aload_n dX7_step_25 0 rfl ?_
      refine xr_getR flX7_15 dX7_step_26 s_27 rfl ?_
      refine xb_get (v := M 28 7) flX7_47 dX7_step_29 s_28 rfl rfl ?_
      refine xr_aload_n dX7_step_32 0 rfl ?_
      refine xr_getR flX7_15 dX7_step_33 s_27 rfl ?_
      refine xb_cV (As := []) (rest := [.int (M 28 7), .ref (28)]) mlX7_50 (c_goalInTurn_28) dX7_step_36 s_28 rfl rfl (Nat.le_of_ble_eq_true rfl) (by decide) (by decide) ?_
      refine xb_cV (As := [.int (M 28 7), .int ((if (if M 28 5 = 0 then 0 else M 28 3 / M 28 5) - (if M 28 5 = 0 then 0 else M 28 3 / M 28 5) / 2 * 2 = 0 then 0 else 12))]) (rest := []) mlX7_54 (c0_push_28 (M 28 7) (if (if M 28 5 = 0 then 0 else M 28 3 / M 28 5) - (if M 28 5 = 0 then 0 else M 28 3 / M 28 5) / 2 * 2 = 0 then 0 else 12) e) dX7_step_39 s_28 rfl rfl (Nat.le_of_ble_eq_true rfl) (by decide) (by decide) ?_
      refine xr_aload_n dX7_step_42 0 rfl ?_
      refine xr_dup dX7_step_43 rfl ?_
      refine xb_get (v := M 27 3) flX7_28 dX7_step_44 s_27 rfl rfl ?_
      refine xr_iconst (v := 1) dX7_step_47 rfl ?_
      refine xr_iadd dX7_step_48 ?_
      refine xr_putI fpX7_28 dX7_step_49 s_27 rfl rfl rfl ?_
      refine xr_aload_n dX7_step_52 0 rfl ?_
      refine xb_get (v := M 27 2) flX7_24 dX7_step_53 s_27 rfl (Eq.trans (x_up_k _ _ _ (by decide)) rfl) ?_
      refine xr_aload_n dX7_step_56 0 rfl ?_
      refine xb_get (v := M 27 5) flX7_34 dX7_step_57 s_27 rfl (Eq.trans (x_up_k _ _ _ (by decide)) rfl) ?_
      refine xr_icmp_ne (tgt := 78) dX7_step_60 rfl (fun c13 => ?_) (fun c13 => ?_)
      · refine xr_aload_n dX7_step_78 0 rfl ?_
        refine xr_getR flX7_15 dX7_step_79 s_27 rfl ?_
        refine xr_callV (As := []) (rest := []) mlX7_58 (c0_settle_28 (E0_up (by decide) e)) dX7_step_82 s_28 rfl rfl (Nat.le_of_ble_eq_true rfl) (by decide) ⟨by decide, by decide⟩ (fun v s2 M14 J2 hq => ?_)
        obtain ⟨rfl, rfl, rfl, e15⟩ := hq
        try dsimp only [Option.toList, List.cons_append, List.nil_append]
        refine xr_aload_n dX7_step_85 0 rfl ?_
        refine xr_dup dX7_step_86 rfl ?_
        refine xb_get (v := M14 27 2) flX7_24 dX7_step_87 s_27 rfl rfl ?_
        refine xr_iconst (v := 1) dX7_step_90 rfl ?_
        refine xr_iadd dX7_step_91 ?_
        refine xr_putI fpX7_24 dX7_step_92 s_27 rfl rfl rfl ?_
        exact xr_vret dX7_step_95 rfl (⟨rfl, rfl, rfl, (E0_up (by decide) e15)⟩)
      · refine xr_aload_n dX7_step_63 0 rfl ?_
        refine xr_getR flX7_15 dX7_step_64 s_27 rfl ?_
        refine xr_aload_n dX7_step_67 0 rfl ?_
        refine xb_get (v := M 27 6) flX7_37 dX7_step_68 s_27 rfl (Eq.trans (x_up_k _ _ _ (by decide)) rfl) ?_
        refine xr_aload_n dX7_step_71 0 rfl ?_
        refine xb_get (v := M 27 7) flX7_40 dX7_step_72 s_27 rfl (Eq.trans (x_up_k _ _ _ (by decide)) rfl) ?_
        refine xb_cV (As := [.int (M 27 6), .int (M 27 7)]) (rest := []) mlX7_54 (c0_push_28 (M 27 6) (M 27 7) (E0_up (by decide) e)) dX7_step_75 s_28 rfl rfl (Nat.le_of_ble_eq_true rfl) (by decide) (by decide) ?_
        refine xr_aload_n dX7_step_78 0 rfl ?_
        refine xr_getR flX7_15 dX7_step_79 s_27 rfl ?_
        refine xr_callV (As := []) (rest := []) mlX7_58 (c0_settle_28 (E0_up (by decide) e)) dX7_step_82 s_28 rfl rfl (Nat.le_of_ble_eq_true rfl) (by decide) ⟨by decide, by decide⟩ (fun v s2 M16 J2 hq => ?_)
        obtain ⟨rfl, rfl, rfl, e17⟩ := hq
        try dsimp only [Option.toList, List.cons_append, List.nil_append]
        refine xr_aload_n dX7_step_85 0 rfl ?_
        refine xr_dup dX7_step_86 rfl ?_
        refine xb_get (v := M16 27 2) flX7_24 dX7_step_87 s_27 rfl rfl ?_
        refine xr_iconst (v := 1) dX7_step_90 rfl ?_
        refine xr_iadd dX7_step_91 ?_
        refine xr_putI fpX7_24 dX7_step_92 s_27 rfl rfl rfl ?_
        exact xr_vret dX7_step_95 rfl (⟨rfl, rfl, rfl, (E0_up (by decide) e17)⟩)
