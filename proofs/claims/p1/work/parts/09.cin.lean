theorem dX6_isEmpty_0 : decode cX6_isEmpty 0 = .ok (.aload_n 0, 1) := by decide +kernel
theorem dX6_isEmpty_1 : decode cX6_isEmpty 1 = .ok (.getfield 15, 3) := by decide +kernel
theorem dX6_isEmpty_4 : decode cX6_isEmpty 4 = .ok (.ifCond .ne 7, 3) := by decide +kernel
theorem dX6_isEmpty_11 : decode cX6_isEmpty 11 = .ok (.iconst 0, 1) := by decide +kernel
theorem dX6_isEmpty_12 : decode cX6_isEmpty 12 = .ok (.ireturn, 1) := by decide +kernel
theorem dX6_isEmpty_7 : decode cX6_isEmpty 7 = .ok (.iconst 1, 1) := by decide +kernel
theorem dX6_isEmpty_8 : decode cX6_isEmpty 8 = .ok (.goto 4, 3) := by decide +kernel
theorem dX6_isTurn_0 : decode cX6_isTurn 0 = .ok (.aload_n 0, 1) := by decide +kernel
theorem dX6_isTurn_1 : decode cX6_isTurn 1 = .ok (.getfield 15, 3) := by decide +kernel
theorem dX6_isTurn_4 : decode cX6_isTurn 4 = .ok (.iconst 1, 1) := by decide +kernel
theorem dX6_isTurn_5 : decode cX6_isTurn 5 = .ok (.if_icmp .ne 7, 3) := by decide +kernel
theorem dX6_isTurn_12 : decode cX6_isTurn 12 = .ok (.iconst 0, 1) := by decide +kernel
theorem dX6_isTurn_13 : decode cX6_isTurn 13 = .ok (.ireturn, 1) := by decide +kernel
theorem dX6_isTurn_8 : decode cX6_isTurn 8 = .ok (.iconst 1, 1) := by decide +kernel
theorem dX6_isTurn_9 : decode cX6_isTurn 9 = .ok (.goto 4, 3) := by decide +kernel
theorem dX6_isRow_0 : decode cX6_isRow 0 = .ok (.aload_n 0, 1) := by decide +kernel
theorem dX6_isRow_1 : decode cX6_isRow 1 = .ok (.getfield 15, 3) := by decide +kernel
theorem dX6_isRow_4 : decode cX6_isRow 4 = .ok (.iconst 2, 1) := by decide +kernel
theorem dX6_isRow_5 : decode cX6_isRow 5 = .ok (.if_icmp .ne 7, 3) := by decide +kernel
theorem dX6_isRow_12 : decode cX6_isRow 12 = .ok (.iconst 0, 1) := by decide +kernel
theorem dX6_isRow_13 : decode cX6_isRow 13 = .ok (.ireturn, 1) := by decide +kernel
theorem dX6_isRow_8 : decode cX6_isRow 8 = .ok (.iconst 1, 1) := by decide +kernel
theorem dX6_isRow_9 : decode cX6_isRow 9 = .ok (.goto 4, 3) := by decide +kernel
theorem dX6_hasBytes_0 : decode cX6_hasBytes 0 = .ok (.aload_n 0, 1) := by decide +kernel
theorem dX6_hasBytes_1 : decode cX6_hasBytes 1 = .ok (.invokevirtual 19, 3) := by decide +kernel
theorem dX6_hasBytes_4 : decode cX6_hasBytes 4 = .ok (.ifCond .eq 14, 3) := by decide +kernel
theorem dX6_hasBytes_18 : decode cX6_hasBytes 18 = .ok (.iconst 0, 1) := by decide +kernel
theorem dX6_hasBytes_19 : decode cX6_hasBytes 19 = .ok (.ireturn, 1) := by decide +kernel
theorem dX6_hasBytes_7 : decode cX6_hasBytes 7 = .ok (.aload_n 0, 1) := by decide +kernel
theorem dX6_hasBytes_8 : decode cX6_hasBytes 8 = .ok (.getfield 23, 3) := by decide +kernel
theorem dX6_hasBytes_11 : decode cX6_hasBytes 11 = .ok (.ifCond .ne 7, 3) := by decide +kernel
theorem dX6_hasBytes_14 : decode cX6_hasBytes 14 = .ok (.iconst 1, 1) := by decide +kernel
theorem dX6_hasBytes_15 : decode cX6_hasBytes 15 = .ok (.goto 4, 3) := by decide +kernel
theorem dX6_holdNothing_0 : decode cX6_holdNothing 0 = .ok (.aload_n 0, 1) := by decide +kernel
theorem dX6_holdNothing_1 : decode cX6_holdNothing 1 = .ok (.iconst 0, 1) := by decide +kernel
theorem dX6_holdNothing_2 : decode cX6_holdNothing 2 = .ok (.putfield 15, 3) := by decide +kernel
theorem dX6_holdNothing_5 : decode cX6_holdNothing 5 = .ok (.aload_n 0, 1) := by decide +kernel
theorem dX6_holdNothing_6 : decode cX6_holdNothing 6 = .ok (.iconst 0, 1) := by decide +kernel
theorem dX6_holdNothing_7 : decode cX6_holdNothing 7 = .ok (.putfield 26, 3) := by decide +kernel
theorem dX6_holdNothing_10 : decode cX6_holdNothing 10 = .ok (.return_, 1) := by decide +kernel
theorem dX6_holdTurn_0 : decode cX6_holdTurn 0 = .ok (.aload_n 0, 1) := by decide +kernel
theorem dX6_holdTurn_1 : decode cX6_holdTurn 1 = .ok (.iconst 1, 1) := by decide +kernel
theorem dX6_holdTurn_2 : decode cX6_holdTurn 2 = .ok (.putfield 15, 3) := by decide +kernel
theorem dX6_holdTurn_5 : decode cX6_holdTurn 5 = .ok (.aload_n 0, 1) := by decide +kernel
theorem dX6_holdTurn_6 : decode cX6_holdTurn 6 = .ok (.iload_n 1, 1) := by decide +kernel
theorem dX6_holdTurn_7 : decode cX6_holdTurn 7 = .ok (.putfield 29, 3) := by decide +kernel
theorem dX6_holdTurn_10 : decode cX6_holdTurn 10 = .ok (.aload_n 0, 1) := by decide +kernel
theorem dX6_holdTurn_11 : decode cX6_holdTurn 11 = .ok (.iconst 0, 1) := by decide +kernel
theorem dX6_holdTurn_12 : decode cX6_holdTurn 12 = .ok (.putfield 26, 3) := by decide +kernel
theorem dX6_holdTurn_15 : decode cX6_holdTurn 15 = .ok (.return_, 1) := by decide +kernel
theorem dX6_bytesRefusal_0 : decode cX6_bytesRefusal 0 = .ok (.aload_n 0, 1) := by decide +kernel
theorem dX6_bytesRefusal_1 : decode cX6_bytesRefusal 1 = .ok (.invokevirtual 32, 3) := by decide +kernel
theorem dX6_bytesRefusal_4 : decode cX6_bytesRefusal 4 = .ok (.ifCond .eq 6, 3) := by decide +kernel
theorem dX6_bytesRefusal_10 : decode cX6_bytesRefusal 10 = .ok (.aload_n 0, 1) := by decide +kernel
theorem dX6_bytesRefusal_11 : decode cX6_bytesRefusal 11 = .ok (.invokevirtual 35, 3) := by decide +kernel
theorem dX6_bytesRefusal_14 : decode cX6_bytesRefusal 14 = .ok (.ifCond .eq 7, 3) := by decide +kernel
theorem dX6_bytesRefusal_21 : decode cX6_bytesRefusal 21 = .ok (.bipush (-12), 2) := by decide +kernel
theorem dX6_bytesRefusal_23 : decode cX6_bytesRefusal 23 = .ok (.ireturn, 1) := by decide +kernel
theorem dX6_bytesRefusal_17 : decode cX6_bytesRefusal 17 = .ok (.iconst 0, 1) := by decide +kernel
theorem dX6_bytesRefusal_18 : decode cX6_bytesRefusal 18 = .ok (.goto 5, 3) := by decide +kernel
theorem dX6_bytesRefusal_7 : decode cX6_bytesRefusal 7 = .ok (.bipush (-11), 2) := by decide +kernel
theorem dX6_bytesRefusal_9 : decode cX6_bytesRefusal 9 = .ok (.ireturn, 1) := by decide +kernel
theorem dX6_placeRefusal_0 : decode cX6_placeRefusal 0 = .ok (.aload_n 0, 1) := by decide +kernel
theorem dX6_placeRefusal_1 : decode cX6_placeRefusal 1 = .ok (.invokevirtual 32, 3) := by decide +kernel
theorem dX6_placeRefusal_4 : decode cX6_placeRefusal 4 = .ok (.ifCond .eq 6, 3) := by decide +kernel
theorem dX6_placeRefusal_10 : decode cX6_placeRefusal 10 = .ok (.aload_n 0, 1) := by decide +kernel
theorem dX6_placeRefusal_11 : decode cX6_placeRefusal 11 = .ok (.invokevirtual 19, 3) := by decide +kernel
theorem dX6_placeRefusal_14 : decode cX6_placeRefusal 14 = .ok (.ifCond .ne 6, 3) := by decide +kernel
theorem dX6_placeRefusal_20 : decode cX6_placeRefusal 20 = .ok (.iload_n 1, 1) := by decide +kernel
theorem dX6_placeRefusal_21 : decode cX6_placeRefusal 21 = .ok (.ifCond .lt 15, 3) := by decide +kernel
theorem dX6_placeRefusal_36 : decode cX6_placeRefusal 36 = .ok (.bipush (-13), 2) := by decide +kernel
theorem dX6_placeRefusal_38 : decode cX6_placeRefusal 38 = .ok (.ireturn, 1) := by decide +kernel
theorem dX6_placeRefusal_24 : decode cX6_placeRefusal 24 = .ok (.iload_n 1, 1) := by decide +kernel
theorem dX6_placeRefusal_25 : decode cX6_placeRefusal 25 = .ok (.aload_n 0, 1) := by decide +kernel
theorem dX6_placeRefusal_26 : decode cX6_placeRefusal 26 = .ok (.getfield 26, 3) := by decide +kernel
theorem dX6_placeRefusal_29 : decode cX6_placeRefusal 29 = .ok (.if_icmp .ge 7, 3) := by decide +kernel
theorem dX6_placeRefusal_32 : decode cX6_placeRefusal 32 = .ok (.iconst 0, 1) := by decide +kernel
theorem dX6_placeRefusal_33 : decode cX6_placeRefusal 33 = .ok (.goto 5, 3) := by decide +kernel
theorem dX6_placeRefusal_17 : decode cX6_placeRefusal 17 = .ok (.bipush (-12), 2) := by decide +kernel
theorem dX6_placeRefusal_19 : decode cX6_placeRefusal 19 = .ok (.ireturn, 1) := by decide +kernel
theorem dX6_placeRefusal_7 : decode cX6_placeRefusal 7 = .ok (.bipush (-11), 2) := by decide +kernel
theorem dX6_placeRefusal_9 : decode cX6_placeRefusal 9 = .ok (.ireturn, 1) := by decide +kernel
theorem dX9_rest_0 : decode cX9_rest 0 = .ok (.iload_n 1, 1) := by decide +kernel
theorem dX9_rest_1 : decode cX9_rest 1 = .ok (.ifCond .ne 7, 3) := by decide +kernel
theorem dX9_rest_8 : decode cX9_rest 8 = .ok (.iload_n 0, 1) := by decide +kernel
theorem dX9_rest_9 : decode cX9_rest 9 = .ok (.iload_n 1, 1) := by decide +kernel
theorem dX9_rest_10 : decode cX9_rest 10 = .ok (.irem, 1) := by decide +kernel
theorem dX9_rest_11 : decode cX9_rest 11 = .ok (.ireturn, 1) := by decide +kernel
theorem dX9_rest_4 : decode cX9_rest 4 = .ok (.iconst 0, 1) := by decide +kernel
theorem dX9_rest_5 : decode cX9_rest 5 = .ok (.goto 6, 3) := by decide +kernel
theorem dX9_goalOf_0 : decode cX9_goalOf 0 = .ok (.iload_n 0, 1) := by decide +kernel
theorem dX9_goalOf_1 : decode cX9_goalOf 1 = .ok (.iconst 2, 1) := by decide +kernel
theorem dX9_goalOf_2 : decode cX9_goalOf 2 = .ok (.irem, 1) := by decide +kernel
theorem dX9_goalOf_3 : decode cX9_goalOf 3 = .ok (.ifCond .ne 7, 3) := by decide +kernel
theorem dX9_goalOf_10 : decode cX9_goalOf 10 = .ok (.bipush 12, 2) := by decide +kernel
theorem dX9_goalOf_12 : decode cX9_goalOf 12 = .ok (.ireturn, 1) := by decide +kernel
theorem dX9_goalOf_6 : decode cX9_goalOf 6 = .ok (.iconst 0, 1) := by decide +kernel
theorem dX9_goalOf_7 : decode cX9_goalOf 7 = .ok (.goto 5, 3) := by decide +kernel
def z_M : xM := m_106
/-- the cells of the reference are as they were made -/
def Fr (M : xM) : Prop := ∀ p, 62 ≤ p → M p = z_M p
theorem Fr_z : Fr z_M := fun _ _ => rfl
theorem Fr_up {M : xM} {p k : Nat} {v : Int32} (h : p < 62) (e : Fr M) : Fr (x_up M p k v) := fun q hq => (x_up_n M k v (by omega)).trans (e q hq)
theorem Fr_r {M : xM} (e : Fr M) {p k : Nat} {v : Int32} (h : 62 ≤ p) (hv : z_M p k = v) : M p k = v := (congrFun (e p h) k).trans hv
/-- an end with this answer behind which the reference is as it was made -/
def qF (r : Option Value) : xQ := fun v sh M _ => v = r ∧ sh = x_SH ∧ Fr M
theorem s_shelf {j : Nat} (h : j < 6) : x_SH[50 + 2 * j]? = some (.inl (6, [none, none, none, none, some (some (51 + 2 * j))])) := by
  match j, h with
  | 0, _ => rfl
  | 1, _ => rfl
  | 2, _ => rfl
  | 3, _ => rfl
  | 4, _ => rfl
  | 5, _ => rfl
theorem s_elem {j : Nat} (h : j < 6) : x_SH[51 + 2 * j]? = some (.inr (2, 60, fun _ => none)) := by
  match j, h with
  | 0, _ => rfl
  | 1, _ => rfl
  | 2, _ => rfl
  | 3, _ => rfl
  | 4, _ => rfl
  | 5, _ => rfl
set_option maxRecDepth 100000 in
set_option maxHeartbeats 4000000 in
theorem c_X6_isEmpty {p el : Nat} (hs : x_SH[p]? = some (.inl (6, [none, none, none, none, some (some el)]))) {l : Launch} {G : xG} {M : xM} {J : xJ} : x_M l G fX6_isEmpty 0 0 0 [.ref (p)] x_SH M J (qE (some (.int (bI (M p 0 = 0)))) x_SH M J) := by
  refine xb_of pX6 (Nat.le_of_ble_eq_true rfl) rfl ?_
  refine xr_aload_n dX6_isEmpty_0 0 rfl ?_
  refine xb_get (v := M p 0) flX6_15 dX6_isEmpty_1 hs rfl rfl ?_
  refine xr_if_ne (tgt := 11) dX6_isEmpty_4 rfl (fun c1 => ?_) (fun c1 => ?_)
  · refine xr_iconst (v := 0) dX6_isEmpty_11 rfl ?_
    exact xr_iret dX6_isEmpty_12 rfl rfl (⟨congrArg (fun z => some (Value.int z)) (bI_f (by grind)).symm, rfl, rfl, rfl⟩)
  · refine xr_iconst (v := 1) dX6_isEmpty_7 rfl ?_
    refine xr_goto (tgt := 12) dX6_isEmpty_8 rfl ?_
    exact xr_iret dX6_isEmpty_12 rfl rfl (⟨congrArg (fun z => some (Value.int z)) (bI_t (by grind)).symm, rfl, rfl, rfl⟩)
set_option maxRecDepth 100000 in
set_option maxHeartbeats 4000000 in
theorem c_X6_isTurn {p el : Nat} (hs : x_SH[p]? = some (.inl (6, [none, none, none, none, some (some el)]))) {l : Launch} {G : xG} {M : xM} {J : xJ} : x_M l G fX6_isTurn 0 0 0 [.ref (p)] x_SH M J (qE (some (.int (bI (M p 0 = 1)))) x_SH M J) := by
  refine xb_of pX6 (Nat.le_of_ble_eq_true rfl) rfl ?_
  refine xr_aload_n dX6_isTurn_0 0 rfl ?_
  refine xb_get (v := M p 0) flX6_15 dX6_isTurn_1 hs rfl rfl ?_
  refine xr_iconst (v := 1) dX6_isTurn_4 rfl ?_
  refine xr_icmp_ne (tgt := 12) dX6_isTurn_5 rfl (fun c1 => ?_) (fun c1 => ?_)
  · refine xr_iconst (v := 0) dX6_isTurn_12 rfl ?_
    exact xr_iret dX6_isTurn_13 rfl rfl (⟨congrArg (fun z => some (Value.int z)) (bI_f (by grind)).symm, rfl, rfl, rfl⟩)
  · refine xr_iconst (v := 1) dX6_isTurn_8 rfl ?_
    refine xr_goto (tgt := 13) dX6_isTurn_9 rfl ?_
    exact xr_iret dX6_isTurn_13 rfl rfl (⟨congrArg (fun z => some (Value.int z)) (bI_t (by grind)).symm, rfl, rfl, rfl⟩)
set_option maxRecDepth 100000 in
set_option maxHeartbeats 4000000 in
theorem c_X6_isRow {p el : Nat} (hs : x_SH[p]? = some (.inl (6, [none, none, none, none, some (some el)]))) {l : Launch} {G : xG} {M : xM} {J : xJ} : x_M l G fX6_isRow 0 0 0 [.ref (p)] x_SH M J (qE (some (.int (bI (M p 0 = 2)))) x_SH M J) := by
  refine xb_of pX6 (Nat.le_of_ble_eq_true rfl) rfl ?_
  refine xr_aload_n dX6_isRow_0 0 rfl ?_
  refine xb_get (v := M p 0) flX6_15 dX6_isRow_1 hs rfl rfl ?_
  refine xr_iconst (v := 2) dX6_isRow_4 rfl ?_
  refine xr_icmp_ne (tgt := 12) dX6_isRow_5 rfl (fun c1 => ?_) (fun c1 => ?_)
  · refine xr_iconst (v := 0) dX6_isRow_12 rfl ?_
    exact xr_iret dX6_isRow_13 rfl rfl (⟨congrArg (fun z => some (Value.int z)) (bI_f (by grind)).symm, rfl, rfl, rfl⟩)
  · refine xr_iconst (v := 1) dX6_isRow_8 rfl ?_
    refine xr_goto (tgt := 13) dX6_isRow_9 rfl ?_
    exact xr_iret dX6_isRow_13 rfl rfl (⟨congrArg (fun z => some (Value.int z)) (bI_t (by grind)).symm, rfl, rfl, rfl⟩)
set_option maxRecDepth 100000 in
set_option maxHeartbeats 4000000 in
theorem c_X6_hasBytes {p el : Nat} (hs : x_SH[p]? = some (.inl (6, [none, none, none, none, some (some el)]))) {l : Launch} {G : xG} {M : xM} {J : xJ} : x_M l G fX6_hasBytes 1 0 0 [.ref (p)] x_SH M J (qE (some (.int (bI (M p 0 = 2 ∧ M p 2 = 0)))) x_SH M J) := by
  refine xb_of pX6 (Nat.le_of_ble_eq_true rfl) rfl ?_
  refine xr_aload_n dX6_hasBytes_0 0 rfl ?_
  refine xb_cV (As := []) (rest := []) mlX6_19 (c_X6_isRow hs) dX6_hasBytes_1 hs rfl rfl (Nat.le_of_ble_eq_true rfl) (by decide) (by decide) ?_
  refine xb_beq (tgt := 18) dX6_hasBytes_4 rfl (fun c1 => ?_) (fun c1 => ?_)
  · refine xr_iconst (v := 0) dX6_hasBytes_18 rfl ?_
    exact xr_iret dX6_hasBytes_19 rfl rfl (⟨congrArg (fun z => some (Value.int z)) (bI_f (by grind)).symm, rfl, rfl, rfl⟩)
  · refine xr_aload_n dX6_hasBytes_7 0 rfl ?_
    refine xb_get (v := M p 2) flX6_23 dX6_hasBytes_8 hs rfl rfl ?_
    refine xr_if_ne (tgt := 18) dX6_hasBytes_11 rfl (fun c2 => ?_) (fun c2 => ?_)
    · refine xr_iconst (v := 0) dX6_hasBytes_18 rfl ?_
      exact xr_iret dX6_hasBytes_19 rfl rfl (⟨congrArg (fun z => some (Value.int z)) (bI_f (by grind)).symm, rfl, rfl, rfl⟩)
    · refine xr_iconst (v := 1) dX6_hasBytes_14 rfl ?_
      refine xr_goto (tgt := 19) dX6_hasBytes_15 rfl ?_
      exact xr_iret dX6_hasBytes_19 rfl rfl (⟨congrArg (fun z => some (Value.int z)) (bI_t (by grind)).symm, rfl, rfl, rfl⟩)
set_option maxRecDepth 100000 in
set_option maxHeartbeats 4000000 in
theorem c_X6_holdNothing {p el : Nat} (hs : x_SH[p]? = some (.inl (6, [none, none, none, none, some (some el)]))) {l : Launch} {G : xG} {M : xM} {J : xJ} : x_M l G fX6_holdNothing 0 0 0 [.ref (p)] x_SH M J (qE (none) x_SH (x_up (x_up M p 0 0) p 3 0) J) := by
  refine xb_of pX6 (Nat.le_of_ble_eq_true rfl) rfl ?_
  refine xr_aload_n dX6_holdNothing_0 0 rfl ?_
  refine xr_iconst (v := 0) dX6_holdNothing_1 rfl ?_
  refine xr_putI fpX6_15 dX6_holdNothing_2 hs rfl rfl rfl ?_
  refine xr_aload_n dX6_holdNothing_5 0 rfl ?_
  refine xr_iconst (v := 0) dX6_holdNothing_6 rfl ?_
  refine xr_putI fpX6_26 dX6_holdNothing_7 hs rfl rfl rfl ?_
  exact xr_vret dX6_holdNothing_10 rfl (⟨rfl, rfl, rfl, rfl⟩)
set_option maxRecDepth 100000 in
set_option maxHeartbeats 4000000 in
theorem c_X6_holdTurn (b : Int32) {p el : Nat} (hs : x_SH[p]? = some (.inl (6, [none, none, none, none, some (some el)]))) {l : Launch} {G : xG} {M : xM} {J : xJ} : x_M l G fX6_holdTurn 0 0 0 [.ref (p), .int (b)] x_SH M J (qE (none) x_SH (x_up (x_up (x_up M p 0 1) p 1 b) p 3 0) J) := by
  refine xb_of pX6 (Nat.le_of_ble_eq_true rfl) rfl ?_
  refine xr_aload_n dX6_holdTurn_0 0 rfl ?_
  refine xr_iconst (v := 1) dX6_holdTurn_1 rfl ?_
  refine xr_putI fpX6_15 dX6_holdTurn_2 hs rfl rfl rfl ?_
  refine xr_aload_n dX6_holdTurn_5 0 rfl ?_
  refine xr_iload_n dX6_holdTurn_6 1 rfl ?_
  refine xr_putI fpX6_29 dX6_holdTurn_7 hs rfl rfl rfl ?_
  refine xr_aload_n dX6_holdTurn_10 0 rfl ?_
  refine xr_iconst (v := 0) dX6_holdTurn_11 rfl ?_
  refine xr_putI fpX6_26 dX6_holdTurn_12 hs rfl rfl rfl ?_
  exact xr_vret dX6_holdTurn_15 rfl (⟨rfl, rfl, rfl, rfl⟩)
set_option maxRecDepth 100000 in
set_option maxHeartbeats 4000000 in
theorem c_X6_bytesRefusal {p el : Nat} (hs : x_SH[p]? = some (.inl (6, [none, none, none, none, some (some el)]))) {l : Launch} {G : xG} {M : xM} {J : xJ} : x_M l G fX6_bytesRefusal 2 0 0 [.ref (p)] x_SH M J (qE (some (.int (if M p 0 = 0 then -11 else if M p 0 = 2 ∧ M p 2 = 0 then 0 else -12))) x_SH M J) := by
  refine xb_of pX6 (Nat.le_of_ble_eq_true rfl) rfl ?_
  refine xr_aload_n dX6_bytesRefusal_0 0 rfl ?_
  refine xb_cV (As := []) (rest := []) mlX6_32 (c_X6_isEmpty hs) dX6_bytesRefusal_1 hs rfl rfl (Nat.le_of_ble_eq_true rfl) (by decide) (by decide) ?_
  refine xb_beq (tgt := 10) dX6_bytesRefusal_4 rfl (fun c1 => ?_) (fun c1 => ?_)
  · refine xr_aload_n dX6_bytesRefusal_10 0 rfl ?_
    refine xb_cV (As := []) (rest := []) mlX6_35 (c_X6_hasBytes hs) dX6_bytesRefusal_11 hs rfl rfl (Nat.le_of_ble_eq_true rfl) (by decide) (by decide) ?_
    refine xb_beq (tgt := 21) dX6_bytesRefusal_14 rfl (fun c2 => ?_) (fun c2 => ?_)
    · refine xr_bipush (v := -12) dX6_bytesRefusal_21 rfl ?_
      exact xr_iret dX6_bytesRefusal_23 rfl rfl (⟨by first | rfl | grind, rfl, rfl, rfl⟩)
    · refine xr_iconst (v := 0) dX6_bytesRefusal_17 rfl ?_
      refine xr_goto (tgt := 23) dX6_bytesRefusal_18 rfl ?_
      exact xr_iret dX6_bytesRefusal_23 rfl rfl (⟨by first | rfl | grind, rfl, rfl, rfl⟩)
  · refine xr_bipush (v := -11) dX6_bytesRefusal_7 rfl ?_
    exact xr_iret dX6_bytesRefusal_9 rfl rfl (⟨by first | rfl | grind, rfl, rfl, rfl⟩)
set_option maxRecDepth 100000 in
set_option maxHeartbeats 4000000 in
theorem c_X6_placeRefusal (i : Int32) {p el : Nat} (hs : x_SH[p]? = some (.inl (6, [none, none, none, none, some (some el)]))) {l : Launch} {G : xG} {M : xM} {J : xJ} : x_M l G fX6_placeRefusal 1 0 0 [.ref (p), .int (i)] x_SH M J (qE (some (.int (if M p 0 = 0 then -11 else if M p 0 = 2 then (if 0 ≤ i ∧ i < M p 3 then 0 else -13) else -12))) x_SH M J) := by
  refine xb_of pX6 (Nat.le_of_ble_eq_true rfl) rfl ?_
  refine xr_aload_n dX6_placeRefusal_0 0 rfl ?_
  refine xb_cV (As := []) (rest := []) mlX6_32 (c_X6_isEmpty hs) dX6_placeRefusal_1 hs rfl rfl (Nat.le_of_ble_eq_true rfl) (by decide) (by decide) ?_
  refine xb_beq (tgt := 10) dX6_placeRefusal_4 rfl (fun c1 => ?_) (fun c1 => ?_)
  · refine xr_aload_n dX6_placeRefusal_10 0 rfl ?_
    refine xb_cV (As := []) (rest := []) mlX6_19 (c_X6_isRow hs) dX6_placeRefusal_11 hs rfl rfl (Nat.le_of_ble_eq_true rfl) (by decide) (by decide) ?_
    refine xb_bne (tgt := 20) dX6_placeRefusal_14 rfl (fun c2 => ?_) (fun c2 => ?_)
    · refine xr_iload_n dX6_placeRefusal_20 1 rfl ?_
      refine xr_if_lt (tgt := 36) dX6_placeRefusal_21 rfl (fun c3 => ?_) (fun c3 => ?_)
      · refine xr_bipush (v := -13) dX6_placeRefusal_36 rfl ?_
        exact xr_iret dX6_placeRefusal_38 rfl rfl (⟨by first | rfl | grind, rfl, rfl, rfl⟩)
      · refine xr_iload_n dX6_placeRefusal_24 1 rfl ?_
        refine xr_aload_n dX6_placeRefusal_25 0 rfl ?_
        refine xb_get (v := M p 3) flX6_26 dX6_placeRefusal_26 hs rfl rfl ?_
        refine xr_icmp_ge (tgt := 36) dX6_placeRefusal_29 rfl (fun c4 => ?_) (fun c4 => ?_)
        · refine xr_bipush (v := -13) dX6_placeRefusal_36 rfl ?_
          exact xr_iret dX6_placeRefusal_38 rfl rfl (⟨by first | rfl | grind, rfl, rfl, rfl⟩)
        · refine xr_iconst (v := 0) dX6_placeRefusal_32 rfl ?_
          refine xr_goto (tgt := 38) dX6_placeRefusal_33 rfl ?_
          exact xr_iret dX6_placeRefusal_38 rfl rfl (⟨by first | rfl | grind, rfl, rfl, rfl⟩)
    · refine xr_bipush (v := -12) dX6_placeRefusal_17 rfl ?_
      exact xr_iret dX6_placeRefusal_19 rfl rfl (⟨by first | rfl | grind, rfl, rfl, rfl⟩)
  · refine xr_bipush (v := -11) dX6_placeRefusal_7 rfl ?_
    exact xr_iret dX6_placeRefusal_9 rfl rfl (⟨by first | rfl | grind, rfl, rfl, rfl⟩)
set_option maxRecDepth 100000 in
set_option maxHeartbeats 4000000 in
theorem c_X9_rest (a b : Int32) {l : Launch} {G : xG} {M : xM} {J : xJ} : x_M l G fX9_rest 0 0 0 [.int (a), .int (b)] x_SH M J (qE (some (.int (if b = 0 then 0 else a - a / b * b))) x_SH M J) := by
  refine xb_of pX9 (Nat.le_of_ble_eq_true rfl) rfl ?_
  refine xr_iload_n dX9_rest_0 1 rfl ?_
  refine xr_if_ne (tgt := 8) dX9_rest_1 rfl (fun c1 => ?_) (fun c1 => ?_)
  · refine xr_iload_n dX9_rest_8 0 rfl ?_
    refine xr_iload_n dX9_rest_9 1 rfl ?_
    refine xr_irem dX9_rest_10 c1 ?_
    exact xr_iret dX9_rest_11 rfl rfl (⟨by first | rfl | grind, rfl, rfl, rfl⟩)
  · refine xr_iconst (v := 0) dX9_rest_4 rfl ?_
    refine xr_goto (tgt := 11) dX9_rest_5 rfl ?_
    exact xr_iret dX9_rest_11 rfl rfl (⟨by first | rfl | grind, rfl, rfl, rfl⟩)
set_option maxRecDepth 100000 in
set_option maxHeartbeats 4000000 in
theorem c_X9_goalOf (i : Int32) {l : Launch} {G : xG} {M : xM} {J : xJ} : x_M l G fX9_goalOf 0 0 0 [.int (i)] x_SH M J (qE (some (.int (if i - i / 2 * 2 = 0 then 0 else 12))) x_SH M J) := by
  refine xb_of pX9 (Nat.le_of_ble_eq_true rfl) rfl ?_
  refine xr_iload_n dX9_goalOf_0 0 rfl ?_
  refine xr_iconst (v := 2) dX9_goalOf_1 rfl ?_
  refine xr_irem dX9_goalOf_2 (by decide) ?_
  refine xr_if_ne (tgt := 10) dX9_goalOf_3 rfl (fun c1 => ?_) (fun c1 => ?_)
  · refine xr_bipush (v := 12) dX9_goalOf_10 rfl ?_
    exact xr_iret dX9_goalOf_12 rfl rfl (⟨by first | rfl | grind, rfl, rfl, rfl⟩)
  · refine xr_iconst (v := 0) dX9_goalOf_6 rfl ?_
    refine xr_goto (tgt := 12) dX9_goalOf_7 rfl ?_
    exact xr_iret dX9_goalOf_12 rfl rfl (⟨by first | rfl | grind, rfl, rfl, rfl⟩)
