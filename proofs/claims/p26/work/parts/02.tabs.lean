/-! links: what each constant pool entry is, by its place in the tables -/
theorem uS : ∀ w ∈ k2_sels lw_privs, w ∈ lw_tbl := fun _ h => List.mem_append_left _ h
theorem u1 : ∀ w ∈ tables_1_1, w ∈ lw_tbl := fun _ h => List.mem_append_right _ (List.mem_append_left _ h)
theorem u2 : ∀ w ∈ tables_1_2, w ∈ lw_tbl := fun _ h => List.mem_append_right _ (List.mem_append_right _ (List.mem_append_left _ h))
theorem u3 : ∀ w ∈ tables_1_3, w ∈ lw_tbl := fun _ h => List.mem_append_right _ (List.mem_append_right _ (List.mem_append_right _ (List.mem_append_left _ h)))
theorem u4 : ∀ w ∈ tables_1_4, w ∈ lw_tbl := fun _ h => List.mem_append_right _ (List.mem_append_right _ (List.mem_append_right _ (List.mem_append_right _ (List.mem_append_left _ h))))
theorem u5 : ∀ w ∈ tables_1_5, w ∈ lw_tbl := fun _ h => List.mem_append_right _ (List.mem_append_right _ (List.mem_append_right _ (List.mem_append_right _ (List.mem_append_right _ (List.mem_append_left _ h)))))
theorem u6 : ∀ w ∈ tables_1_6, w ∈ lw_tbl := fun _ h => List.mem_append_right _ (List.mem_append_right _ (List.mem_append_right _ (List.mem_append_right _ (List.mem_append_right _ (List.mem_append_right _ (List.mem_append_left _ h))))))
theorem u7 : ∀ w ∈ tables_1_7, w ∈ lw_tbl := fun _ h => List.mem_append_right _ (List.mem_append_right _ (List.mem_append_right _ (List.mem_append_right _ (List.mem_append_right _ (List.mem_append_right _ (List.mem_append_right _ h))))))
abbrev x_nests : List (String × Nat × MethodName × String) := [(RX2, 56, yX9_within, "HoopWaist"), (RX3, 60, yX9_within, "HoopWaist"), (RX5, 79, yX9_rest, "HoopWaist"), (RX5, 83, yX9_goalOf, "HoopWaist"), (RX7, 88, yX9_goalOf, "HoopWaist"), (RX8, 26, yX9_isKind, "HoopWaist")]
theorem ux_0 : Cond.methodLinkNest RX2 56 yX9_within "HoopWaist" ∈ lw_tbl := u3 _ (List.mem_of_getElem? (i := 124) rfl)
theorem ux_1 : Cond.methodLinkNest RX3 60 yX9_within "HoopWaist" ∈ lw_tbl := u3 _ (List.mem_of_getElem? (i := 104) rfl)
theorem ux_2 : Cond.methodLinkNest RX5 79 yX9_rest "HoopWaist" ∈ lw_tbl := u3 _ (List.mem_of_getElem? (i := 57) rfl)
theorem ux_3 : Cond.methodLinkNest RX5 83 yX9_goalOf "HoopWaist" ∈ lw_tbl := u3 _ (List.mem_of_getElem? (i := 64) rfl)
theorem ux_4 : Cond.methodLinkNest RX7 88 yX9_goalOf "HoopWaist" ∈ lw_tbl := u4 _ (List.mem_of_getElem? (i := 49) rfl)
theorem ux_5 : Cond.methodLinkNest RX8 26 yX9_isKind "HoopWaist" ∈ lw_tbl := u4 _ (List.mem_of_getElem? (i := 203) rfl)
theorem uo_Hoop : Cond.arrayOver (.object RX2) ∈ lw_tbl := u1 _ (List.mem_of_getElem? (i := 84) rfl)
theorem uo_Shelf : Cond.arrayOver (.object RX6) ∈ lw_tbl := u2 _ (List.mem_of_getElem? (i := 45) rfl)
