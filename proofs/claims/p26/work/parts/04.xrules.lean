/-! locals -/
def x_st1 (ls : List (Nat × Value)) (i : Nat) (v : Value) : List (Nat × Value) := (i, v) :: ls.filter (fun q => !(q.1 == i) && !(q.1 + 1 == i && q.2.category == 2))
def x_st2 (ls : List (Nat × Value)) (i : Nat) (v : Value) : List (Nat × Value) := (i, v) :: ls.filter (fun q => !(q.1 == i) && (!(q.1 == i + 1) && !(q.1 + 1 == i && q.2.category == 2)))
theorem x_st1_rn (G : xG) (ls : List (Nat × Value)) (i : Nat) (v : Value) : (i, x_rn G v) :: (ls.map (x_rl G)).filter (fun q => !(q.1 == i) && !(q.1 + 1 == i && q.2.category == 2)) = (x_st1 ls i v).map (x_rl G) := by
  simp only [x_st1, List.map_cons, List.filter_map]
  congr 1
  refine congrArg _ (congrArg (fun f => List.filter f ls) ?_)
  funext q
  simp only [Function.comp, x_rl, x_rn_cat]
theorem x_st2_rn (G : xG) (ls : List (Nat × Value)) (i : Nat) (v : Value) : (i, x_rn G v) :: (ls.map (x_rl G)).filter (fun q => !(q.1 == i) && (!(q.1 == i + 1) && !(q.1 + 1 == i && q.2.category == 2))) = (x_st2 ls i v).map (x_rl G) := by
  simp only [x_st2, List.map_cons, List.filter_map]
  congr 1
  refine congrArg _ (congrArg (fun f => List.filter f ls) ?_)
  funext q
  simp only [Function.comp, x_rl, x_rn_cat]
theorem x_ls_at {G : xG} {ls : List (Nat × Value)} {j i : Nat} {v : Value} (h : ls[j]? = some (i, v)) : (ls.map (x_rl G))[j]? = some (i, x_rn G v) := by
  rw [List.getElem?_map, h]
  rfl
section XR
variable {l : Launch} {G : xG} {f : xF} {d mc ms : Nat} {Q : xQ} {pc : Nat} {ls : List (Nat × Value)} {st : List Value} {sh : List xS} {M : xM} {J : xJ} {kc ks : Nat}

theorem xr_iconst {n : Int} {v : Int32} (hd : decode f.2.1 pc = .ok (.iconst n, 1)) (hv : Int32.ofInt n = v) (k : x_X l G f d mc ms Q (pc + 1) ls (.int v :: st) sh M J kc ks) : x_X l G f d mc ms Q pc ls st sh M J kc ks := by
  intro p e R s m args below meth c H locs WQ arr hC hr hR hS hkc hks hl
  exact lv_iconst hC.1 hC.2.1 hd hv (k p e R s m args below meth c H locs WQ arr hC hr hR hS hkc hks hl)

theorem xr_bipush {n : Int} {v : Int32} (hd : decode f.2.1 pc = .ok (.bipush n, 2)) (hv : (Int8.ofInt n).toInt32 = v) (k : x_X l G f d mc ms Q (pc + 2) ls (.int v :: st) sh M J kc ks) : x_X l G f d mc ms Q pc ls st sh M J kc ks := by
  intro p e R s m args below meth c H locs WQ arr hC hr hR hS hkc hks hl
  exact lv_bipush hC.1 hC.2.1 hd hv (k p e R s m args below meth c H locs WQ arr hC hr hR hS hkc hks hl)

theorem xr_sipush {n : Int} {v : Int32} (hd : decode f.2.1 pc = .ok (.sipush n, 3)) (hv : (Int16.ofInt n).toInt32 = v) (k : x_X l G f d mc ms Q (pc + 3) ls (.int v :: st) sh M J kc ks) : x_X l G f d mc ms Q pc ls st sh M J kc ks := by
  intro p e R s m args below meth c H locs WQ arr hC hr hR hS hkc hks hl
  exact lv_sipush hC.1 hC.2.1 hd hv (k p e R s m args below meth c H locs WQ arr hC hr hR hS hkc hks hl)

theorem xr_lconst {n : Fin 2} {v : Int64} (hd : decode f.2.1 pc = .ok (.lconst n, 1)) (hv : Int64.ofNat (n : Nat) = v) (k : x_X l G f d mc ms Q (pc + 1) ls (.long v :: st) sh M J kc ks) : x_X l G f d mc ms Q pc ls st sh M J kc ks := by
  intro p e R s m args below meth c H locs WQ arr hC hr hR hS hkc hks hl
  exact lv_lconst hC.1 hC.2.1 hd hv (k p e R s m args below meth c H locs WQ arr hC hr hR hS hkc hks hl)

theorem xr_iadd {x y : Int32} (hd : decode f.2.1 pc = .ok (.iadd, 1)) (k : x_X l G f d mc ms Q (pc + 1) ls (.int (x + y) :: st) sh M J kc ks) : x_X l G f d mc ms Q pc ls (.int y :: .int x :: st) sh M J kc ks := by
  intro p e R s m args below meth c H locs WQ arr hC hr hR hS hkc hks hl
  exact lv_iadd hC.1 hC.2.1 hd (k p e R s m args below meth c H locs WQ arr hC hr hR hS hkc hks hl)

theorem xr_isub {x y : Int32} (hd : decode f.2.1 pc = .ok (.isub, 1)) (k : x_X l G f d mc ms Q (pc + 1) ls (.int (x - y) :: st) sh M J kc ks) : x_X l G f d mc ms Q pc ls (.int y :: .int x :: st) sh M J kc ks := by
  intro p e R s m args below meth c H locs WQ arr hC hr hR hS hkc hks hl
  exact lv_isub hC.1 hC.2.1 hd (k p e R s m args below meth c H locs WQ arr hC hr hR hS hkc hks hl)

theorem xr_imul {x y : Int32} (hd : decode f.2.1 pc = .ok (.imul, 1)) (k : x_X l G f d mc ms Q (pc + 1) ls (.int (x * y) :: st) sh M J kc ks) : x_X l G f d mc ms Q pc ls (.int y :: .int x :: st) sh M J kc ks := by
  intro p e R s m args below meth c H locs WQ arr hC hr hR hS hkc hks hl
  exact lv_imul hC.1 hC.2.1 hd (k p e R s m args below meth c H locs WQ arr hC hr hR hS hkc hks hl)

theorem xr_iand {x y : Int32} (hd : decode f.2.1 pc = .ok (.iand, 1)) (k : x_X l G f d mc ms Q (pc + 1) ls (.int (x &&& y) :: st) sh M J kc ks) : x_X l G f d mc ms Q pc ls (.int y :: .int x :: st) sh M J kc ks := by
  intro p e R s m args below meth c H locs WQ arr hC hr hR hS hkc hks hl
  exact lv_iand hC.1 hC.2.1 hd (k p e R s m args below meth c H locs WQ arr hC hr hR hS hkc hks hl)

theorem xr_ior {x y : Int32} (hd : decode f.2.1 pc = .ok (.ior, 1)) (k : x_X l G f d mc ms Q (pc + 1) ls (.int (x ||| y) :: st) sh M J kc ks) : x_X l G f d mc ms Q pc ls (.int y :: .int x :: st) sh M J kc ks := by
  intro p e R s m args below meth c H locs WQ arr hC hr hR hS hkc hks hl
  exact lv_ior hC.1 hC.2.1 hd (k p e R s m args below meth c H locs WQ arr hC hr hR hS hkc hks hl)

theorem xr_ixor {x y : Int32} (hd : decode f.2.1 pc = .ok (.ixor, 1)) (k : x_X l G f d mc ms Q (pc + 1) ls (.int (x ^^^ y) :: st) sh M J kc ks) : x_X l G f d mc ms Q pc ls (.int y :: .int x :: st) sh M J kc ks := by
  intro p e R s m args below meth c H locs WQ arr hC hr hR hS hkc hks hl
  exact lv_ixor hC.1 hC.2.1 hd (k p e R s m args below meth c H locs WQ arr hC hr hR hS hkc hks hl)

theorem xr_ishl {x y : Int32} (hd : decode f.2.1 pc = .ok (.ishl, 1)) (k : x_X l G f d mc ms Q (pc + 1) ls (.int (x <<< (y &&& 31)) :: st) sh M J kc ks) : x_X l G f d mc ms Q pc ls (.int y :: .int x :: st) sh M J kc ks := by
  intro p e R s m args below meth c H locs WQ arr hC hr hR hS hkc hks hl
  exact lv_ishl hC.1 hC.2.1 hd (k p e R s m args below meth c H locs WQ arr hC hr hR hS hkc hks hl)

theorem xr_ishr {x y : Int32} (hd : decode f.2.1 pc = .ok (.ishr, 1)) (k : x_X l G f d mc ms Q (pc + 1) ls (.int (x >>> (y &&& 31)) :: st) sh M J kc ks) : x_X l G f d mc ms Q pc ls (.int y :: .int x :: st) sh M J kc ks := by
  intro p e R s m args below meth c H locs WQ arr hC hr hR hS hkc hks hl
  exact lv_ishr hC.1 hC.2.1 hd (k p e R s m args below meth c H locs WQ arr hC hr hR hS hkc hks hl)

theorem xr_iushr {x y : Int32} (hd : decode f.2.1 pc = .ok (.iushr, 1)) (k : x_X l G f d mc ms Q (pc + 1) ls (.int ((x.toUInt32 >>> (y.toUInt32 &&& Int32.toUInt32 31)).toInt32) :: st) sh M J kc ks) : x_X l G f d mc ms Q pc ls (.int y :: .int x :: st) sh M J kc ks := by
  intro p e R s m args below meth c H locs WQ arr hC hr hR hS hkc hks hl
  exact lv_iushr hC.1 hC.2.1 hd rfl (k p e R s m args below meth c H locs WQ arr hC hr hR hS hkc hks hl)

theorem xr_lshl {x : Int64} {y : Int32} (hd : decode f.2.1 pc = .ok (.lshl, 1)) (k : x_X l G f d mc ms Q (pc + 1) ls (.long (x <<< (y.toInt64 &&& 63)) :: st) sh M J kc ks) : x_X l G f d mc ms Q pc ls (.int y :: .long x :: st) sh M J kc ks := by
  intro p e R s m args below meth c H locs WQ arr hC hr hR hS hkc hks hl
  exact lv_lshl hC.1 hC.2.1 hd rfl (k p e R s m args below meth c H locs WQ arr hC hr hR hS hkc hks hl)

theorem xr_idiv {x y : Int32} (hd : decode f.2.1 pc = .ok (.idiv, 1)) (hne : ¬ y = 0) (k : x_X l G f d mc ms Q (pc + 1) ls (.int (x / y) :: st) sh M J kc ks) : x_X l G f d mc ms Q pc ls (.int y :: .int x :: st) sh M J kc ks := by
  intro p e R s m args below meth c H locs WQ arr hC hr hR hS hkc hks hl
  exact lv_idiv hC.1 hC.2.1 hd hne (k p e R s m args below meth c H locs WQ arr hC hr hR hS hkc hks hl)

theorem xr_irem {x y : Int32} (hd : decode f.2.1 pc = .ok (.irem, 1)) (hne : ¬ y = 0) (k : x_X l G f d mc ms Q (pc + 1) ls (.int (x - x / y * y) :: st) sh M J kc ks) : x_X l G f d mc ms Q pc ls (.int y :: .int x :: st) sh M J kc ks := by
  intro p e R s m args below meth c H locs WQ arr hC hr hR hS hkc hks hl
  exact lv_irem hC.1 hC.2.1 hd hne (k p e R s m args below meth c H locs WQ arr hC hr hR hS hkc hks hl)

theorem xr_ineg {x : Int32} (hd : decode f.2.1 pc = .ok (.ineg, 1)) (k : x_X l G f d mc ms Q (pc + 1) ls (.int (-x) :: st) sh M J kc ks) : x_X l G f d mc ms Q pc ls (.int x :: st) sh M J kc ks := by
  intro p e R s m args below meth c H locs WQ arr hC hr hR hS hkc hks hl
  exact lv_ineg hC.1 hC.2.1 hd (k p e R s m args below meth c H locs WQ arr hC hr hR hS hkc hks hl)

theorem xr_ladd {x y : Int64} (hd : decode f.2.1 pc = .ok (.ladd, 1)) (k : x_X l G f d mc ms Q (pc + 1) ls (.long (x + y) :: st) sh M J kc ks) : x_X l G f d mc ms Q pc ls (.long y :: .long x :: st) sh M J kc ks := by
  intro p e R s m args below meth c H locs WQ arr hC hr hR hS hkc hks hl
  exact lv_ladd hC.1 hC.2.1 hd (k p e R s m args below meth c H locs WQ arr hC hr hR hS hkc hks hl)

theorem xr_lmul {x y : Int64} (hd : decode f.2.1 pc = .ok (.lmul, 1)) (k : x_X l G f d mc ms Q (pc + 1) ls (.long (x * y) :: st) sh M J kc ks) : x_X l G f d mc ms Q pc ls (.long y :: .long x :: st) sh M J kc ks := by
  intro p e R s m args below meth c H locs WQ arr hC hr hR hS hkc hks hl
  exact lv_lmul hC.1 hC.2.1 hd (k p e R s m args below meth c H locs WQ arr hC hr hR hS hkc hks hl)

theorem xr_land {x y : Int64} (hd : decode f.2.1 pc = .ok (.land, 1)) (k : x_X l G f d mc ms Q (pc + 1) ls (.long (x &&& y) :: st) sh M J kc ks) : x_X l G f d mc ms Q pc ls (.long y :: .long x :: st) sh M J kc ks := by
  intro p e R s m args below meth c H locs WQ arr hC hr hR hS hkc hks hl
  exact lv_land hC.1 hC.2.1 hd (k p e R s m args below meth c H locs WQ arr hC hr hR hS hkc hks hl)

theorem xr_lor {x y : Int64} (hd : decode f.2.1 pc = .ok (.lor, 1)) (k : x_X l G f d mc ms Q (pc + 1) ls (.long (x ||| y) :: st) sh M J kc ks) : x_X l G f d mc ms Q pc ls (.long y :: .long x :: st) sh M J kc ks := by
  intro p e R s m args below meth c H locs WQ arr hC hr hR hS hkc hks hl
  exact lv_lor hC.1 hC.2.1 hd (k p e R s m args below meth c H locs WQ arr hC hr hR hS hkc hks hl)

theorem xr_ldiv {x y : Int64} (hd : decode f.2.1 pc = .ok (.ldiv, 1)) (hne : ¬ y = 0) (k : x_X l G f d mc ms Q (pc + 1) ls (.long (x / y) :: st) sh M J kc ks) : x_X l G f d mc ms Q pc ls (.long y :: .long x :: st) sh M J kc ks := by
  intro p e R s m args below meth c H locs WQ arr hC hr hR hS hkc hks hl
  exact lv_ldiv hC.1 hC.2.1 hd hne (k p e R s m args below meth c H locs WQ arr hC hr hR hS hkc hks hl)

theorem xr_lrem {x y : Int64} (hd : decode f.2.1 pc = .ok (.lrem, 1)) (hne : ¬ y = 0) (k : x_X l G f d mc ms Q (pc + 1) ls (.long (x - x / y * y) :: st) sh M J kc ks) : x_X l G f d mc ms Q pc ls (.long y :: .long x :: st) sh M J kc ks := by
  intro p e R s m args below meth c H locs WQ arr hC hr hR hS hkc hks hl
  exact lv_lrem hC.1 hC.2.1 hd hne (k p e R s m args below meth c H locs WQ arr hC hr hR hS hkc hks hl)

theorem xr_i2l {x : Int32} (hd : decode f.2.1 pc = .ok (.i2l, 1)) (k : x_X l G f d mc ms Q (pc + 1) ls (.long x.toInt64 :: st) sh M J kc ks) : x_X l G f d mc ms Q pc ls (.int x :: st) sh M J kc ks := by
  intro p e R s m args below meth c H locs WQ arr hC hr hR hS hkc hks hl
  exact lv_i2l hC.1 hC.2.1 hd rfl (k p e R s m args below meth c H locs WQ arr hC hr hR hS hkc hks hl)

theorem xr_l2i {x : Int64} (hd : decode f.2.1 pc = .ok (.l2i, 1)) (k : x_X l G f d mc ms Q (pc + 1) ls (.int x.toInt32 :: st) sh M J kc ks) : x_X l G f d mc ms Q pc ls (.long x :: st) sh M J kc ks := by
  intro p e R s m args below meth c H locs WQ arr hC hr hR hS hkc hks hl
  exact lv_l2i hC.1 hC.2.1 hd rfl (k p e R s m args below meth c H locs WQ arr hC hr hR hS hkc hks hl)

theorem xr_i2b {x : Int32} (hd : decode f.2.1 pc = .ok (.i2b, 1)) (k : x_X l G f d mc ms Q (pc + 1) ls (.int x.toInt8.toInt32 :: st) sh M J kc ks) : x_X l G f d mc ms Q pc ls (.int x :: st) sh M J kc ks := by
  intro p e R s m args below meth c H locs WQ arr hC hr hR hS hkc hks hl
  exact lv_i2b hC.1 hC.2.1 hd rfl (k p e R s m args below meth c H locs WQ arr hC hr hR hS hkc hks hl)

theorem xr_i2s {x : Int32} (hd : decode f.2.1 pc = .ok (.i2s, 1)) (k : x_X l G f d mc ms Q (pc + 1) ls (.int x.toInt16.toInt32 :: st) sh M J kc ks) : x_X l G f d mc ms Q pc ls (.int x :: st) sh M J kc ks := by
  intro p e R s m args below meth c H locs WQ arr hC hr hR hS hkc hks hl
  exact lv_i2s hC.1 hC.2.1 hd rfl (k p e R s m args below meth c H locs WQ arr hC hr hR hS hkc hks hl)

theorem xr_lcmp {x y : Int64} (hd : decode f.2.1 pc = .ok (.lcmp, 1)) (k : x_X l G f d mc ms Q (pc + 1) ls (.int (lg_cmp x y) :: st) sh M J kc ks) : x_X l G f d mc ms Q pc ls (.long y :: .long x :: st) sh M J kc ks := by
  intro p e R s m args below meth c H locs WQ arr hC hr hR hS hkc hks hl
  exact W.lcmp hC.1 hC.2.1 hd (k p e R s m args below meth c H locs WQ arr hC hr hR hS hkc hks hl)

theorem xr_dup {va : Value} (hd : decode f.2.1 pc = .ok (.dup, 1)) (hva : va.category = 1) (k : x_X l G f d mc ms Q (pc + 1) ls (va :: va :: st) sh M J kc ks) : x_X l G f d mc ms Q pc ls (va :: st) sh M J kc ks := by
  intro p e R s m args below meth c H locs WQ arr hC hr hR hS hkc hks hl
  exact lv_dup hC.1 hC.2.1 hd ((x_rn_cat G va).trans hva) (k p e R s m args below meth c H locs WQ arr hC hr hR hS hkc hks hl)

theorem xr_pop {va : Value} (hd : decode f.2.1 pc = .ok (.pop, 1)) (hva : va.category = 1) (k : x_X l G f d mc ms Q (pc + 1) ls st sh M J kc ks) : x_X l G f d mc ms Q pc ls (va :: st) sh M J kc ks := by
  intro p e R s m args below meth c H locs WQ arr hC hr hR hS hkc hks hl
  exact lv_pop hC.1 hC.2.1 hd ((x_rn_cat G va).trans hva) (k p e R s m args below meth c H locs WQ arr hC hr hR hS hkc hks hl)

theorem xr_dup2 {va vb : Value} (hd : decode f.2.1 pc = .ok (.dup2, 1)) (hva : va.category = 1) (hvb : vb.category = 1) (k : x_X l G f d mc ms Q (pc + 1) ls (va :: vb :: va :: vb :: st) sh M J kc ks) : x_X l G f d mc ms Q pc ls (va :: vb :: st) sh M J kc ks := by
  intro p e R s m args below meth c H locs WQ arr hC hr hR hS hkc hks hl
  exact lv_dup2_11 hC.1 hC.2.1 hd ((x_rn_cat G va).trans hva) ((x_rn_cat G vb).trans hvb) (k p e R s m args below meth c H locs WQ arr hC hr hR hS hkc hks hl)

theorem xr_pop2 {va : Value} (hd : decode f.2.1 pc = .ok (.pop2, 1)) (hva : va.category = 2) (k : x_X l G f d mc ms Q (pc + 1) ls st sh M J kc ks) : x_X l G f d mc ms Q pc ls (va :: st) sh M J kc ks := by
  intro p e R s m args below meth c H locs WQ arr hC hr hR hS hkc hks hl
  exact lv_pop2_2 hC.1 hC.2.1 hd ((x_rn_cat G va).trans hva) (k p e R s m args below meth c H locs WQ arr hC hr hR hS hkc hks hl)

theorem xr_iload_n {q : Fin 4} {x : Int32} (hd : decode f.2.1 pc = .ok (.iload_n q, 1)) (j : Nat) (hj : ls[j]? = some ((q : Nat), .int x)) (k : x_X l G f d mc ms Q (pc + 1) ls (.int x :: st) sh M J kc ks) : x_X l G f d mc ms Q pc ls st sh M J kc ks := by
  intro p e R s m args below meth c H locs WQ arr hC hr hR hS hkc hks hl
  exact lv_iload_n hC.1 hC.2.1 hd rfl (lv_at hl j (x_ls_at hj)) (k p e R s m args below meth c H locs WQ arr hC hr hR hS hkc hks hl)

theorem xr_iload {i : Nat} {x : Int32} (hd : decode f.2.1 pc = .ok (.iload i, 2)) (j : Nat) (hj : ls[j]? = some (i, .int x)) (k : x_X l G f d mc ms Q (pc + 2) ls (.int x :: st) sh M J kc ks) : x_X l G f d mc ms Q pc ls st sh M J kc ks := by
  intro p e R s m args below meth c H locs WQ arr hC hr hR hS hkc hks hl
  exact lv_iload hC.1 hC.2.1 hd (lv_at hl j (x_ls_at hj)) (k p e R s m args below meth c H locs WQ arr hC hr hR hS hkc hks hl)

theorem xr_istore_n {q : Fin 4} {x : Int32} {ls2 : List (Nat × Value)} (hd : decode f.2.1 pc = .ok (.istore_n q, 1)) (hn : (q : Nat) < f.2.2.1) (hls : x_st1 ls q (.int x) = ls2) (k : x_X l G f d mc ms Q (pc + 1) ls2 st sh M J kc ks) : x_X l G f d mc ms Q pc ls (.int x :: st) sh M J kc ks := by
  intro p e R s m args below meth c H locs WQ arr hC hr hR hS hkc hks hl
  exact lv_istore_n (lv' := (ls2).map (x_rl G)) hC.1 hC.2.1 hd rfl hl hn (by rw [← hls]; exact x_st1_rn G ls q (.int x)) (fun arr2 hl2 => k p e R s m args below meth c H locs WQ arr2 hC hr hR hS hkc hks (hl2))

theorem xr_istore {i : Nat} {x : Int32} {ls2 : List (Nat × Value)} (hd : decode f.2.1 pc = .ok (.istore i, 2)) (hn : i < f.2.2.1) (hls : x_st1 ls i (.int x) = ls2) (k : x_X l G f d mc ms Q (pc + 2) ls2 st sh M J kc ks) : x_X l G f d mc ms Q pc ls (.int x :: st) sh M J kc ks := by
  intro p e R s m args below meth c H locs WQ arr hC hr hR hS hkc hks hl
  exact lv_istore (lv' := (ls2).map (x_rl G)) hC.1 hC.2.1 hd hl hn (by rw [← hls]; exact x_st1_rn G ls i (.int x)) (fun arr2 hl2 => k p e R s m args below meth c H locs WQ arr2 hC hr hR hS hkc hks (hl2))

theorem xr_lload_n {q : Fin 4} {x : Int64} (hd : decode f.2.1 pc = .ok (.lload_n q, 1)) (j : Nat) (hj : ls[j]? = some ((q : Nat), .long x)) (k : x_X l G f d mc ms Q (pc + 1) ls (.long x :: st) sh M J kc ks) : x_X l G f d mc ms Q pc ls st sh M J kc ks := by
  intro p e R s m args below meth c H locs WQ arr hC hr hR hS hkc hks hl
  exact lv_lload_n hC.1 hC.2.1 hd rfl (lv_at hl j (x_ls_at hj)) (k p e R s m args below meth c H locs WQ arr hC hr hR hS hkc hks hl)

theorem xr_lload {i : Nat} {x : Int64} (hd : decode f.2.1 pc = .ok (.lload i, 2)) (j : Nat) (hj : ls[j]? = some (i, .long x)) (k : x_X l G f d mc ms Q (pc + 2) ls (.long x :: st) sh M J kc ks) : x_X l G f d mc ms Q pc ls st sh M J kc ks := by
  intro p e R s m args below meth c H locs WQ arr hC hr hR hS hkc hks hl
  exact lv_lload hC.1 hC.2.1 hd (lv_at hl j (x_ls_at hj)) (k p e R s m args below meth c H locs WQ arr hC hr hR hS hkc hks hl)

theorem xr_lstore {i : Nat} {x : Int64} {ls2 : List (Nat × Value)} (hd : decode f.2.1 pc = .ok (.lstore i, 2)) (hn : i + 1 < f.2.2.1) (hls : x_st2 ls i (.long x) = ls2) (k : x_X l G f d mc ms Q (pc + 2) ls2 st sh M J kc ks) : x_X l G f d mc ms Q pc ls (.long x :: st) sh M J kc ks := by
  intro p e R s m args below meth c H locs WQ arr hC hr hR hS hkc hks hl
  exact lv_lstore (lv' := (ls2).map (x_rl G)) hC.1 hC.2.1 hd hl hn (by rw [← hls]; exact x_st2_rn G ls i (.long x)) (fun arr2 hl2 => k p e R s m args below meth c H locs WQ arr2 hC hr hR hS hkc hks (hl2))

theorem xr_aload_n {q : Fin 4} {x : Nat} (hd : decode f.2.1 pc = .ok (.aload_n q, 1)) (j : Nat) (hj : ls[j]? = some ((q : Nat), .ref x)) (k : x_X l G f d mc ms Q (pc + 1) ls (.ref x :: st) sh M J kc ks) : x_X l G f d mc ms Q pc ls st sh M J kc ks := by
  intro p e R s m args below meth c H locs WQ arr hC hr hR hS hkc hks hl
  exact lv_aload_n hC.1 hC.2.1 hd rfl (lv_at hl j (x_ls_at hj)) (k p e R s m args below meth c H locs WQ arr hC hr hR hS hkc hks hl)

theorem xr_aload {i : Nat} {x : Nat} (hd : decode f.2.1 pc = .ok (.aload i, 2)) (j : Nat) (hj : ls[j]? = some (i, .ref x)) (k : x_X l G f d mc ms Q (pc + 2) ls (.ref x :: st) sh M J kc ks) : x_X l G f d mc ms Q pc ls st sh M J kc ks := by
  intro p e R s m args below meth c H locs WQ arr hC hr hR hS hkc hks hl
  exact lv_aload hC.1 hC.2.1 hd (lv_at hl j (x_ls_at hj)) (k p e R s m args below meth c H locs WQ arr hC hr hR hS hkc hks hl)

theorem xr_astore_n {q : Fin 4} {x : Nat} {ls2 : List (Nat × Value)} (hd : decode f.2.1 pc = .ok (.astore_n q, 1)) (hn : (q : Nat) < f.2.2.1) (hls : x_st1 ls q (.ref x) = ls2) (k : x_X l G f d mc ms Q (pc + 1) ls2 st sh M J kc ks) : x_X l G f d mc ms Q pc ls (.ref x :: st) sh M J kc ks := by
  intro p e R s m args below meth c H locs WQ arr hC hr hR hS hkc hks hl
  exact lv_astore_n (lv' := (ls2).map (x_rl G)) hC.1 hC.2.1 hd rfl hl hn (by rw [← hls]; exact x_st1_rn G ls q (.ref x)) (fun arr2 hl2 => k p e R s m args below meth c H locs WQ arr2 hC hr hR hS hkc hks (hl2))

theorem xr_astore {i : Nat} {x : Nat} {ls2 : List (Nat × Value)} (hd : decode f.2.1 pc = .ok (.astore i, 2)) (hn : i < f.2.2.1) (hls : x_st1 ls i (.ref x) = ls2) (k : x_X l G f d mc ms Q (pc + 2) ls2 st sh M J kc ks) : x_X l G f d mc ms Q pc ls (.ref x :: st) sh M J kc ks := by
  intro p e R s m args below meth c H locs WQ arr hC hr hR hS hkc hks hl
  exact lv_astore (lv' := (ls2).map (x_rl G)) hC.1 hC.2.1 hd hl hn (by rw [← hls]; exact x_st1_rn G ls i (.ref x)) (fun arr2 hl2 => k p e R s m args below meth c H locs WQ arr2 hC hr hR hS hkc hks (hl2))

theorem xr_iinc {i : Nat} {n : Int} {x v : Int32} {ls2 : List (Nat × Value)} (hd : decode f.2.1 pc = .ok (.iinc i n, 3)) (j : Nat) (hj : ls[j]? = some (i, .int x)) (hv : x + Int32.ofInt n = v) (hn : i < f.2.2.1) (hls : x_st1 ls i (.int v) = ls2) (k : x_X l G f d mc ms Q (pc + 3) ls2 st sh M J kc ks) : x_X l G f d mc ms Q pc ls st sh M J kc ks := by
  intro p e R s m args below meth c H locs WQ arr hC hr hR hS hkc hks hl
  exact lv_iinc (lv' := (ls2).map (x_rl G)) hC.1 hC.2.1 hd hl (k := j) (x_ls_at hj) hv hn (by rw [← hls]; exact x_st1_rn G ls i (.int v)) (fun arr2 hl2 => k p e R s m args below meth c H locs WQ arr2 hC hr hR hS hkc hks (hl2))

theorem xr_if_eq {x : Int32} {off : Int} {tgt : Nat} (hd : decode f.2.1 pc = .ok (.ifCond .eq off, 3)) (ht : (pc : Int) + off = (tgt : Int)) (kt : x = 0 → x_X l G f d mc ms Q tgt ls st sh M J kc ks) (kf : ¬ x = 0 → x_X l G f d mc ms Q (pc + 3) ls st sh M J kc ks) : x_X l G f d mc ms Q pc ls (.int x :: st) sh M J kc ks := by
  intro p e R s m args below meth c H locs WQ arr hC hr hR hS hkc hks hl
  exact lv_if_eq hC.1 hC.2.1 hd ht (fun h => kt h p e R s m args below meth c H locs WQ arr hC hr hR hS hkc hks hl) (fun h => kf h p e R s m args below meth c H locs WQ arr hC hr hR hS hkc hks hl)

theorem xr_icmp_eq {x y : Int32} {off : Int} {tgt : Nat} (hd : decode f.2.1 pc = .ok (.if_icmp .eq off, 3)) (ht : (pc : Int) + off = (tgt : Int)) (kt : x = y → x_X l G f d mc ms Q tgt ls st sh M J kc ks) (kf : ¬ x = y → x_X l G f d mc ms Q (pc + 3) ls st sh M J kc ks) : x_X l G f d mc ms Q pc ls (.int y :: .int x :: st) sh M J kc ks := by
  intro p e R s m args below meth c H locs WQ arr hC hr hR hS hkc hks hl
  exact lv_icmp_eq hC.1 hC.2.1 hd ht (fun h => kt h p e R s m args below meth c H locs WQ arr hC hr hR hS hkc hks hl) (fun h => kf h p e R s m args below meth c H locs WQ arr hC hr hR hS hkc hks hl)

theorem xr_if_ne {x : Int32} {off : Int} {tgt : Nat} (hd : decode f.2.1 pc = .ok (.ifCond .ne off, 3)) (ht : (pc : Int) + off = (tgt : Int)) (kt : ¬ x = 0 → x_X l G f d mc ms Q tgt ls st sh M J kc ks) (kf : x = 0 → x_X l G f d mc ms Q (pc + 3) ls st sh M J kc ks) : x_X l G f d mc ms Q pc ls (.int x :: st) sh M J kc ks := by
  intro p e R s m args below meth c H locs WQ arr hC hr hR hS hkc hks hl
  exact lv_if_ne hC.1 hC.2.1 hd ht (fun h => kt h p e R s m args below meth c H locs WQ arr hC hr hR hS hkc hks hl) (fun h => kf h p e R s m args below meth c H locs WQ arr hC hr hR hS hkc hks hl)

theorem xr_icmp_ne {x y : Int32} {off : Int} {tgt : Nat} (hd : decode f.2.1 pc = .ok (.if_icmp .ne off, 3)) (ht : (pc : Int) + off = (tgt : Int)) (kt : ¬ x = y → x_X l G f d mc ms Q tgt ls st sh M J kc ks) (kf : x = y → x_X l G f d mc ms Q (pc + 3) ls st sh M J kc ks) : x_X l G f d mc ms Q pc ls (.int y :: .int x :: st) sh M J kc ks := by
  intro p e R s m args below meth c H locs WQ arr hC hr hR hS hkc hks hl
  exact lv_icmp_ne hC.1 hC.2.1 hd ht (fun h => kt h p e R s m args below meth c H locs WQ arr hC hr hR hS hkc hks hl) (fun h => kf h p e R s m args below meth c H locs WQ arr hC hr hR hS hkc hks hl)

theorem xr_if_lt {x : Int32} {off : Int} {tgt : Nat} (hd : decode f.2.1 pc = .ok (.ifCond .lt off, 3)) (ht : (pc : Int) + off = (tgt : Int)) (kt : x < 0 → x_X l G f d mc ms Q tgt ls st sh M J kc ks) (kf : ¬ x < 0 → x_X l G f d mc ms Q (pc + 3) ls st sh M J kc ks) : x_X l G f d mc ms Q pc ls (.int x :: st) sh M J kc ks := by
  intro p e R s m args below meth c H locs WQ arr hC hr hR hS hkc hks hl
  exact lv_if_lt hC.1 hC.2.1 hd ht (fun h => kt h p e R s m args below meth c H locs WQ arr hC hr hR hS hkc hks hl) (fun h => kf h p e R s m args below meth c H locs WQ arr hC hr hR hS hkc hks hl)

theorem xr_icmp_lt {x y : Int32} {off : Int} {tgt : Nat} (hd : decode f.2.1 pc = .ok (.if_icmp .lt off, 3)) (ht : (pc : Int) + off = (tgt : Int)) (kt : x < y → x_X l G f d mc ms Q tgt ls st sh M J kc ks) (kf : ¬ x < y → x_X l G f d mc ms Q (pc + 3) ls st sh M J kc ks) : x_X l G f d mc ms Q pc ls (.int y :: .int x :: st) sh M J kc ks := by
  intro p e R s m args below meth c H locs WQ arr hC hr hR hS hkc hks hl
  exact lv_icmp_lt hC.1 hC.2.1 hd ht (fun h => kt h p e R s m args below meth c H locs WQ arr hC hr hR hS hkc hks hl) (fun h => kf h p e R s m args below meth c H locs WQ arr hC hr hR hS hkc hks hl)

theorem xr_if_ge {x : Int32} {off : Int} {tgt : Nat} (hd : decode f.2.1 pc = .ok (.ifCond .ge off, 3)) (ht : (pc : Int) + off = (tgt : Int)) (kt : 0 ≤ x → x_X l G f d mc ms Q tgt ls st sh M J kc ks) (kf : ¬ 0 ≤ x → x_X l G f d mc ms Q (pc + 3) ls st sh M J kc ks) : x_X l G f d mc ms Q pc ls (.int x :: st) sh M J kc ks := by
  intro p e R s m args below meth c H locs WQ arr hC hr hR hS hkc hks hl
  exact lv_if_ge hC.1 hC.2.1 hd ht (fun h => kt h p e R s m args below meth c H locs WQ arr hC hr hR hS hkc hks hl) (fun h => kf h p e R s m args below meth c H locs WQ arr hC hr hR hS hkc hks hl)

theorem xr_icmp_ge {x y : Int32} {off : Int} {tgt : Nat} (hd : decode f.2.1 pc = .ok (.if_icmp .ge off, 3)) (ht : (pc : Int) + off = (tgt : Int)) (kt : y ≤ x → x_X l G f d mc ms Q tgt ls st sh M J kc ks) (kf : ¬ y ≤ x → x_X l G f d mc ms Q (pc + 3) ls st sh M J kc ks) : x_X l G f d mc ms Q pc ls (.int y :: .int x :: st) sh M J kc ks := by
  intro p e R s m args below meth c H locs WQ arr hC hr hR hS hkc hks hl
  exact lv_icmp_ge hC.1 hC.2.1 hd ht (fun h => kt h p e R s m args below meth c H locs WQ arr hC hr hR hS hkc hks hl) (fun h => kf h p e R s m args below meth c H locs WQ arr hC hr hR hS hkc hks hl)

theorem xr_if_gt {x : Int32} {off : Int} {tgt : Nat} (hd : decode f.2.1 pc = .ok (.ifCond .gt off, 3)) (ht : (pc : Int) + off = (tgt : Int)) (kt : 0 < x → x_X l G f d mc ms Q tgt ls st sh M J kc ks) (kf : ¬ 0 < x → x_X l G f d mc ms Q (pc + 3) ls st sh M J kc ks) : x_X l G f d mc ms Q pc ls (.int x :: st) sh M J kc ks := by
  intro p e R s m args below meth c H locs WQ arr hC hr hR hS hkc hks hl
  exact lv_if_gt hC.1 hC.2.1 hd ht (fun h => kt h p e R s m args below meth c H locs WQ arr hC hr hR hS hkc hks hl) (fun h => kf h p e R s m args below meth c H locs WQ arr hC hr hR hS hkc hks hl)

theorem xr_icmp_gt {x y : Int32} {off : Int} {tgt : Nat} (hd : decode f.2.1 pc = .ok (.if_icmp .gt off, 3)) (ht : (pc : Int) + off = (tgt : Int)) (kt : y < x → x_X l G f d mc ms Q tgt ls st sh M J kc ks) (kf : ¬ y < x → x_X l G f d mc ms Q (pc + 3) ls st sh M J kc ks) : x_X l G f d mc ms Q pc ls (.int y :: .int x :: st) sh M J kc ks := by
  intro p e R s m args below meth c H locs WQ arr hC hr hR hS hkc hks hl
  exact lv_icmp_gt hC.1 hC.2.1 hd ht (fun h => kt h p e R s m args below meth c H locs WQ arr hC hr hR hS hkc hks hl) (fun h => kf h p e R s m args below meth c H locs WQ arr hC hr hR hS hkc hks hl)

theorem xr_if_le {x : Int32} {off : Int} {tgt : Nat} (hd : decode f.2.1 pc = .ok (.ifCond .le off, 3)) (ht : (pc : Int) + off = (tgt : Int)) (kt : x ≤ 0 → x_X l G f d mc ms Q tgt ls st sh M J kc ks) (kf : ¬ x ≤ 0 → x_X l G f d mc ms Q (pc + 3) ls st sh M J kc ks) : x_X l G f d mc ms Q pc ls (.int x :: st) sh M J kc ks := by
  intro p e R s m args below meth c H locs WQ arr hC hr hR hS hkc hks hl
  exact lv_if_le hC.1 hC.2.1 hd ht (fun h => kt h p e R s m args below meth c H locs WQ arr hC hr hR hS hkc hks hl) (fun h => kf h p e R s m args below meth c H locs WQ arr hC hr hR hS hkc hks hl)

theorem xr_icmp_le {x y : Int32} {off : Int} {tgt : Nat} (hd : decode f.2.1 pc = .ok (.if_icmp .le off, 3)) (ht : (pc : Int) + off = (tgt : Int)) (kt : x ≤ y → x_X l G f d mc ms Q tgt ls st sh M J kc ks) (kf : ¬ x ≤ y → x_X l G f d mc ms Q (pc + 3) ls st sh M J kc ks) : x_X l G f d mc ms Q pc ls (.int y :: .int x :: st) sh M J kc ks := by
  intro p e R s m args below meth c H locs WQ arr hC hr hR hS hkc hks hl
  exact lv_icmp_le hC.1 hC.2.1 hd ht (fun h => kt h p e R s m args below meth c H locs WQ arr hC hr hR hS hkc hks hl) (fun h => kf h p e R s m args below meth c H locs WQ arr hC hr hR hS hkc hks hl)

theorem xr_goto {off : Int} {tgt : Nat} (hd : decode f.2.1 pc = .ok (.goto off, 3)) (ht : (pc : Int) + off = (tgt : Int)) (k : x_X l G f d mc ms Q tgt ls st sh M J kc ks) : x_X l G f d mc ms Q pc ls st sh M J kc ks := by
  intro p e R s m args below meth c H locs WQ arr hC hr hR hS hkc hks hl
  exact lv_goto hC.1 hC.2.1 hd ht (k p e R s m args below meth c H locs WQ arr hC hr hR hS hkc hks hl)

theorem xr_tableOut {dflt lo hi : Int} {offs : Array Int} {len : Nat} {x : Int32} {tgt : Nat} (hd : decode f.2.1 pc = .ok (.tableswitch dflt lo hi offs, len)) (h : x.toInt < lo ∨ hi < x.toInt) (ht : (pc : Int) + dflt = (tgt : Int)) (k : x_X l G f d mc ms Q tgt ls st sh M J kc ks) : x_X l G f d mc ms Q pc ls (.int x :: st) sh M J kc ks := by
  intro p e R s m args below meth c H locs WQ arr hC hr hR hS hkc hks hl
  exact lv_tableOut hC.1 hC.2.1 hd h ht (k p e R s m args below meth c H locs WQ arr hC hr hR hS hkc hks hl)

theorem xr_tableIn {dflt lo hi : Int} {offs : Array Int} {len : Nat} {x : Int32} {off : Int} {tgt : Nat} (hd : decode f.2.1 pc = .ok (.tableswitch dflt lo hi offs, len)) (h1 : ¬ x.toInt < lo) (h2 : ¬ hi < x.toInt) (ho : offs[(x.toInt - lo).toNat]? = some off) (ht : (pc : Int) + off = (tgt : Int)) (k : x_X l G f d mc ms Q tgt ls st sh M J kc ks) : x_X l G f d mc ms Q pc ls (.int x :: st) sh M J kc ks := by
  intro p e R s m args below meth c H locs WQ arr hC hr hR hS hkc hks hl
  exact lv_tableIn hC.1 hC.2.1 hd h1 h2 ho ht (k p e R s m args below meth c H locs WQ arr hC hr hR hS hkc hks hl)

theorem xr_lookup {dflt : Int} {ps : Array (Int × Int)} {len : Nat} {x : Int32} {off : Int} {tgt : Nat} (hd : decode f.2.1 pc = .ok (.lookupswitch dflt ps, len)) (hp : (ps.toList.zip (ps.toList.drop 1)).all (fun (a, next) => a.1 < next.1) = true) (ho : Op.lookupswitch.offset ps.toList dflt x.toInt = off) (ht : (pc : Int) + off = (tgt : Int)) (k : x_X l G f d mc ms Q tgt ls st sh M J kc ks) : x_X l G f d mc ms Q pc ls (.int x :: st) sh M J kc ks := by
  intro p e R s m args below meth c H locs WQ arr hC hr hR hS hkc hks hl
  exact lv_lookup hC.1 hC.2.1 hd hp ho ht (k p e R s m args below meth c H locs WQ arr hC hr hR hS hkc hks hl)

theorem xr_ldc {i : Nat} {v : Int32} (hc : Cond.constant f.1.cls i v ∈ xU) (hd : decode f.2.1 pc = .ok (.ldc i, 2)) (k : x_X l G f d mc ms Q (pc + 2) ls (.int v :: st) sh M J kc ks) : x_X l G f d mc ms Q pc ls st sh M J kc ks := by
  intro p e R s m args below meth c H locs WQ arr hC hr hR hS hkc hks hl
  exact lv_ldc hC.1 hC.2.1 hC.2.2.2.2.1 (hC.2.2.2.2.2.1 _ hc) hd (k p e R s m args below meth c H locs WQ arr hC hr hR hS hkc hks hl)

theorem xr_ldcw {i : Nat} {v : Int32} (hc : Cond.constant f.1.cls i v ∈ xU) (hd : decode f.2.1 pc = .ok (.ldc_w i, 3)) (k : x_X l G f d mc ms Q (pc + 3) ls (.int v :: st) sh M J kc ks) : x_X l G f d mc ms Q pc ls st sh M J kc ks := by
  intro p e R s m args below meth c H locs WQ arr hC hr hR hS hkc hks hl
  exact lv_ldcw hC.1 hC.2.1 hC.2.2.2.2.1 (hC.2.2.2.2.2.1 _ hc) hd (k p e R s m args below meth c H locs WQ arr hC hr hR hS hkc hks hl)

theorem xr_ldc2 {i : Nat} {v : Int64} (hc : Cond.constantLong f.1.cls i v ∈ xU) (hd : decode f.2.1 pc = .ok (.ldc2_w i, 3)) (k : x_X l G f d mc ms Q (pc + 3) ls (.long v :: st) sh M J kc ks) : x_X l G f d mc ms Q pc ls st sh M J kc ks := by
  intro p e R s m args below meth c H locs WQ arr hC hr hR hS hkc hks hl
  exact lv_ldc2 hC.1 hC.2.1 hC.2.2.2.2.1 (hC.2.2.2.2.2.1 _ hc) hd (k p e R s m args below meth c H locs WQ arr hC hr hR hS hkc hks hl)

theorem xr_getR {idx ci kf a q : Nat} {fs : List (Option (Option Nat))} (fl : x_FL f.1.cls idx ci kf) (hd : decode f.2.1 pc = .ok (.getfield idx, 3)) (hs : sh[a]? = some (.inl (ci, fs))) (hk : fs[kf]? = some (some (some q))) (k : x_X l G f d mc ms Q (pc + 3) ls (.ref q :: st) sh M J kc ks) : x_X l G f d mc ms Q pc ls (.ref a :: st) sh M J kc ks := by
  intro p e R s m args below meth c H locs WQ arr hC hr hR hS hkc hks hl
  obtain ⟨C, T, N, h1, h2, h3, h4⟩ := fl
  exact va_get hC.1 hC.2.1 hC.2.2.2.2.2.1 h3 hC.2.2.2.2.1 hC.2.2.2.2.2.2.1 hR.1 a (x_w_get hs) h1 kf h2 (hC.2.2.2.2.2.1 _ h4) (fun _ h => h) (x_fs_getR hk) hd (k p e R s m args below meth c H locs WQ arr hC hr hR hS hkc hks hl)
theorem xr_getI {idx ci kf a : Nat} {fs : List (Option (Option Nat))} (fl : x_FL f.1.cls idx ci kf) (hd : decode f.2.1 pc = .ok (.getfield idx, 3)) (hs : sh[a]? = some (.inl (ci, fs))) (hk : fs[kf]? = some none) (k : x_X l G f d mc ms Q (pc + 3) ls (.int (M a kf) :: st) sh M J kc ks) : x_X l G f d mc ms Q pc ls (.ref a :: st) sh M J kc ks := by
  intro p e R s m args below meth c H locs WQ arr hC hr hR hS hkc hks hl
  obtain ⟨C, T, N, h1, h2, h3, h4⟩ := fl
  exact va_get hC.1 hC.2.1 hC.2.2.2.2.2.1 h3 hC.2.2.2.2.1 hC.2.2.2.2.2.2.1 hR.1 a (x_w_get hs) h1 kf h2 (hC.2.2.2.2.2.1 _ h4) (fun _ h => h) (x_fs_get hk) hd (k p e R s m args below meth c H locs WQ arr hC hr hR hS hkc hks hl)
theorem x_putW {fin : Bool} {idx ci kf a : Nat} {ty : FieldType} {v : Value} {fs : List (Option (Option Nat))} {p : Program} {e : Env} {R : Room} {s : State} {m : MethodId} {args : Array Value} {below : List Frame} {meth : Method} {c : Code} {H : Heap} {locs : List Loc} {WQ : State → Prop} {arr : Array Slot} {rest : List Value}
    (fl : x_FP f.1.cls idx ci kf fin ty) (hfi : fin = true → f.1.name = "<init>") (hd : decode f.2.1 pc = .ok (.putfield idx, 3)) (hs : sh[a]? = some (.inl (ci, fs))) (hk : kf < fs.length) (hn : narrow ty v = v) (hf : fits ty v = true) (hC : x_C G f d mc ms p R s m args meth c) (hR : x_R G sh M J H) (hS : va_S (x_A G) s.heap H locs)
    (k : ∀ (H1 : Heap) (locs1 : List Loc), va_P G.1 vwCl ((x_w G sh M J).set a (x_ad G a, .inr (ci, (x_fs G M a fs).set kf v))) H1 → H1.size = H.size → va_S (x_A G) s.heap H1 locs1 → W p l e R s m args below meth c H1 locs1 kc ks WQ (F0 m (pc + 3) arr rest)) : W p l e R s m args below meth c H locs kc ks WQ (F0 m pc arr (v :: .ref (x_ad G a) :: rest)) := by
  obtain ⟨C, T, N, ty0, h1, h2, h3, h4, h5, h6, h7, h8, h9⟩ := fl
  have hts := hC.2.2.2.2.2.1
  have hK : va_K G.1 vwCl (x_ty G) s := hC.2.2.2.2.2.2.1
  have hD : va_D (x_A G) (x_w G sh M J) := x_D hR.2.2
  have he : (x_w G sh M J)[a]? = some (x_ad G a, .inr (ci, x_fs G M a fs)) := x_w_get hs
  have hap := va_apart (own := C) hts h3 ty0 h5 h6 hK h1
  obtain ⟨r, g1, cell, q1, q2, q3, q4⟩ := hR.1 a _ he
  cases g1.symm.trans h1
  obtain ⟨hSl, hfc, kC, hkC, hkind⟩ := hK.1 ci _ h1
  obtain ⟨cf, kk2, fi, fd, hi, hsl⟩ := hSl kf h2
  have hlay := hts _ (h3 _ (u_in_lay h2))
  have hst := (u_facts hfc hkC (u_lays hts h3 h2) hi).1
  have hl : kf < (x_fs G M a fs).length := by rw [x_fs_len]; exact hk
  have done : ∀ (H' : Heap) (locs' : List Loc), H'[x_ad G a]? = some (cell.setSlot (G.1.2 ci kf) v) → H'.size = H.size → (∀ q, q ≠ x_ad G a → H'[q]? = H[q]?) → va_S (x_A G) s.heap H' locs' → W p l e R s m args below meth c H' locs' kc ks WQ (F0 m (pc + 3) arr rest) := fun H' locs' e1 e2 e3 hS1 =>
    k H' _ (hR.1.set hD he ⟨_, h1, t_OB.to (V := updV (vp_V (x_fs G M a fs)) kf v) ⟨_, e1, q2, q3, t_set q4 hap h2 v⟩ (fun j _ => vp_updV_set hl v j)⟩ e3) e2 hS1
  unfold u_lay at hlay
  cases fin with
  | false =>
    rw [if_neg (by rw [h7]; decide)] at hlay
    have h10 := u_store hfc hkC hkind hlay hi h8 hn hf
    refine W.putK hC.1 hC.2.1 (f := fd) ⟨hC.2.2.2.2.1, hts _ h4, ⟨_, _, _, hi⟩, hst⟩ (by rw [q2]; exact h10) q1 q3 (by rw [hsl]; exact k2_hasslot (q4 kf h2)) rfl rfl hd fun H' e1 e2 e3 => ?_
    rw [hsl] at e1 ⊢
    exact done H' _ e1 e2 e3 (hS.put e2 e3 (hD.2 a _ he))
  | true =>
    rw [if_pos h7] at hlay
    have hcf : m.cls = cf := by
      obtain ⟨_, _, c', _, _, _, -, -, hf', -, -, -, hown2, -⟩ := Cond.laysFinal_spec hlay
      have z := hi.symm.trans hf'
      simp at z
      rw [h9 rfl] at hown2
      rw [z.1]
      exact Option.some.inj (hC.2.2.2.2.1.symm.trans hown2)
    have h10 := u_fits hfc hkC hkind (Or.inr hlay) hi h8 hn hf
    refine W.putFinK hC.1 hC.2.1 hC.2.2.2.2.1 (hts _ h4) hi hst hcf (hC.2.2.2.2.2.2.2.2.2.2.1 (hfi rfl)) (by rw [q2]; exact h10) q1 q3 (by rw [hsl]; exact k2_hasslot (q4 kf h2)) rfl rfl hd fun H' e1 e2 e3 => ?_
    rw [hsl] at e1 ⊢
    exact done H' _ e1 e2 e3 (hS.put e2 e3 (hD.2 a _ he))
theorem xr_putI {idx ci kf a : Nat} {ty : FieldType} {v : Int32} {fs : List (Option (Option Nat))} (fl : x_FP f.1.cls idx ci kf false ty) (hd : decode f.2.1 pc = .ok (.putfield idx, 3)) (hs : sh[a]? = some (.inl (ci, fs))) (hk : fs[kf]? = some none) (hn : narrow ty (.int v) = .int v) (hf : fits ty (.int v) = true) (k : x_X l G f d mc ms Q (pc + 3) ls st sh (x_up M a kf v) J kc ks) : x_X l G f d mc ms Q pc ls (.int v :: .ref a :: st) sh M J kc ks := by
  intro p e R s m args below meth c H locs WQ arr hC hr hR hS hkc hks hl
  refine x_putW (v := .int v) fl (fun h => by cases h) hd hs (List.getElem?_eq_some_iff.mp hk).1 hn hf hC hR hS (fun H1 locs1 hP hz hS1 => ?_)
  rw [x_fs_set hk] at hP
  have hP2 := hP
  rw [show (x_w G sh M J).set a (x_ad G a, .inr (ci, x_fs G (x_up M a kf v) a fs)) = x_w G sh (x_up M a kf v) J from (x_w_set (M' := x_up M a kf v) (J' := J) (.inl (ci, fs)) hs (fun i hi => x_up_n M kf v hi) (fun _ _ => rfl)).trans (by rw [x_sh_set hs])] at hP2
  exact k p e R s m args below meth c H1 locs1 WQ arr hC hr ⟨hP2, fun h => by rw [hz]; exact hR.2.1 h, hR.2.2⟩ hS1 hkc hks hl
theorem xr_putR {idx ci kf a q : Nat} {ty : FieldType} {o : Option (Option Nat)} {fs : List (Option (Option Nat))} (fl : x_FP f.1.cls idx ci kf true ty) (hfi : f.1.name = "<init>") (hd : decode f.2.1 pc = .ok (.putfield idx, 3)) (hs : sh[a]? = some (.inl (ci, fs))) (hk : fs[kf]? = some o) (hn : ∀ q, narrow ty (.ref q) = .ref q) (hf : ∀ q, fits ty (.ref q) = true) (k : x_X l G f d mc ms Q (pc + 3) ls st (sh.set a (.inl (ci, fs.set kf (some (some q))))) M J kc ks) : x_X l G f d mc ms Q pc ls (.ref q :: .ref a :: st) sh M J kc ks := by
  intro p e R s m args below meth c H locs WQ arr hC hr hR hS hkc hks hl
  refine x_putW (v := .ref (x_ad G q)) fl (fun _ => hfi) hd hs (List.getElem?_eq_some_iff.mp hk).1 (hn _) (hf _) hC hR hS (fun H1 locs1 hP hz hS1 => ?_)
  rw [x_fs_setR hk] at hP
  have hP2 := hP
  rw [show (x_w G sh M J).set a (x_ad G a, .inr (ci, x_fs G M a (fs.set kf (some (some q))))) = x_w G (sh.set a (.inl (ci, fs.set kf (some (some q))))) M J from x_w_set (M' := M) (J' := J) (.inl (ci, fs.set kf (some (some q)))) hs (fun _ _ => rfl) (fun _ _ => rfl)] at hP2
  exact k p e R s m args below meth c H1 locs1 WQ arr hC hr ⟨hP2, fun h => by rw [hz, List.length_set]; exact hR.2.1 (by rw [List.length_set] at h; exact h), by rw [List.length_set]; exact hR.2.2⟩ hS1 hkc hks hl
/-! arrays -/
theorem xr_iald {a n : Nat} {g : Nat → Option Nat} {i : Int32} (hd : decode f.2.1 pc = .ok (.iaload, 1)) (hs : sh[a]? = some (.inr (0, n, g))) (hin : vp_in i n) (k : x_X l G f d mc ms Q (pc + 1) ls (.int (M a i.toNatClampNeg) :: st) sh M J kc ks) : x_X l G f d mc ms Q pc ls (.int i :: .ref a :: st) sh M J kc ks := by
  intro p e R s m args below meth c H locs WQ arr hC hr hR hS hkc hks hl
  exact va_iald hC.1 hC.2.1 hC.2.2.2.2.2.2.1 hR.1 a 0 (x_w_get hs) rfl hin hd (k p e R s m args below meth c H locs WQ arr hC hr hR hS hkc hks hl)
theorem xr_zald {a n : Nat} {g : Nat → Option Nat} {i : Int32} (hd : decode f.2.1 pc = .ok (.baload, 1)) (hs : sh[a]? = some (.inr (1, n, g))) (hin : vp_in i n) (k : x_X l G f d mc ms Q (pc + 1) ls (.int (M a i.toNatClampNeg) :: st) sh M J kc ks) : x_X l G f d mc ms Q pc ls (.int i :: .ref a :: st) sh M J kc ks := by
  intro p e R s m args below meth c H locs WQ arr hC hr hR hS hkc hks hl
  exact va_zald hC.1 hC.2.1 hC.2.2.2.2.2.2.1 hR.1 a 1 (x_w_get hs) rfl hin hd (k p e R s m args below meth c H locs WQ arr hC hr hR hS hkc hks hl)
theorem xr_lald {a n : Nat} {g : Nat → Option Nat} {i : Int32} (hd : decode f.2.1 pc = .ok (.laload, 1)) (hs : sh[a]? = some (.inr (2, n, g))) (hin : vp_in i n) (k : x_X l G f d mc ms Q (pc + 1) ls (.long (J a i.toNatClampNeg) :: st) sh M J kc ks) : x_X l G f d mc ms Q pc ls (.int i :: .ref a :: st) sh M J kc ks := by
  intro p e R s m args below meth c H locs WQ arr hC hr hR hS hkc hks hl
  exact va_lald hC.1 hC.2.1 hC.2.2.2.2.2.2.1 hR.1 a 2 (x_w_get hs) rfl hin hd (k p e R s m args below meth c H locs WQ arr hC hr hR hS hkc hks hl)
theorem xr_aald {a n t q : Nat} {g : Nat → Option Nat} {i : Int32} (ht : t = 3 ∨ t = 4) (hd : decode f.2.1 pc = .ok (.aaload, 1)) (hs : sh[a]? = some (.inr (t, n, g))) (hin : vp_in i n) (hg : g i.toNatClampNeg = some q) (k : x_X l G f d mc ms Q (pc + 1) ls (.ref q :: st) sh M J kc ks) : x_X l G f d mc ms Q pc ls (.int i :: .ref a :: st) sh M J kc ks := by
  intro p e R s m args below meth c H locs WQ arr hC hr hR hS hkc hks hl
  have hk := k p e R s m args below meth c H locs WQ arr hC hr hR hS hkc hks hl
  have key : va_rf ((fun i => (g i).map (x_ad G)) i.toNatClampNeg) = .ref (x_ad G q) := by show va_rf ((g i.toNatClampNeg).map (x_ad G)) = _; rw [hg]; rfl
  rcases ht with rfl | rfl
  · exact va_aldq hC.1 hC.2.1 hC.2.2.2.2.2.2.1 hR.1 a 3 (C := RX2) (x_w_get hs) rfl hin hd (by rw [key]; exact hk)
  · exact va_aldq hC.1 hC.2.1 hC.2.2.2.2.2.2.1 hR.1 a 4 (C := RX6) (x_w_get hs) rfl hin hd (by rw [key]; exact hk)
theorem x_stored {a : Nat} {e2 : xS} {M2 : xM} {J2 : xJ} {H H1 : Heap} (hR : x_R G sh M J H) (hs : sh[a]? = some e2) (hM : ∀ i, i ≠ a → M2 i = M i) (hJ : ∀ i, i ≠ a → J2 i = J i) (e' : xS) (hc : va_at G.1 vwCl (x_ad G a, x_e G M2 J2 a e') H1) (z : H1.size = H.size) (oq : ∀ q, q ≠ x_ad G a → H1[q]? = H[q]?) : x_R G (sh.set a e') M2 J2 H1 := by
  refine ⟨?_, fun h => by rw [z, List.length_set]; exact hR.2.1 (by rw [List.length_set] at h; exact h), by rw [List.length_set]; exact hR.2.2⟩
  rw [← x_w_set (M := M) (J := J) e' hs hM hJ]
  exact hR.1.set (x_D hR.2.2) (x_w_get hs) hc oq
theorem xr_iast {a n : Nat} {g : Nat → Option Nat} {i v : Int32} (hd : decode f.2.1 pc = .ok (.iastore, 1)) (hs : sh[a]? = some (.inr (0, n, g))) (hin : vp_in i n) (k : x_X l G f d mc ms Q (pc + 1) ls st sh (x_up M a i.toNatClampNeg v) J kc ks) : x_X l G f d mc ms Q pc ls (.int v :: .int i :: .ref a :: st) sh M J kc ks := by
  intro p e R s m args below meth c H locs WQ arr hC hr hR hS hkc hks hl
  have hD := x_D (G := G) (M := M) (J := J) hR.2.2
  have hK : va_K G.1 vwCl (x_ty G) s := hC.2.2.2.2.2.2.1
  have ha : (x_w G sh M J)[a]? = some (x_ad G a, .inl (G.2.1 0, n, .inl (M a))) := x_w_get hs
  refine W.iast hC.1 hC.2.1 (hR.1 a _ ha) ((hK.2 0 _ rfl).1 n (fun j => .int (M a j))) (fun q => by cases q) (by show ¬ (i < 0 ∨ (arrV _ _ _).slots.size ≤ _); rw [arrV_size]; exact hin) rfl rfl hd fun H1 e z oq => ?_
  have hR2 := x_stored (J2 := J) hR hs (fun j hj => x_up_n M i.toNatClampNeg v hj) (fun _ _ => rfl) (.inr (0, n, g)) (H1 := H1) (by
    show H1[x_ad G a]? = some (vp_cell (G.2.1 0) (n, .inl (x_up M a i.toNatClampNeg v a)))
    rw [e, vp_cell_i, vp_cell_i, arrV_store, x_up_r]
    congr 2
    funext q
    by_cases hq : q = i.toNatClampNeg
    · subst hq; simp [updV, upd]
    · simp [updV, upd, hq]) z oq
  rw [x_sh_set hs] at hR2
  exact k p _ R s m args below meth c H1 _ WQ arr hC hr hR2 (hS.put z oq (hD.2 a _ ha)) hkc hks hl
theorem xr_zast {a n : Nat} {g : Nat → Option Nat} {i v w : Int32} (hd : decode f.2.1 pc = .ok (.bastore, 1)) (hs : sh[a]? = some (.inr (1, n, g))) (hin : vp_in i n) (hw : vp_nar .boolean v = w) (k : x_X l G f d mc ms Q (pc + 1) ls st sh (x_up M a i.toNatClampNeg w) J kc ks) : x_X l G f d mc ms Q pc ls (.int v :: .int i :: .ref a :: st) sh M J kc ks := by
  intro p e R s m args below meth c H locs WQ arr hC hr hR hS hkc hks hl
  subst hw
  have hD := x_D (G := G) (M := M) (J := J) hR.2.2
  have hK : va_K G.1 vwCl (x_ty G) s := hC.2.2.2.2.2.2.1
  have ha : (x_w G sh M J)[a]? = some (x_ad G a, .inl (G.2.1 1, n, .inl (M a))) := x_w_get hs
  refine W.zast hC.1 hC.2.1 (hR.1 a _ ha) ((hK.2 1 _ rfl).1 n (fun j => .int (M a j))) (fun q => by cases q) (by show ¬ (i < 0 ∨ (arrV _ _ _).slots.size ≤ _); rw [arrV_size]; exact hin) rfl rfl hd fun H1 e z oq => ?_
  have hR2 := x_stored (J2 := J) hR hs (fun j hj => x_up_n M i.toNatClampNeg (vp_nar .boolean v) hj) (fun _ _ => rfl) (.inr (1, n, g)) (H1 := H1) (by
    show H1[x_ad G a]? = some (vp_cell (G.2.1 1) (n, .inl (x_up M a i.toNatClampNeg (vp_nar .boolean v) a)))
    rw [e, vp_cell_i, vp_cell_i, arrV_store, x_up_r]
    congr 2
    funext q
    by_cases hq : q = i.toNatClampNeg
    · subst hq
      simp [updV, upd, vp_nar]
      try rfl
    · simp [updV, upd, hq]) z oq
  rw [x_sh_set hs] at hR2
  exact k p _ R s m args below meth c H1 _ WQ arr hC hr hR2 (hS.put z oq (hD.2 a _ ha)) hkc hks hl
theorem xr_last {a n : Nat} {g : Nat → Option Nat} {i : Int32} {v : Int64} (hd : decode f.2.1 pc = .ok (.lastore, 1)) (hs : sh[a]? = some (.inr (2, n, g))) (hin : vp_in i n) (k : x_X l G f d mc ms Q (pc + 1) ls st sh M (x_upJ J a i.toNatClampNeg v) kc ks) : x_X l G f d mc ms Q pc ls (.long v :: .int i :: .ref a :: st) sh M J kc ks := by
  intro p e R s m args below meth c H locs WQ arr hC hr hR hS hkc hks hl
  have hD := x_D (G := G) (M := M) (J := J) hR.2.2
  have hK : va_K G.1 vwCl (x_ty G) s := hC.2.2.2.2.2.2.1
  have ha : (x_w G sh M J)[a]? = some (x_ad G a, .inl (G.2.1 2, n, .inr (.inl (J a)))) := x_w_get hs
  refine W.last hC.1 hC.2.1 (hR.1 a _ ha) ((hK.2 2 _ rfl).1 n (fun j => .long (J a j))) (fun q => by cases q) (by show ¬ (i < 0 ∨ (arrV _ _ _).slots.size ≤ _); rw [arrV_size]; exact hin) rfl rfl hd fun H1 e z oq => ?_
  have hR2 := x_stored (M2 := M) hR hs (fun _ _ => rfl) (fun j hj => x_upJ_n J i.toNatClampNeg v hj) (.inr (2, n, g)) (H1 := H1) (by
    show H1[x_ad G a]? = some (vp_cell (G.2.1 2) (n, .inr (.inl (x_upJ J a i.toNatClampNeg v a))))
    rw [e, vp_cell_l, vp_cell_l, arrV_store, x_upJ_r]
    congr 2
    funext q
    by_cases hq : q = i.toNatClampNeg
    · subst hq; simp [updV, vp_updL]
    · simp [updV, vp_updL, hq]) z oq
  rw [x_sh_set hs] at hR2
  exact k p _ R s m args below meth c H1 _ WQ arr hC hr hR2 (hS.put z oq (hD.2 a _ ha)) hkc hks hl
theorem xr_aast {a n t q ci : Nat} {fs : List (Option (Option Nat))} {g : Nat → Option Nat} {i : Int32} (ht : (t = 3 ∧ ci = 2) ∨ (t = 4 ∧ ci = 6)) (hd : decode f.2.1 pc = .ok (.aastore, 1)) (hs : sh[a]? = some (.inr (t, n, g))) (hq : sh[q]? = some (.inl (ci, fs))) (hin : vp_in i n) (k : x_X l G f d mc ms Q (pc + 1) ls st (sh.set a (.inr (t, n, va_up g i.toNatClampNeg (some q)))) M J kc ks) : x_X l G f d mc ms Q pc ls (.ref q :: .int i :: .ref a :: st) sh M J kc ks := by
  intro p e R s m args below meth c H locs WQ arr hC hr hR hS hkc hks hl
  have hD := x_D (G := G) (M := M) (J := J) hR.2.2
  have hK : va_K G.1 vwCl (x_ty G) s := hC.2.2.2.2.2.2.1
  have ht2 : ¬ t < 2 ∧ ¬ t = 2 := by omega
  have ha : (x_w G sh M J)[a]? = some (x_ad G a, .inl (G.2.1 t, n, .inr (.inr (.inr (.inr (fun i => (g i).map (x_ad G))))))) := by rw [x_w_get hs]; simp only [x_e, if_neg ht2.1, if_neg ht2.2]
  obtain ⟨r, hr1, cellV, g1, g2, g3, -⟩ := hR.1 q _ (x_w_get hq)
  have hty : (x_ty G)[t]? = some (G.2.1 t, .object r.1) := by
    rcases ht with ⟨rfl, rfl⟩ | ⟨rfl, rfl⟩ <;> (cases hr1; rfl)
  have hcls := (hK.1 ci r hr1).2
  obtain ⟨kA, comp, k1, k2, k3, -⟩ := (hK.2 t _ hty).2
  have hcomp : comp = G.1.1 ci := Option.some.inj (k3.symm.trans hcls.1)
  subst hcomp
  obtain ⟨kC, hkC, -⟩ := hcls.2
  refine W.aast hC.1 hC.2.1 (hR.1 a _ ha) (fun q h => by cases h) (fun h => by cases h) k1 k2 rfl hkC ⟨fun z => hin (Or.inl z), by show _ < (arrV _ _ _).slots.size; rw [arrV_size]; exact Nat.not_le.mp fun z => hin (Or.inr z)⟩ g1 (fun q h => by rw [g3] at h; cases h) (by rw [g2]; exact hkC) (by rw [g2]; exact va_assign hcls) rfl rfl hd fun H1 e z oq => ?_
  have hR2 := x_stored (M2 := M) (J2 := J) hR hs (fun _ _ => rfl) (fun _ _ => rfl) (.inr (t, n, va_up g i.toNatClampNeg (some q))) (H1 := H1) (by
    have e3 : x_e G M J a (.inr (t, n, va_up g i.toNatClampNeg (some q))) = .inl (G.2.1 t, n, .inr (.inr (.inr (.inr (fun j => ((va_up g i.toNatClampNeg (some q)) j).map (x_ad G)))))) := by simp only [x_e, if_neg ht2.1, if_neg ht2.2]
    rw [e3]
    show H1[x_ad G a]? = some (vp_cell _ _)
    rw [e, vp_cell_q, vp_cell_q, arrV_store]
    congr 2
    funext j
    by_cases hj : j = i.toNatClampNeg
    · subst hj; simp [updV, va_up, va_rf]
    · simp [updV, va_up, hj]) z oq
  exact k p _ R s m args below meth c H1 _ WQ arr hC hr hR2 (hS.put z oq (hD.2 a _ ha)) hkc hks hl
/-! what is made -/
def x_NW (own : String) (idx ci N : Nat) (fs : List (Option (Option Nat))) : Prop := ∃ (C : String) (T : u_T) (ty0 : Nat → FieldType), vwCl[ci]? = some (C, T, N) ∧ (∀ w ∈ u_ws C T N, w ∈ xU) ∧ (∀ k, k < N → parseFieldDescriptor (T k).2.2.1 = some (ty0 k)) ∧
  Cond.classLink own idx C ∈ xU ∧ Cond.instantiable C N ∈ xU ∧ Cond.initialized C ∈ xU ∧ ∀ j, j < N → (fs[j]? = some none ∧ defaultValue (ty0 j) = .int 0) ∨ (fs[j]? = some (some none) ∧ defaultValue (ty0 j) = .null)
theorem x_pushed {e : xS} {H H1 : Heap} (hR : x_R G sh M J H) (hn : sh.length < x_N) (hc : va_at G.1 vwCl (x_ad G sh.length, x_e G M J sh.length e) H1) (z : H1.size = H.size + 1) (oq : ∀ q, q < H.size → H1[q]? = H[q]?) : x_R G (sh ++ [e]) M J H1 := by
  refine ⟨?_, fun _ => by rw [z, hR.2.1 hn, List.length_append]; rfl, by rw [List.length_append]; have : sh.length < 87 := hn; show sh.length + 1 ≤ 900; omega⟩
  rw [← x_w_push]
  refine va_P.app (hR.1.kept (fun k q hk => oq q.1 ((hR.1 k q hk).lt))) (fun k q hk => ?_)
  have hz : k < 1 := (List.getElem?_eq_some_iff.mp hk).1
  rw [show k = 0 by omega] at hk
  cases hk
  exact hc
theorem x_S_push {s : State} {H H1 : Heap} {locs : List Loc} (hS : va_S (x_A G) s.heap H locs) (z : H1.size = H.size + 1) (oq : ∀ q, q < H.size → H1[q]? = H[q]?) : va_S (x_A G) s.heap H1 locs :=
  ⟨Nat.le_trans hS.1 (by omega), fun q h1 h2 => (oq q (Nat.lt_of_lt_of_le h1 hS.1)).trans (hS.2.1 q h1 h2), hS.2.2⟩
theorem x_new_ad {H : Heap} (hR : x_R G sh M J H) (hn : sh.length < x_N) : H.size = x_ad G sh.length := by
  rw [hR.2.1 hn, x_ad_lo (by have : sh.length < 87 := hn; omega)]
theorem xr_new {idx ci N : Nat} {fs : List (Option (Option Nat))} (nw : x_NW f.1.cls idx ci N fs) (hd : decode f.2.1 pc = .ok (.new idx, 3)) (hn : sh.length < x_N) (h0 : ∀ j, M sh.length j = 0) (h1 : kc + 1 ≤ mc) (h2 : ks + N ≤ ms) (k : x_X l G f d mc ms Q (pc + 3) ls (.ref sh.length :: st) (sh ++ [.inl (ci, fs)]) M J (kc + 1) (ks + N)) : x_X l G f d mc ms Q pc ls st sh M J kc ks := by
  intro p e R s m args below meth c H locs WQ arr hC hr hR hS hkc hks hl
  obtain ⟨C, T, ty0, g1, g2, g3, g4, g5, g6, g7⟩ := nw
  have hts := hC.2.2.2.2.2.1
  have hK : va_K G.1 vwCl (x_ty G) s := hC.2.2.2.2.2.2.1
  have hKn := hK.1 ci _ g1
  have had := x_new_ad hR hn
  have hk := k p e R s m args below meth c
  refine W.newcK hC.1 hC.2.1 hC.2.2.2.2.1 (hts _ g4) (hts _ g5) (hts _ g6) rfl hd (by rw [← hC.2.2.2.2.2.2.2.2.1.2.2.1]; exact h1) (by rw [← hC.2.2.2.2.2.2.2.2.1.2.2.2]; exact h2) hKn.2.1 had fun H1 kC hkC e1 z1 o1 => ?_
  rw [← had] at z1 o1
  have hR2 := x_pushed (e := .inl (ci, fs)) hR hn (H1 := H1) ⟨_, g1, (u_born ty0 hts g2 hKn hkC e1 g3).to (fun j hj => by
    rcases g7 j hj with ⟨q1, q2⟩ | ⟨q1, q2⟩
    · show defaultValue (ty0 j) = (x_fs G M sh.length fs).getD j .null
      rw [List.getD_eq_getElem?_getD, x_fs_get q1, q2, h0]
      rfl
    · show defaultValue (ty0 j) = (x_fs G M sh.length fs).getD j .null
      rw [List.getD_eq_getElem?_getD, x_fs_getR q1, q2]
      rfl)⟩ z1 o1
  exact hk H1 locs WQ arr hC hr hR2 (x_S_push hS z1 o1) h1 h2 hl
theorem x_cA {s : State} {t : Nat} {cA : ClassId} (hK : x_K G s) (ht : t < 3) (h : s.vm.findClass ("[" ++ (x_tyOf t).toString) = some cA) : cA = G.2.1 t := by
  have h3 : va_RA s (G.2.1 t) (x_tyOf t) := by
    match t, ht with
    | 0, _ => exact (hK.2 0 _ rfl).2
    | 1, _ => exact (hK.2 1 _ rfl).2
    | 2, _ => exact (hK.2 2 _ rfl).2
  have h4 : s.vm.findClass ("[" ++ (x_tyOf t).toString) = some (G.2.1 t) := by
    match t, ht with
    | 0, _ => exact h3
    | 1, _ => exact h3
    | 2, _ => exact h3
  exact Option.some.inj (h.symm.trans h4)
theorem xr_newI {t N : Nat} {n : Int32} {atype : ArrayType} (ht : t < 2) (hty : newarray.typeOf atype = x_tyOf t) (hw : Cond.arrayClass (x_tyOf t) ∈ xU) (hd : decode f.2.1 pc = .ok (.newarray atype, 2)) (hn0 : ¬ n < 0) (hnN : n.toNatClampNeg = N) (hN : N ≤ 1000) (hn : sh.length < x_N) (h0 : ∀ j, M sh.length j = 0) (h1 : kc + 1 ≤ mc) (h2 : ks + N ≤ ms) (k : x_X l G f d mc ms Q (pc + 2) ls (.ref sh.length :: st) (sh ++ [.inr (t, N, fun _ => none)]) M J (kc + 1) (ks + N)) : x_X l G f d mc ms Q pc ls (.int n :: st) sh M J kc ks := by
  intro p e R s m args below meth c H locs WQ arr hC hr hR hS hkc hks hl
  have had := x_new_ad hR hn
  have hk := k p e R s m args below meth c
  have hcb : componentBytes (x_tyOf t) ≤ 8 := by
    match t, ht with
    | 0, _ => decide
    | 1, _ => decide
  refine va_newaK hC.1 hC.2.1 (atype := atype) (by rw [hty]; exact hC.2.2.2.2.2.1 _ hw) rfl hd rfl hn0 hnN (by rw [hty]; exact Nat.le_trans (Nat.mul_le_mul hN hcb) (by decide)) (by rw [← hC.2.2.2.2.2.2.2.2.1.2.2.1]; exact h1) (by rw [← hC.2.2.2.2.2.2.2.2.1.2.2.2]; exact h2) had fun H1 cA e1 z1 o1 hAr hNm => ?_
  rw [← had] at z1 o1
  rw [hty] at e1 hNm
  have hcA := x_cA hC.2.2.2.2.2.2.1 (Nat.lt_of_lt_of_le ht (by decide)) hNm
  subst hcA
  have hR2 := x_pushed (e := .inr (t, N, fun _ => none)) hR hn (H1 := H1) (by
    have e3 : x_e G M J sh.length (.inr (t, N, fun _ => none)) = .inl (G.2.1 t, N, .inl (M sh.length)) := by simp only [x_e, if_pos ht]
    rw [e3]
    show H1[x_ad G sh.length]? = some (vp_cell _ _)
    rw [e1, vp_cell_i]
    congr 2
    funext j
    rw [h0]
    match t, ht with
    | 0, _ => rfl
    | 1, _ => rfl) z1 o1
  exact hk H1 locs WQ arr hC hr hR2 (x_S_push hS z1 o1) h1 h2 hl
theorem xr_newJ {N : Nat} {n : Int32} (hw : Cond.arrayClass .long ∈ xU) (hd : decode f.2.1 pc = .ok (.newarray .long, 2)) (hn0 : ¬ n < 0) (hnN : n.toNatClampNeg = N) (hN : N ≤ 1000) (hn : sh.length < x_N) (h0 : ∀ j, J sh.length j = 0) (h1 : kc + 1 ≤ mc) (h2 : ks + N ≤ ms) (k : x_X l G f d mc ms Q (pc + 2) ls (.ref sh.length :: st) (sh ++ [.inr (2, N, fun _ => none)]) M J (kc + 1) (ks + N)) : x_X l G f d mc ms Q pc ls (.int n :: st) sh M J kc ks := by
  intro p e R s m args below meth c H locs WQ arr hC hr hR hS hkc hks hl
  have had := x_new_ad hR hn
  have hk := k p e R s m args below meth c
  refine va_newaK hC.1 hC.2.1 (atype := .long) (hC.2.2.2.2.2.1 _ hw) rfl hd rfl hn0 hnN (Nat.le_trans (Nat.mul_le_mul hN (show componentBytes (newarray.typeOf .long) ≤ 8 by decide)) (by decide)) (by rw [← hC.2.2.2.2.2.2.2.2.1.2.2.1]; exact h1) (by rw [← hC.2.2.2.2.2.2.2.2.1.2.2.2]; exact h2) had fun H1 cA e1 z1 o1 hAr hNm => ?_
  rw [← had] at z1 o1
  have hcA := x_cA (t := 2) hC.2.2.2.2.2.2.1 (by decide) hNm
  subst hcA
  have hR2 := x_pushed (e := .inr (2, N, fun _ => none)) hR hn (H1 := H1) (by
    show H1[x_ad G sh.length]? = some (vp_cell (G.2.1 2) (N, .inr (.inl (J sh.length))))
    rw [e1, vp_cell_l]
    congr 2
    funext j
    rw [h0]
    rfl) z1 o1
  exact hk H1 locs WQ arr hC hr hR2 (x_S_push hS z1 o1) h1 h2 hl
theorem xr_newq {t N idx : Nat} {n : Int32} {C : String} (ht : (t = 3 ∧ C = RX2) ∨ (t = 4 ∧ C = RX6)) (hw : Cond.classLink f.1.cls idx C ∈ xU) (hd : decode f.2.1 pc = .ok (.anewarray idx, 3)) (hn0 : ¬ n < 0) (hnN : n.toNatClampNeg = N) (hN : N ≤ 1000) (hn : sh.length < x_N) (h1 : kc + 1 ≤ mc) (h2 : ks + N ≤ ms) (k : x_X l G f d mc ms Q (pc + 3) ls (.ref sh.length :: st) (sh ++ [.inr (t, N, fun _ => none)]) M J (kc + 1) (ks + N)) : x_X l G f d mc ms Q pc ls (.int n :: st) sh M J kc ks := by
  intro p e R s m args below meth c H locs WQ arr hC hr hR hS hkc hks hl
  have had := x_new_ad hR hn
  have hk := k p e R s m args below meth c
  subst hnN
  have hts := hC.2.2.2.2.2.1
  have hao : va_AO C s := by
    rcases ht with ⟨-, rfl⟩ | ⟨-, rfl⟩
    · exact hC.2.2.2.2.2.2.2.1.2.1
    · exact hC.2.2.2.2.2.2.2.1.2.2.1
  refine W.anew hC.1 hC.2.1 hC.2.2.2.2.1 (hts _ hw) (va_AO.use hao) rfl hd rfl hn0 (by omega) (by rw [← hC.2.2.2.2.2.2.2.2.1.2.2.1]; exact h1) (by rw [← hC.2.2.2.2.2.2.2.2.1.2.2.2]; exact h2) fun cA kA comp f1 f2 f3 f4 => ?_
  generalize hH1 : H.push ({ cls := cA, slots := Array.replicate n.toNatClampNeg .null, vm := .none } : Cell) = H1
  have z1 : H1.size = H.size + 1 := by rw [← hH1, Array.size_push]
  have e1 : H1[H.size]? = some (arrV cA n.toNatClampNeg (fun _ => .null)) := by rw [← hH1, Array.getElem?_push_size, ← arrV_new]
  have o1 : ∀ q : Nat, q < H.size → H1[q]? = H[q]? := fun q hq => by rw [← hH1, Array.getElem?_push, if_neg (Nat.ne_of_lt hq)]
  have ht2 : ¬ t < 2 ∧ ¬ t = 2 := by omega
  have hcA : cA = G.2.1 t := by
    rcases ht with ⟨rfl, rfl⟩ | ⟨rfl, rfl⟩
    · obtain ⟨_, _, -, -, -, q4⟩ := (hC.2.2.2.2.2.2.1.2 3 _ rfl).2
      exact Option.some.inj (f1.symm.trans q4)
    · obtain ⟨_, _, -, -, -, q4⟩ := (hC.2.2.2.2.2.2.1.2 4 _ rfl).2
      exact Option.some.inj (f1.symm.trans q4)
  subst hcA
  have hR2 := x_pushed (e := .inr (t, n.toNatClampNeg, fun _ => none)) hR hn (H1 := H1) (by
    have e3 : x_e G M J sh.length (.inr (t, n.toNatClampNeg, fun _ => none)) = .inl (G.2.1 t, n.toNatClampNeg, .inr (.inr (.inr (.inr (fun _ => none))))) := by simp only [x_e, if_neg ht2.1, if_neg ht2.2]; rfl
    rw [e3, ← had]
    show H1[H.size]? = some (vp_cell _ _)
    rw [e1, vp_cell_q]
    rfl) z1 o1
  rw [had]
  exact hk H1 locs WQ arr hC hr hR2 (x_S_push hS z1 o1) h1 h2 hl
theorem xr_objInit {idx a : Nat} (hw : Cond.methodLink f.1.cls idx objectInit ∈ xU) (hw2 : Cond.instanceMethod objectInit ∈ xU) (hw3 : Cond.code objectInit ⟨#[0xb1]⟩ 1 none ∈ xU) (hd : decode f.2.1 pc = .ok (.invokespecial idx, 3)) (hst : (st.map fun v => v.category).sum ≤ 8) (hd1 : 1 ≤ d) (k : x_X l G f d mc ms Q (pc + 3) ls st sh M J kc ks) : x_X l G f d mc ms Q pc ls (.ref a :: st) sh M J kc ks := by
  intro p e R s m args below meth c H locs WQ arr hC hr hR hS hkc hks hl
  have hts := hC.2.2.2.2.2.1
  refine W.objInit hC.1 hC.2.1 hC.2.2.2.2.1 (hts _ hw) (hts _ hw2) (hts _ hw3) rfl (by rw [hC.2.2.1]; exact hl.1) rfl hd (Nat.le_trans hd1 hC.2.2.2.2.2.2.2.2.1.1) (by
    have h8 : ((st.map (x_rn G)).map fun v => v.category).sum ≤ 8 := by rw [List.map_map]; exact (show (st.map ((fun v => v.category) ∘ x_rn G)).sum = (st.map fun v => v.category).sum by congr 1; exact List.map_congr_left (fun v _ => x_rn_cat G v)) ▸ hst
    have h9 := hC.2.2.2.2.2.2.2.2.1.2.1
    show 2 * 0 + _ + 12 ≤ _
    omega) (k p e R s m args below meth c H locs WQ arr hC hr hR hS hkc hks hl)
/-! static tables, the script -/
theorem xr_getsA {idx : Nat} (hw : Cond.fieldLink f.1.cls idx RX8 "ABOVE" "[I" ∈ xU) (hd : decode f.2.1 pc = .ok (.getstatic idx, 3)) (k : x_X l G f d mc ms Q (pc + 3) ls (.ref 1000 :: st) sh M J kc ks) : x_X l G f d mc ms Q pc ls st sh M J kc ks := by
  intro p e R s m args below meth c H locs WQ arr hC hr hR hS hkc hks hl
  exact va_gets hC.1 hC.2.1 hC.2.2.2.2.2.2.2.1.1.1 hS hC.2.2.2.2.1 (hC.2.2.2.2.2.1 _ hw) (fun _ h => h) hd (k p e R s m args below meth c H locs WQ arr hC hr hR hS hkc hks hl)
theorem xr_getsO {idx : Nat} (hw : Cond.fieldLink f.1.cls idx RX8 "OWN" "[I" ∈ xU) (hd : decode f.2.1 pc = .ok (.getstatic idx, 3)) (k : x_X l G f d mc ms Q (pc + 3) ls (.ref 1001 :: st) sh M J kc ks) : x_X l G f d mc ms Q pc ls st sh M J kc ks := by
  intro p e R s m args below meth c H locs WQ arr hC hr hR hS hkc hks hl
  exact va_gets hC.1 hC.2.1 hC.2.2.2.2.2.2.2.1.1.2.2.1 hS hC.2.2.2.2.1 (hC.2.2.2.2.2.1 _ hw) (fun _ h => h) hd (k p e R s m args below meth c H locs WQ arr hC hr hR hS hkc hks hl)
theorem xr_tabA {i : Int32} (hin : vp_in i 8) (hd : decode f.2.1 pc = .ok (.iaload, 1)) (k : x_X l G f d mc ms Q (pc + 1) ls (.int (x_above.getD i.toNatClampNeg 0) :: st) sh M J kc ks) : x_X l G f d mc ms Q pc ls (.int i :: .ref 1000 :: st) sh M J kc ks := by
  intro p e R s m args below meth c H locs WQ arr hC hr hR hS hkc hks hl
  exact va_ti hC.1 hC.2.1 hC.2.2.2.2.2.2.2.1.1.2.1 hS hin rfl hd (k p e R s m args below meth c H locs WQ arr hC hr hR hS hkc hks hl)
theorem xr_tabO {i : Int32} (hin : vp_in i 32) (hd : decode f.2.1 pc = .ok (.iaload, 1)) (k : x_X l G f d mc ms Q (pc + 1) ls (.int (x_own.getD i.toNatClampNeg 0) :: st) sh M J kc ks) : x_X l G f d mc ms Q pc ls (.int i :: .ref 1001 :: st) sh M J kc ks := by
  intro p e R s m args below meth c H locs WQ arr hC hr hR hS hkc hks hl
  exact va_ti hC.1 hC.2.1 hC.2.2.2.2.2.2.2.1.1.2.2.2 hS hin rfl hd (k p e R s m args below meth c H locs WQ arr hC hr hR hS hkc hks hl)
theorem xr_sld {i : Int32} (hf : f.1.cls = RL) (hin : vp_in i G.2.2.2.2.1) (hd : decode f.2.1 pc = .ok (.iaload, 1)) (k : x_X l G f d mc ms Q (pc + 1) ls (.int (G.2.2.2.2.2 i.toNatClampNeg) :: st) sh M J kc ks) : x_X l G f d mc ms Q pc ls (.int i :: .ref 1002 :: st) sh M J kc ks := by
  intro p e R s m args below meth c H locs WQ arr hC hr hR hS hkc hks hl
  obtain ⟨h1, h2, h3⟩ := hC.2.2.2.2.2.2.2.2.2.2.2 hf
  exact va_sld hC.1 hC.2.1 h1 h2 h3 hS hin hd (k p e R s m args below meth c H locs WQ arr hC hr hR hS hkc hks hl)
theorem xr_slen (hf : f.1.cls = RL) (hd : decode f.2.1 pc = .ok (.arraylength, 1)) (k : x_X l G f d mc ms Q (pc + 1) ls (.int (Int32.ofNat G.2.2.2.2.1) :: st) sh M J kc ks) : x_X l G f d mc ms Q pc ls (.ref 1002 :: st) sh M J kc ks := by
  intro p e R s m args below meth c H locs WQ arr hC hr hR hS hkc hks hl
  obtain ⟨h1, h2, h3⟩ := hC.2.2.2.2.2.2.2.2.2.2.2 hf
  exact va_slen hC.1 hC.2.1 h1 h2 h3 hS hd (k p e R s m args below meth c H locs WQ arr hC hr hR hS hkc hks hl)
/-! Math, arraycopy -/
theorem x_cat8 {rest : List Value} (G : xG) (h : (rest.map fun v => v.category).sum ≤ 8) : ((rest.map (x_rn G)).map fun v => v.category).sum ≤ 8 := by
  rw [List.map_map]
  have e : rest.map ((fun v => v.category) ∘ x_rn G) = rest.map fun v => v.category := List.map_congr_left (fun v _ => x_rn_cat G v)
  rw [e]
  exact h
theorem xr_max {idx : Nat} {x y : Int32} (hw : Cond.methodLink f.1.cls idx Lib.Math.max.name ∈ xU) (hw2 : Cond.static Lib.Math.max.name ∈ xU) (hw3 : Cond.initialized "java/lang/Math" ∈ xU) (hw4 : Cond.code Lib.Math.max.name Lib.Math.max.code 2 (some .int) ∈ xU) (hd : decode f.2.1 pc = .ok (.invokestatic idx, 3)) (hst : (st.map fun v => v.category).sum ≤ 8) (hd1 : 1 ≤ d) (k : x_X l G f d mc ms Q (pc + 3) ls (.int (if x < y then y else x) :: st) sh M J kc ks) : x_X l G f d mc ms Q pc ls (.int y :: .int x :: st) sh M J kc ks := by
  intro p e R s m args below meth c H locs WQ arr hC hr hR hS hkc hks hl
  have hts := hC.2.2.2.2.2.1
  have h9 := hC.2.2.2.2.2.2.2.2.1
  exact va_mmax hC.1 hC.2.1 (by rw [hC.2.2.1]; exact hl.1.symm) hC.2.2.2.2.1 (hts _ hw) (hts _ hw2) (hts _ hw3) (hts _ hw4) (Nat.le_trans hd1 h9.1) (by have h8 := x_cat8 G hst; have := h9.2.1; omega) (by rw [← h9.2.2.1]; exact hkc) (by rw [← h9.2.2.2]; exact hks) hd (k p e R s m args below meth c H locs WQ arr hC hr hR hS hkc hks hl)
theorem xr_min {idx : Nat} {x y : Int32} (hw : Cond.methodLink f.1.cls idx Lib.Math.min.name ∈ xU) (hw2 : Cond.static Lib.Math.min.name ∈ xU) (hw3 : Cond.initialized "java/lang/Math" ∈ xU) (hw4 : Cond.code Lib.Math.min.name Lib.Math.min.code 2 (some .int) ∈ xU) (hd : decode f.2.1 pc = .ok (.invokestatic idx, 3)) (hst : (st.map fun v => v.category).sum ≤ 8) (hd1 : 1 ≤ d) (k : x_X l G f d mc ms Q (pc + 3) ls (.int (if y < x then y else x) :: st) sh M J kc ks) : x_X l G f d mc ms Q pc ls (.int y :: .int x :: st) sh M J kc ks := by
  intro p e R s m args below meth c H locs WQ arr hC hr hR hS hkc hks hl
  have hts := hC.2.2.2.2.2.1
  have h9 := hC.2.2.2.2.2.2.2.2.1
  exact va_mmin hC.1 hC.2.1 (by rw [hC.2.2.1]; exact hl.1.symm) hC.2.2.2.2.1 (hts _ hw) (hts _ hw2) (hts _ hw3) (hts _ hw4) (Nat.le_trans hd1 h9.1) (by have h8 := x_cat8 G hst; have := h9.2.1; omega) (by rw [← h9.2.2.1]; exact hkc) (by rw [← h9.2.2.2]; exact hks) hd (k p e R s m args below meth c H locs WQ arr hC hr hR hS hkc hks hl)
theorem xr_abs {idx : Nat} {x : Int32} (hw : Cond.methodLink f.1.cls idx Lib.Math.abs.name ∈ xU) (hw2 : Cond.static Lib.Math.abs.name ∈ xU) (hw3 : Cond.initialized "java/lang/Math" ∈ xU) (hw4 : Cond.code Lib.Math.abs.name Lib.Math.abs.code 1 (some .int) ∈ xU) (hd : decode f.2.1 pc = .ok (.invokestatic idx, 3)) (hst : (st.map fun v => v.category).sum ≤ 8) (hd1 : 1 ≤ d) (k : x_X l G f d mc ms Q (pc + 3) ls (.int (if 0 ≤ x then x else 0 - x) :: st) sh M J kc ks) : x_X l G f d mc ms Q pc ls (.int x :: st) sh M J kc ks := by
  intro p e R s m args below meth c H locs WQ arr hC hr hR hS hkc hks hl
  have hts := hC.2.2.2.2.2.1
  have h9 := hC.2.2.2.2.2.2.2.2.1
  exact va_mabs hC.1 hC.2.1 (by rw [hC.2.2.1]; exact hl.1.symm) hC.2.2.2.2.1 (hts _ hw) (hts _ hw2) (hts _ hw3) (hts _ hw4) (Nat.le_trans hd1 h9.1) (by have h8 := x_cat8 G hst; have := h9.2.1; omega) (by rw [← h9.2.2.1]; exact hkc) (by rw [← h9.2.2.2]; exact hks) hd (k p e R s m args below meth c H locs WQ arr hC hr hR hS hkc hks hl)
theorem xr_copyI {idx a b n0 n1 : Nat} {g0 g1 : Nat → Option Nat} {sp dp n : Int32} (hw : Cond.methodLink f.1.cls idx arraycopyName ∈ xU) (hw1 : Cond.native arraycopyName ∈ xU) (hw2 : Cond.static arraycopyName ∈ xU) (hw3 : Cond.initialized "java/lang/System" ∈ xU) (hfull : x_N ≤ sh.length) (h0 : sh[b]? = some (.inr (0, n0, g0))) (h1 : sh[a]? = some (.inr (0, n1, g1))) (g2 : ¬ sp < 0) (g3 : ¬ dp < 0) (g4 : ¬ n < 0) (g5 : sp.toNatClampNeg + n.toNatClampNeg ≤ n0) (g6 : dp.toNatClampNeg + n.toNatClampNeg ≤ n1) (hd : decode f.2.1 pc = .ok (.invokestatic idx, 3)) (hst : (st.map fun v => v.category).sum ≤ 8) (hd1 : 2 ≤ d) (k : x_X l G f d mc ms Q (pc + 3) ls st sh (x_row M a (va_cpy (M b) (M a) sp.toNatClampNeg dp.toNatClampNeg n.toNatClampNeg)) J kc ks) : x_X l G f d mc ms Q pc ls (.int n :: .int dp :: .ref a :: .int sp :: .ref b :: st) sh M J kc ks := by
  intro p e R s m args below meth c H locs WQ arr hC hr hR hS hkc hks hl
  have hts := hC.2.2.2.2.2.1
  have h9 := hC.2.2.2.2.2.2.2.2.1
  refine va_copyi hC.1 hC.2.1 (by rw [hC.2.2.1]; exact hl.1.symm) hC.2.2.2.2.1 (hts _ hw) (hts _ hw1) (hts _ hw2) (hts _ hw3) hC.2.2.2.2.2.2.1 hR.1 (x_D hR.2.2) hS b a 0 0 (x_w_get h0) (x_w_get h1) rfl rfl rfl g2 g3 g4 g5 g6 (fun _ _ => rfl) (Nat.le_trans (by omega) h9.1) (by
    have h8 := x_cat8 G hst
    have h10 := h9.2.1
    have h11 : nativeFrameWords "java/lang/System" "arraycopy" 5 + 11 ≤ 72 := by decide +kernel
    omega) hd (fun H1 locs1 hP hD hS1 => ?_)
  rw [show (x_w G sh M J).set a (x_ad G a, .inl (G.2.1 0, n1, .inl (va_cpy (M b) (M a) sp.toNatClampNeg dp.toNatClampNeg n.toNatClampNeg))) = x_w G sh (x_row M a (va_cpy (M b) (M a) sp.toNatClampNeg dp.toNatClampNeg n.toNatClampNeg)) J from by
    rw [← x_sh_set h1, ← x_w_set (M := M) (J := J) (M' := x_row M a (va_cpy (M b) (M a) sp.toNatClampNeg dp.toNatClampNeg n.toNatClampNeg)) (J' := J) (.inr (0, n1, g1)) h1 (fun i hi => x_row_n M _ hi) (fun _ _ => rfl), x_sh_set h1]
    simp only [x_e, x_row_s]
    rfl] at hP
  exact k p e R s m args below meth c H1 locs1 WQ arr hC hr ⟨hP, fun z => absurd z (by omega), hR.2.2⟩ hS1 hkc hks hl
theorem xr_copyJ {idx a b n0 n1 : Nat} {g0 g1 : Nat → Option Nat} {sp dp n : Int32} (hw : Cond.methodLink f.1.cls idx arraycopyName ∈ xU) (hw1 : Cond.native arraycopyName ∈ xU) (hw2 : Cond.static arraycopyName ∈ xU) (hw3 : Cond.initialized "java/lang/System" ∈ xU) (hfull : x_N ≤ sh.length) (h0 : sh[b]? = some (.inr (2, n0, g0))) (h1 : sh[a]? = some (.inr (2, n1, g1))) (g2 : ¬ sp < 0) (g3 : ¬ dp < 0) (g4 : ¬ n < 0) (g5 : sp.toNatClampNeg + n.toNatClampNeg ≤ n0) (g6 : dp.toNatClampNeg + n.toNatClampNeg ≤ n1) (hd : decode f.2.1 pc = .ok (.invokestatic idx, 3)) (hst : (st.map fun v => v.category).sum ≤ 8) (hd1 : 2 ≤ d) (k : x_X l G f d mc ms Q (pc + 3) ls st sh M (x_rowJ J a (va_cpy (J b) (J a) sp.toNatClampNeg dp.toNatClampNeg n.toNatClampNeg)) kc ks) : x_X l G f d mc ms Q pc ls (.int n :: .int dp :: .ref a :: .int sp :: .ref b :: st) sh M J kc ks := by
  intro p e R s m args below meth c H locs WQ arr hC hr hR hS hkc hks hl
  have hts := hC.2.2.2.2.2.1
  have h9 := hC.2.2.2.2.2.2.2.2.1
  refine va_copyl hC.1 hC.2.1 (by rw [hC.2.2.1]; exact hl.1.symm) hC.2.2.2.2.1 (hts _ hw) (hts _ hw1) (hts _ hw2) (hts _ hw3) hC.2.2.2.2.2.2.1 hR.1 (x_D hR.2.2) hS b a 2 2 (x_w_get h0) (x_w_get h1) rfl rfl rfl g2 g3 g4 g5 g6 (fun _ _ => rfl) (Nat.le_trans (by omega) h9.1) (by
    have h8 := x_cat8 G hst
    have h10 := h9.2.1
    have h11 : nativeFrameWords "java/lang/System" "arraycopy" 5 + 11 ≤ 72 := by decide +kernel
    omega) hd (fun H1 locs1 hP hD hS1 => ?_)
  rw [show (x_w G sh M J).set a (x_ad G a, .inl (G.2.1 2, n1, .inr (.inl (va_cpy (J b) (J a) sp.toNatClampNeg dp.toNatClampNeg n.toNatClampNeg)))) = x_w G sh M (x_rowJ J a (va_cpy (J b) (J a) sp.toNatClampNeg dp.toNatClampNeg n.toNatClampNeg)) from by
    rw [← x_sh_set h1, ← x_w_set (M := M) (J := J) (M' := M) (J' := x_rowJ J a (va_cpy (J b) (J a) sp.toNatClampNeg dp.toNatClampNeg n.toNatClampNeg)) (.inr (2, n1, g1)) h1 (fun _ _ => rfl) (fun i hi => x_rowJ_n J _ hi), x_sh_set h1]
    simp only [x_e, x_rowJ_s]
    rfl] at hP
  exact k p e R s m args below meth c H1 locs1 WQ arr hC hr ⟨hP, fun z => absurd z (by omega), hR.2.2⟩ hS1 hkc hks hl
/-! ends -/
theorem xr_iret {ty : FieldType} {v : Int32} (hd : decode f.2.1 pc = .ok (.ireturn, 1)) (ht : f.2.2.2 = some ty) (hn : narrow ty (.int v) = .int v) (hq : Q (some (.int v)) sh M J) : x_X l G f d mc ms Q pc ls [.int v] sh M J kc ks := by
  intro p e R s m args below meth c H locs WQ arr hC hr hR hS hkc hks hl
  exact hr (some (.int v)) sh M J H locs kc ks pc arr hq hkc hks hR hS (Or.inr (Or.inl ⟨ty, v, ht, rfl, hn, hd⟩))
theorem xr_lret {v : Int64} (hd : decode f.2.1 pc = .ok (.lreturn, 1)) (ht : f.2.2.2 = some .long) (hq : Q (some (.long v)) sh M J) : x_X l G f d mc ms Q pc ls [.long v] sh M J kc ks := by
  intro p e R s m args below meth c H locs WQ arr hC hr hR hS hkc hks hl
  exact hr (some (.long v)) sh M J H locs kc ks pc arr hq hkc hks hR hS (Or.inr (Or.inr (Or.inl ⟨v, ht, rfl, hd⟩)))
theorem xr_aret {a : Nat} {C : String} (hd : decode f.2.1 pc = .ok (.areturn, 1)) (ht : f.2.2.2 = some (.object C)) (hq : Q (some (.ref a)) sh M J) : x_X l G f d mc ms Q pc ls [.ref a] sh M J kc ks := by
  intro p e R s m args below meth c H locs WQ arr hC hr hR hS hkc hks hl
  exact hr (some (.ref a)) sh M J H locs kc ks pc arr hq hkc hks hR hS (Or.inr (Or.inr (Or.inr ⟨C, a, ht, rfl, hd⟩)))
theorem xr_vret (hd : decode f.2.1 pc = .ok (.return_, 1)) (ht : f.2.2.2 = none) (hq : Q none sh M J) : x_X l G f d mc ms Q pc ls [] sh M J kc ks := by
  intro p e R s m args below meth c H locs WQ arr hC hr hR hS hkc hks hl
  exact hr none sh M J H locs kc ks pc arr hq hkc hks hR hS (Or.inl ⟨ht, rfl, hd⟩)
/-! a contract out of a body -/
theorem x_M_of {args : List Value} (hy : plainName f.1.cls = true) (hlen : (lg_sl args).length ≤ f.2.2.1) (hL : f.1.cls ≠ RL) (h : x_X l G f d mc ms Q 0 (lv_args 0 args) [] sh M J 0 0) : x_M l G f d mc ms args sh M J Q := by
  refine Met.ofW (cc := f.2.1) (maxL := f.2.2.1) (ret := f.2.2.2) hy rfl ?_
  intro p e s m args' below meth c s₁ B hml hv
  obtain ⟨rfl, hR, hK, hSt, hEx⟩ := hv
  have hts := atoms_spec (ws := Cond.code f.1 f.2.1 f.2.2.1 f.2.2.2 :: xU) B.pre
  have hl := lv_entry (args.map (x_rn G)) (n := f.2.2.1) (by rw [x_sl]; exact hlen)
  rw [lg_entry_eq]
  generalize (lg_sl (args.map (x_rn G)) ++ List.replicate (f.2.2.1 - (lg_sl (args.map (x_rn G))).length) Slot.unset).toArray = arr at hl ⊢
  rw [x_args] at hl
  have hlocks := B.notSynchronized
  refine h p e _ s m _ below meth c s.heap [] _ arr ⟨B.exec, B.bytes, hml, B.returns, findClass_of_methodNamed B.named, fun w hw => hts w (List.mem_cons_of_mem _ hw), hK, ⟨hSt, hEx⟩, ⟨Nat.le_refl _, Nat.le_refl _, rfl, rfl⟩, ?_, fun hi => ?_, fun hi => absurd hi hL⟩ ?_ hR va_S.rf (Nat.zero_le _) (Nat.zero_le _) hl
  · by_cases hz : sh.length < x_N
    · rw [hR.2.1 hz]; exact Nat.le_add_right _ _
    · have h0 : 0 < sh.length := Nat.lt_of_lt_of_le (by decide) (Nat.not_lt.mp hz)
      cases hs : sh[0]? with
      | none => exact absurd (List.getElem?_eq_none_iff.mp hs) (by omega)
      | some e0 =>
        have h1 := (hR.1 0 _ (x_w_get hs)).lt
        have h2 : x_ad G 0 = G.2.2.1 + 0 := x_ad_lo (by decide)
        have h3 : x_ad G 0 < s.heap.size := h1
        omega
  · rw [← hi]
    exact (name_of_methodNamed B.named B.method).1
  · intro v sh' M' J' H' locs' kc' ks' pc' arr' hq hkc hks hR' hS' hrop
    refine W.widen (k := mc) (n := ms) hkc hks ?_
    have hQc : ∀ t : State, t.heap = H' → x_Post G Q (args.map (x_rn G)).toArray s (.returned (v.map (x_rn G))) t := fun t ht => ⟨⟨v, sh', M', J', rfl, hq, by rw [ht]; exact hR'⟩, hS'.F ht⟩
    rcases hrop with ⟨h1, rfl, h3⟩ | ⟨ty, x, h1, rfl, h3, h4⟩ | ⟨x, h1, rfl, h3⟩ | ⟨C, a, h1, rfl, h3⟩
    · exact W.vret B.exec B.bytes (by rw [B.returns]; exact h1) (fun t ht _ => hQc t ht) hS'.2.2 h3
    · exact W.zret B.exec B.bytes (by rw [B.returns]; exact h1) h3 (fun t ht _ => hQc t ht) hS'.2.2 h4
    · exact W.lret B.exec B.bytes (by rw [B.returns]; exact h1) (fun t ht _ => hQc t ht) hS'.2.2 h3
    · exact W.aret B.exec B.bytes (by rw [B.returns]; exact h1) (Or.inl ⟨C, rfl⟩) (Or.inr ⟨_, rfl⟩) (fun t ht _ => hQc t ht) hS'.2.2 h3
/-! calls -/
theorem x_goes {mc' ms' : Nat} {Q' : xQ} {a : Array Value} {rest st0 : List Value} {p : Program} {e : Env} {R : Room} {s : State} {m : MethodId} {args : Array Value} {below : List Frame} {meth : Method} {c : Code} {H : Heap} {locs : List Loc} {WQ : State → Prop} {arr : Array Slot}
    (hr : va_Run p l e R s m args below meth c H locs kc ks mc' ms' (F0 m pc arr st0) rest (x_Post G Q' a) (x_A G)) (hS : va_S (x_A G) s.heap H locs)
    (kk : ∀ (v : Option Value) (sh' : List xS) (M' : xM) (J' : xJ) (H1 : Heap) (locs1 : List Loc), Q' v sh' M' J' → x_R G sh' M' J' H1 → va_S (x_A G) s.heap H1 locs1 → W p l e R s m args below meth c H1 locs1 (kc + mc') (ks + ms') WQ (F0 m (pc + 3) arr ((v.map (x_rn G)).toList ++ rest))) : W p l e R s m args below meth c H locs kc ks WQ (F0 m pc arr st0) := by
  intro T hT X
  obtain ⟨v, st₀, t, T', L, h0, X', hL, e1, e2, ⟨⟨v2, sh2, M2, J2, hv, hq, hR2⟩, hz, hk⟩, stp⟩ := hr T hT X
  cases hv
  rw [h0] at hz hk
  obtain ⟨t2, a1, b1⟩ := kk v2 sh2 M2 J2 T'.heap (locs ++ L) hq (by rw [e1]; exact hR2)
    ⟨Nat.le_trans hS.1 (by rw [e1]; exact hz), fun q h1 h2 => by rw [e1, hk q (Nat.lt_of_lt_of_le h1 hS.1) h2]; exact hS.2.1 q h1 h2, fun q hq2 => by
      rcases List.mem_append.mp hq2 with h | h
      · exact hS.2.2 q h
      · exact hL q h⟩ T' rfl X'
  exact ⟨t2, stp t2 a1, b1⟩
theorem x_blind {As : List Value} : FrameBlind (va_Pc (As.map (x_rn G)) (x_Pre G sh M J)) := fun a U g mk q => by
  obtain ⟨q0, q1, q2, q3, q4, q5, q6⟩ := q
  exact ⟨q0, q1, va_K.moved (u := U) (U := U.calling g mk a) (Vm.Alike.refl U.vm) q2, x_St.moved (u := U) (U := U.calling g mk a) (Vm.Alike.refl U.vm) q3, va_AO.moved (u := U) (U := U.calling g mk a) (Vm.Alike.refl U.vm) q4, va_AO.moved (u := U) (U := U.calling g mk a) (Vm.Alike.refl U.vm) q5, fun z hz => va_Nw.same (u := U) (U := U.calling g mk a) rfl rfl (q6 z hz)⟩
theorem x_pre {As : List Value} {p : Program} {R : Room} {s : State} {m : MethodId} {args : Array Value} {meth : Method} {c : Code} {H : Heap} {locs : List Loc} (hC : x_C G f d mc ms p R s m args meth c) (hR : x_R G sh M J H) (hS : va_S (x_A G) s.heap H locs) : ∀ U : State, U.heap = H → s.WarmedH U.vm → va_Pc (As.map (x_rn G)) (x_Pre G sh M J) (As.map (x_rn G)).toArray U := fun U hU hW =>
  ⟨rfl, by rw [hU]; exact hR, va_K.moved hW.alike hC.2.2.2.2.2.2.1, by rw [hU]; exact (hC.2.2.2.2.2.2.2.1.1.moved hW.alike).kept (fun q h1 h2 => hS.2.1 q h1 h2), hC.2.2.2.2.2.2.2.1.2.moved hW⟩
theorem x_room {g : xF} {d' n : Nat} {p : Program} {R : Room} {s : State} {m : MethodId} {args : Array Value} {meth : Method} {c : Code} (hC : x_C G f d mc ms p R s m args meth c) (hdd : d' + 1 ≤ d) (hok : x_ok g n) {mc' ms' : Nat} : (x_rm d' mc' ms').frames + 1 ≤ R.frames ∧ 8 + (g.2.2.1 + 11) + (x_rm d' mc' ms').locals ≤ R.locals := by
  have h9 := hC.2.2.2.2.2.2.2.2.1
  have h10 := hok.2.2.2.1
  exact ⟨Nat.le_trans hdd h9.1, Nat.le_trans (by show 8 + (g.2.2.1 + 11) + 40 * d' ≤ 40 * d; omega) h9.2.1⟩
theorem xr_callV {g : xF} {idx ci n a d' mc' ms' : Nat} {Q' : xQ} {fs : List (Option (Option Nat))} {As rest : List Value} (mv : x_MV f.1.cls idx ci g n) (hg : x_M l G g d' mc' ms' (.ref a :: As) sh M J Q') (hd : decode f.2.1 pc = .ok (.invokevirtual idx, 3)) (hs : sh[a]? = some (.inl (ci, fs))) (hn : As.length = n) (hst : st = As.reverse ++ .ref a :: rest) (hcat : (rest.map fun v => v.category).sum ≤ 8) (hdd : d' + 1 ≤ d) (hkk : kc + mc' ≤ mc ∧ ks + ms' ≤ ms)
    (k : ∀ (v : Option Value) (sh' : List xS) (M' : xM) (J' : xJ), Q' v sh' M' J' → x_X l G f d mc ms Q (pc + 3) ls (v.toList ++ rest) sh' M' J' (kc + mc') (ks + ms')) : x_X l G f d mc ms Q pc ls st sh M J kc ks := by
  intro p e R s m args below meth c H locs WQ arr hC hr hR hS hkc hks hl
  subst hst
  obtain ⟨hok, ⟨T, N, hcl⟩, hw1, hw2, hw3⟩ := mv
  have hts := hC.2.2.2.2.2.1
  have h9 := hC.2.2.2.2.2.2.2.2.1
  have hrec := va_recv (s := s) hC.2.2.2.2.2.2.1 hR.1 hcl (x_w_get hs)
  refine x_goes (va_runV (C := g.1.cls) (As := As.map (x_rn G)) (rest := rest.map (x_rn G)) (bytes := g.2.1) (maxL := g.2.2.1) (ret := g.2.2.2) (n := n) ⟨hC.1, hC.2.1, hC.2.2.1, hC.2.2.2.2.1, hts⟩ hg ?_ ⟨x_blind, hrec, x_pre (As := .ref a :: As) hC hR hS⟩ rfl (by rw [List.length_map]; exact hn) hl.1 ?_ (lv_room (x_cat8 G hcat)) hd ⟨by rw [← h9.2.2.1]; exact hkk.1, by rw [← h9.2.2.2]; exact hkk.2⟩) hS (fun v sh' M' J' H1 locs1 hq hR1 hS1 => ?_)
  · have hgood := x_good hok.2.2.2.2.2
    exact cwV n hts (fun w hw => by
      unfold wsV at hw
      rcases List.mem_append.mp hw with h | h
      · have hm : w ∈ xU := by
          simp only [List.mem_cons, List.not_mem_nil, or_false] at h
          rcases h with rfl | rfl | rfl | rfl
          · exact hw1
          · exact hw2
          · exact hw3
          · exact hok.2.2.2.2.1
        exact ⟨hm, good_of_word (List.mem_filter.mp hm).2⟩
      · exact hgood w h) rfl rfl rfl ⟨rfl, hok.1, hok.2.1, hok.2.2.1⟩ (x_room hC hdd hok)
  · simp [List.map_append, List.map_reverse, x_rn]
  · have := k v sh' M' J' hq p e R s m args below meth c H1 locs1 WQ arr hC hr hR1 hS1 (by exact hkk.1) (by exact hkk.2) hl
    rw [List.map_append] at this
    cases v <;> exact this
theorem xr_callS {g : xF} {idx n d' mc' ms' : Nat} {Q' : xQ} {As rest : List Value} (mv : x_MS f.1.cls idx g n) (hg : x_M l G g d' mc' ms' As sh M J Q') (hd : decode f.2.1 pc = .ok (.invokestatic idx, 3)) (hn : As.length = n) (hst : st = As.reverse ++ rest) (hcat : (rest.map fun v => v.category).sum ≤ 8) (hdd : d' + 1 ≤ d) (hkk : kc + mc' ≤ mc ∧ ks + ms' ≤ ms)
    (k : ∀ (v : Option Value) (sh' : List xS) (M' : xM) (J' : xJ), Q' v sh' M' J' → x_X l G f d mc ms Q (pc + 3) ls (v.toList ++ rest) sh' M' J' (kc + mc') (ks + ms')) : x_X l G f d mc ms Q pc ls st sh M J kc ks := by
  intro p e R s m args below meth c H locs WQ arr hC hr hR hS hkc hks hl
  subst hst
  obtain ⟨hok, hw1, hw2⟩ := mv
  have hts := hC.2.2.2.2.2.1
  have h9 := hC.2.2.2.2.2.2.2.2.1
  refine x_goes (va_runS (As := As.map (x_rn G)) (rest := rest.map (x_rn G)) (bytes := g.2.1) (maxL := g.2.2.1) (ret := g.2.2.2) (n := n) ⟨hC.1, hC.2.1, hC.2.2.1, hC.2.2.2.2.1, hts⟩ hg ?_ ⟨x_blind, x_pre (As := As) hC hR hS⟩ rfl (by rw [List.length_map]; exact hn) hl.1 ?_ (lv_room (x_cat8 G hcat)) hd ⟨by rw [← h9.2.2.1]; exact hkk.1, by rw [← h9.2.2.2]; exact hkk.2⟩) hS (fun v sh' M' J' H1 locs1 hq hR1 hS1 => ?_)
  · have hgood := x_good hok.2.2.2.2.2
    exact va_cwS n hts (fun w hw => by
      unfold va_wsS at hw
      rcases List.mem_append.mp hw with h | h
      · have hm : w ∈ xU := by
          simp only [List.mem_cons, List.not_mem_nil, or_false] at h
          rcases h with rfl | rfl | rfl
          · exact hw1
          · exact hw2
          · exact hok.2.2.2.2.1
        exact ⟨hm, good_of_word (List.mem_filter.mp hm).2⟩
      · exact hgood w h) rfl rfl rfl ⟨hok.1, hok.2.1, hok.2.2.1⟩ (x_room hC hdd hok)
  · simp [List.map_append, List.map_reverse]
  · have := k v sh' M' J' hq p e R s m args below meth c H1 locs1 WQ arr hC hr hR1 hS1 (by exact hkk.1) (by exact hkk.2) hl
    rw [List.map_append] at this
    cases v <;> exact this
theorem xr_callN {g : xF} {idx n d' mc' ms' : Nat} {Q' : xQ} {As rest : List Value} (mv : x_MN f.1.cls idx g n) (hg : x_M l G g d' mc' ms' As sh M J Q') (hd : decode f.2.1 pc = .ok (.invokestatic idx, 3)) (hn : As.length = n) (hst : st = As.reverse ++ rest) (hcat : (rest.map fun v => v.category).sum ≤ 8) (hdd : d' + 1 ≤ d) (hkk : kc + mc' ≤ mc ∧ ks + ms' ≤ ms)
    (k : ∀ (v : Option Value) (sh' : List xS) (M' : xM) (J' : xJ), Q' v sh' M' J' → x_X l G f d mc ms Q (pc + 3) ls (v.toList ++ rest) sh' M' J' (kc + mc') (ks + ms')) : x_X l G f d mc ms Q pc ls st sh M J kc ks := by
  intro p e R s m args below meth c H locs WQ arr hC hr hR hS hkc hks hl
  subst hst
  obtain ⟨hok, ⟨host, hw1⟩, hw2⟩ := mv
  have hts := hC.2.2.2.2.2.1
  have h9 := hC.2.2.2.2.2.2.2.2.1
  refine x_goes (va_runSN (host := host) (As := As.map (x_rn G)) (rest := rest.map (x_rn G)) (bytes := g.2.1) (maxL := g.2.2.1) (ret := g.2.2.2) (n := n) ⟨hC.1, hC.2.1, hC.2.2.1, hC.2.2.2.2.1, hts⟩ hg ⟨va_cnB n hts (x_good hok.2.2.2.2.2) rfl rfl rfl (hC.2.2.2.2.2.2.2.1.2.2.2 _ hw1) (hts _ hok.2.2.2.2.1) ⟨hok.1, hok.2.1, hok.2.2.1⟩ (x_room hC hdd hok), hts _ hw2, trivial⟩ ⟨x_blind, x_pre (As := As) hC hR hS⟩ rfl (by rw [List.length_map]; exact hn) hl.1 ?_ (lv_room (x_cat8 G hcat)) hd ⟨by rw [← h9.2.2.1]; exact hkk.1, by rw [← h9.2.2.2]; exact hkk.2⟩) hS (fun v sh' M' J' H1 locs1 hq hR1 hS1 => ?_)
  · simp [List.map_append, List.map_reverse]
  · have := k v sh' M' J' hq p e R s m args below meth c H1 locs1 WQ arr hC hr hR1 hS1 (by exact hkk.1) (by exact hkk.2) hl
    rw [List.map_append] at this
    cases v <;> exact this
theorem xr_callI {g : xF} {idx n a d' mc' ms' : Nat} {Q' : xQ} {As rest : List Value} (mv : x_MI f.1.cls idx g n) (hg : x_M l G g d' mc' ms' (.ref a :: As) sh M J Q') (hd : decode f.2.1 pc = .ok (.invokespecial idx, 3)) (hn : As.length = n) (hst : st = As.reverse ++ .ref a :: rest) (hcat : (rest.map fun v => v.category).sum ≤ 8) (hdd : d' + 1 ≤ d) (hkk : kc + mc' ≤ mc ∧ ks + ms' ≤ ms)
    (k : ∀ (v : Option Value) (sh' : List xS) (M' : xM) (J' : xJ), Q' v sh' M' J' → x_X l G f d mc ms Q (pc + 3) ls (v.toList ++ rest) sh' M' J' (kc + mc') (ks + ms')) : x_X l G f d mc ms Q pc ls st sh M J kc ks := by
  intro p e R s m args below meth c H locs WQ arr hC hr hR hS hkc hks hl
  subst hst
  obtain ⟨hok, hw1, hw2, hnm, hrt⟩ := mv
  have hts := hC.2.2.2.2.2.1
  have h9 := hC.2.2.2.2.2.2.2.2.1
  refine x_goes (va_runI (b := x_ad G a) (As := As.map (x_rn G)) (rest := rest.map (x_rn G)) (bytes := g.2.1) (maxL := g.2.2.1) (n := n) ⟨hC.1, hC.2.1, hC.2.2.1, hC.2.2.2.2.1, hts⟩ hg (cwI n hts (x_good hok.2.2.2.2.2) (by rw [hrt]) rfl rfl (hts _ hok.2.2.2.2.1) (hts _ hw1) (hts _ hw2) hnm ⟨hok.1, hok.2.1, hok.2.2.1⟩ (x_room hC hdd hok)) ⟨x_blind, x_pre (As := .ref a :: As) hC hR hS⟩ rfl (by rw [List.length_map]; exact hn) hl.1 ?_ (lv_room (x_cat8 G hcat)) hd ⟨by rw [← h9.2.2.1]; exact hkk.1, by rw [← h9.2.2.2]; exact hkk.2⟩) hS (fun v sh' M' J' H1 locs1 hq hR1 hS1 => ?_)
  · simp [List.map_append, List.map_reverse, x_rn]
  · have := k v sh' M' J' hq p e R s m args below meth c H1 locs1 WQ arr hC hr hR1 hS1 (by exact hkk.1) (by exact hkk.2) hl
    rw [List.map_append] at this
    cases v <;> exact this
end XR
