/-- the places of a ring's hoops, of the shelves -/
def x_hs (b : Nat) : Nat → Option Nat := fun i => if i < 5 then some (b + i) else none
def x_ss : Nat → Option Nat := fun i => if i < 6 then some (50 + 2 * i) else none
def x_SH : List xS := [.inl (9, [some (some 1), some (some 6), some (some 13), some (some 20), some (some 27), some (some 35), some (some 41), some (some 46), some (some 49), none]), .inl (3, [some (some 2), some (some 3), some (some 4), some (some 5), none, none]), .inr (0, 128, fun _ => none), .inr (0, 128, fun _ => none), .inr (0, 128, fun _ => none), .inr (0, 6, fun _ => none), .inl (4, [some (some 7), some (some 8), none, none, none]), .inr (0, 120, fun _ => none), .inl (3, [some (some 9), some (some 10), some (some 11), some (some 12), none, none]), .inr (0, 128, fun _ => none), .inr (0, 128, fun _ => none), .inr (0, 128, fun _ => none), .inr (0, 6, fun _ => none), .inl (5, [some (some 1), some (some 14), none, none, none, none, none, none, none, none]), .inr (3, 5, x_hs 15), .inl (2, [none, none, none, none, none]), .inl (2, [none, none, none, none, none]), .inl (2, [none, none, none, none, none]), .inl (2, [none, none, none, none, none]), .inl (2, [none, none, none, none, none]), .inl (5, [some (some 1), some (some 21), none, none, none, none, none, none, none, none]), .inr (3, 5, x_hs 22), .inl (2, [none, none, none, none, none]), .inl (2, [none, none, none, none, none]), .inl (2, [none, none, none, none, none]), .inl (2, [none, none, none, none, none]), .inl (2, [none, none, none, none, none]), .inl (7, [some (some 13), some (some 28), none, none, none, none, none, none]), .inl (5, [some (some 1), some (some 29), none, none, none, none, none, none, none, none]), .inr (3, 5, x_hs 30), .inl (2, [none, none, none, none, none]), .inl (2, [none, none, none, none, none]), .inl (2, [none, none, none, none, none]), .inl (2, [none, none, none, none, none]), .inl (2, [none, none, none, none, none]), .inl (1, [some (some 36), some (some 37), some (some 38), some (some 39), some (some 40), none, none]), .inr (0, 25, fun _ => none), .inr (0, 25, fun _ => none), .inr (1, 25, fun _ => none), .inr (0, 25, fun _ => none), .inr (0, 25, fun _ => none), .inl (0, [some (some 42), some (some 43), some (some 44), some (some 45), none, none]), .inr (0, 40, fun _ => none), .inr (0, 40, fun _ => none), .inr (0, 40, fun _ => none), .inr (0, 40, fun _ => none), .inl (8, [some (some 47), some (some 48), none, none, none]), .inr (0, 50, fun _ => none), .inr (0, 24, fun _ => none), .inr (4, 6, x_ss), .inl (6, [none, none, none, none, some (some 51)]), .inr (2, 60, fun _ => none), .inl (6, [none, none, none, none, some (some 53)]), .inr (2, 60, fun _ => none), .inl (6, [none, none, none, none, some (some 55)]), .inr (2, 60, fun _ => none), .inl (6, [none, none, none, none, some (some 57)]), .inr (2, 60, fun _ => none), .inl (6, [none, none, none, none, some (some 59)]), .inr (2, 60, fun _ => none), .inl (6, [none, none, none, none, some (some 61)]), .inr (2, 60, fun _ => none), .inl (10, [some (some 63), some (some 64), some (some 65), some (some 66), none, none, none, some (some 67), some (some 68), none, some (some 69), none, some (some 70), none, none, none, none, none, none, some (some 71), some (some 72), some (some 73), some (some 74), none, none, none, none, some (some 75), some (some 76), some (some 77), some (some 78), some (some 79), none, none, none, some (some 80), none, some (some 81), some (some 82), none, none, none, some (some 83), some (some 84), some (some 85), some (some 86)]), .inr (0, 20, fun _ => none), .inr (0, 40, fun _ => none), .inr (0, 40, fun _ => none), .inr (0, 40, fun _ => none), .inr (0, 5, fun _ => none), .inr (0, 5, fun _ => none), .inr (0, 120, fun _ => none), .inr (0, 120, fun _ => none), .inr (0, 6, fun _ => none), .inr (0, 5, fun _ => none), .inr (0, 5, fun _ => none), .inr (0, 5, fun _ => none), .inr (0, 25, fun _ => none), .inr (0, 25, fun _ => none), .inr (1, 25, fun _ => none), .inr (0, 25, fun _ => none), .inr (0, 25, fun _ => none), .inr (0, 18, fun _ => none), .inr (0, 50, fun _ => none), .inr (0, 24, fun _ => none), .inr (0, 6, fun _ => none), .inr (0, 6, fun _ => none), .inr (2, 360, fun _ => none), .inr (2, 60, fun _ => none)]
theorem s_0 : x_SH[0]? = some (.inl (9, [some (some 1), some (some 6), some (some 13), some (some 20), some (some 27), some (some 35), some (some 41), some (some 46), some (some 49), none])) := rfl
theorem s_1 : x_SH[1]? = some (.inl (3, [some (some 2), some (some 3), some (some 4), some (some 5), none, none])) := rfl
theorem s_2 : x_SH[2]? = some (.inr (0, 128, fun _ => none)) := rfl
theorem s_3 : x_SH[3]? = some (.inr (0, 128, fun _ => none)) := rfl
theorem s_4 : x_SH[4]? = some (.inr (0, 128, fun _ => none)) := rfl
theorem s_5 : x_SH[5]? = some (.inr (0, 6, fun _ => none)) := rfl
theorem s_6 : x_SH[6]? = some (.inl (4, [some (some 7), some (some 8), none, none, none])) := rfl
theorem s_7 : x_SH[7]? = some (.inr (0, 120, fun _ => none)) := rfl
theorem s_8 : x_SH[8]? = some (.inl (3, [some (some 9), some (some 10), some (some 11), some (some 12), none, none])) := rfl
theorem s_9 : x_SH[9]? = some (.inr (0, 128, fun _ => none)) := rfl
theorem s_10 : x_SH[10]? = some (.inr (0, 128, fun _ => none)) := rfl
theorem s_13 : x_SH[13]? = some (.inl (5, [some (some 1), some (some 14), none, none, none, none, none, none, none, none])) := rfl
theorem s_14 : x_SH[14]? = some (.inr (3, 5, x_hs 15)) := rfl
theorem s_20 : x_SH[20]? = some (.inl (5, [some (some 1), some (some 21), none, none, none, none, none, none, none, none])) := rfl
theorem s_21 : x_SH[21]? = some (.inr (3, 5, x_hs 22)) := rfl
theorem s_27 : x_SH[27]? = some (.inl (7, [some (some 13), some (some 28), none, none, none, none, none, none])) := rfl
theorem s_28 : x_SH[28]? = some (.inl (5, [some (some 1), some (some 29), none, none, none, none, none, none, none, none])) := rfl
theorem s_29 : x_SH[29]? = some (.inr (3, 5, x_hs 30)) := rfl
theorem s_35 : x_SH[35]? = some (.inl (1, [some (some 36), some (some 37), some (some 38), some (some 39), some (some 40), none, none])) := rfl
theorem s_36 : x_SH[36]? = some (.inr (0, 25, fun _ => none)) := rfl
theorem s_37 : x_SH[37]? = some (.inr (0, 25, fun _ => none)) := rfl
theorem s_38 : x_SH[38]? = some (.inr (1, 25, fun _ => none)) := rfl
theorem s_39 : x_SH[39]? = some (.inr (0, 25, fun _ => none)) := rfl
theorem s_40 : x_SH[40]? = some (.inr (0, 25, fun _ => none)) := rfl
theorem s_41 : x_SH[41]? = some (.inl (0, [some (some 42), some (some 43), some (some 44), some (some 45), none, none])) := rfl
theorem s_42 : x_SH[42]? = some (.inr (0, 40, fun _ => none)) := rfl
theorem s_43 : x_SH[43]? = some (.inr (0, 40, fun _ => none)) := rfl
theorem s_44 : x_SH[44]? = some (.inr (0, 40, fun _ => none)) := rfl
theorem s_45 : x_SH[45]? = some (.inr (0, 40, fun _ => none)) := rfl
theorem s_46 : x_SH[46]? = some (.inl (8, [some (some 47), some (some 48), none, none, none])) := rfl
theorem s_47 : x_SH[47]? = some (.inr (0, 50, fun _ => none)) := rfl
theorem s_48 : x_SH[48]? = some (.inr (0, 24, fun _ => none)) := rfl
theorem s_49 : x_SH[49]? = some (.inr (4, 6, x_ss)) := rfl
theorem s_62 : x_SH[62]? = some (.inl (10, [some (some 63), some (some 64), some (some 65), some (some 66), none, none, none, some (some 67), some (some 68), none, some (some 69), none, some (some 70), none, none, none, none, none, none, some (some 71), some (some 72), some (some 73), some (some 74), none, none, none, none, some (some 75), some (some 76), some (some 77), some (some 78), some (some 79), none, none, none, some (some 80), none, some (some 81), some (some 82), none, none, none, some (some 83), some (some 84), some (some 85), some (some 86)])) := rfl
theorem s_63 : x_SH[63]? = some (.inr (0, 20, fun _ => none)) := rfl
theorem s_64 : x_SH[64]? = some (.inr (0, 40, fun _ => none)) := rfl
theorem s_65 : x_SH[65]? = some (.inr (0, 40, fun _ => none)) := rfl
theorem s_66 : x_SH[66]? = some (.inr (0, 40, fun _ => none)) := rfl
theorem s_67 : x_SH[67]? = some (.inr (0, 5, fun _ => none)) := rfl
theorem s_68 : x_SH[68]? = some (.inr (0, 5, fun _ => none)) := rfl
theorem s_69 : x_SH[69]? = some (.inr (0, 120, fun _ => none)) := rfl
theorem s_70 : x_SH[70]? = some (.inr (0, 120, fun _ => none)) := rfl
theorem s_71 : x_SH[71]? = some (.inr (0, 6, fun _ => none)) := rfl
theorem s_72 : x_SH[72]? = some (.inr (0, 5, fun _ => none)) := rfl
theorem s_73 : x_SH[73]? = some (.inr (0, 5, fun _ => none)) := rfl
theorem s_74 : x_SH[74]? = some (.inr (0, 5, fun _ => none)) := rfl
theorem s_75 : x_SH[75]? = some (.inr (0, 25, fun _ => none)) := rfl
theorem s_76 : x_SH[76]? = some (.inr (0, 25, fun _ => none)) := rfl
theorem s_77 : x_SH[77]? = some (.inr (1, 25, fun _ => none)) := rfl
theorem s_78 : x_SH[78]? = some (.inr (0, 25, fun _ => none)) := rfl
theorem s_79 : x_SH[79]? = some (.inr (0, 25, fun _ => none)) := rfl
theorem s_80 : x_SH[80]? = some (.inr (0, 18, fun _ => none)) := rfl
theorem s_81 : x_SH[81]? = some (.inr (0, 50, fun _ => none)) := rfl
theorem s_82 : x_SH[82]? = some (.inr (0, 24, fun _ => none)) := rfl
theorem s_83 : x_SH[83]? = some (.inr (0, 6, fun _ => none)) := rfl
theorem s_84 : x_SH[84]? = some (.inr (0, 6, fun _ => none)) := rfl
theorem s_85 : x_SH[85]? = some (.inr (2, 360, fun _ => none)) := rfl
theorem s_86 : x_SH[86]? = some (.inr (2, 60, fun _ => none)) := rfl
theorem s_len : x_N ≤ x_SH.length := by decide
/-- an end told exactly -/
def qE (r : Option Value) (sh : List xS) (M : xM) (J : xJ) : xQ := fun v sh' M' J' => v = r ∧ sh' = sh ∧ M' = M ∧ J' = J
def bI (c : Prop) [Decidable c] : Int32 := if c then 1 else 0
theorem bI_t {c : Prop} [Decidable c] (h : c) : bI c = 1 := if_pos h
theorem bI_f {c : Prop} [Decidable c] (h : ¬ c) : bI c = 0 := if_neg h
theorem bI_n (c : Prop) [Decidable c] : narrow .boolean (.int (bI c)) = .int (bI c) := by
  by_cases h : c
  · rw [bI_t h]; rfl
  · rw [bI_f h]; rfl
section XB
variable {l : Launch} {G : xG} {f : xF} {d mc ms : Nat} {Q : xQ} {pc : Nat} {ls : List (Nat × Value)} {st : List Value} {sh : List xS} {M : xM} {J : xJ} {kc ks : Nat}
theorem xb_ls {ls2 : List (Nat × Value)} (is : List Nat) (h : lv_pick ls is = ls2) (k : x_X l G f d mc ms Q pc ls2 st sh M J kc ks) : x_X l G f d mc ms Q pc ls st sh M J kc ks := by
  intro p e R s m args below meth c H locs WQ arr hC hr hR hS hkc hks hl
  refine k p e R s m args below meth c H locs WQ arr hC hr hR hS hkc hks (lv_sub hl is ?_)
  rw [← h]
  simp only [lv_pick, List.map_filterMap, List.getElem?_map]
theorem xb_M {M2 : xM} (h : M = M2) (k : x_X l G f d mc ms Q pc ls st sh M2 J kc ks) : x_X l G f d mc ms Q pc ls st sh M J kc ks := h ▸ k
theorem xb_top {x y : Int32} (h : x = y) (k : x_X l G f d mc ms Q pc ls (.int y :: st) sh M J kc ks) : x_X l G f d mc ms Q pc ls (.int x :: st) sh M J kc ks := h ▸ k
theorem xb_topJ {x y : Int64} (h : x = y) (k : x_X l G f d mc ms Q pc ls (.long y :: st) sh M J kc ks) : x_X l G f d mc ms Q pc ls (.long x :: st) sh M J kc ks := h ▸ k
theorem xb_of {args : List Value} {ls : List (Nat × Value)} (hp : plainName f.1.cls = true ∧ f.1.cls ≠ RL) (hlen : (lg_sl args).length ≤ f.2.2.1) (hls : lv_args 0 args = ls) (h : x_X l G f d mc ms Q 0 ls [] sh M J 0 0) : x_M l G f d mc ms args sh M J Q :=
  x_M_of hp.1 hlen hp.2 (by rw [hls]; exact h)
theorem xb_get {idx ci kf a : Nat} {fs : List (Option (Option Nat))} {v : Int32} (fl : x_FL f.1.cls idx ci kf) (hd : decode f.2.1 pc = .ok (.getfield idx, 3)) (hs : sh[a]? = some (.inl (ci, fs))) (hk : fs[kf]? = some none) (hv : M a kf = v) (k : x_X l G f d mc ms Q (pc + 3) ls (.int v :: st) sh M J kc ks) : x_X l G f d mc ms Q pc ls (.ref a :: st) sh M J kc ks :=
  xr_getI fl hd hs hk (by rw [hv]; exact k)
theorem xb_iald {a n j : Nat} {g : Nat → Option Nat} {v : Int32} (hd : decode f.2.1 pc = .ok (.iaload, 1)) (hs : sh[a]? = some (.inr (0, n, g))) (hj : j < n) (hn : n < 2 ^ 31) (hv : M a j = v) (k : x_X l G f d mc ms Q (pc + 1) ls (.int v :: st) sh M J kc ks) : x_X l G f d mc ms Q pc ls (.int (nI j) :: .ref a :: st) sh M J kc ks :=
  xr_iald hd hs (vp_in_nI hj hn) (by rw [nI_clamp (Nat.lt_trans hj hn), hv]; exact k)
theorem xb_zald {a n j : Nat} {g : Nat → Option Nat} {v : Int32} (hd : decode f.2.1 pc = .ok (.baload, 1)) (hs : sh[a]? = some (.inr (1, n, g))) (hj : j < n) (hn : n < 2 ^ 31) (hv : M a j = v) (k : x_X l G f d mc ms Q (pc + 1) ls (.int v :: st) sh M J kc ks) : x_X l G f d mc ms Q pc ls (.int (nI j) :: .ref a :: st) sh M J kc ks :=
  xr_zald hd hs (vp_in_nI hj hn) (by rw [nI_clamp (Nat.lt_trans hj hn), hv]; exact k)
theorem xb_lald {a n j : Nat} {g : Nat → Option Nat} {v : Int64} (hd : decode f.2.1 pc = .ok (.laload, 1)) (hs : sh[a]? = some (.inr (2, n, g))) (hj : j < n) (hn : n < 2 ^ 31) (hv : J a j = v) (k : x_X l G f d mc ms Q (pc + 1) ls (.long v :: st) sh M J kc ks) : x_X l G f d mc ms Q pc ls (.int (nI j) :: .ref a :: st) sh M J kc ks :=
  xr_lald hd hs (vp_in_nI hj hn) (by rw [nI_clamp (Nat.lt_trans hj hn), hv]; exact k)
theorem xb_aald {a n t q j : Nat} {g : Nat → Option Nat} (ht : t = 3 ∨ t = 4) (hd : decode f.2.1 pc = .ok (.aaload, 1)) (hs : sh[a]? = some (.inr (t, n, g))) (hj : j < n) (hn : n < 2 ^ 31) (hg : g j = some q) (k : x_X l G f d mc ms Q (pc + 1) ls (.ref q :: st) sh M J kc ks) : x_X l G f d mc ms Q pc ls (.int (nI j) :: .ref a :: st) sh M J kc ks :=
  xr_aald ht hd hs (vp_in_nI hj hn) (by rw [nI_clamp (Nat.lt_trans hj hn)]; exact hg) k
theorem xb_iast {a n j : Nat} {g : Nat → Option Nat} {v : Int32} (hd : decode f.2.1 pc = .ok (.iastore, 1)) (hs : sh[a]? = some (.inr (0, n, g))) (hj : j < n) (hn : n < 2 ^ 31) (k : x_X l G f d mc ms Q (pc + 1) ls st sh (x_up M a j v) J kc ks) : x_X l G f d mc ms Q pc ls (.int v :: .int (nI j) :: .ref a :: st) sh M J kc ks :=
  xr_iast hd hs (vp_in_nI hj hn) (by rw [nI_clamp (Nat.lt_trans hj hn)]; exact k)
theorem xb_zast {a n j : Nat} {g : Nat → Option Nat} {v w : Int32} (hd : decode f.2.1 pc = .ok (.bastore, 1)) (hs : sh[a]? = some (.inr (1, n, g))) (hj : j < n) (hn : n < 2 ^ 31) (hw : vp_nar .boolean v = w) (k : x_X l G f d mc ms Q (pc + 1) ls st sh (x_up M a j w) J kc ks) : x_X l G f d mc ms Q pc ls (.int v :: .int (nI j) :: .ref a :: st) sh M J kc ks :=
  xr_zast hd hs (vp_in_nI hj hn) hw (by rw [nI_clamp (Nat.lt_trans hj hn)]; exact k)
theorem xb_last {a n j : Nat} {g : Nat → Option Nat} {v : Int64} (hd : decode f.2.1 pc = .ok (.lastore, 1)) (hs : sh[a]? = some (.inr (2, n, g))) (hj : j < n) (hn : n < 2 ^ 31) (k : x_X l G f d mc ms Q (pc + 1) ls st sh M (x_upJ J a j v) kc ks) : x_X l G f d mc ms Q pc ls (.long v :: .int (nI j) :: .ref a :: st) sh M J kc ks :=
  xr_last hd hs (vp_in_nI hj hn) (by rw [nI_clamp (Nat.lt_trans hj hn)]; exact k)
/-! a truth on the stack -/
theorem xb_beq {c : Prop} [Decidable c] {off : Int} {tgt : Nat} (hd : decode f.2.1 pc = .ok (.ifCond .eq off, 3)) (ht : (pc : Int) + off = (tgt : Int)) (kt : ¬ c → x_X l G f d mc ms Q tgt ls st sh M J kc ks) (kf : c → x_X l G f d mc ms Q (pc + 3) ls st sh M J kc ks) : x_X l G f d mc ms Q pc ls (.int (bI c) :: st) sh M J kc ks :=
  xr_if_eq hd ht (fun h => kt (fun hc => by rw [bI_t hc] at h; exact absurd h (by decide))) (fun h => kf (Decidable.byContradiction fun hc => h (bI_f hc)))
theorem xb_bne {c : Prop} [Decidable c] {off : Int} {tgt : Nat} (hd : decode f.2.1 pc = .ok (.ifCond .ne off, 3)) (ht : (pc : Int) + off = (tgt : Int)) (kt : c → x_X l G f d mc ms Q tgt ls st sh M J kc ks) (kf : ¬ c → x_X l G f d mc ms Q (pc + 3) ls st sh M J kc ks) : x_X l G f d mc ms Q pc ls (.int (bI c) :: st) sh M J kc ks :=
  xr_if_ne hd ht (fun h => kt (Decidable.byContradiction fun hc => h (bI_f hc))) (fun h => kf (fun hc => absurd h (by rw [bI_t hc]; decide)))
/-! calls with an exact end -/
theorem xb_cV {g : xF} {idx ci n a d' : Nat} {fs : List (Option (Option Nat))} {As rest : List Value} {r : Option Value} {sh' : List xS} {M' : xM} {J' : xJ} (mv : x_MV f.1.cls idx ci g n) (hg : x_M l G g d' 0 0 (.ref a :: As) sh M J (qE r sh' M' J')) (hd : decode f.2.1 pc = .ok (.invokevirtual idx, 3)) (hs : sh[a]? = some (.inl (ci, fs))) (hn : As.length = n) (hst : st = As.reverse ++ .ref a :: rest) (hcat : (rest.map fun v => v.category).sum ≤ 8) (hdd : d' + 1 ≤ d) (hkk : kc ≤ mc ∧ ks ≤ ms) (k : x_X l G f d mc ms Q (pc + 3) ls (r.toList ++ rest) sh' M' J' kc ks) : x_X l G f d mc ms Q pc ls st sh M J kc ks :=
  xr_callV mv hg hd hs hn hst hcat hdd hkk (fun v sh2 M2 J2 hq => by obtain ⟨rfl, rfl, rfl, rfl⟩ := hq; exact k)
theorem xb_cS {g : xF} {idx n d' : Nat} {As rest : List Value} {r : Option Value} {sh' : List xS} {M' : xM} {J' : xJ} (mv : x_MS f.1.cls idx g n) (hg : x_M l G g d' 0 0 As sh M J (qE r sh' M' J')) (hd : decode f.2.1 pc = .ok (.invokestatic idx, 3)) (hn : As.length = n) (hst : st = As.reverse ++ rest) (hcat : (rest.map fun v => v.category).sum ≤ 8) (hdd : d' + 1 ≤ d) (hkk : kc ≤ mc ∧ ks ≤ ms) (k : x_X l G f d mc ms Q (pc + 3) ls (r.toList ++ rest) sh' M' J' kc ks) : x_X l G f d mc ms Q pc ls st sh M J kc ks :=
  xr_callS mv hg hd hn hst hcat hdd hkk (fun v sh2 M2 J2 hq => by obtain ⟨rfl, rfl, rfl, rfl⟩ := hq; exact k)
theorem xb_cN {g : xF} {idx n d' : Nat} {As rest : List Value} {r : Option Value} {sh' : List xS} {M' : xM} {J' : xJ} (mv : x_MN f.1.cls idx g n) (hg : x_M l G g d' 0 0 As sh M J (qE r sh' M' J')) (hd : decode f.2.1 pc = .ok (.invokestatic idx, 3)) (hn : As.length = n) (hst : st = As.reverse ++ rest) (hcat : (rest.map fun v => v.category).sum ≤ 8) (hdd : d' + 1 ≤ d) (hkk : kc ≤ mc ∧ ks ≤ ms) (k : x_X l G f d mc ms Q (pc + 3) ls (r.toList ++ rest) sh' M' J' kc ks) : x_X l G f d mc ms Q pc ls st sh M J kc ks :=
  xr_callN mv hg hd hn hst hcat hdd hkk (fun v sh2 M2 J2 hq => by obtain ⟨rfl, rfl, rfl, rfl⟩ := hq; exact k)
/-! what is made, with its place and the new shapes named -/
theorem xb_new {idx ci N p kc2 ks2 : Nat} {fs : List (Option (Option Nat))} {sh2 : List xS} (nw : x_NW f.1.cls idx ci N fs) (hd : decode f.2.1 pc = .ok (.new idx, 3)) (hp : sh.length = p) (hn : p < x_N) (h0 : ∀ j, M p j = 0) (hsh : sh ++ [.inl (ci, fs)] = sh2) (e1 : kc + 1 = kc2) (e2 : ks + N = ks2) (h1 : kc2 ≤ mc) (h2 : ks2 ≤ ms) (k : x_X l G f d mc ms Q (pc + 3) ls (.ref p :: st) sh2 M J kc2 ks2) : x_X l G f d mc ms Q pc ls st sh M J kc ks := by
  subst hp; subst hsh; subst e1; subst e2
  exact xr_new nw hd hn h0 h1 h2 k
theorem xb_newI {t N p kc2 ks2 : Nat} {n : Int32} {atype : ArrayType} {sh2 : List xS} (ht : t < 2) (hty : newarray.typeOf atype = x_tyOf t) (hw : Cond.arrayClass (x_tyOf t) ∈ xU) (hd : decode f.2.1 pc = .ok (.newarray atype, 2)) (hn0 : ¬ n < 0) (hnN : n.toNatClampNeg = N) (hN : N ≤ 1000) (hp : sh.length = p) (hn : p < x_N) (h0 : ∀ j, M p j = 0) (hsh : sh ++ [.inr (t, N, fun _ => none)] = sh2) (e1 : kc + 1 = kc2) (e2 : ks + N = ks2) (h1 : kc2 ≤ mc) (h2 : ks2 ≤ ms) (k : x_X l G f d mc ms Q (pc + 2) ls (.ref p :: st) sh2 M J kc2 ks2) : x_X l G f d mc ms Q pc ls (.int n :: st) sh M J kc ks := by
  subst hp; subst hsh; subst e1; subst e2
  exact xr_newI ht hty hw hd hn0 hnN hN hn h0 h1 h2 k
theorem xb_newJ {N p kc2 ks2 : Nat} {n : Int32} {sh2 : List xS} (hw : Cond.arrayClass .long ∈ xU) (hd : decode f.2.1 pc = .ok (.newarray .long, 2)) (hn0 : ¬ n < 0) (hnN : n.toNatClampNeg = N) (hN : N ≤ 1000) (hp : sh.length = p) (hn : p < x_N) (h0 : ∀ j, J p j = 0) (hsh : sh ++ [.inr (2, N, fun _ => none)] = sh2) (e1 : kc + 1 = kc2) (e2 : ks + N = ks2) (h1 : kc2 ≤ mc) (h2 : ks2 ≤ ms) (k : x_X l G f d mc ms Q (pc + 2) ls (.ref p :: st) sh2 M J kc2 ks2) : x_X l G f d mc ms Q pc ls (.int n :: st) sh M J kc ks := by
  subst hp; subst hsh; subst e1; subst e2
  exact xr_newJ hw hd hn0 hnN hN hn h0 h1 h2 k
theorem xb_newq {t N p idx kc2 ks2 : Nat} {n : Int32} {C : String} {sh2 : List xS} (ht : (t = 3 ∧ C = RX2) ∨ (t = 4 ∧ C = RX6)) (hw : Cond.classLink f.1.cls idx C ∈ xU) (hd : decode f.2.1 pc = .ok (.anewarray idx, 3)) (hn0 : ¬ n < 0) (hnN : n.toNatClampNeg = N) (hN : N ≤ 1000) (hp : sh.length = p) (hn : p < x_N) (hsh : sh ++ [.inr (t, N, fun _ => none)] = sh2) (e1 : kc + 1 = kc2) (e2 : ks + N = ks2) (h1 : kc2 ≤ mc) (h2 : ks2 ≤ ms) (k : x_X l G f d mc ms Q (pc + 3) ls (.ref p :: st) sh2 M J kc2 ks2) : x_X l G f d mc ms Q pc ls (.int n :: st) sh M J kc ks := by
  subst hp; subst hsh; subst e1; subst e2
  exact xr_newq ht hw hd hn0 hnN hN hn h1 h2 k
theorem xb_putR {idx ci kf a q : Nat} {ty : FieldType} {o : Option (Option Nat)} {fs : List (Option (Option Nat))} {sh2 : List xS} (fl : x_FP f.1.cls idx ci kf true ty) (hfi : f.1.name = "<init>") (hd : decode f.2.1 pc = .ok (.putfield idx, 3)) (hs : sh[a]? = some (.inl (ci, fs))) (hk : fs[kf]? = some o) (hn : ∀ q, narrow ty (.ref q) = .ref q) (hf : ∀ q, fits ty (.ref q) = true) (hsh : sh.set a (.inl (ci, fs.set kf (some (some q)))) = sh2) (k : x_X l G f d mc ms Q (pc + 3) ls st sh2 M J kc ks) : x_X l G f d mc ms Q pc ls (.ref q :: .ref a :: st) sh M J kc ks := by
  subst hsh
  exact xr_putR fl hfi hd hs hk hn hf k
theorem xb_aast {a n t q ci j : Nat} {fs : List (Option (Option Nat))} {g : Nat → Option Nat} {sh2 : List xS} (ht : (t = 3 ∧ ci = 2) ∨ (t = 4 ∧ ci = 6)) (hd : decode f.2.1 pc = .ok (.aastore, 1)) (hs : sh[a]? = some (.inr (t, n, g))) (hq : sh[q]? = some (.inl (ci, fs))) (hj : j < n) (hn : n < 2 ^ 31) (hsh : sh.set a (.inr (t, n, va_up g j (some q))) = sh2) (k : x_X l G f d mc ms Q (pc + 1) ls st sh2 M J kc ks) : x_X l G f d mc ms Q pc ls (.ref q :: .int (nI j) :: .ref a :: st) sh M J kc ks := by
  subst hsh
  exact xr_aast ht hd hs hq (vp_in_nI hj hn) (by rw [nI_clamp (Nat.lt_trans hj hn)]; exact k)
theorem xb_cI {g : xF} {idx n a d' mc' ms' kc2 ks2 : Nat} {As rest : List Value} {sh' : List xS} {M' : xM} {J' : xJ} (mv : x_MI f.1.cls idx g n) (hg : x_M l G g d' mc' ms' (.ref a :: As) sh M J (qE none sh' M' J')) (hd : decode f.2.1 pc = .ok (.invokespecial idx, 3)) (hn : As.length = n) (hst : st = As.reverse ++ .ref a :: rest) (hcat : (rest.map fun v => v.category).sum ≤ 8) (hdd : d' + 1 ≤ d) (e1 : kc + mc' = kc2) (e2 : ks + ms' = ks2) (h1 : kc2 ≤ mc) (h2 : ks2 ≤ ms) (k : x_X l G f d mc ms Q (pc + 3) ls rest sh' M' J' kc2 ks2) : x_X l G f d mc ms Q pc ls st sh M J kc ks := by
  subst e1; subst e2
  exact xr_callI mv hg hd hn hst hcat hdd ⟨h1, h2⟩ (fun v sh2 M2 J2 hq => by obtain ⟨rfl, rfl, rfl, rfl⟩ := hq; exact k)
end XB
theorem x_cmp_lt {x y : Int64} : lg_cmp x y < 0 ↔ x < y := by
  unfold lg_cmp
  by_cases h : y < x
  · rw [if_pos h]; exact ⟨fun q => absurd q (by decide), fun q => absurd h (lg_lt_not q)⟩
  · rw [if_neg h]
    by_cases h2 : x = y
    · rw [if_pos h2]; subst h2; exact ⟨fun q => absurd q (by decide), fun q => absurd q h⟩
    · rw [if_neg h2]
      refine ⟨fun _ => ?_, fun _ => by decide⟩
      simp only [Int64.lt_iff_toInt_lt] at *
      have h3 : x.toInt ≠ y.toInt := fun q => h2 (Int64.toInt_inj.mp q)
      omega
theorem x_cmp_gt {x y : Int64} : 0 < lg_cmp x y ↔ y < x := by
  unfold lg_cmp
  by_cases h : y < x
  · rw [if_pos h]; exact ⟨fun _ => h, fun _ => by decide⟩
  · rw [if_neg h]
    by_cases h2 : x = y
    · rw [if_pos h2]; exact ⟨fun q => absurd q (by decide), fun q => absurd q h⟩
    · rw [if_neg h2]; exact ⟨fun q => absurd q (by decide), fun q => absurd q h⟩
theorem x_cmp_eq {x y : Int64} : lg_cmp x y = 0 ↔ x = y := by
  unfold lg_cmp
  by_cases h : y < x
  · rw [if_pos h]; exact ⟨fun q => absurd q (by decide), fun q => absurd h (by rw [q]; exact fun z => lg_lt_not z z)⟩
  · rw [if_neg h]
    by_cases h2 : x = y
    · rw [if_pos h2]; exact ⟨fun _ => h2, fun _ => rfl⟩
    · rw [if_neg h2]; exact ⟨fun q => absurd q (by decide), fun q => absurd q h2⟩
theorem x_i64_le (a b : Int32) : a.toInt64 ≤ b.toInt64 ↔ a ≤ b := by simp only [Int64.le_iff_toInt_le, Int32.le_iff_toInt_le, Int32.toInt_toInt64]
theorem x_nat {v K : Int32} {N : Nat} (hN : N < 2 ^ 31) (hK : nI N = K) (h : 0 ≤ v ∧ v < K) : ∃ j : Nat, j < N ∧ v = nI j := by
  subst hK
  rcases pk_ix v hN with q | q | q
  · exact absurd h.1 (by grind)
  · exact absurd h.2 (by grind)
  · exact q
theorem x_natle {v K : Int32} {N : Nat} (hN : N + 1 < 2 ^ 31) (hK : nI N = K) (h : 0 ≤ v ∧ v ≤ K) : ∃ j : Nat, j ≤ N ∧ v = nI j := by
  have h3 : K.toInt = (N : Int) := by rw [← hK]; exact nI_toInt (by omega)
  exact nI_of2 h3 (by grind) h.2
/-- the answer alone -/
def qR (r : Option Value) : xQ := fun v _ _ _ => v = r
theorem x_bI_c {c e : Prop} [Decidable c] [Decidable e] (h : c ↔ e) : bI c = bI e := by unfold bI; simp only [h]
section XL
variable {l : Launch} {G : xG} {f : xF} {d mc ms : Nat} {Q : xQ} {pc : Nat} {ls : List (Nat × Value)} {st : List Value} {sh : List xS} {M : xM} {J : xJ} {kc ks : Nat} {x y : Int64} {off : Int} {tgt : Nat}
theorem xl_lt (hd : decode f.2.1 pc = .ok (.ifCond .lt off, 3)) (ht : (pc : Int) + off = (tgt : Int)) (kt : x < y → x_X l G f d mc ms Q tgt ls st sh M J kc ks) (kf : ¬ x < y → x_X l G f d mc ms Q (pc + 3) ls st sh M J kc ks) : x_X l G f d mc ms Q pc ls (.int (lg_cmp x y) :: st) sh M J kc ks :=
  xr_if_lt hd ht (fun h => kt (x_cmp_lt.mp h)) (fun h => kf (fun q => h (x_cmp_lt.mpr q)))
theorem xl_ge (hd : decode f.2.1 pc = .ok (.ifCond .ge off, 3)) (ht : (pc : Int) + off = (tgt : Int)) (kt : ¬ x < y → x_X l G f d mc ms Q tgt ls st sh M J kc ks) (kf : x < y → x_X l G f d mc ms Q (pc + 3) ls st sh M J kc ks) : x_X l G f d mc ms Q pc ls (.int (lg_cmp x y) :: st) sh M J kc ks :=
  xr_if_ge hd ht (fun h => kt (fun q => by have := x_cmp_lt.mpr q; grind)) (fun h => kf (x_cmp_lt.mp (by grind)))
theorem xl_gt (hd : decode f.2.1 pc = .ok (.ifCond .gt off, 3)) (ht : (pc : Int) + off = (tgt : Int)) (kt : y < x → x_X l G f d mc ms Q tgt ls st sh M J kc ks) (kf : ¬ y < x → x_X l G f d mc ms Q (pc + 3) ls st sh M J kc ks) : x_X l G f d mc ms Q pc ls (.int (lg_cmp x y) :: st) sh M J kc ks :=
  xr_if_gt hd ht (fun h => kt (x_cmp_gt.mp h)) (fun h => kf (fun q => h (x_cmp_gt.mpr q)))
theorem xl_eq (hd : decode f.2.1 pc = .ok (.ifCond .eq off, 3)) (ht : (pc : Int) + off = (tgt : Int)) (kt : x = y → x_X l G f d mc ms Q tgt ls st sh M J kc ks) (kf : ¬ x = y → x_X l G f d mc ms Q (pc + 3) ls st sh M J kc ks) : x_X l G f d mc ms Q pc ls (.int (lg_cmp x y) :: st) sh M J kc ks :=
  xr_if_eq hd ht (fun h => kt (x_cmp_eq.mp h)) (fun h => kf (fun q => h (x_cmp_eq.mpr q)))
theorem xl_ne (hd : decode f.2.1 pc = .ok (.ifCond .ne off, 3)) (ht : (pc : Int) + off = (tgt : Int)) (kt : ¬ x = y → x_X l G f d mc ms Q tgt ls st sh M J kc ks) (kf : x = y → x_X l G f d mc ms Q (pc + 3) ls st sh M J kc ks) : x_X l G f d mc ms Q pc ls (.int (lg_cmp x y) :: st) sh M J kc ks :=
  xr_if_ne hd ht (fun h => kt (fun q => h (x_cmp_eq.mpr q))) (fun h => kf (x_cmp_eq.mp h))
end XL
def x_M0 : xM := fun _ _ => 0
def x_J0 : xJ := fun _ _ => 0
theorem pX0 : plainName RX0 = true ∧ RX0 ≠ RL := ⟨by decide +kernel, by decide +kernel⟩
theorem pX1 : plainName RX1 = true ∧ RX1 ≠ RL := ⟨by decide +kernel, by decide +kernel⟩
theorem pX2 : plainName RX2 = true ∧ RX2 ≠ RL := ⟨by decide +kernel, by decide +kernel⟩
theorem pX3 : plainName RX3 = true ∧ RX3 ≠ RL := ⟨by decide +kernel, by decide +kernel⟩
theorem pX4 : plainName RX4 = true ∧ RX4 ≠ RL := ⟨by decide +kernel, by decide +kernel⟩
theorem pX5 : plainName RX5 = true ∧ RX5 ≠ RL := ⟨by decide +kernel, by decide +kernel⟩
theorem pX6 : plainName RX6 = true ∧ RX6 ≠ RL := ⟨by decide +kernel, by decide +kernel⟩
theorem pX7 : plainName RX7 = true ∧ RX7 ≠ RL := ⟨by decide +kernel, by decide +kernel⟩
theorem pX8 : plainName RX8 = true ∧ RX8 ≠ RL := ⟨by decide +kernel, by decide +kernel⟩
theorem pX9 : plainName RX9 = true ∧ RX9 ≠ RL := ⟨by decide +kernel, by decide +kernel⟩
theorem pX10 : plainName RX10 = true ∧ RX10 ≠ RL := ⟨by decide +kernel, by decide +kernel⟩
theorem pJ6 : plainName RJ6 = true ∧ RJ6 ≠ RL := ⟨by decide +kernel, by decide +kernel⟩
