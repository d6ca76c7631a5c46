/-! a world as two functions (ints by place and index, longs by place and index) over a list of shapes; places are addresses from a base on -/
abbrev xS : Type := (Nat × List (Option (Option Nat))) ⊕ (Nat × Nat × (Nat → Option Nat))
abbrev xM : Type := Nat → Nat → Int32
abbrev xJ : Type := Nat → Nat → Int64
abbrev xQ : Type := Option Value → List xS → xM → xJ → Prop
abbrev xG : Type := va_G × (Nat → ClassId) × Nat × (Nat → Nat) × Nat × (Nat → Int32)
def x_ad (G : xG) (p : Nat) : Nat := if p < 1000 then G.2.2.1 + p else G.2.2.2.1 (p - 1000)
def x_rn (G : xG) : Value → Value
  | .ref p => .ref (x_ad G p)
  | v => v
def x_rl (G : xG) (q : Nat × Value) : Nat × Value := (q.1, x_rn G q.2)
def x_A (G : xG) : Nat → Prop := fun q => G.2.2.1 ≤ q
def x_row (M : xM) (p : Nat) (r : Nat → Int32) : xM := fun q => if q = p then r else M q
def x_up (M : xM) (p k : Nat) (v : Int32) : xM := x_row M p (upd (M p) k v)
def x_rowJ (J : xJ) (p : Nat) (r : Nat → Int64) : xJ := fun q => if q = p then r else J q
def x_upJ (J : xJ) (p k : Nat) (v : Int64) : xJ := x_rowJ J p (vp_updL (J p) k v)
def x_fs (G : xG) (M : xM) (p : Nat) (fs : List (Option (Option Nat))) : List Value :=
  fs.mapIdx fun k o => match o with
    | none => .int (M p k)
    | some r => va_rf (r.map (x_ad G))
def x_e (G : xG) (M : xM) (J : xJ) (p : Nat) (e : xS) : va_E := match e with
  | .inl (ci, fs) => .inr (ci, x_fs G M p fs)
  | .inr (t, n, f) => .inl (G.2.1 t, n, if t < 2 then .inl (M p) else if t = 2 then .inr (.inl (J p)) else .inr (.inr (.inr (.inr (fun i => (f i).map (x_ad G))))))
def x_w (G : xG) (sh : List xS) (M : xM) (J : xJ) : va_W := sh.mapIdx fun p e => (x_ad G p, x_e G M J p e)
/-- how many cells stand when both objects are made -/
def x_N : Nat := 87
def x_R (G : xG) (sh : List xS) (M : xM) (J : xJ) (H : Heap) : Prop := va_P G.1 vwCl (x_w G sh M J) H ∧ (sh.length < x_N → H.size = G.2.2.1 + sh.length) ∧ sh.length ≤ 900
def x_ty (G : xG) : List (ClassId × FieldType) := [(G.2.1 0, .int), (G.2.1 1, .boolean), (G.2.1 2, .long), (G.2.1 3, .object RX2), (G.2.1 4, .object RX6)]
def x_tyOf : Nat → FieldType
  | 0 => .int
  | 1 => .boolean
  | 2 => .long
  | 3 => .object RX2
  | _ => .object RX6
def x_K (G : xG) (U : State) : Prop := va_K G.1 vwCl (x_ty G) U
def x_above : List Int32 := [-1, 0, 0, 2, 1, 3, 0, 4]
def x_own : List Int32 := [1, 10, 11, 2, 20, 0, 0, 0, 0, 30, 0, 0, 0, 41, 40, 0, 0, 0, 50, 0, 0, 0, 0, 60, 70, 0, 0, 0, 0, 80, 0, 81]
def x_St (G : xG) (U : State) (H : Heap) : Prop :=
  va_Z RX8 "ABOVE" "[I" (.ref (G.2.2.2.1 0)) (x_A G) U H ∧ va_T .int (G.2.2.2.1 0) 8 (fun j => .int (x_above.getD j 0)) (x_A G) U H ∧
  va_Z RX8 "OWN" "[I" (.ref (G.2.2.2.1 1)) (x_A G) U H ∧ va_T .int (G.2.2.2.1 1) 32 (fun j => .int (x_own.getD j 0)) (x_A G) U H
/-- what the tables say of nest mates and of arrays of objects -/
def x_Ex (U : State) : Prop := va_AO RX2 U ∧ va_AO RX6 U ∧ ∀ q ∈ x_nests, va_Nw (.methodLinkNest q.1 q.2.1 q.2.2.1 q.2.2.2) U
def xU : List Cond := lw_tbl.filter goodWord
theorem x_good {y : MethodName} {b : ByteArray} {n : Nat} {r : Option FieldType} (h : Cond.code y b n r ∈ xU) : GoodIn xU (Cond.code y b n r :: xU) := by
  intro w hw
  have hw2 : w ∈ xU := by
    rcases List.mem_cons.mp hw with e | e
    · rw [e]; exact h
    · exact e
  exact ⟨hw2, good_of_word (List.mem_filter.mp hw2).2⟩
theorem x_mem {w : Cond} {t : List Cond} (i : Nat) (ht : ∀ w ∈ t, w ∈ lw_tbl) (hi : t[i]? = some w) (hg : goodWord w = true) : w ∈ xU := List.mem_filter.mpr ⟨ht w (List.mem_of_getElem? hi), hg⟩
/-! what holds at every point of a method's body -/
def x_C (G : xG) (f : xF) (d mc ms : Nat) (p : Program) (R : Room) (s : State) (m : MethodId) (args : Array Value) (meth : Method) (c : Code) : Prop :=
  p.tables.exec = Jvm.exec ∧ c.code = f.2.1 ∧ c.maxLocals = f.2.2.1 ∧ meth.sig.returnType = f.2.2.2 ∧ s.vm.findClass f.1.cls = some m.cls ∧ (∀ w ∈ xU, w.before args s = true) ∧ x_K G s ∧ (x_St G s s.heap ∧ x_Ex s) ∧
  (d ≤ R.frames ∧ 40 * d ≤ R.locals ∧ mc = R.cells ∧ ms = R.slots) ∧ G.2.2.1 ≤ s.heap.size ∧ (f.1.name = "<init>" → meth.name = "<init>") ∧
  (f.1.cls = RL → va_X (G.2.2.2.1 2) G.2.2.2.2.1 G.2.2.2.2.2 s s.heap ∧ G.2.2.2.1 2 < s.heap.size ∧ ¬ x_A G (G.2.2.2.1 2))
/-- how a method may end -/
def x_rop (f : xF) (pc : Nat) (v : Option Value) : Prop :=
  (f.2.2.2 = none ∧ v = none ∧ decode f.2.1 pc = .ok (.return_, 1)) ∨ (∃ ty x, f.2.2.2 = some ty ∧ v = some (.int x) ∧ narrow ty (.int x) = .int x ∧ decode f.2.1 pc = .ok (.ireturn, 1)) ∨
  (∃ x, f.2.2.2 = some .long ∧ v = some (.long x) ∧ decode f.2.1 pc = .ok (.lreturn, 1)) ∨ (∃ C a, f.2.2.2 = some (.object C) ∧ v = some (.ref a) ∧ decode f.2.1 pc = .ok (.areturn, 1))
def x_ret (l : Launch) (G : xG) (f : xF) (mc ms : Nat) (Q : xQ) (p : Program) (e : Env) (R : Room) (s : State) (m : MethodId) (args : Array Value) (below : List Frame) (meth : Method) (c : Code) (WQ : State → Prop) : Prop :=
  ∀ (v : Option Value) (sh : List xS) (M : xM) (J : xJ) (H : Heap) (locs : List Loc) (kc ks pc : Nat) (arr : Array Slot), Q v sh M J → kc ≤ mc → ks ≤ ms → x_R G sh M J H → va_S (x_A G) s.heap H locs → x_rop f pc v →
    W p l e R s m args below meth c H locs kc ks WQ (F0 m pc arr (v.map (x_rn G)).toList)
/-- from here on the method's body comes to its end with Q -/
def x_X (l : Launch) (G : xG) (f : xF) (d mc ms : Nat) (Q : xQ) (pc : Nat) (ls : List (Nat × Value)) (st : List Value) (sh : List xS) (M : xM) (J : xJ) (kc ks : Nat) : Prop :=
  ∀ (p : Program) (e : Env) (R : Room) (s : State) (m : MethodId) (args : Array Value) (below : List Frame) (meth : Method) (c : Code) (H : Heap) (locs : List Loc) (WQ : State → Prop) (arr : Array Slot),
    x_C G f d mc ms p R s m args meth c → x_ret l G f mc ms Q p e R s m args below meth c WQ → x_R G sh M J H → va_S (x_A G) s.heap H locs → kc ≤ mc → ks ≤ ms → lv_has arr f.2.2.1 (ls.map (x_rl G)) →
    W p l e R s m args below meth c H locs kc ks WQ (F0 m pc arr (st.map (x_rn G)))
def x_rm (d mc ms : Nat) : Room := { frames := d, cells := mc, slots := ms, locals := 40 * d }
def x_Pre (G : xG) (sh : List xS) (M : xM) (J : xJ) (U : State) : Prop := x_R G sh M J U.heap ∧ x_K G U ∧ x_St G U U.heap ∧ x_Ex U
def x_Post (G : xG) (Q : xQ) : Array Value → State → Outcome → State → Prop := fun _ st oc t =>
  (∃ (v : Option Value) (sh : List xS) (M : xM) (J : xJ), oc = .returned (v.map (x_rn G)) ∧ Q v sh M J ∧ x_R G sh M J t.heap) ∧ va_F (x_A G) st t
/-- a method's contract -/
def x_M (l : Launch) (G : xG) (f : xF) (d mc ms : Nat) (args : List Value) (sh : List xS) (M : xM) (J : xJ) (Q : xQ) : Prop :=
  Met l f.1 (Cond.code f.1 f.2.1 f.2.2.1 f.2.2.2 :: xU) (x_rm d mc ms) (va_Pc (args.map (x_rn G)) (x_Pre G sh M J)) (x_Post G Q) mc ms (x_A G)
/-! worlds -/
theorem x_rn_cat (G : xG) (v : Value) : (x_rn G v).category = v.category := by cases v <;> rfl
theorem x_row_s (M : xM) (p : Nat) (r : Nat → Int32) : x_row M p r p = r := if_pos rfl
theorem x_row_n (M : xM) {p q : Nat} (r : Nat → Int32) (h : q ≠ p) : x_row M p r q = M q := if_neg h
theorem x_rowJ_s (J : xJ) (p : Nat) (r : Nat → Int64) : x_rowJ J p r p = r := if_pos rfl
theorem x_rowJ_n (J : xJ) {p q : Nat} (r : Nat → Int64) (h : q ≠ p) : x_rowJ J p r q = J q := if_neg h
theorem x_up_r (M : xM) (p k : Nat) (v : Int32) : x_up M p k v p = upd (M p) k v := if_pos rfl
theorem x_up_n (M : xM) {p q : Nat} (k : Nat) (v : Int32) (h : q ≠ p) : x_up M p k v q = M q := if_neg h
theorem x_up_s (M : xM) (p k : Nat) (v : Int32) : x_up M p k v p k = v := by rw [x_up_r]; exact if_pos rfl
theorem x_up_k (M : xM) (p : Nat) {k j : Nat} (v : Int32) (h : j ≠ k) : x_up M p k v p j = M p j := by rw [x_up_r]; exact if_neg h
theorem x_upJ_r (J : xJ) (p k : Nat) (v : Int64) : x_upJ J p k v p = vp_updL (J p) k v := if_pos rfl
theorem x_upJ_n (J : xJ) {p q : Nat} (k : Nat) (v : Int64) (h : q ≠ p) : x_upJ J p k v q = J q := if_neg h
theorem x_w_get {G : xG} {sh : List xS} {M : xM} {J : xJ} {p : Nat} {e : xS} (h : sh[p]? = some e) : (x_w G sh M J)[p]? = some (x_ad G p, x_e G M J p e) := by
  simp [x_w, List.getElem?_mapIdx, h]
theorem x_w_of {G : xG} {sh : List xS} {M : xM} {J : xJ} {p : Nat} {q : Nat × va_E} (h : (x_w G sh M J)[p]? = some q) : p < sh.length ∧ q.1 = x_ad G p := by
  rw [x_w, List.getElem?_mapIdx] at h
  cases hp : sh[p]? with
  | none => rw [hp] at h; cases h
  | some e =>
    rw [hp] at h
    cases h
    exact ⟨(List.getElem?_eq_some_iff.mp hp).1, rfl⟩
theorem x_fs_get {G : xG} {M : xM} {p k : Nat} {fs : List (Option (Option Nat))} (h : fs[k]? = some none) : (x_fs G M p fs)[k]? = some (.int (M p k)) := by
  simp [x_fs, List.getElem?_mapIdx, h]
theorem x_fs_getR {G : xG} {M : xM} {p k : Nat} {fs : List (Option (Option Nat))} {r : Option Nat} (h : fs[k]? = some (some r)) : (x_fs G M p fs)[k]? = some (va_rf (r.map (x_ad G))) := by
  simp [x_fs, List.getElem?_mapIdx, h]
theorem x_fs_len {G : xG} {M : xM} {p : Nat} {fs : List (Option (Option Nat))} : (x_fs G M p fs).length = fs.length := by simp [x_fs]
theorem x_fs_set {G : xG} {M : xM} {p k : Nat} {v : Int32} {fs : List (Option (Option Nat))} (h : fs[k]? = some none) : (x_fs G M p fs).set k (.int v) = x_fs G (x_up M p k v) p fs := by
  apply List.ext_getElem?
  intro j
  by_cases hj : j = k
  · subst hj
    rw [List.getElem?_set_self (by rw [x_fs_len]; exact (List.getElem?_eq_some_iff.mp h).1), x_fs_get h, x_up_s]
  · rw [List.getElem?_set_ne (Ne.symm hj)]
    simp only [x_fs, List.getElem?_mapIdx]
    cases fs[j]? with
    | none => rfl
    | some o =>
      cases o with
      | none => simp only [Option.map_some]; rw [x_up_k _ _ _ hj]
      | some r => rfl
theorem x_fs_setR {G : xG} {M : xM} {p k : Nat} {a : Nat} {o : Option (Option Nat)} {fs : List (Option (Option Nat))} (h : fs[k]? = some o) : (x_fs G M p fs).set k (.ref (x_ad G a)) = x_fs G M p (fs.set k (some (some a))) := by
  have hl := (List.getElem?_eq_some_iff.mp h).1
  apply List.ext_getElem?
  intro j
  by_cases hj : j = k
  · subst hj
    rw [List.getElem?_set_self (by rw [x_fs_len]; exact hl), x_fs_getR (r := some a) (List.getElem?_set_self hl)]
    rfl
  · rw [List.getElem?_set_ne (Ne.symm hj)]
    simp only [x_fs, List.getElem?_mapIdx]
    rw [List.getElem?_set_ne (Ne.symm hj)]
theorem x_e_congr {G : xG} {M M' : xM} {J J' : xJ} {p : Nat} (e : xS) (h : M' p = M p) (h2 : J' p = J p) : x_e G M' J' p e = x_e G M J p e := by
  cases e with
  | inl o => simp only [x_e, x_fs, h]
  | inr o => simp only [x_e, h, h2]
theorem x_w_set {G : xG} {sh : List xS} {M M' : xM} {J J' : xJ} {p : Nat} {e : xS} (e' : xS) (hp : sh[p]? = some e) (hM : ∀ i, i ≠ p → M' i = M i) (hJ : ∀ i, i ≠ p → J' i = J i) :
    (x_w G sh M J).set p (x_ad G p, x_e G M' J' p e') = x_w G (sh.set p e') M' J' := by
  have hl := (List.getElem?_eq_some_iff.mp hp).1
  apply List.ext_getElem?
  intro i
  by_cases hi : i = p
  · subst hi
    rw [List.getElem?_set_self (by simp [x_w]; exact hl), x_w_get (e := e') (List.getElem?_set_self hl)]
  · rw [List.getElem?_set_ne (Ne.symm hi)]
    simp only [x_w, List.getElem?_mapIdx]
    rw [List.getElem?_set_ne (Ne.symm hi)]
    cases sh[i]? with
    | none => rfl
    | some e2 => simp only [Option.map_some]; rw [x_e_congr (G := G) e2 (hM i hi) (hJ i hi)]
theorem x_sh_set {sh : List xS} {p : Nat} {e : xS} (hp : sh[p]? = some e) : sh.set p e = sh := by
  apply List.ext_getElem?
  intro i
  by_cases hi : i = p
  · subst hi
    rw [List.getElem?_set_self (List.getElem?_eq_some_iff.mp hp).1, hp]
  · rw [List.getElem?_set_ne (Ne.symm hi)]
theorem x_w_push {G : xG} {sh : List xS} {M : xM} {J : xJ} (e : xS) : x_w G sh M J ++ [(x_ad G sh.length, x_e G M J sh.length e)] = x_w G (sh ++ [e]) M J := by
  simp [x_w, List.mapIdx_append]
theorem x_ad_lo {G : xG} {p : Nat} (h : p < 1000) : x_ad G p = G.2.2.1 + p := if_pos h
theorem x_D {G : xG} {sh : List xS} {M : xM} {J : xJ} (h : sh.length ≤ 900) : va_D (x_A G) (x_w G sh M J) := by
  refine ⟨fun i j p q hi hj e => ?_, fun k q hk => ?_⟩
  · obtain ⟨h1, h2⟩ := x_w_of hi
    obtain ⟨h3, h4⟩ := x_w_of hj
    rw [h2, h4, x_ad_lo (by omega), x_ad_lo (by omega)] at e
    omega
  · obtain ⟨h1, h2⟩ := x_w_of hk
    rw [h2, x_ad_lo (by omega)]
    exact Nat.le_add_right _ _
theorem x_St.moved {G : xG} {u U : State} {H : Heap} (hvm : u.vm.Alike U.vm) (h : x_St G u H) : x_St G U H := ⟨h.1.moved hvm, h.2.1.moved hvm, h.2.2.1.moved hvm, h.2.2.2.moved hvm⟩
theorem x_St.kept {G : xG} {U : State} {H H1 : Heap} (h : x_St G U H) (hq : ∀ a : Nat, a < H.size → ¬ x_A G a → H1[a]? = H[a]?) : x_St G U H1 := ⟨h.1.kept hq, h.2.1.kept hq, h.2.2.1.kept hq, h.2.2.2.kept hq⟩
theorem x_Ex.moved {u U : State} (hW : u.WarmedH U.vm) (h : x_Ex u) : x_Ex U := ⟨va_AO.moved hW.alike h.1, va_AO.moved hW.alike h.2.1, fun q hq => va_Nw.warmM hW (h.2.2 q hq)⟩
theorem x_args (G : xG) : ∀ (vs : List Value) (i : Nat), lv_args i (vs.map (x_rn G)) = (lv_args i vs).map (x_rl G)
  | [], _ => rfl
  | v :: vs, i => by
    simp only [List.map_cons, lv_args, x_rn_cat]
    rw [x_args G vs]
    rfl
theorem x_sl (G : xG) : ∀ (vs : List Value), (lg_sl (vs.map (x_rn G))).length = (lg_sl vs).length
  | [] => rfl
  | v :: vs => by
    have ih := x_sl G vs
    simp only [lg_sl, List.map_cons, List.flatMap_cons, List.length_append] at ih ⊢
    rw [ih]
    congr 1
    rw [x_rn_cat]
    by_cases h : v.category = 2 <;> simp [h]
/-! links -/
def x_FL (own : String) (idx ci k : Nat) : Prop := ∃ (C : String) (T : u_T) (N : Nat), vwCl[ci]? = some (C, T, N) ∧ k < N ∧ (∀ w ∈ u_ws C T N, w ∈ xU) ∧ Cond.fieldLink own idx (T k).1 (T k).2.1 (T k).2.2.1 ∈ xU
def x_FP (own : String) (idx ci k : Nat) (fin : Bool) (ty : FieldType) : Prop := ∃ (C : String) (T : u_T) (N : Nat) (ty0 : Nat → FieldType), vwCl[ci]? = some (C, T, N) ∧ k < N ∧ (∀ w ∈ u_ws C T N, w ∈ xU) ∧ Cond.fieldLink own idx (T k).1 (T k).2.1 (T k).2.2.1 ∈ xU ∧
  (∀ k, k < N → parseFieldDescriptor (T k).2.2.1 = some (ty0 k)) ∧ (∀ a, a < N → ∀ b, b < N → a ≠ b → (T a).2.1 ≠ (T b).2.1) ∧ (T k).2.2.2 = fin ∧ parseFieldDescriptor (T k).2.2.1 = some ty ∧ (fin = true → (T k).1 = own)
def x_ok (g : xF) (n : Nat) : Prop := g.1.cls ≠ "java/lang/invoke/MethodHandle" ∧ g.1.cls ≠ "java/lang/invoke/VarHandle" ∧ (parseMethodDescriptor g.1.desc).map (fun d => d.parameters.length) = some n ∧ g.2.2.1 ≤ 21 ∧
  Cond.initialized g.1.cls ∈ xU ∧ Cond.code g.1 g.2.1 g.2.2.1 g.2.2.2 ∈ xU
def x_MV (own : String) (idx ci : Nat) (g : xF) (n : Nat) : Prop := x_ok g n ∧ (∃ (T : u_T) (N : Nat), vwCl[ci]? = some (g.1.cls, T, N)) ∧ Cond.methodLink own idx g.1 ∈ xU ∧ Cond.instanceMethod g.1 ∈ xU ∧ Cond.selects g.1.cls g.1 g.1 ∈ xU
def x_MS (own : String) (idx : Nat) (g : xF) (n : Nat) : Prop := x_ok g n ∧ Cond.methodLink own idx g.1 ∈ xU ∧ Cond.static g.1 ∈ xU
def x_MN (own : String) (idx : Nat) (g : xF) (n : Nat) : Prop := x_ok g n ∧ (∃ host, (own, idx, g.1, host) ∈ x_nests) ∧ Cond.static g.1 ∈ xU
def x_MI (own : String) (idx : Nat) (g : xF) (n : Nat) : Prop := x_ok g n ∧ Cond.methodLink own idx g.1 ∈ xU ∧ Cond.instanceMethod g.1 ∈ xU ∧ g.1.name = "<init>" ∧ g.2.2.2 = none
