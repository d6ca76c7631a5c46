/-! the law's code by rows of 32 bytes -/
def lcB (c : ByteArray) (i : Nat) : Option Nat := (c.data.toList[i]?).map UInt8.toNat
theorem lcB_u1 {c : ByteArray} {p b : Nat} (h : lcB c p = some b) : (Reader.u1 : Decoder Nat) c p = Except.ok (b, p + 1) := by
  unfold lcB at h
  obtain ⟨v, hv, e⟩ := Option.map_eq_some_iff.mp h
  obtain ⟨hp, e2⟩ := List.getElem?_eq_some_iff.mp hv
  have hs : p < c.size := by rw [Array.length_toList] at hp; exact hp
  have e3 : c[p] = v := by
    show c.data[p] = v
    rw [← Array.getElem_toList]; exact e2
  show (dite (p < c.size) (fun h => (do set (p + 1); pure (c[p]'h).toNat : Decoder Nat)) (fun _ => throw (HasTruncated.truncated p)) : Decoder Nat) c p = _
  rw [dif_pos hs, e3, e]
  rfl
theorem lcB_u2 {c : ByteArray} {p a b : Nat} (h : lcB c p = some a) (h2 : lcB c (p + 1) = some b) : (Reader.u2 : Decoder Nat) c p = Except.ok (a * 256 + b, p + 2) := by
  show Except.bind ((Reader.u1 : Decoder Nat) c p) (fun q => Except.bind ((Reader.u1 : Decoder Nat) c q.2) (fun q2 => Except.ok (q.1 * 256 + q2.1, q2.2))) = _
  rw [lcB_u1 h]
  show Except.bind ((Reader.u1 : Decoder Nat) c (p + 1)) (fun q2 => Except.ok (a * 256 + q2.1, q2.2)) = _
  rw [lcB_u1 h2]
  rfl
theorem lcD {c : ByteArray} {pc b : Nat} {f : Nat × Nat → Except DecodeError (Instr × Nat)} {g : Instr × Nat → Except DecodeError (Instr × Nat)} {r : Except DecodeError (Instr × Nat)} (h : lcB c pc = some b) (hd : decode c pc = Except.bind (Except.bind ((Reader.u1 : Decoder Nat) c pc) f) g) (hr : Except.bind (f (b, pc + 1)) g = r) : decode c pc = r := by
  rw [hd, lcB_u1 h]; exact hr
theorem lcF_get {t : List UInt8} : ∀ {cs : List (List UInt8)} (_ : ∀ c ∈ cs, c.length = 32) (i : Nat) (b : UInt8), (cs[i / 32]?.bind (fun c => c[i % 32]?)) = some b → (cs.flatten ++ t)[i]? = some b
  | [], _, i, b, h => by rw [List.getElem?_nil] at h; cases (show (none : Option UInt8) = some b from h)
  | c :: cs, hl, i, b, h => by
    have hc : c.length = 32 := hl c (List.mem_cons_self ..)
    rw [List.flatten_cons, List.append_assoc]
    by_cases q : i < 32
    · rw [List.getElem?_append_left (by omega)]
      rw [show i / 32 = 0 by omega, show i % 32 = i by omega] at h
      exact h
    · rw [List.getElem?_append_right (by omega), hc]
      rw [show i / 32 = (i - 32) / 32 + 1 by omega, show i % 32 = (i - 32) % 32 by omega] at h
      exact lcF_get (fun d hd => hl d (List.mem_cons_of_mem _ hd)) (i - 32) b h

def lwc0 : List UInt8 := [187, 0, 7, 89, 183, 0, 9, 76, 187, 0, 10, 89, 183, 0, 12, 77, 3, 62, 29, 42, 190, 16, 6, 100, 163, 5, 204, 42, 29, 46, 16, 63]
def lwc1 : List UInt8 := [126, 170, 0, 0, 0, 0, 5, 189, 0, 0, 0, 0, 0, 0, 0, 41, 0, 0, 0, 183, 0, 0, 0, 206, 0, 0, 0, 249, 0, 0, 1, 36]
def lwc2 : List UInt8 := [0, 0, 1, 69, 0, 0, 1, 92, 0, 0, 1, 105, 0, 0, 1, 128, 0, 0, 1, 151, 0, 0, 1, 174, 0, 0, 1, 217, 0, 0, 1, 240]
def lwc3 : List UInt8 := [0, 0, 1, 253, 0, 0, 2, 20, 0, 0, 2, 43, 0, 0, 2, 76, 0, 0, 2, 99, 0, 0, 2, 132, 0, 0, 2, 155, 0, 0, 2, 178]
def lwc4 : List UInt8 := [0, 0, 2, 211, 0, 0, 2, 254, 0, 0, 3, 31, 0, 0, 3, 74, 0, 0, 3, 117, 0, 0, 3, 150, 0, 0, 3, 193, 0, 0, 3, 226]
def lwc5 : List UInt8 := [0, 0, 4, 3, 0, 0, 4, 16, 0, 0, 4, 29, 0, 0, 4, 42, 0, 0, 4, 55, 0, 0, 4, 78, 0, 0, 4, 121, 0, 0, 4, 144]
def lwc6 : List UInt8 := [0, 0, 4, 177, 0, 0, 4, 220, 0, 0, 5, 37, 0, 0, 5, 70, 0, 0, 5, 133, 0, 0, 5, 166, 43, 42, 29, 4, 96, 46, 182, 0]
def lwc7 : List UInt8 := [13, 87, 44, 42, 29, 4, 96, 46, 182, 0, 17, 87, 167, 4, 242, 43, 42, 29, 4, 96, 46, 42, 29, 5, 96, 46, 42, 29, 6, 96, 46, 182]
def lwc8 : List UInt8 := [0, 18, 87, 44, 42, 29, 4, 96, 46, 42, 29, 5, 96, 46, 42, 29, 6, 96, 46, 182, 0, 22, 87, 167, 4, 199, 43, 42, 29, 4, 96, 46]
def lwc9 : List UInt8 := [42, 29, 5, 96, 46, 42, 29, 6, 96, 46, 182, 0, 23, 87, 44, 42, 29, 4, 96, 46, 42, 29, 5, 96, 46, 42, 29, 6, 96, 46, 182, 0]
def lwc10 : List UInt8 := [26, 87, 167, 4, 156, 43, 42, 29, 4, 96, 46, 42, 29, 5, 96, 46, 182, 0, 27, 87, 44, 42, 29, 4, 96, 46, 42, 29, 5, 96, 46, 182]
def lwc11 : List UInt8 := [0, 31, 87, 167, 4, 123, 43, 42, 29, 4, 96, 46, 182, 0, 32, 87, 44, 42, 29, 4, 96, 46, 182, 0, 35, 87, 167, 4, 100, 43, 182, 0]
def lwc12 : List UInt8 := [36, 87, 44, 182, 0, 40, 87, 167, 4, 87, 43, 42, 29, 4, 96, 46, 182, 0, 41, 87, 44, 42, 29, 4, 96, 46, 182, 0, 44, 87, 167, 4]
def lwc13 : List UInt8 := [64, 43, 42, 29, 4, 96, 46, 182, 0, 45, 87, 44, 42, 29, 4, 96, 46, 182, 0, 48, 87, 167, 4, 41, 43, 42, 29, 4, 96, 46, 182, 0]
def lwc14 : List UInt8 := [49, 87, 44, 42, 29, 4, 96, 46, 182, 0, 52, 87, 167, 4, 18, 43, 42, 29, 4, 96, 46, 42, 29, 5, 96, 46, 42, 29, 6, 96, 46, 182]
def lwc15 : List UInt8 := [0, 53, 87, 44, 42, 29, 4, 96, 46, 42, 29, 5, 96, 46, 42, 29, 6, 96, 46, 182, 0, 56, 87, 167, 3, 231, 43, 42, 29, 4, 96, 46]
def lwc16 : List UInt8 := [182, 0, 57, 87, 44, 42, 29, 4, 96, 46, 182, 0, 60, 87, 167, 3, 208, 43, 182, 0, 61, 87, 44, 182, 0, 64, 87, 167, 3, 195, 43, 42]
def lwc17 : List UInt8 := [29, 4, 96, 46, 182, 0, 65, 87, 44, 42, 29, 4, 96, 46, 182, 0, 68, 87, 167, 3, 172, 43, 42, 29, 4, 96, 46, 182, 0, 69, 87, 44]
def lwc18 : List UInt8 := [42, 29, 4, 96, 46, 182, 0, 72, 87, 167, 3, 149, 43, 42, 29, 4, 96, 46, 42, 29, 5, 96, 46, 182, 0, 73, 87, 44, 42, 29, 4, 96]
def lwc19 : List UInt8 := [46, 42, 29, 5, 96, 46, 182, 0, 76, 87, 167, 3, 116, 43, 42, 29, 4, 96, 46, 182, 0, 77, 87, 44, 42, 29, 4, 96, 46, 182, 0, 80]
def lwc20 : List UInt8 := [87, 167, 3, 93, 43, 42, 29, 4, 96, 46, 42, 29, 5, 96, 46, 182, 0, 81, 87, 44, 42, 29, 4, 96, 46, 42, 29, 5, 96, 46, 182, 0]
def lwc21 : List UInt8 := [84, 87, 167, 3, 60, 43, 42, 29, 4, 96, 46, 182, 0, 85, 87, 44, 42, 29, 4, 96, 46, 182, 0, 88, 87, 167, 3, 37, 43, 42, 29, 4]
def lwc22 : List UInt8 := [96, 46, 182, 0, 89, 87, 44, 42, 29, 4, 96, 46, 182, 0, 92, 87, 167, 3, 14, 43, 42, 29, 4, 96, 46, 42, 29, 5, 96, 46, 182, 0]
def lwc23 : List UInt8 := [93, 87, 44, 42, 29, 4, 96, 46, 42, 29, 5, 96, 46, 182, 0, 96, 87, 167, 2, 237, 43, 42, 29, 4, 96, 46, 42, 29, 5, 96, 46, 42]
def lwc24 : List UInt8 := [29, 6, 96, 46, 182, 0, 97, 87, 44, 42, 29, 4, 96, 46, 42, 29, 5, 96, 46, 42, 29, 6, 96, 46, 182, 0, 100, 87, 167, 2, 194, 43]
def lwc25 : List UInt8 := [42, 29, 4, 96, 46, 42, 29, 5, 96, 46, 182, 0, 101, 87, 44, 42, 29, 4, 96, 46, 42, 29, 5, 96, 46, 182, 0, 104, 87, 167, 2, 161]
def lwc26 : List UInt8 := [43, 42, 29, 4, 96, 46, 42, 29, 5, 96, 46, 42, 29, 6, 96, 46, 182, 0, 105, 87, 44, 42, 29, 4, 96, 46, 42, 29, 5, 96, 46, 42]
def lwc27 : List UInt8 := [29, 6, 96, 46, 182, 0, 108, 87, 167, 2, 118, 43, 42, 29, 4, 96, 46, 42, 29, 5, 96, 46, 42, 29, 6, 96, 46, 182, 0, 109, 87, 44]
def lwc28 : List UInt8 := [42, 29, 4, 96, 46, 42, 29, 5, 96, 46, 42, 29, 6, 96, 46, 182, 0, 112, 87, 167, 2, 75, 43, 42, 29, 4, 96, 46, 42, 29, 5, 96]
def lwc29 : List UInt8 := [46, 182, 0, 113, 44, 42, 29, 4, 96, 46, 42, 29, 5, 96, 46, 182, 0, 116, 159, 2, 44, 3, 172, 43, 42, 29, 4, 96, 46, 42, 29, 5]
def lwc30 : List UInt8 := [96, 46, 42, 29, 6, 96, 46, 182, 0, 117, 88, 44, 42, 29, 4, 96, 46, 42, 29, 5, 96, 46, 42, 29, 6, 96, 46, 182, 0, 121, 88, 167]
def lwc31 : List UInt8 := [1, 255, 43, 42, 29, 4, 96, 46, 42, 29, 5, 96, 46, 182, 0, 122, 87, 44, 42, 29, 4, 96, 46, 42, 29, 5, 96, 46, 182, 0, 125, 87]
def lwc32 : List UInt8 := [167, 1, 222, 43, 42, 29, 4, 96, 46, 42, 29, 5, 96, 46, 182, 0, 126, 87, 44, 42, 29, 4, 96, 46, 42, 29, 5, 96, 46, 182, 0, 129]
def lwc33 : List UInt8 := [87, 167, 1, 189, 43, 182, 0, 130, 87, 44, 182, 0, 133, 87, 167, 1, 176, 43, 182, 0, 134, 87, 44, 182, 0, 137, 87, 167, 1, 163, 43, 182]
def lwc34 : List UInt8 := [0, 138, 87, 44, 182, 0, 141, 87, 167, 1, 150, 43, 182, 0, 142, 87, 44, 182, 0, 145, 87, 167, 1, 137, 43, 42, 29, 4, 96, 46, 182, 0]
def lwc35 : List UInt8 := [146, 87, 44, 42, 29, 4, 96, 46, 182, 0, 149, 87, 167, 1, 114, 43, 42, 29, 4, 96, 46, 42, 29, 5, 96, 46, 42, 29, 6, 96, 46, 182]
def lwc36 : List UInt8 := [0, 150, 87, 44, 42, 29, 4, 96, 46, 42, 29, 5, 96, 46, 42, 29, 6, 96, 46, 182, 0, 153, 87, 167, 1, 71, 43, 42, 29, 4, 96, 46]
def lwc37 : List UInt8 := [182, 0, 154, 87, 44, 42, 29, 4, 96, 46, 182, 0, 157, 87, 167, 1, 48, 43, 42, 29, 4, 96, 46, 42, 29, 5, 96, 46, 182, 0, 158, 87]
def lwc38 : List UInt8 := [44, 42, 29, 4, 96, 46, 42, 29, 5, 96, 46, 182, 0, 161, 87, 167, 1, 15, 43, 42, 29, 4, 96, 46, 42, 29, 5, 96, 46, 42, 29, 6]
def lwc39 : List UInt8 := [96, 46, 182, 0, 162, 87, 44, 42, 29, 4, 96, 46, 42, 29, 5, 96, 46, 42, 29, 6, 96, 46, 182, 0, 165, 87, 167, 0, 228, 43, 42, 29]
def lwc40 : List UInt8 := [4, 96, 46, 42, 29, 5, 96, 46, 42, 29, 6, 96, 46, 133, 16, 32, 121, 42, 29, 7, 96, 46, 133, 20, 0, 166, 127, 129, 182, 0, 168, 87]
def lwc41 : List UInt8 := [44, 42, 29, 4, 96, 46, 42, 29, 5, 96, 46, 42, 29, 6, 96, 46, 133, 16, 32, 121, 42, 29, 7, 96, 46, 133, 20, 0, 166, 127, 129, 182]
def lwc42 : List UInt8 := [0, 172, 87, 167, 0, 155, 43, 42, 29, 4, 96, 46, 42, 29, 5, 96, 46, 182, 0, 173, 88, 44, 42, 29, 4, 96, 46, 42, 29, 5, 96, 46]
def lwc43 : List UInt8 := [182, 0, 177, 88, 167, 0, 122, 43, 42, 29, 4, 96, 46, 42, 29, 5, 96, 46, 42, 29, 6, 96, 46, 42, 29, 7, 96, 46, 42, 29, 8, 96]
def lwc44 : List UInt8 := [46, 182, 0, 178, 87, 44, 42, 29, 4, 96, 46, 42, 29, 5, 96, 46, 42, 29, 6, 96, 46, 42, 29, 7, 96, 46, 42, 29, 8, 96, 46, 182]
def lwc45 : List UInt8 := [0, 182, 87, 167, 0, 59, 43, 42, 29, 4, 96, 46, 42, 29, 5, 96, 46, 182, 0, 183, 87, 44, 42, 29, 4, 96, 46, 42, 29, 5, 96, 46]
def lwc46 : List UInt8 := [182, 0, 186, 87, 167, 0, 26, 43, 42, 29, 4, 96, 46, 182, 0, 187, 87, 44, 42, 29, 4, 96, 46, 182, 0, 190, 87, 167, 0, 3, 132, 3]
def lwcs : List (List UInt8) := [lwc0, lwc1, lwc2, lwc3, lwc4, lwc5, lwc6, lwc7, lwc8, lwc9, lwc10, lwc11, lwc12, lwc13, lwc14, lwc15, lwc16, lwc17, lwc18, lwc19, lwc20, lwc21, lwc22, lwc23, lwc24, lwc25, lwc26, lwc27, lwc28, lwc29, lwc30, lwc31, lwc32, lwc33, lwc34, lwc35, lwc36, lwc37, lwc38, lwc39, lwc40, lwc41, lwc42, lwc43, lwc44, lwc45, lwc46]
def lwct : List UInt8 := [6, 167, 250, 49, 4, 172]
theorem lwcs_len : ∀ c ∈ lwcs, c.length = 32 := by decide +kernel
set_option maxRecDepth 100000 in
theorem lwcs_eq : cL_law.data.toList = lwcs.flatten ++ lwct := by decide +kernel
def lcR (i : Nat) : Option Nat := (lwcs[i / 32]?.bind (fun c => c[i % 32]?)).map UInt8.toNat
theorem lcR_B {i b : Nat} (h : lcR i = some b) : lcB cL_law i = some b := by
  obtain ⟨v, hv, e⟩ := Option.map_eq_some_iff.mp h
  unfold lcB
  rw [lwcs_eq, lcF_get lwcs_len i v hv, Option.map_some, e]
def lcR3 (i a b d : Nat) : Bool := lcR i == some a && lcR (i + 1) == some b && lcR (i + 2) == some d
theorem lcR3_B {i a b d : Nat} (h : lcR3 i a b d = true) : lcB cL_law i = some a ∧ lcB cL_law (i + 1) = some b ∧ lcB cL_law (i + 2) = some d := by
  unfold lcR3 at h
  rw [Bool.and_eq_true, Bool.and_eq_true] at h
  exact ⟨lcR_B (eq_of_beq h.1.1), lcR_B (eq_of_beq h.1.2), lcR_B (eq_of_beq h.2)⟩
theorem lcD_42 {c : ByteArray} {pc : Nat} (h : lcB c pc = some 42) : decode c pc = .ok (.aload_n 0, 1) := lcD h rfl (by show Except.ok (_, pc + 1 - pc) = _; rw [Nat.add_sub_cancel_left])
theorem lcD_43 {c : ByteArray} {pc : Nat} (h : lcB c pc = some 43) : decode c pc = .ok (.aload_n 1, 1) := lcD h rfl (by show Except.ok (_, pc + 1 - pc) = _; rw [Nat.add_sub_cancel_left])
theorem lcD_44 {c : ByteArray} {pc : Nat} (h : lcB c pc = some 44) : decode c pc = .ok (.aload_n 2, 1) := lcD h rfl (by show Except.ok (_, pc + 1 - pc) = _; rw [Nat.add_sub_cancel_left])
theorem lcD_29 {c : ByteArray} {pc : Nat} (h : lcB c pc = some 29) : decode c pc = .ok (.iload_n 3, 1) := lcD h rfl (by show Except.ok (_, pc + 1 - pc) = _; rw [Nat.add_sub_cancel_left])
theorem lcD_3 {c : ByteArray} {pc : Nat} (h : lcB c pc = some 3) : decode c pc = .ok (.iconst 0, 1) := lcD h rfl (by show Except.ok (_, pc + 1 - pc) = _; rw [Nat.add_sub_cancel_left])
theorem lcD_4 {c : ByteArray} {pc : Nat} (h : lcB c pc = some 4) : decode c pc = .ok (.iconst 1, 1) := lcD h rfl (by show Except.ok (_, pc + 1 - pc) = _; rw [Nat.add_sub_cancel_left])
theorem lcD_5 {c : ByteArray} {pc : Nat} (h : lcB c pc = some 5) : decode c pc = .ok (.iconst 2, 1) := lcD h rfl (by show Except.ok (_, pc + 1 - pc) = _; rw [Nat.add_sub_cancel_left])
theorem lcD_6 {c : ByteArray} {pc : Nat} (h : lcB c pc = some 6) : decode c pc = .ok (.iconst 3, 1) := lcD h rfl (by show Except.ok (_, pc + 1 - pc) = _; rw [Nat.add_sub_cancel_left])
theorem lcD_7 {c : ByteArray} {pc : Nat} (h : lcB c pc = some 7) : decode c pc = .ok (.iconst 4, 1) := lcD h rfl (by show Except.ok (_, pc + 1 - pc) = _; rw [Nat.add_sub_cancel_left])
theorem lcD_8 {c : ByteArray} {pc : Nat} (h : lcB c pc = some 8) : decode c pc = .ok (.iconst 5, 1) := lcD h rfl (by show Except.ok (_, pc + 1 - pc) = _; rw [Nat.add_sub_cancel_left])
theorem lcD_46 {c : ByteArray} {pc : Nat} (h : lcB c pc = some 46) : decode c pc = .ok (.iaload, 1) := lcD h rfl (by show Except.ok (_, pc + 1 - pc) = _; rw [Nat.add_sub_cancel_left])
theorem lcD_96 {c : ByteArray} {pc : Nat} (h : lcB c pc = some 96) : decode c pc = .ok (.iadd, 1) := lcD h rfl (by show Except.ok (_, pc + 1 - pc) = _; rw [Nat.add_sub_cancel_left])
theorem lcD_87 {c : ByteArray} {pc : Nat} (h : lcB c pc = some 87) : decode c pc = .ok (.pop, 1) := lcD h rfl (by show Except.ok (_, pc + 1 - pc) = _; rw [Nat.add_sub_cancel_left])
theorem lcD_182 {c : ByteArray} {pc a b n : Nat} (h : lcB c pc = some 182 ∧ lcB c (pc + 1) = some a ∧ lcB c (pc + 2) = some b) (hn : a * 256 + b = n) : decode c pc = .ok (.invokevirtual n, 3) := lcD h.1 rfl (by
  show Except.bind (Except.bind ((Reader.u2 : Decoder Nat) c (pc + 1)) (fun q => Except.ok (Instr.invokevirtual q.1, q.2))) (fun q => Except.ok (q.1, q.2 - pc)) = _
  rw [lcB_u2 h.2.1 h.2.2, hn]
  show Except.ok (_, pc + 3 - pc) = _
  rw [Nat.add_sub_cancel_left])
theorem lcB_s2 {c : ByteArray} {p a b : Nat} (h : lcB c p = some a) (h2 : lcB c (p + 1) = some b) : (Reader.s2 : Decoder Int) c p = Except.ok (Reader.signed 16 (a * 256 + b), p + 2) := by
  show Except.bind ((Reader.u2 : Decoder Nat) c p) (fun q => Except.ok (Reader.signed 16 q.1, q.2)) = _
  rw [lcB_u2 h h2]
  rfl
theorem lcD_167 {c : ByteArray} {pc a b : Nat} {n : Int} (h : lcB c pc = some 167 ∧ lcB c (pc + 1) = some a ∧ lcB c (pc + 2) = some b) (hn : Reader.signed 16 (a * 256 + b) = n) : decode c pc = .ok (.goto n, 3) := lcD h.1 rfl (by
  show Except.bind (Except.bind ((Reader.s2 : Decoder Int) c (pc + 1)) (fun q => Except.ok (Instr.goto q.1, q.2))) (fun q => Except.ok (q.1, q.2 - pc)) = _
  rw [lcB_s2 h.2.1 h.2.2, hn]
  show Except.ok (_, pc + 3 - pc) = _
  rw [Nat.add_sub_cancel_left])
